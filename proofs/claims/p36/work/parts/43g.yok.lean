theorem yq_yr127 : (y_cd yr127).all (y_okE ztb znw zcls (ytb yw00) yr127) = true := by decide +kernel
theorem yo_yr127 : y_okM ztb zcls yr127 := y_okM_i (z_codeIn (ch := 7) (i := 100) (l := tables_1_7) rfl rfl) (z_w_ok (n := 1001) (by decide +kernel)) (by decide +kernel) ⟨by decide +kernel, by decide +kernel⟩ (z_w_ok (n := 7098) (by decide +kernel)) (z_w_ok (n := 7099) (by decide +kernel)) rfl rfl (by decide)
theorem yq_yr128 : (y_cd yr128).all (y_okE ztb znw zcls (ytb yw00) yr128) = true := by decide +kernel
theorem yo_yr128 : y_okM ztb zcls yr128 := y_okM_i (z_codeIn (ch := 8) (i := 27) (l := tables_1_8) rfl rfl) (z_w_ok (n := 1001) (by decide +kernel)) (by decide +kernel) ⟨by decide +kernel, by decide +kernel⟩ (z_w_ok (n := 8025) (by decide +kernel)) (z_w_ok (n := 8026) (by decide +kernel)) rfl rfl (by decide)
theorem yq_yr129 : (y_cd yr129).all (y_okE ztb znw zcls (ytb yw00) yr129) = true := by decide +kernel
theorem yo_yr129 : y_okM ztb zcls yr129 := y_okM_i (z_codeIn (ch := 3) (i := 185) (l := tables_1_3) rfl rfl) (z_w_ok (n := 1001) (by decide +kernel)) (by decide +kernel) ⟨by decide +kernel, by decide +kernel⟩ (z_w_ok (n := 3183) (by decide +kernel)) (z_w_ok (n := 3184) (by decide +kernel)) rfl rfl (by decide)
theorem yq_yr130 : (y_cd yr130).all (y_okE ztb znw zcls (ytb yw00) yr130) = true := by decide +kernel
theorem yo_yr130 : y_okM ztb zcls yr130 := y_okM_i (z_codeIn (ch := 5) (i := 177) (l := tables_1_5) rfl rfl) (z_w_ok (n := 1001) (by decide +kernel)) (by decide +kernel) ⟨by decide +kernel, by decide +kernel⟩ (z_w_ok (n := 5175) (by decide +kernel)) (z_w_ok (n := 5176) (by decide +kernel)) rfl rfl (by decide)
theorem yq_yr131 : (y_cd yr131).all (y_okE ztb znw zcls (ytb yw00) yr131) = true := by decide +kernel
theorem yo_yr131 : y_okM ztb zcls yr131 := y_okM_i (z_codeIn (ch := 3) (i := 172) (l := tables_1_3) rfl rfl) (z_w_ok (n := 1001) (by decide +kernel)) (by decide +kernel) ⟨by decide +kernel, by decide +kernel⟩ (z_w_ok (n := 3170) (by decide +kernel)) (z_w_ok (n := 3171) (by decide +kernel)) rfl rfl (by decide)
theorem yq_yr132 : (y_cd yr132).all (y_okE ztb znw zcls (ytb yw00) yr132) = true := by decide +kernel
theorem yo_yr132 : y_okM ztb zcls yr132 := y_okM_i (z_codeIn (ch := 5) (i := 156) (l := tables_1_5) rfl rfl) (z_w_ok (n := 1001) (by decide +kernel)) (by decide +kernel) ⟨by decide +kernel, by decide +kernel⟩ (z_w_ok (n := 5154) (by decide +kernel)) (z_w_ok (n := 5155) (by decide +kernel)) rfl rfl (by decide)
theorem yq_yr133 : (y_cd yr133).all (y_okE ztb znw zcls (ytb yw00) yr133) = true := by decide +kernel
theorem yo_yr133 : y_okM ztb zcls yr133 := y_okM_i (z_codeIn (ch := 8) (i := 6) (l := tables_1_8) rfl rfl) (z_w_ok (n := 1001) (by decide +kernel)) (by decide +kernel) ⟨by decide +kernel, by decide +kernel⟩ (z_w_ok (n := 8004) (by decide +kernel)) (z_w_ok (n := 8005) (by decide +kernel)) rfl rfl (by decide)
theorem yq_yr134_0 : (((y_cd yr134).drop 0).take 40).all (y_okE ztb znw zcls (ytb yw00) yr134) = true := by decide +kernel
theorem yq_yr134_1 : (((y_cd yr134).drop 40).take 40).all (y_okE ztb znw zcls (ytb yw00) yr134) = true := by decide +kernel
theorem yq_yr134_e2 : ((y_cd yr134).drop 80).all (y_okE ztb znw zcls (ytb yw00) yr134) = true := z_seg_end (by decide +kernel)
theorem yq_yr134_e1 : ((y_cd yr134).drop 40).all (y_okE ztb znw zcls (ytb yw00) yr134) = true := z_seg (a := 40) (k := 40) yq_yr134_1 yq_yr134_e2
theorem yq_yr134_e0 : ((y_cd yr134).drop 0).all (y_okE ztb znw zcls (ytb yw00) yr134) = true := z_seg (a := 0) (k := 40) yq_yr134_0 yq_yr134_e1
theorem yq_yr134 : (y_cd yr134).all (y_okE ztb znw zcls (ytb yw00) yr134) = true := z_seg0 yq_yr134_e0
theorem yo_yr134 : y_okM ztb zcls yr134 := y_okM_i (z_codeIn (ch := 7) (i := 219) (l := tables_1_7) rfl rfl) (z_w_ok (n := 1001) (by decide +kernel)) (by decide +kernel) ⟨by decide +kernel, by decide +kernel⟩ (z_w_ok (n := 7217) (by decide +kernel)) (z_w_ok (n := 7218) (by decide +kernel)) rfl rfl (by decide)
theorem yq_yr135 : (y_cd yr135).all (y_okE ztb znw zcls (ytb yw00) yr135) = true := by decide +kernel
theorem yo_yr135 : y_okM ztb zcls yr135 := y_okM_i (z_codeIn (ch := 8) (i := 11) (l := tables_1_8) rfl rfl) (z_w_ok (n := 1001) (by decide +kernel)) (by decide +kernel) ⟨by decide +kernel, by decide +kernel⟩ (z_w_ok (n := 8009) (by decide +kernel)) (z_w_ok (n := 8010) (by decide +kernel)) rfl rfl (by decide)
theorem yq_yr136 : (y_cd yr136).all (y_okE ztb znw zcls (ytb yw00) yr136) = true := by decide +kernel
theorem yo_yr136 : y_okM ztb zcls yr136 := y_okM_i (z_codeIn (ch := 5) (i := 144) (l := tables_1_5) rfl rfl) (z_w_ok (n := 1001) (by decide +kernel)) (by decide +kernel) ⟨by decide +kernel, by decide +kernel⟩ (z_w_ok (n := 5142) (by decide +kernel)) (z_w_ok (n := 5143) (by decide +kernel)) rfl rfl (by decide)
theorem yq_yr137 : (y_cd yr137).all (y_okE ztb znw zcls (ytb yw00) yr137) = true := by decide +kernel
theorem yo_yr137 : y_okM ztb zcls yr137 := y_okM_i (z_codeIn (ch := 7) (i := 58) (l := tables_1_7) rfl rfl) (z_w_ok (n := 1001) (by decide +kernel)) (by decide +kernel) ⟨by decide +kernel, by decide +kernel⟩ (z_w_ok (n := 7056) (by decide +kernel)) (z_w_ok (n := 7057) (by decide +kernel)) rfl rfl (by decide)
theorem yq_yr138 : (y_cd yr138).all (y_okE ztb znw zcls (ytb yw00) yr138) = true := by decide +kernel
theorem yo_yr138 : y_okM ztb zcls yr138 := y_okM_i (z_codeIn (ch := 7) (i := 153) (l := tables_1_7) rfl rfl) (z_w_ok (n := 1001) (by decide +kernel)) (by decide +kernel) ⟨by decide +kernel, by decide +kernel⟩ (z_w_ok (n := 7151) (by decide +kernel)) (z_w_ok (n := 7152) (by decide +kernel)) rfl rfl (by decide)
theorem yq_yr139 : (y_cd yr139).all (y_okE ztb znw zcls (ytb yw00) yr139) = true := by decide +kernel
theorem yo_yr139 : y_okM ztb zcls yr139 := y_okM_i (z_codeIn (ch := 6) (i := 118) (l := tables_1_6) rfl rfl) (z_w_ok (n := 1001) (by decide +kernel)) (by decide +kernel) ⟨by decide +kernel, by decide +kernel⟩ (z_w_ok (n := 6116) (by decide +kernel)) (z_w_ok (n := 6117) (by decide +kernel)) rfl rfl (by decide)
theorem yq_yr140 : (y_cd yr140).all (y_okE ztb znw zcls (ytb yw00) yr140) = true := by decide +kernel
theorem yo_yr140 : y_okM ztb zcls yr140 := y_okM_i (z_codeIn (ch := 7) (i := 211) (l := tables_1_7) rfl rfl) (z_w_ok (n := 1001) (by decide +kernel)) (by decide +kernel) ⟨by decide +kernel, by decide +kernel⟩ (z_w_ok (n := 7209) (by decide +kernel)) (z_w_ok (n := 7210) (by decide +kernel)) rfl rfl (by decide)
theorem yq_yr141 : (y_cd yr141).all (y_okE ztb znw zcls (ytb yw00) yr141) = true := by decide +kernel
theorem yo_yr141 : y_okM ztb zcls yr141 := y_okM_i (z_codeIn (ch := 5) (i := 221) (l := tables_1_5) rfl rfl) (z_w_ok (n := 1001) (by decide +kernel)) (by decide +kernel) ⟨by decide +kernel, by decide +kernel⟩ (z_w_ok (n := 5219) (by decide +kernel)) (z_w_ok (n := 5220) (by decide +kernel)) rfl rfl (by decide)
theorem yq_yr142_0 : (((y_cd yr142).drop 0).take 40).all (y_okE ztb znw zcls (ytb yw00) yr142) = true := by decide +kernel
theorem yq_yr142_1 : (((y_cd yr142).drop 40).take 40).all (y_okE ztb znw zcls (ytb yw00) yr142) = true := by decide +kernel
theorem yq_yr142_e2 : ((y_cd yr142).drop 80).all (y_okE ztb znw zcls (ytb yw00) yr142) = true := z_seg_end (by decide +kernel)
theorem yq_yr142_e1 : ((y_cd yr142).drop 40).all (y_okE ztb znw zcls (ytb yw00) yr142) = true := z_seg (a := 40) (k := 40) yq_yr142_1 yq_yr142_e2
theorem yq_yr142_e0 : ((y_cd yr142).drop 0).all (y_okE ztb znw zcls (ytb yw00) yr142) = true := z_seg (a := 0) (k := 40) yq_yr142_0 yq_yr142_e1
theorem yq_yr142 : (y_cd yr142).all (y_okE ztb znw zcls (ytb yw00) yr142) = true := z_seg0 yq_yr142_e0
theorem yo_yr142 : y_okM ztb zcls yr142 := y_okM_i (z_codeIn (ch := 8) (i := 15) (l := tables_1_8) rfl rfl) (z_w_ok (n := 1001) (by decide +kernel)) (by decide +kernel) ⟨by decide +kernel, by decide +kernel⟩ (z_w_ok (n := 8013) (by decide +kernel)) (z_w_ok (n := 8014) (by decide +kernel)) rfl rfl (by decide)
theorem yq_yr143 : (y_cd yr143).all (y_okE ztb znw zcls (ytb yw00) yr143) = true := by decide +kernel
theorem yo_yr143 : y_okM ztb zcls yr143 := y_okM_i (z_codeIn (ch := 5) (i := 128) (l := tables_1_5) rfl rfl) (z_w_ok (n := 1001) (by decide +kernel)) (by decide +kernel) ⟨by decide +kernel, by decide +kernel⟩ (z_w_ok (n := 5126) (by decide +kernel)) (z_w_ok (n := 5127) (by decide +kernel)) rfl rfl (by decide)
theorem yq_yr144 : (y_cd yr144).all (y_okE ztb znw zcls (ytb yw00) yr144) = true := by decide +kernel
theorem yo_yr144 : y_okM ztb zcls yr144 := y_okM_i (z_codeIn (ch := 7) (i := 203) (l := tables_1_7) rfl rfl) (z_w_ok (n := 1001) (by decide +kernel)) (by decide +kernel) ⟨by decide +kernel, by decide +kernel⟩ (z_w_ok (n := 7201) (by decide +kernel)) (z_w_ok (n := 7202) (by decide +kernel)) rfl rfl (by decide)
theorem yq_yr145 : (y_cd yr145).all (y_okE ztb znw zcls (ytb yw00) yr145) = true := by decide +kernel
theorem yo_yr145 : y_okM ztb zcls yr145 := y_okM_i (z_codeIn (ch := 7) (i := 238) (l := tables_1_7) rfl rfl) (z_w_ok (n := 1001) (by decide +kernel)) (by decide +kernel) ⟨by decide +kernel, by decide +kernel⟩ (z_w_ok (n := 7236) (by decide +kernel)) (z_w_ok (n := 7237) (by decide +kernel)) rfl rfl (by decide)
theorem yq_yr146 : (y_cd yr146).all (y_okE ztb znw zcls (ytb yw00) yr146) = true := by decide +kernel
theorem yo_yr146 : y_okM ztb zcls yr146 := y_okM_i (z_codeIn (ch := 4) (i := 218) (l := tables_1_4) rfl rfl) (z_w_ok (n := 1001) (by decide +kernel)) (by decide +kernel) ⟨by decide +kernel, by decide +kernel⟩ (z_w_ok (n := 4216) (by decide +kernel)) (z_w_ok (n := 4217) (by decide +kernel)) rfl rfl (by decide)
theorem yq_yr147 : (y_cd yr147).all (y_okE ztb znw zcls (ytb yw00) yr147) = true := by decide +kernel
theorem yo_yr147 : y_okM ztb zcls yr147 := y_okM_i (z_codeIn (ch := 6) (i := 94) (l := tables_1_6) rfl rfl) (z_w_ok (n := 1001) (by decide +kernel)) (by decide +kernel) ⟨by decide +kernel, by decide +kernel⟩ (z_w_ok (n := 6093) (by decide +kernel)) (z_w_ok (n := 42) (by decide +kernel)) rfl rfl (by decide)
theorem yq_yr148 : (y_cd yr148).all (y_okE ztb znw zcls (ytb yw00) yr148) = true := by decide +kernel
theorem yo_yr148 : y_okM ztb zcls yr148 := y_okM_i (z_codeIn (ch := 5) (i := 124) (l := tables_1_5) rfl rfl) (z_w_ok (n := 1001) (by decide +kernel)) (by decide +kernel) ⟨by decide +kernel, by decide +kernel⟩ (z_w_ok (n := 5122) (by decide +kernel)) (z_w_ok (n := 5123) (by decide +kernel)) rfl rfl (by decide)
theorem yq_yr149 : (y_cd yr149).all (y_okE ztb znw zcls (ytb yw00) yr149) = true := by decide +kernel
theorem yo_yr149 : y_okM ztb zcls yr149 := y_okM_i (z_codeIn (ch := 5) (i := 185) (l := tables_1_5) rfl rfl) (z_w_ok (n := 1001) (by decide +kernel)) (by decide +kernel) ⟨by decide +kernel, by decide +kernel⟩ (z_w_ok (n := 5183) (by decide +kernel)) (z_w_ok (n := 5184) (by decide +kernel)) rfl rfl (by decide)
theorem yq_yr150_0 : (((y_cd yr150).drop 0).take 40).all (y_okE ztb znw zcls (ytb yw00) yr150) = true := by decide +kernel
theorem yq_yr150_1 : (((y_cd yr150).drop 40).take 40).all (y_okE ztb znw zcls (ytb yw00) yr150) = true := by decide +kernel
theorem yq_yr150_e2 : ((y_cd yr150).drop 80).all (y_okE ztb znw zcls (ytb yw00) yr150) = true := z_seg_end (by decide +kernel)
theorem yq_yr150_e1 : ((y_cd yr150).drop 40).all (y_okE ztb znw zcls (ytb yw00) yr150) = true := z_seg (a := 40) (k := 40) yq_yr150_1 yq_yr150_e2
theorem yq_yr150_e0 : ((y_cd yr150).drop 0).all (y_okE ztb znw zcls (ytb yw00) yr150) = true := z_seg (a := 0) (k := 40) yq_yr150_0 yq_yr150_e1
theorem yq_yr150 : (y_cd yr150).all (y_okE ztb znw zcls (ytb yw00) yr150) = true := z_seg0 yq_yr150_e0
theorem yo_yr150 : y_okM ztb zcls yr150 := y_okM_i (z_codeIn (ch := 5) (i := 5) (l := tables_1_5) rfl rfl) (z_w_ok (n := 1001) (by decide +kernel)) (by decide +kernel) ⟨by decide +kernel, by decide +kernel⟩ (z_w_ok (n := 5003) (by decide +kernel)) (z_w_ok (n := 5004) (by decide +kernel)) rfl rfl (by decide)
theorem yq_yr151 : (y_cd yr151).all (y_okE ztb znw zcls (ytb yw00) yr151) = true := by decide +kernel
theorem yo_yr151 : y_okM ztb zcls yr151 := y_okM_i (z_codeIn (ch := 5) (i := 133) (l := tables_1_5) rfl rfl) (z_w_ok (n := 1001) (by decide +kernel)) (by decide +kernel) ⟨by decide +kernel, by decide +kernel⟩ (z_w_ok (n := 5131) (by decide +kernel)) (z_w_ok (n := 5132) (by decide +kernel)) rfl rfl (by decide)
theorem yq_yr152 : (y_cd yr152).all (y_okE ztb znw zcls (ytb yw00) yr152) = true := by decide +kernel
theorem yo_yr152 : y_okM ztb zcls yr152 := y_okM_i (z_codeIn (ch := 5) (i := 17) (l := tables_1_5) rfl rfl) (z_w_ok (n := 1001) (by decide +kernel)) (by decide +kernel) ⟨by decide +kernel, by decide +kernel⟩ (z_w_ok (n := 5015) (by decide +kernel)) (z_w_ok (n := 5016) (by decide +kernel)) rfl rfl (by decide)
theorem yq_yr153 : (y_cd yr153).all (y_okE ztb znw zcls (ytb yw00) yr153) = true := by decide +kernel
theorem yo_yr153 : y_okM ztb zcls yr153 := y_okM_i (z_codeIn (ch := 5) (i := 13) (l := tables_1_5) rfl rfl) (z_w_ok (n := 1001) (by decide +kernel)) (by decide +kernel) ⟨by decide +kernel, by decide +kernel⟩ (z_w_ok (n := 5011) (by decide +kernel)) (z_w_ok (n := 5012) (by decide +kernel)) rfl rfl (by decide)
theorem yq_yr154 : (y_cd yr154).all (y_okE ztb znw zcls (ytb yw00) yr154) = true := by decide +kernel
theorem yo_yr154 : y_okM ztb zcls yr154 := y_okM_i (z_codeIn (ch := 7) (i := 129) (l := tables_1_7) rfl rfl) (z_w_ok (n := 1001) (by decide +kernel)) (by decide +kernel) ⟨by decide +kernel, by decide +kernel⟩ (z_w_ok (n := 7127) (by decide +kernel)) (z_w_ok (n := 7128) (by decide +kernel)) rfl rfl (by decide)
theorem yq_yr155 : (y_cd yr155).all (y_okE ztb znw zcls (ytb yw00) yr155) = true := by decide +kernel
theorem yo_yr155 : y_okM ztb zcls yr155 := y_okM_i (z_codeIn (ch := 4) (i := 222) (l := tables_1_4) rfl rfl) (z_w_ok (n := 1001) (by decide +kernel)) (by decide +kernel) ⟨by decide +kernel, by decide +kernel⟩ (z_w_ok (n := 4220) (by decide +kernel)) (z_w_ok (n := 4221) (by decide +kernel)) rfl rfl (by decide)
theorem yq_yr156 : (y_cd yr156).all (y_okE ztb znw zcls (ytb yw00) yr156) = true := by decide +kernel
theorem yo_yr156 : y_okM ztb zcls yr156 := y_okM_i (z_codeIn (ch := 5) (i := 37) (l := tables_1_5) rfl rfl) (z_w_ok (n := 1001) (by decide +kernel)) (by decide +kernel) ⟨by decide +kernel, by decide +kernel⟩ (z_w_ok (n := 5035) (by decide +kernel)) (z_w_ok (n := 5036) (by decide +kernel)) rfl rfl (by decide)
theorem yq_yr157 : (y_cd yr157).all (y_okE ztb znw zcls (ytb yw00) yr157) = true := by decide +kernel
theorem yo_yr157 : y_okM ztb zcls yr157 := y_okM_i (z_codeIn (ch := 4) (i := 234) (l := tables_1_4) rfl rfl) (z_w_ok (n := 1001) (by decide +kernel)) (by decide +kernel) ⟨by decide +kernel, by decide +kernel⟩ (z_w_ok (n := 4232) (by decide +kernel)) (z_w_ok (n := 4233) (by decide +kernel)) rfl rfl (by decide)
theorem yq_yr158 : (y_cd yr158).all (y_okE ztb znw zcls (ytb yw00) yr158) = true := by decide +kernel
theorem yo_yr158 : y_okM ztb zcls yr158 := y_okM_i (z_codeIn (ch := 6) (i := 98) (l := tables_1_6) rfl rfl) (z_w_ok (n := 1001) (by decide +kernel)) (by decide +kernel) ⟨by decide +kernel, by decide +kernel⟩ (z_w_ok (n := 6096) (by decide +kernel)) (z_w_ok (n := 6097) (by decide +kernel)) rfl rfl (by decide)
theorem yq_yr159 : (y_cd yr159).all (y_okE ztb znw zcls (ytb yw00) yr159) = true := by decide +kernel
theorem yo_yr159 : y_okM ztb zcls yr159 := y_okM_i (z_codeIn (ch := 7) (i := 108) (l := tables_1_7) rfl rfl) (z_w_ok (n := 1001) (by decide +kernel)) (by decide +kernel) ⟨by decide +kernel, by decide +kernel⟩ (z_w_ok (n := 7106) (by decide +kernel)) (z_w_ok (n := 7107) (by decide +kernel)) rfl rfl (by decide)
theorem yq_yr160 : (y_cd yr160).all (y_okE ztb znw zcls (ytb yw00) yr160) = true := by decide +kernel
theorem yo_yr160 : y_okM ztb zcls yr160 := y_okM_i (z_codeIn (ch := 7) (i := 122) (l := tables_1_7) rfl rfl) (z_w_ok (n := 1001) (by decide +kernel)) (by decide +kernel) ⟨by decide +kernel, by decide +kernel⟩ (z_w_ok (n := 7120) (by decide +kernel)) (z_w_ok (n := 7121) (by decide +kernel)) rfl rfl (by decide)
theorem yq_yr161 : (y_cd yr161).all (y_okE ztb znw zcls (ytb yw00) yr161) = true := by decide +kernel
theorem yo_yr161 : y_okM ztb zcls yr161 := y_okM_i (z_codeIn (ch := 7) (i := 38) (l := tables_1_7) rfl rfl) (z_w_ok (n := 1001) (by decide +kernel)) (by decide +kernel) ⟨by decide +kernel, by decide +kernel⟩ (z_w_ok (n := 7037) (by decide +kernel)) (z_w_ok (n := 65) (by decide +kernel)) rfl rfl (by decide)
theorem yq_yr162 : (y_cd yr162).all (y_okE ztb znw zcls (ytb yw00) yr162) = true := by decide +kernel
theorem yo_yr162 : y_okM ztb zcls yr162 := y_okM_i (z_codeIn (ch := 7) (i := 46) (l := tables_1_7) rfl rfl) (z_w_ok (n := 1001) (by decide +kernel)) (by decide +kernel) ⟨by decide +kernel, by decide +kernel⟩ (z_w_ok (n := 7045) (by decide +kernel)) (z_w_ok (n := 66) (by decide +kernel)) rfl rfl (by decide)
theorem yq_yr163_0 : (((y_cd yr163).drop 0).take 40).all (y_okE ztb znw zcls (ytb yw00) yr163) = true := by decide +kernel
theorem yq_yr163_1 : (((y_cd yr163).drop 40).take 40).all (y_okE ztb znw zcls (ytb yw00) yr163) = true := by decide +kernel
theorem yq_yr163_e2 : ((y_cd yr163).drop 80).all (y_okE ztb znw zcls (ytb yw00) yr163) = true := z_seg_end (by decide +kernel)
theorem yq_yr163_e1 : ((y_cd yr163).drop 40).all (y_okE ztb znw zcls (ytb yw00) yr163) = true := z_seg (a := 40) (k := 40) yq_yr163_1 yq_yr163_e2
theorem yq_yr163_e0 : ((y_cd yr163).drop 0).all (y_okE ztb znw zcls (ytb yw00) yr163) = true := z_seg (a := 0) (k := 40) yq_yr163_0 yq_yr163_e1
theorem yq_yr163 : (y_cd yr163).all (y_okE ztb znw zcls (ytb yw00) yr163) = true := z_seg0 yq_yr163_e0
theorem yo_yr163 : y_okM ztb zcls yr163 := y_okM_i (z_codeIn (ch := 7) (i := 137) (l := tables_1_7) rfl rfl) (z_w_ok (n := 1001) (by decide +kernel)) (by decide +kernel) ⟨by decide +kernel, by decide +kernel⟩ (z_w_ok (n := 7135) (by decide +kernel)) (z_w_ok (n := 7136) (by decide +kernel)) rfl rfl (by decide)
theorem yq_yr164 : (y_cd yr164).all (y_okE ztb znw zcls (ytb yw00) yr164) = true := by decide +kernel
theorem yo_yr164 : y_okM ztb zcls yr164 := y_okM_i (z_codeIn (ch := 7) (i := 91) (l := tables_1_7) rfl rfl) (z_w_ok (n := 1001) (by decide +kernel)) (by decide +kernel) ⟨by decide +kernel, by decide +kernel⟩ (z_w_ok (n := 7089) (by decide +kernel)) (z_w_ok (n := 7090) (by decide +kernel)) rfl rfl (by decide)
theorem yq_yr165 : (y_cd yr165).all (y_okE ztb znw zcls (ytb yw00) yr165) = true := by decide +kernel
theorem yo_yr165 : y_okM ztb zcls yr165 := y_okM_i (z_codeIn (ch := 6) (i := 142) (l := tables_1_6) rfl rfl) (z_w_ok (n := 1001) (by decide +kernel)) (by decide +kernel) ⟨by decide +kernel, by decide +kernel⟩ (z_w_ok (n := 6140) (by decide +kernel)) (z_w_ok (n := 6141) (by decide +kernel)) rfl rfl (by decide)
theorem yq_yr166 : (y_cd yr166).all (y_okE ztb znw zcls (ytb yw00) yr166) = true := by decide +kernel
theorem yo_yr166 : y_okM ztb zcls yr166 := y_okM_i (z_codeIn (ch := 8) (i := 50) (l := tables_1_8) rfl rfl) (z_w_ok (n := 1001) (by decide +kernel)) (by decide +kernel) ⟨by decide +kernel, by decide +kernel⟩ (z_w_ok (n := 8048) (by decide +kernel)) (z_w_ok (n := 8049) (by decide +kernel)) rfl rfl (by decide)
theorem yq_yr167 : (y_cd yr167).all (y_okE ztb znw zcls (ytb yw00) yr167) = true := by decide +kernel
theorem yo_yr167 : y_okM ztb zcls yr167 := y_okM_i (z_codeIn (ch := 5) (i := 168) (l := tables_1_5) rfl rfl) (z_w_ok (n := 1001) (by decide +kernel)) (by decide +kernel) ⟨by decide +kernel, by decide +kernel⟩ (z_w_ok (n := 5166) (by decide +kernel)) (z_w_ok (n := 5167) (by decide +kernel)) rfl rfl (by decide)
theorem yq_yr168_0 : (((y_cd yr168).drop 0).take 40).all (y_okE ztb znw zcls (ytb yw00) yr168) = true := by decide +kernel
theorem yq_yr168_1 : (((y_cd yr168).drop 40).take 40).all (y_okE ztb znw zcls (ytb yw00) yr168) = true := by decide +kernel
theorem yq_yr168_2 : (((y_cd yr168).drop 80).take 40).all (y_okE ztb znw zcls (ytb yw00) yr168) = true := by decide +kernel
theorem yq_yr168_3 : (((y_cd yr168).drop 120).take 40).all (y_okE ztb znw zcls (ytb yw00) yr168) = true := by decide +kernel
theorem yq_yr168_e4 : ((y_cd yr168).drop 160).all (y_okE ztb znw zcls (ytb yw00) yr168) = true := z_seg_end (by decide +kernel)
theorem yq_yr168_e3 : ((y_cd yr168).drop 120).all (y_okE ztb znw zcls (ytb yw00) yr168) = true := z_seg (a := 120) (k := 40) yq_yr168_3 yq_yr168_e4
theorem yq_yr168_e2 : ((y_cd yr168).drop 80).all (y_okE ztb znw zcls (ytb yw00) yr168) = true := z_seg (a := 80) (k := 40) yq_yr168_2 yq_yr168_e3
theorem yq_yr168_e1 : ((y_cd yr168).drop 40).all (y_okE ztb znw zcls (ytb yw00) yr168) = true := z_seg (a := 40) (k := 40) yq_yr168_1 yq_yr168_e2
theorem yq_yr168_e0 : ((y_cd yr168).drop 0).all (y_okE ztb znw zcls (ytb yw00) yr168) = true := z_seg (a := 0) (k := 40) yq_yr168_0 yq_yr168_e1
theorem yq_yr168 : (y_cd yr168).all (y_okE ztb znw zcls (ytb yw00) yr168) = true := z_seg0 yq_yr168_e0
theorem yo_yr168 : y_okM ztb zcls yr168 := y_okM_i (z_codeIn (ch := 12) (i := 181) (l := tables_1_12) rfl rfl) (z_w_ok (n := 1012) (by decide +kernel)) (by decide +kernel) ⟨by decide +kernel, by decide +kernel⟩ (z_w_ok (n := 12180) (by decide +kernel)) (z_w_ok (n := 192) (by decide +kernel)) rfl rfl (by decide)
theorem yq_yr169_0 : (((y_cd yr169).drop 0).take 40).all (y_okE ztb znw zcls (ytb yw00) yr169) = true := by decide +kernel
theorem yq_yr169_1 : (((y_cd yr169).drop 40).take 40).all (y_okE ztb znw zcls (ytb yw00) yr169) = true := by decide +kernel
theorem yq_yr169_e2 : ((y_cd yr169).drop 80).all (y_okE ztb znw zcls (ytb yw00) yr169) = true := z_seg_end (by decide +kernel)
theorem yq_yr169_e1 : ((y_cd yr169).drop 40).all (y_okE ztb znw zcls (ytb yw00) yr169) = true := z_seg (a := 40) (k := 40) yq_yr169_1 yq_yr169_e2
theorem yq_yr169_e0 : ((y_cd yr169).drop 0).all (y_okE ztb znw zcls (ytb yw00) yr169) = true := z_seg (a := 0) (k := 40) yq_yr169_0 yq_yr169_e1
theorem yq_yr169 : (y_cd yr169).all (y_okE ztb znw zcls (ytb yw00) yr169) = true := z_seg0 yq_yr169_e0
theorem yo_yr169 : y_okM ztb zcls yr169 := y_okM_i (z_codeIn (ch := 11) (i := 39) (l := tables_1_11) rfl rfl) (z_w_ok (n := 1012) (by decide +kernel)) (by decide +kernel) ⟨by decide +kernel, by decide +kernel⟩ (z_w_ok (n := 11038) (by decide +kernel)) (z_w_ok (n := 122) (by decide +kernel)) rfl rfl (by decide)
theorem yq_yr170 : (y_cd yr170).all (y_okE ztb znw zcls (ytb yw00) yr170) = true := by decide +kernel
theorem yo_yr170 : y_okM ztb zcls yr170 := y_okM_i (z_codeIn (ch := 12) (i := 48) (l := tables_1_12) rfl rfl) (z_w_ok (n := 1012) (by decide +kernel)) (by decide +kernel) ⟨by decide +kernel, by decide +kernel⟩ (z_w_ok (n := 12047) (by decide +kernel)) (z_w_ok (n := 169) (by decide +kernel)) rfl rfl (by decide)
theorem yq_yr171 : (y_cd yr171).all (y_okE ztb znw zcls (ytb yw00) yr171) = true := by decide +kernel
theorem yo_yr171 : y_okM ztb zcls yr171 := y_okM_i (z_codeIn (ch := 12) (i := 89) (l := tables_1_12) rfl rfl) (z_w_ok (n := 1012) (by decide +kernel)) (by decide +kernel) ⟨by decide +kernel, by decide +kernel⟩ (z_w_ok (n := 12088) (by decide +kernel)) (z_w_ok (n := 177) (by decide +kernel)) rfl rfl (by decide)
theorem yq_yr172_0 : (((y_cd yr172).drop 0).take 40).all (y_okE ztb znw zcls (ytb yw00) yr172) = true := by decide +kernel
theorem yq_yr172_1 : (((y_cd yr172).drop 40).take 40).all (y_okE ztb znw zcls (ytb yw00) yr172) = true := by decide +kernel
theorem yq_yr172_e2 : ((y_cd yr172).drop 80).all (y_okE ztb znw zcls (ytb yw00) yr172) = true := z_seg_end (by decide +kernel)
theorem yq_yr172_e1 : ((y_cd yr172).drop 40).all (y_okE ztb znw zcls (ytb yw00) yr172) = true := z_seg (a := 40) (k := 40) yq_yr172_1 yq_yr172_e2
theorem yq_yr172_e0 : ((y_cd yr172).drop 0).all (y_okE ztb znw zcls (ytb yw00) yr172) = true := z_seg (a := 0) (k := 40) yq_yr172_0 yq_yr172_e1
theorem yq_yr172 : (y_cd yr172).all (y_okE ztb znw zcls (ytb yw00) yr172) = true := z_seg0 yq_yr172_e0
theorem yo_yr172 : y_okM ztb zcls yr172 := y_okM_i (z_codeIn (ch := 12) (i := 133) (l := tables_1_12) rfl rfl) (z_w_ok (n := 1012) (by decide +kernel)) (by decide +kernel) ⟨by decide +kernel, by decide +kernel⟩ (z_w_ok (n := 12132) (by decide +kernel)) (z_w_ok (n := 184) (by decide +kernel)) rfl rfl (by decide)
theorem yq_yr173_0 : (((y_cd yr173).drop 0).take 40).all (y_okE ztb znw zcls (ytb yw00) yr173) = true := by decide +kernel
theorem yq_yr173_1 : (((y_cd yr173).drop 40).take 40).all (y_okE ztb znw zcls (ytb yw00) yr173) = true := by decide +kernel
theorem yq_yr173_e2 : ((y_cd yr173).drop 80).all (y_okE ztb znw zcls (ytb yw00) yr173) = true := z_seg_end (by decide +kernel)
theorem yq_yr173_e1 : ((y_cd yr173).drop 40).all (y_okE ztb znw zcls (ytb yw00) yr173) = true := z_seg (a := 40) (k := 40) yq_yr173_1 yq_yr173_e2
theorem yq_yr173_e0 : ((y_cd yr173).drop 0).all (y_okE ztb znw zcls (ytb yw00) yr173) = true := z_seg (a := 0) (k := 40) yq_yr173_0 yq_yr173_e1
theorem yq_yr173 : (y_cd yr173).all (y_okE ztb znw zcls (ytb yw00) yr173) = true := z_seg0 yq_yr173_e0
theorem yo_yr173 : y_okM ztb zcls yr173 := y_okM_i (z_codeIn (ch := 12) (i := 129) (l := tables_1_12) rfl rfl) (z_w_ok (n := 1012) (by decide +kernel)) (by decide +kernel) ⟨by decide +kernel, by decide +kernel⟩ (z_w_ok (n := 12128) (by decide +kernel)) (z_w_ok (n := 183) (by decide +kernel)) rfl rfl (by decide)
theorem yq_yr174_0 : (((y_cd yr174).drop 0).take 40).all (y_okE ztb znw zcls (ytb yw00) yr174) = true := by decide +kernel
theorem yq_yr174_1 : (((y_cd yr174).drop 40).take 40).all (y_okE ztb znw zcls (ytb yw00) yr174) = true := by decide +kernel
theorem yq_yr174_e2 : ((y_cd yr174).drop 80).all (y_okE ztb znw zcls (ytb yw00) yr174) = true := z_seg_end (by decide +kernel)
theorem yq_yr174_e1 : ((y_cd yr174).drop 40).all (y_okE ztb znw zcls (ytb yw00) yr174) = true := z_seg (a := 40) (k := 40) yq_yr174_1 yq_yr174_e2
theorem yq_yr174_e0 : ((y_cd yr174).drop 0).all (y_okE ztb znw zcls (ytb yw00) yr174) = true := z_seg (a := 0) (k := 40) yq_yr174_0 yq_yr174_e1
theorem yq_yr174 : (y_cd yr174).all (y_okE ztb znw zcls (ytb yw00) yr174) = true := z_seg0 yq_yr174_e0
theorem yo_yr174 : y_okM ztb zcls yr174 := y_okM_i (z_codeIn (ch := 8) (i := 78) (l := tables_1_8) rfl rfl) (z_w_ok (n := 1012) (by decide +kernel)) (by decide +kernel) ⟨by decide +kernel, by decide +kernel⟩ (z_w_ok (n := 8077) (by decide +kernel)) (z_w_ok (n := 80) (by decide +kernel)) rfl rfl (by decide)
theorem yq_yr175_0 : (((y_cd yr175).drop 0).take 40).all (y_okE ztb znw zcls (ytb yw00) yr175) = true := by decide +kernel
theorem yq_yr175_1 : (((y_cd yr175).drop 40).take 40).all (y_okE ztb znw zcls (ytb yw00) yr175) = true := by decide +kernel
theorem yq_yr175_2 : (((y_cd yr175).drop 80).take 40).all (y_okE ztb znw zcls (ytb yw00) yr175) = true := by decide +kernel
theorem yq_yr175_e3 : ((y_cd yr175).drop 120).all (y_okE ztb znw zcls (ytb yw00) yr175) = true := z_seg_end (by decide +kernel)
theorem yq_yr175_e2 : ((y_cd yr175).drop 80).all (y_okE ztb znw zcls (ytb yw00) yr175) = true := z_seg (a := 80) (k := 40) yq_yr175_2 yq_yr175_e3
theorem yq_yr175_e1 : ((y_cd yr175).drop 40).all (y_okE ztb znw zcls (ytb yw00) yr175) = true := z_seg (a := 40) (k := 40) yq_yr175_1 yq_yr175_e2
theorem yq_yr175_e0 : ((y_cd yr175).drop 0).all (y_okE ztb znw zcls (ytb yw00) yr175) = true := z_seg (a := 0) (k := 40) yq_yr175_0 yq_yr175_e1
theorem yq_yr175 : (y_cd yr175).all (y_okE ztb znw zcls (ytb yw00) yr175) = true := z_seg0 yq_yr175_e0
theorem yo_yr175 : y_okM ztb zcls yr175 := y_okM_i (z_codeIn (ch := 8) (i := 82) (l := tables_1_8) rfl rfl) (z_w_ok (n := 1012) (by decide +kernel)) (by decide +kernel) ⟨by decide +kernel, by decide +kernel⟩ (z_w_ok (n := 8081) (by decide +kernel)) (z_w_ok (n := 81) (by decide +kernel)) rfl rfl (by decide)
