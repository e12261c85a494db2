theorem yq_yr151 : (y_cd yr151).all (y_okE ztb znw zcls (ytb yw00) yr151) = true := by decide +kernel
theorem yo_yr151 : y_okM ztb zcls yr151 := y_okM_i (z_codeIn (ch := 5) (i := 128) (l := tables_1_5) rfl rfl) (z_w_ok (n := 1001) (by decide +kernel)) (by decide +kernel) ⟨by decide +kernel, by decide +kernel⟩ (z_w_ok (n := 5126) (by decide +kernel)) (z_w_ok (n := 5127) (by decide +kernel)) rfl rfl (by decide)
theorem yq_yr152 : (y_cd yr152).all (y_okE ztb znw zcls (ytb yw00) yr152) = true := by decide +kernel
theorem yo_yr152 : y_okM ztb zcls yr152 := y_okM_i (z_codeIn (ch := 7) (i := 203) (l := tables_1_7) rfl rfl) (z_w_ok (n := 1001) (by decide +kernel)) (by decide +kernel) ⟨by decide +kernel, by decide +kernel⟩ (z_w_ok (n := 7201) (by decide +kernel)) (z_w_ok (n := 7202) (by decide +kernel)) rfl rfl (by decide)
theorem yq_yr153 : (y_cd yr153).all (y_okE ztb znw zcls (ytb yw00) yr153) = true := by decide +kernel
theorem yo_yr153 : y_okM ztb zcls yr153 := y_okM_i (z_codeIn (ch := 7) (i := 238) (l := tables_1_7) rfl rfl) (z_w_ok (n := 1001) (by decide +kernel)) (by decide +kernel) ⟨by decide +kernel, by decide +kernel⟩ (z_w_ok (n := 7236) (by decide +kernel)) (z_w_ok (n := 7237) (by decide +kernel)) rfl rfl (by decide)
theorem yq_yr154 : (y_cd yr154).all (y_okE ztb znw zcls (ytb yw00) yr154) = true := by decide +kernel
theorem yo_yr154 : y_okM ztb zcls yr154 := y_okM_i (z_codeIn (ch := 4) (i := 218) (l := tables_1_4) rfl rfl) (z_w_ok (n := 1001) (by decide +kernel)) (by decide +kernel) ⟨by decide +kernel, by decide +kernel⟩ (z_w_ok (n := 4216) (by decide +kernel)) (z_w_ok (n := 4217) (by decide +kernel)) rfl rfl (by decide)
theorem yq_yr155 : (y_cd yr155).all (y_okE ztb znw zcls (ytb yw00) yr155) = true := by decide +kernel
theorem yo_yr155 : y_okM ztb zcls yr155 := y_okM_i (z_codeIn (ch := 6) (i := 94) (l := tables_1_6) rfl rfl) (z_w_ok (n := 1001) (by decide +kernel)) (by decide +kernel) ⟨by decide +kernel, by decide +kernel⟩ (z_w_ok (n := 6093) (by decide +kernel)) (z_w_ok (n := 42) (by decide +kernel)) rfl rfl (by decide)
theorem yq_yr156 : (y_cd yr156).all (y_okE ztb znw zcls (ytb yw00) yr156) = true := by decide +kernel
theorem yo_yr156 : y_okM ztb zcls yr156 := y_okM_i (z_codeIn (ch := 5) (i := 124) (l := tables_1_5) rfl rfl) (z_w_ok (n := 1001) (by decide +kernel)) (by decide +kernel) ⟨by decide +kernel, by decide +kernel⟩ (z_w_ok (n := 5122) (by decide +kernel)) (z_w_ok (n := 5123) (by decide +kernel)) rfl rfl (by decide)
theorem yq_yr157 : (y_cd yr157).all (y_okE ztb znw zcls (ytb yw00) yr157) = true := by decide +kernel
theorem yo_yr157 : y_okM ztb zcls yr157 := y_okM_i (z_codeIn (ch := 5) (i := 185) (l := tables_1_5) rfl rfl) (z_w_ok (n := 1001) (by decide +kernel)) (by decide +kernel) ⟨by decide +kernel, by decide +kernel⟩ (z_w_ok (n := 5183) (by decide +kernel)) (z_w_ok (n := 5184) (by decide +kernel)) rfl rfl (by decide)
theorem yq_yr158_0 : (((y_cd yr158).drop 0).take 40).all (y_okE ztb znw zcls (ytb yw00) yr158) = true := by decide +kernel
theorem yq_yr158_1 : (((y_cd yr158).drop 40).take 40).all (y_okE ztb znw zcls (ytb yw00) yr158) = true := by decide +kernel
theorem yq_yr158_e2 : ((y_cd yr158).drop 80).all (y_okE ztb znw zcls (ytb yw00) yr158) = true := z_seg_end (by decide +kernel)
theorem yq_yr158_e1 : ((y_cd yr158).drop 40).all (y_okE ztb znw zcls (ytb yw00) yr158) = true := z_seg (a := 40) (k := 40) yq_yr158_1 yq_yr158_e2
theorem yq_yr158_e0 : ((y_cd yr158).drop 0).all (y_okE ztb znw zcls (ytb yw00) yr158) = true := z_seg (a := 0) (k := 40) yq_yr158_0 yq_yr158_e1
theorem yq_yr158 : (y_cd yr158).all (y_okE ztb znw zcls (ytb yw00) yr158) = true := z_seg0 yq_yr158_e0
theorem yo_yr158 : y_okM ztb zcls yr158 := y_okM_i (z_codeIn (ch := 5) (i := 5) (l := tables_1_5) rfl rfl) (z_w_ok (n := 1001) (by decide +kernel)) (by decide +kernel) ⟨by decide +kernel, by decide +kernel⟩ (z_w_ok (n := 5003) (by decide +kernel)) (z_w_ok (n := 5004) (by decide +kernel)) rfl rfl (by decide)
theorem yq_yr159 : (y_cd yr159).all (y_okE ztb znw zcls (ytb yw00) yr159) = true := by decide +kernel
theorem yo_yr159 : y_okM ztb zcls yr159 := y_okM_i (z_codeIn (ch := 5) (i := 133) (l := tables_1_5) rfl rfl) (z_w_ok (n := 1001) (by decide +kernel)) (by decide +kernel) ⟨by decide +kernel, by decide +kernel⟩ (z_w_ok (n := 5131) (by decide +kernel)) (z_w_ok (n := 5132) (by decide +kernel)) rfl rfl (by decide)
theorem yq_yr160 : (y_cd yr160).all (y_okE ztb znw zcls (ytb yw00) yr160) = true := by decide +kernel
theorem yo_yr160 : y_okM ztb zcls yr160 := y_okM_i (z_codeIn (ch := 5) (i := 17) (l := tables_1_5) rfl rfl) (z_w_ok (n := 1001) (by decide +kernel)) (by decide +kernel) ⟨by decide +kernel, by decide +kernel⟩ (z_w_ok (n := 5015) (by decide +kernel)) (z_w_ok (n := 5016) (by decide +kernel)) rfl rfl (by decide)
theorem yq_yr161 : (y_cd yr161).all (y_okE ztb znw zcls (ytb yw00) yr161) = true := by decide +kernel
theorem yo_yr161 : y_okM ztb zcls yr161 := y_okM_i (z_codeIn (ch := 5) (i := 13) (l := tables_1_5) rfl rfl) (z_w_ok (n := 1001) (by decide +kernel)) (by decide +kernel) ⟨by decide +kernel, by decide +kernel⟩ (z_w_ok (n := 5011) (by decide +kernel)) (z_w_ok (n := 5012) (by decide +kernel)) rfl rfl (by decide)
theorem yq_yr162 : (y_cd yr162).all (y_okE ztb znw zcls (ytb yw00) yr162) = true := by decide +kernel
theorem yo_yr162 : y_okM ztb zcls yr162 := y_okM_i (z_codeIn (ch := 7) (i := 129) (l := tables_1_7) rfl rfl) (z_w_ok (n := 1001) (by decide +kernel)) (by decide +kernel) ⟨by decide +kernel, by decide +kernel⟩ (z_w_ok (n := 7127) (by decide +kernel)) (z_w_ok (n := 7128) (by decide +kernel)) rfl rfl (by decide)
theorem yq_yr163 : (y_cd yr163).all (y_okE ztb znw zcls (ytb yw00) yr163) = true := by decide +kernel
theorem yo_yr163 : y_okM ztb zcls yr163 := y_okM_i (z_codeIn (ch := 4) (i := 222) (l := tables_1_4) rfl rfl) (z_w_ok (n := 1001) (by decide +kernel)) (by decide +kernel) ⟨by decide +kernel, by decide +kernel⟩ (z_w_ok (n := 4220) (by decide +kernel)) (z_w_ok (n := 4221) (by decide +kernel)) rfl rfl (by decide)
theorem yq_yr164 : (y_cd yr164).all (y_okE ztb znw zcls (ytb yw00) yr164) = true := by decide +kernel
theorem yo_yr164 : y_okM ztb zcls yr164 := y_okM_i (z_codeIn (ch := 5) (i := 37) (l := tables_1_5) rfl rfl) (z_w_ok (n := 1001) (by decide +kernel)) (by decide +kernel) ⟨by decide +kernel, by decide +kernel⟩ (z_w_ok (n := 5035) (by decide +kernel)) (z_w_ok (n := 5036) (by decide +kernel)) rfl rfl (by decide)
theorem yq_yr165 : (y_cd yr165).all (y_okE ztb znw zcls (ytb yw00) yr165) = true := by decide +kernel
theorem yo_yr165 : y_okM ztb zcls yr165 := y_okM_i (z_codeIn (ch := 4) (i := 234) (l := tables_1_4) rfl rfl) (z_w_ok (n := 1001) (by decide +kernel)) (by decide +kernel) ⟨by decide +kernel, by decide +kernel⟩ (z_w_ok (n := 4232) (by decide +kernel)) (z_w_ok (n := 4233) (by decide +kernel)) rfl rfl (by decide)
theorem yq_yr166 : (y_cd yr166).all (y_okE ztb znw zcls (ytb yw00) yr166) = true := by decide +kernel
theorem yo_yr166 : y_okM ztb zcls yr166 := y_okM_i (z_codeIn (ch := 6) (i := 98) (l := tables_1_6) rfl rfl) (z_w_ok (n := 1001) (by decide +kernel)) (by decide +kernel) ⟨by decide +kernel, by decide +kernel⟩ (z_w_ok (n := 6096) (by decide +kernel)) (z_w_ok (n := 6097) (by decide +kernel)) rfl rfl (by decide)
theorem yq_yr167 : (y_cd yr167).all (y_okE ztb znw zcls (ytb yw00) yr167) = true := by decide +kernel
theorem yo_yr167 : y_okM ztb zcls yr167 := y_okM_i (z_codeIn (ch := 7) (i := 108) (l := tables_1_7) rfl rfl) (z_w_ok (n := 1001) (by decide +kernel)) (by decide +kernel) ⟨by decide +kernel, by decide +kernel⟩ (z_w_ok (n := 7106) (by decide +kernel)) (z_w_ok (n := 7107) (by decide +kernel)) rfl rfl (by decide)
theorem yq_yr168 : (y_cd yr168).all (y_okE ztb znw zcls (ytb yw00) yr168) = true := by decide +kernel
theorem yo_yr168 : y_okM ztb zcls yr168 := y_okM_i (z_codeIn (ch := 7) (i := 122) (l := tables_1_7) rfl rfl) (z_w_ok (n := 1001) (by decide +kernel)) (by decide +kernel) ⟨by decide +kernel, by decide +kernel⟩ (z_w_ok (n := 7120) (by decide +kernel)) (z_w_ok (n := 7121) (by decide +kernel)) rfl rfl (by decide)
theorem yq_yr169 : (y_cd yr169).all (y_okE ztb znw zcls (ytb yw00) yr169) = true := by decide +kernel
theorem yo_yr169 : y_okM ztb zcls yr169 := y_okM_i (z_codeIn (ch := 7) (i := 38) (l := tables_1_7) rfl rfl) (z_w_ok (n := 1001) (by decide +kernel)) (by decide +kernel) ⟨by decide +kernel, by decide +kernel⟩ (z_w_ok (n := 7037) (by decide +kernel)) (z_w_ok (n := 65) (by decide +kernel)) rfl rfl (by decide)
theorem yq_yr170 : (y_cd yr170).all (y_okE ztb znw zcls (ytb yw00) yr170) = true := by decide +kernel
theorem yo_yr170 : y_okM ztb zcls yr170 := y_okM_i (z_codeIn (ch := 7) (i := 46) (l := tables_1_7) rfl rfl) (z_w_ok (n := 1001) (by decide +kernel)) (by decide +kernel) ⟨by decide +kernel, by decide +kernel⟩ (z_w_ok (n := 7045) (by decide +kernel)) (z_w_ok (n := 66) (by decide +kernel)) rfl rfl (by decide)
theorem yq_yr171_0 : (((y_cd yr171).drop 0).take 40).all (y_okE ztb znw zcls (ytb yw00) yr171) = true := by decide +kernel
theorem yq_yr171_1 : (((y_cd yr171).drop 40).take 40).all (y_okE ztb znw zcls (ytb yw00) yr171) = true := by decide +kernel
theorem yq_yr171_e2 : ((y_cd yr171).drop 80).all (y_okE ztb znw zcls (ytb yw00) yr171) = true := z_seg_end (by decide +kernel)
theorem yq_yr171_e1 : ((y_cd yr171).drop 40).all (y_okE ztb znw zcls (ytb yw00) yr171) = true := z_seg (a := 40) (k := 40) yq_yr171_1 yq_yr171_e2
theorem yq_yr171_e0 : ((y_cd yr171).drop 0).all (y_okE ztb znw zcls (ytb yw00) yr171) = true := z_seg (a := 0) (k := 40) yq_yr171_0 yq_yr171_e1
theorem yq_yr171 : (y_cd yr171).all (y_okE ztb znw zcls (ytb yw00) yr171) = true := z_seg0 yq_yr171_e0
theorem yo_yr171 : y_okM ztb zcls yr171 := y_okM_i (z_codeIn (ch := 7) (i := 137) (l := tables_1_7) rfl rfl) (z_w_ok (n := 1001) (by decide +kernel)) (by decide +kernel) ⟨by decide +kernel, by decide +kernel⟩ (z_w_ok (n := 7135) (by decide +kernel)) (z_w_ok (n := 7136) (by decide +kernel)) rfl rfl (by decide)
theorem yq_yr172 : (y_cd yr172).all (y_okE ztb znw zcls (ytb yw00) yr172) = true := by decide +kernel
theorem yo_yr172 : y_okM ztb zcls yr172 := y_okM_i (z_codeIn (ch := 7) (i := 91) (l := tables_1_7) rfl rfl) (z_w_ok (n := 1001) (by decide +kernel)) (by decide +kernel) ⟨by decide +kernel, by decide +kernel⟩ (z_w_ok (n := 7089) (by decide +kernel)) (z_w_ok (n := 7090) (by decide +kernel)) rfl rfl (by decide)
theorem yq_yr173 : (y_cd yr173).all (y_okE ztb znw zcls (ytb yw00) yr173) = true := by decide +kernel
theorem yo_yr173 : y_okM ztb zcls yr173 := y_okM_i (z_codeIn (ch := 6) (i := 146) (l := tables_1_6) rfl rfl) (z_w_ok (n := 1001) (by decide +kernel)) (by decide +kernel) ⟨by decide +kernel, by decide +kernel⟩ (z_w_ok (n := 6144) (by decide +kernel)) (z_w_ok (n := 6145) (by decide +kernel)) rfl rfl (by decide)
theorem yq_yr174 : (y_cd yr174).all (y_okE ztb znw zcls (ytb yw00) yr174) = true := by decide +kernel
theorem yo_yr174 : y_okM ztb zcls yr174 := y_okM_i (z_codeIn (ch := 6) (i := 103) (l := tables_1_6) rfl rfl) (z_w_ok (n := 1001) (by decide +kernel)) (by decide +kernel) ⟨by decide +kernel, by decide +kernel⟩ (z_w_ok (n := 6101) (by decide +kernel)) (z_w_ok (n := 6102) (by decide +kernel)) rfl rfl (by decide)
theorem yq_yr175 : (y_cd yr175).all (y_okE ztb znw zcls (ytb yw00) yr175) = true := by decide +kernel
theorem yo_yr175 : y_okM ztb zcls yr175 := y_okM_i (z_codeIn (ch := 6) (i := 142) (l := tables_1_6) rfl rfl) (z_w_ok (n := 1001) (by decide +kernel)) (by decide +kernel) ⟨by decide +kernel, by decide +kernel⟩ (z_w_ok (n := 6140) (by decide +kernel)) (z_w_ok (n := 6141) (by decide +kernel)) rfl rfl (by decide)
theorem yq_yr176 : (y_cd yr176).all (y_okE ztb znw zcls (ytb yw00) yr176) = true := by decide +kernel
theorem yo_yr176 : y_okM ztb zcls yr176 := y_okM_i (z_codeIn (ch := 8) (i := 50) (l := tables_1_8) rfl rfl) (z_w_ok (n := 1001) (by decide +kernel)) (by decide +kernel) ⟨by decide +kernel, by decide +kernel⟩ (z_w_ok (n := 8048) (by decide +kernel)) (z_w_ok (n := 8049) (by decide +kernel)) rfl rfl (by decide)
theorem yq_yr177 : (y_cd yr177).all (y_okE ztb znw zcls (ytb yw00) yr177) = true := by decide +kernel
theorem yo_yr177 : y_okM ztb zcls yr177 := y_okM_i (z_codeIn (ch := 5) (i := 168) (l := tables_1_5) rfl rfl) (z_w_ok (n := 1001) (by decide +kernel)) (by decide +kernel) ⟨by decide +kernel, by decide +kernel⟩ (z_w_ok (n := 5166) (by decide +kernel)) (z_w_ok (n := 5167) (by decide +kernel)) rfl rfl (by decide)
theorem yq_yr178_0 : (((y_cd yr178).drop 0).take 40).all (y_okE ztb znw zcls (ytb yw00) yr178) = true := by decide +kernel
theorem yq_yr178_1 : (((y_cd yr178).drop 40).take 40).all (y_okE ztb znw zcls (ytb yw00) yr178) = true := by decide +kernel
theorem yq_yr178_2 : (((y_cd yr178).drop 80).take 40).all (y_okE ztb znw zcls (ytb yw00) yr178) = true := by decide +kernel
theorem yq_yr178_3 : (((y_cd yr178).drop 120).take 40).all (y_okE ztb znw zcls (ytb yw00) yr178) = true := by decide +kernel
theorem yq_yr178_e4 : ((y_cd yr178).drop 160).all (y_okE ztb znw zcls (ytb yw00) yr178) = true := z_seg_end (by decide +kernel)
theorem yq_yr178_e3 : ((y_cd yr178).drop 120).all (y_okE ztb znw zcls (ytb yw00) yr178) = true := z_seg (a := 120) (k := 40) yq_yr178_3 yq_yr178_e4
theorem yq_yr178_e2 : ((y_cd yr178).drop 80).all (y_okE ztb znw zcls (ytb yw00) yr178) = true := z_seg (a := 80) (k := 40) yq_yr178_2 yq_yr178_e3
theorem yq_yr178_e1 : ((y_cd yr178).drop 40).all (y_okE ztb znw zcls (ytb yw00) yr178) = true := z_seg (a := 40) (k := 40) yq_yr178_1 yq_yr178_e2
theorem yq_yr178_e0 : ((y_cd yr178).drop 0).all (y_okE ztb znw zcls (ytb yw00) yr178) = true := z_seg (a := 0) (k := 40) yq_yr178_0 yq_yr178_e1
theorem yq_yr178 : (y_cd yr178).all (y_okE ztb znw zcls (ytb yw00) yr178) = true := z_seg0 yq_yr178_e0
theorem yo_yr178 : y_okM ztb zcls yr178 := y_okM_i (z_codeIn (ch := 12) (i := 181) (l := tables_1_12) rfl rfl) (z_w_ok (n := 1012) (by decide +kernel)) (by decide +kernel) ⟨by decide +kernel, by decide +kernel⟩ (z_w_ok (n := 12180) (by decide +kernel)) (z_w_ok (n := 192) (by decide +kernel)) rfl rfl (by decide)
theorem yq_yr179_0 : (((y_cd yr179).drop 0).take 40).all (y_okE ztb znw zcls (ytb yw00) yr179) = true := by decide +kernel
theorem yq_yr179_1 : (((y_cd yr179).drop 40).take 40).all (y_okE ztb znw zcls (ytb yw00) yr179) = true := by decide +kernel
theorem yq_yr179_2 : (((y_cd yr179).drop 80).take 40).all (y_okE ztb znw zcls (ytb yw00) yr179) = true := by decide +kernel
theorem yq_yr179_e3 : ((y_cd yr179).drop 120).all (y_okE ztb znw zcls (ytb yw00) yr179) = true := z_seg_end (by decide +kernel)
theorem yq_yr179_e2 : ((y_cd yr179).drop 80).all (y_okE ztb znw zcls (ytb yw00) yr179) = true := z_seg (a := 80) (k := 40) yq_yr179_2 yq_yr179_e3
theorem yq_yr179_e1 : ((y_cd yr179).drop 40).all (y_okE ztb znw zcls (ytb yw00) yr179) = true := z_seg (a := 40) (k := 40) yq_yr179_1 yq_yr179_e2
theorem yq_yr179_e0 : ((y_cd yr179).drop 0).all (y_okE ztb znw zcls (ytb yw00) yr179) = true := z_seg (a := 0) (k := 40) yq_yr179_0 yq_yr179_e1
theorem yq_yr179 : (y_cd yr179).all (y_okE ztb znw zcls (ytb yw00) yr179) = true := z_seg0 yq_yr179_e0
theorem yo_yr179 : y_okM ztb zcls yr179 := y_okM_i (z_codeIn (ch := 10) (i := 183) (l := tables_1_10) rfl rfl) (z_w_ok (n := 1012) (by decide +kernel)) (by decide +kernel) ⟨by decide +kernel, by decide +kernel⟩ (z_w_ok (n := 10182) (by decide +kernel)) (z_w_ok (n := 108) (by decide +kernel)) rfl rfl (by decide)
theorem yq_yr180_0 : (((y_cd yr180).drop 0).take 40).all (y_okE ztb znw zcls (ytb yw00) yr180) = true := by decide +kernel
theorem yq_yr180_1 : (((y_cd yr180).drop 40).take 40).all (y_okE ztb znw zcls (ytb yw00) yr180) = true := by decide +kernel
theorem yq_yr180_e2 : ((y_cd yr180).drop 80).all (y_okE ztb znw zcls (ytb yw00) yr180) = true := z_seg_end (by decide +kernel)
theorem yq_yr180_e1 : ((y_cd yr180).drop 40).all (y_okE ztb znw zcls (ytb yw00) yr180) = true := z_seg (a := 40) (k := 40) yq_yr180_1 yq_yr180_e2
theorem yq_yr180_e0 : ((y_cd yr180).drop 0).all (y_okE ztb znw zcls (ytb yw00) yr180) = true := z_seg (a := 0) (k := 40) yq_yr180_0 yq_yr180_e1
theorem yq_yr180 : (y_cd yr180).all (y_okE ztb znw zcls (ytb yw00) yr180) = true := z_seg0 yq_yr180_e0
theorem yo_yr180 : y_okM ztb zcls yr180 := y_okM_i (z_codeIn (ch := 11) (i := 39) (l := tables_1_11) rfl rfl) (z_w_ok (n := 1012) (by decide +kernel)) (by decide +kernel) ⟨by decide +kernel, by decide +kernel⟩ (z_w_ok (n := 11038) (by decide +kernel)) (z_w_ok (n := 122) (by decide +kernel)) rfl rfl (by decide)
theorem yq_yr181 : (y_cd yr181).all (y_okE ztb znw zcls (ytb yw00) yr181) = true := by decide +kernel
theorem yo_yr181 : y_okM ztb zcls yr181 := y_okM_i (z_codeIn (ch := 12) (i := 48) (l := tables_1_12) rfl rfl) (z_w_ok (n := 1012) (by decide +kernel)) (by decide +kernel) ⟨by decide +kernel, by decide +kernel⟩ (z_w_ok (n := 12047) (by decide +kernel)) (z_w_ok (n := 169) (by decide +kernel)) rfl rfl (by decide)
theorem yq_yr182 : (y_cd yr182).all (y_okE ztb znw zcls (ytb yw00) yr182) = true := by decide +kernel
theorem yo_yr182 : y_okM ztb zcls yr182 := y_okM_i (z_codeIn (ch := 12) (i := 89) (l := tables_1_12) rfl rfl) (z_w_ok (n := 1012) (by decide +kernel)) (by decide +kernel) ⟨by decide +kernel, by decide +kernel⟩ (z_w_ok (n := 12088) (by decide +kernel)) (z_w_ok (n := 177) (by decide +kernel)) rfl rfl (by decide)
theorem yq_yr183_0 : (((y_cd yr183).drop 0).take 40).all (y_okE ztb znw zcls (ytb yw00) yr183) = true := by decide +kernel
theorem yq_yr183_1 : (((y_cd yr183).drop 40).take 40).all (y_okE ztb znw zcls (ytb yw00) yr183) = true := by decide +kernel
theorem yq_yr183_e2 : ((y_cd yr183).drop 80).all (y_okE ztb znw zcls (ytb yw00) yr183) = true := z_seg_end (by decide +kernel)
theorem yq_yr183_e1 : ((y_cd yr183).drop 40).all (y_okE ztb znw zcls (ytb yw00) yr183) = true := z_seg (a := 40) (k := 40) yq_yr183_1 yq_yr183_e2
theorem yq_yr183_e0 : ((y_cd yr183).drop 0).all (y_okE ztb znw zcls (ytb yw00) yr183) = true := z_seg (a := 0) (k := 40) yq_yr183_0 yq_yr183_e1
theorem yq_yr183 : (y_cd yr183).all (y_okE ztb znw zcls (ytb yw00) yr183) = true := z_seg0 yq_yr183_e0
theorem yo_yr183 : y_okM ztb zcls yr183 := y_okM_i (z_codeIn (ch := 12) (i := 133) (l := tables_1_12) rfl rfl) (z_w_ok (n := 1012) (by decide +kernel)) (by decide +kernel) ⟨by decide +kernel, by decide +kernel⟩ (z_w_ok (n := 12132) (by decide +kernel)) (z_w_ok (n := 184) (by decide +kernel)) rfl rfl (by decide)
theorem yq_yr184_0 : (((y_cd yr184).drop 0).take 40).all (y_okE ztb znw zcls (ytb yw00) yr184) = true := by decide +kernel
theorem yq_yr184_1 : (((y_cd yr184).drop 40).take 40).all (y_okE ztb znw zcls (ytb yw00) yr184) = true := by decide +kernel
theorem yq_yr184_e2 : ((y_cd yr184).drop 80).all (y_okE ztb znw zcls (ytb yw00) yr184) = true := z_seg_end (by decide +kernel)
theorem yq_yr184_e1 : ((y_cd yr184).drop 40).all (y_okE ztb znw zcls (ytb yw00) yr184) = true := z_seg (a := 40) (k := 40) yq_yr184_1 yq_yr184_e2
theorem yq_yr184_e0 : ((y_cd yr184).drop 0).all (y_okE ztb znw zcls (ytb yw00) yr184) = true := z_seg (a := 0) (k := 40) yq_yr184_0 yq_yr184_e1
theorem yq_yr184 : (y_cd yr184).all (y_okE ztb znw zcls (ytb yw00) yr184) = true := z_seg0 yq_yr184_e0
theorem yo_yr184 : y_okM ztb zcls yr184 := y_okM_i (z_codeIn (ch := 12) (i := 129) (l := tables_1_12) rfl rfl) (z_w_ok (n := 1012) (by decide +kernel)) (by decide +kernel) ⟨by decide +kernel, by decide +kernel⟩ (z_w_ok (n := 12128) (by decide +kernel)) (z_w_ok (n := 183) (by decide +kernel)) rfl rfl (by decide)
theorem yq_yr185_0 : (((y_cd yr185).drop 0).take 40).all (y_okE ztb znw zcls (ytb yw00) yr185) = true := by decide +kernel
theorem yq_yr185_1 : (((y_cd yr185).drop 40).take 40).all (y_okE ztb znw zcls (ytb yw00) yr185) = true := by decide +kernel
theorem yq_yr185_e2 : ((y_cd yr185).drop 80).all (y_okE ztb znw zcls (ytb yw00) yr185) = true := z_seg_end (by decide +kernel)
theorem yq_yr185_e1 : ((y_cd yr185).drop 40).all (y_okE ztb znw zcls (ytb yw00) yr185) = true := z_seg (a := 40) (k := 40) yq_yr185_1 yq_yr185_e2
theorem yq_yr185_e0 : ((y_cd yr185).drop 0).all (y_okE ztb znw zcls (ytb yw00) yr185) = true := z_seg (a := 0) (k := 40) yq_yr185_0 yq_yr185_e1
theorem yq_yr185 : (y_cd yr185).all (y_okE ztb znw zcls (ytb yw00) yr185) = true := z_seg0 yq_yr185_e0
theorem yo_yr185 : y_okM ztb zcls yr185 := y_okM_i (z_codeIn (ch := 12) (i := 137) (l := tables_1_12) rfl rfl) (z_w_ok (n := 1012) (by decide +kernel)) (by decide +kernel) ⟨by decide +kernel, by decide +kernel⟩ (z_w_ok (n := 12136) (by decide +kernel)) (z_w_ok (n := 185) (by decide +kernel)) rfl rfl (by decide)
theorem yq_yr186_0 : (((y_cd yr186).drop 0).take 40).all (y_okE ztb znw zcls (ytb yw00) yr186) = true := by decide +kernel
theorem yq_yr186_1 : (((y_cd yr186).drop 40).take 40).all (y_okE ztb znw zcls (ytb yw00) yr186) = true := by decide +kernel
theorem yq_yr186_e2 : ((y_cd yr186).drop 80).all (y_okE ztb znw zcls (ytb yw00) yr186) = true := z_seg_end (by decide +kernel)
theorem yq_yr186_e1 : ((y_cd yr186).drop 40).all (y_okE ztb znw zcls (ytb yw00) yr186) = true := z_seg (a := 40) (k := 40) yq_yr186_1 yq_yr186_e2
theorem yq_yr186_e0 : ((y_cd yr186).drop 0).all (y_okE ztb znw zcls (ytb yw00) yr186) = true := z_seg (a := 0) (k := 40) yq_yr186_0 yq_yr186_e1
theorem yq_yr186 : (y_cd yr186).all (y_okE ztb znw zcls (ytb yw00) yr186) = true := z_seg0 yq_yr186_e0
theorem yo_yr186 : y_okM ztb zcls yr186 := y_okM_i (z_codeIn (ch := 12) (i := 117) (l := tables_1_12) rfl rfl) (z_w_ok (n := 1012) (by decide +kernel)) (by decide +kernel) ⟨by decide +kernel, by decide +kernel⟩ (z_w_ok (n := 12115) (by decide +kernel)) (z_w_ok (n := 12116) (by decide +kernel)) rfl rfl (by decide)
theorem yq_yr187_0 : (((y_cd yr187).drop 0).take 40).all (y_okE ztb znw zcls (ytb yw00) yr187) = true := by decide +kernel
theorem yq_yr187_1 : (((y_cd yr187).drop 40).take 40).all (y_okE ztb znw zcls (ytb yw00) yr187) = true := by decide +kernel
theorem yq_yr187_e2 : ((y_cd yr187).drop 80).all (y_okE ztb znw zcls (ytb yw00) yr187) = true := z_seg_end (by decide +kernel)
theorem yq_yr187_e1 : ((y_cd yr187).drop 40).all (y_okE ztb znw zcls (ytb yw00) yr187) = true := z_seg (a := 40) (k := 40) yq_yr187_1 yq_yr187_e2
theorem yq_yr187_e0 : ((y_cd yr187).drop 0).all (y_okE ztb znw zcls (ytb yw00) yr187) = true := z_seg (a := 0) (k := 40) yq_yr187_0 yq_yr187_e1
theorem yq_yr187 : (y_cd yr187).all (y_okE ztb znw zcls (ytb yw00) yr187) = true := z_seg0 yq_yr187_e0
theorem yo_yr187 : y_okM ztb zcls yr187 := y_okM_i (z_codeIn (ch := 8) (i := 78) (l := tables_1_8) rfl rfl) (z_w_ok (n := 1012) (by decide +kernel)) (by decide +kernel) ⟨by decide +kernel, by decide +kernel⟩ (z_w_ok (n := 8077) (by decide +kernel)) (z_w_ok (n := 80) (by decide +kernel)) rfl rfl (by decide)
theorem yq_yr188_0 : (((y_cd yr188).drop 0).take 40).all (y_okE ztb znw zcls (ytb yw00) yr188) = true := by decide +kernel
theorem yq_yr188_1 : (((y_cd yr188).drop 40).take 40).all (y_okE ztb znw zcls (ytb yw00) yr188) = true := by decide +kernel
theorem yq_yr188_2 : (((y_cd yr188).drop 80).take 40).all (y_okE ztb znw zcls (ytb yw00) yr188) = true := by decide +kernel
theorem yq_yr188_e3 : ((y_cd yr188).drop 120).all (y_okE ztb znw zcls (ytb yw00) yr188) = true := z_seg_end (by decide +kernel)
theorem yq_yr188_e2 : ((y_cd yr188).drop 80).all (y_okE ztb znw zcls (ytb yw00) yr188) = true := z_seg (a := 80) (k := 40) yq_yr188_2 yq_yr188_e3
theorem yq_yr188_e1 : ((y_cd yr188).drop 40).all (y_okE ztb znw zcls (ytb yw00) yr188) = true := z_seg (a := 40) (k := 40) yq_yr188_1 yq_yr188_e2
theorem yq_yr188_e0 : ((y_cd yr188).drop 0).all (y_okE ztb znw zcls (ytb yw00) yr188) = true := z_seg (a := 0) (k := 40) yq_yr188_0 yq_yr188_e1
theorem yq_yr188 : (y_cd yr188).all (y_okE ztb znw zcls (ytb yw00) yr188) = true := z_seg0 yq_yr188_e0
theorem yo_yr188 : y_okM ztb zcls yr188 := y_okM_i (z_codeIn (ch := 8) (i := 82) (l := tables_1_8) rfl rfl) (z_w_ok (n := 1012) (by decide +kernel)) (by decide +kernel) ⟨by decide +kernel, by decide +kernel⟩ (z_w_ok (n := 8081) (by decide +kernel)) (z_w_ok (n := 81) (by decide +kernel)) rfl rfl (by decide)
theorem yq_yr189_0 : (((y_cd yr189).drop 0).take 40).all (y_okE ztb znw zcls (ytb yw00) yr189) = true := by decide +kernel
theorem yq_yr189_1 : (((y_cd yr189).drop 40).take 40).all (y_okE ztb znw zcls (ytb yw00) yr189) = true := by decide +kernel
theorem yq_yr189_e2 : ((y_cd yr189).drop 80).all (y_okE ztb znw zcls (ytb yw00) yr189) = true := z_seg_end (by decide +kernel)
theorem yq_yr189_e1 : ((y_cd yr189).drop 40).all (y_okE ztb znw zcls (ytb yw00) yr189) = true := z_seg (a := 40) (k := 40) yq_yr189_1 yq_yr189_e2
theorem yq_yr189_e0 : ((y_cd yr189).drop 0).all (y_okE ztb znw zcls (ytb yw00) yr189) = true := z_seg (a := 0) (k := 40) yq_yr189_0 yq_yr189_e1
theorem yq_yr189 : (y_cd yr189).all (y_okE ztb znw zcls (ytb yw00) yr189) = true := z_seg0 yq_yr189_e0
theorem yo_yr189 : y_okM ztb zcls yr189 := y_okM_i (z_codeIn (ch := 11) (i := 75) (l := tables_1_11) rfl rfl) (z_w_ok (n := 1012) (by decide +kernel)) (by decide +kernel) ⟨by decide +kernel, by decide +kernel⟩ (z_w_ok (n := 11074) (by decide +kernel)) (z_w_ok (n := 131) (by decide +kernel)) rfl rfl (by decide)
theorem yq_yr190 : (y_cd yr190).all (y_okE ztb znw zcls (ytb yw00) yr190) = true := by decide +kernel
theorem yo_yr190 : y_okM ztb zcls yr190 := y_okM_i (z_codeIn (ch := 11) (i := 155) (l := tables_1_11) rfl rfl) (z_w_ok (n := 1012) (by decide +kernel)) (by decide +kernel) ⟨by decide +kernel, by decide +kernel⟩ (z_w_ok (n := 11153) (by decide +kernel)) (z_w_ok (n := 11154) (by decide +kernel)) rfl rfl (by decide)
theorem yq_yr191_0 : (((y_cd yr191).drop 0).take 40).all (y_okE ztb znw zcls (ytb yw00) yr191) = true := by decide +kernel
theorem yq_yr191_1 : (((y_cd yr191).drop 40).take 40).all (y_okE ztb znw zcls (ytb yw00) yr191) = true := by decide +kernel
theorem yq_yr191_2 : (((y_cd yr191).drop 80).take 40).all (y_okE ztb znw zcls (ytb yw00) yr191) = true := by decide +kernel
theorem yq_yr191_e3 : ((y_cd yr191).drop 120).all (y_okE ztb znw zcls (ytb yw00) yr191) = true := z_seg_end (by decide +kernel)
theorem yq_yr191_e2 : ((y_cd yr191).drop 80).all (y_okE ztb znw zcls (ytb yw00) yr191) = true := z_seg (a := 80) (k := 40) yq_yr191_2 yq_yr191_e3
theorem yq_yr191_e1 : ((y_cd yr191).drop 40).all (y_okE ztb znw zcls (ytb yw00) yr191) = true := z_seg (a := 40) (k := 40) yq_yr191_1 yq_yr191_e2
theorem yq_yr191_e0 : ((y_cd yr191).drop 0).all (y_okE ztb znw zcls (ytb yw00) yr191) = true := z_seg (a := 0) (k := 40) yq_yr191_0 yq_yr191_e1
theorem yq_yr191 : (y_cd yr191).all (y_okE ztb znw zcls (ytb yw00) yr191) = true := z_seg0 yq_yr191_e0
theorem yo_yr191 : y_okM ztb zcls yr191 := y_okM_i (z_codeIn (ch := 12) (i := 52) (l := tables_1_12) rfl rfl) (z_w_ok (n := 1012) (by decide +kernel)) (by decide +kernel) ⟨by decide +kernel, by decide +kernel⟩ (z_w_ok (n := 12051) (by decide +kernel)) (z_w_ok (n := 170) (by decide +kernel)) rfl rfl (by decide)
