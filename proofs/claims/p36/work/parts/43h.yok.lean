theorem yq_yr176_0 : (((y_cd yr176).drop 0).take 40).all (y_okE ztb znw zcls (ytb yw00) yr176) = true := by decide +kernel
theorem yq_yr176_1 : (((y_cd yr176).drop 40).take 40).all (y_okE ztb znw zcls (ytb yw00) yr176) = true := by decide +kernel
theorem yq_yr176_e2 : ((y_cd yr176).drop 80).all (y_okE ztb znw zcls (ytb yw00) yr176) = true := z_seg_end (by decide +kernel)
theorem yq_yr176_e1 : ((y_cd yr176).drop 40).all (y_okE ztb znw zcls (ytb yw00) yr176) = true := z_seg (a := 40) (k := 40) yq_yr176_1 yq_yr176_e2
theorem yq_yr176_e0 : ((y_cd yr176).drop 0).all (y_okE ztb znw zcls (ytb yw00) yr176) = true := z_seg (a := 0) (k := 40) yq_yr176_0 yq_yr176_e1
theorem yq_yr176 : (y_cd yr176).all (y_okE ztb znw zcls (ytb yw00) yr176) = true := z_seg0 yq_yr176_e0
theorem yo_yr176 : y_okM ztb zcls yr176 := y_okM_i (z_codeIn (ch := 11) (i := 75) (l := tables_1_11) rfl rfl) (z_w_ok (n := 1012) (by decide +kernel)) (by decide +kernel) ⟨by decide +kernel, by decide +kernel⟩ (z_w_ok (n := 11074) (by decide +kernel)) (z_w_ok (n := 131) (by decide +kernel)) rfl rfl (by decide)
theorem yq_yr177 : (y_cd yr177).all (y_okE ztb znw zcls (ytb yw00) yr177) = true := by decide +kernel
theorem yo_yr177 : y_okM ztb zcls yr177 := y_okM_i (z_codeIn (ch := 11) (i := 155) (l := tables_1_11) rfl rfl) (z_w_ok (n := 1012) (by decide +kernel)) (by decide +kernel) ⟨by decide +kernel, by decide +kernel⟩ (z_w_ok (n := 11153) (by decide +kernel)) (z_w_ok (n := 11154) (by decide +kernel)) rfl rfl (by decide)
theorem yq_yr178_0 : (((y_cd yr178).drop 0).take 40).all (y_okE ztb znw zcls (ytb yw00) yr178) = true := by decide +kernel
theorem yq_yr178_1 : (((y_cd yr178).drop 40).take 40).all (y_okE ztb znw zcls (ytb yw00) yr178) = true := by decide +kernel
theorem yq_yr178_e2 : ((y_cd yr178).drop 80).all (y_okE ztb znw zcls (ytb yw00) yr178) = true := z_seg_end (by decide +kernel)
theorem yq_yr178_e1 : ((y_cd yr178).drop 40).all (y_okE ztb znw zcls (ytb yw00) yr178) = true := z_seg (a := 40) (k := 40) yq_yr178_1 yq_yr178_e2
theorem yq_yr178_e0 : ((y_cd yr178).drop 0).all (y_okE ztb znw zcls (ytb yw00) yr178) = true := z_seg (a := 0) (k := 40) yq_yr178_0 yq_yr178_e1
theorem yq_yr178 : (y_cd yr178).all (y_okE ztb znw zcls (ytb yw00) yr178) = true := z_seg0 yq_yr178_e0
theorem yo_yr178 : y_okM ztb zcls yr178 := y_okM_i (z_codeIn (ch := 11) (i := 163) (l := tables_1_11) rfl rfl) (z_w_ok (n := 1012) (by decide +kernel)) (by decide +kernel) ⟨by decide +kernel, by decide +kernel⟩ (z_w_ok (n := 11162) (by decide +kernel)) (z_w_ok (n := 143) (by decide +kernel)) rfl rfl (by decide)
theorem yq_yr179_0 : (((y_cd yr179).drop 0).take 40).all (y_okE ztb znw zcls (ytb yw00) yr179) = true := by decide +kernel
theorem yq_yr179_1 : (((y_cd yr179).drop 40).take 40).all (y_okE ztb znw zcls (ytb yw00) yr179) = true := by decide +kernel
theorem yq_yr179_2 : (((y_cd yr179).drop 80).take 40).all (y_okE ztb znw zcls (ytb yw00) yr179) = true := by decide +kernel
theorem yq_yr179_e3 : ((y_cd yr179).drop 120).all (y_okE ztb znw zcls (ytb yw00) yr179) = true := z_seg_end (by decide +kernel)
theorem yq_yr179_e2 : ((y_cd yr179).drop 80).all (y_okE ztb znw zcls (ytb yw00) yr179) = true := z_seg (a := 80) (k := 40) yq_yr179_2 yq_yr179_e3
theorem yq_yr179_e1 : ((y_cd yr179).drop 40).all (y_okE ztb znw zcls (ytb yw00) yr179) = true := z_seg (a := 40) (k := 40) yq_yr179_1 yq_yr179_e2
theorem yq_yr179_e0 : ((y_cd yr179).drop 0).all (y_okE ztb znw zcls (ytb yw00) yr179) = true := z_seg (a := 0) (k := 40) yq_yr179_0 yq_yr179_e1
theorem yq_yr179 : (y_cd yr179).all (y_okE ztb znw zcls (ytb yw00) yr179) = true := z_seg0 yq_yr179_e0
theorem yo_yr179 : y_okM ztb zcls yr179 := y_okM_i (z_codeIn (ch := 12) (i := 52) (l := tables_1_12) rfl rfl) (z_w_ok (n := 1012) (by decide +kernel)) (by decide +kernel) ⟨by decide +kernel, by decide +kernel⟩ (z_w_ok (n := 12051) (by decide +kernel)) (z_w_ok (n := 170) (by decide +kernel)) rfl rfl (by decide)
theorem yq_yr180 : (y_cd yr180).all (y_okE ztb znw zcls (ytb yw00) yr180) = true := by decide +kernel
theorem yo_yr180 : y_okM ztb zcls yr180 := y_okM_i (z_codeIn (ch := 11) (i := 115) (l := tables_1_11) rfl rfl) (z_w_ok (n := 1012) (by decide +kernel)) (by decide +kernel) ⟨by decide +kernel, by decide +kernel⟩ (z_w_ok (n := 11113) (by decide +kernel)) (z_w_ok (n := 11114) (by decide +kernel)) rfl rfl (by decide)
theorem yq_yr181 : (y_cd yr181).all (y_okE ztb znw zcls (ytb yw00) yr181) = true := by decide +kernel
theorem yo_yr181 : y_okM ztb zcls yr181 := y_okM_i (z_codeIn (ch := 11) (i := 87) (l := tables_1_11) rfl rfl) (z_w_ok (n := 1012) (by decide +kernel)) (by decide +kernel) ⟨by decide +kernel, by decide +kernel⟩ (z_w_ok (n := 11086) (by decide +kernel)) (z_w_ok (n := 134) (by decide +kernel)) rfl rfl (by decide)
theorem yq_yr182 : (y_cd yr182).all (y_okE ztb znw zcls (ytb yw00) yr182) = true := by decide +kernel
theorem yo_yr182 : y_okM ztb zcls yr182 := y_okM_i (z_codeIn (ch := 11) (i := 147) (l := tables_1_11) rfl rfl) (z_w_ok (n := 1012) (by decide +kernel)) (by decide +kernel) ⟨by decide +kernel, by decide +kernel⟩ (z_w_ok (n := 11145) (by decide +kernel)) (z_w_ok (n := 11146) (by decide +kernel)) rfl rfl (by decide)
theorem yq_yr183 : (y_cd yr183).all (y_okE ztb znw zcls (ytb yw00) yr183) = true := by decide +kernel
theorem yo_yr183 : y_okM ztb zcls yr183 := y_okM_i (z_codeIn (ch := 13) (i := 10) (l := tables_1_13) rfl rfl) (z_w_ok (n := 1012) (by decide +kernel)) (by decide +kernel) ⟨by decide +kernel, by decide +kernel⟩ (z_w_ok (n := 13008) (by decide +kernel)) (z_w_ok (n := 13009) (by decide +kernel)) rfl rfl (by decide)
theorem yq_yr184 : (y_cd yr184).all (y_okE ztb znw zcls (ytb yw00) yr184) = true := by decide +kernel
theorem yo_yr184 : y_okM ztb zcls yr184 := y_okM_i (z_codeIn (ch := 12) (i := 223) (l := tables_1_12) rfl rfl) (z_w_ok (n := 1012) (by decide +kernel)) (by decide +kernel) ⟨by decide +kernel, by decide +kernel⟩ (z_w_ok (n := 12221) (by decide +kernel)) (z_w_ok (n := 12222) (by decide +kernel)) rfl rfl (by decide)
theorem yq_yr185_0 : (((y_cd yr185).drop 0).take 40).all (y_okE ztb znw zcls (ytb yw00) yr185) = true := by decide +kernel
theorem yq_yr185_1 : (((y_cd yr185).drop 40).take 40).all (y_okE ztb znw zcls (ytb yw00) yr185) = true := by decide +kernel
theorem yq_yr185_2 : (((y_cd yr185).drop 80).take 40).all (y_okE ztb znw zcls (ytb yw00) yr185) = true := by decide +kernel
theorem yq_yr185_e3 : ((y_cd yr185).drop 120).all (y_okE ztb znw zcls (ytb yw00) yr185) = true := z_seg_end (by decide +kernel)
theorem yq_yr185_e2 : ((y_cd yr185).drop 80).all (y_okE ztb znw zcls (ytb yw00) yr185) = true := z_seg (a := 80) (k := 40) yq_yr185_2 yq_yr185_e3
theorem yq_yr185_e1 : ((y_cd yr185).drop 40).all (y_okE ztb znw zcls (ytb yw00) yr185) = true := z_seg (a := 40) (k := 40) yq_yr185_1 yq_yr185_e2
theorem yq_yr185_e0 : ((y_cd yr185).drop 0).all (y_okE ztb znw zcls (ytb yw00) yr185) = true := z_seg (a := 0) (k := 40) yq_yr185_0 yq_yr185_e1
theorem yq_yr185 : (y_cd yr185).all (y_okE ztb znw zcls (ytb yw00) yr185) = true := z_seg0 yq_yr185_e0
theorem yo_yr185 : y_okM ztb zcls yr185 := y_okM_i (z_codeIn (ch := 10) (i := 227) (l := tables_1_10) rfl rfl) (z_w_ok (n := 1012) (by decide +kernel)) (by decide +kernel) ⟨by decide +kernel, by decide +kernel⟩ (z_w_ok (n := 10225) (by decide +kernel)) (z_w_ok (n := 10226) (by decide +kernel)) rfl rfl (by decide)
theorem yq_yr186_0 : (((y_cd yr186).drop 0).take 40).all (y_okE ztb znw zcls (ytb yw00) yr186) = true := by decide +kernel
theorem yq_yr186_1 : (((y_cd yr186).drop 40).take 40).all (y_okE ztb znw zcls (ytb yw00) yr186) = true := by decide +kernel
theorem yq_yr186_2 : (((y_cd yr186).drop 80).take 40).all (y_okE ztb znw zcls (ytb yw00) yr186) = true := by decide +kernel
theorem yq_yr186_e3 : ((y_cd yr186).drop 120).all (y_okE ztb znw zcls (ytb yw00) yr186) = true := z_seg_end (by decide +kernel)
theorem yq_yr186_e2 : ((y_cd yr186).drop 80).all (y_okE ztb znw zcls (ytb yw00) yr186) = true := z_seg (a := 80) (k := 40) yq_yr186_2 yq_yr186_e3
theorem yq_yr186_e1 : ((y_cd yr186).drop 40).all (y_okE ztb znw zcls (ytb yw00) yr186) = true := z_seg (a := 40) (k := 40) yq_yr186_1 yq_yr186_e2
theorem yq_yr186_e0 : ((y_cd yr186).drop 0).all (y_okE ztb znw zcls (ytb yw00) yr186) = true := z_seg (a := 0) (k := 40) yq_yr186_0 yq_yr186_e1
theorem yq_yr186 : (y_cd yr186).all (y_okE ztb znw zcls (ytb yw00) yr186) = true := z_seg0 yq_yr186_e0
theorem yo_yr186 : y_okM ztb zcls yr186 := y_okM_i (z_codeIn (ch := 12) (i := 97) (l := tables_1_12) rfl rfl) (z_w_ok (n := 1012) (by decide +kernel)) (by decide +kernel) ⟨by decide +kernel, by decide +kernel⟩ (z_w_ok (n := 12096) (by decide +kernel)) (z_w_ok (n := 179) (by decide +kernel)) rfl rfl (by decide)
theorem yq_yr187_0 : (((y_cd yr187).drop 0).take 40).all (y_okE ztb znw zcls (ytb yw00) yr187) = true := by decide +kernel
theorem yq_yr187_1 : (((y_cd yr187).drop 40).take 40).all (y_okE ztb znw zcls (ytb yw00) yr187) = true := by decide +kernel
theorem yq_yr187_2 : (((y_cd yr187).drop 80).take 40).all (y_okE ztb znw zcls (ytb yw00) yr187) = true := by decide +kernel
theorem yq_yr187_e3 : ((y_cd yr187).drop 120).all (y_okE ztb znw zcls (ytb yw00) yr187) = true := z_seg_end (by decide +kernel)
theorem yq_yr187_e2 : ((y_cd yr187).drop 80).all (y_okE ztb znw zcls (ytb yw00) yr187) = true := z_seg (a := 80) (k := 40) yq_yr187_2 yq_yr187_e3
theorem yq_yr187_e1 : ((y_cd yr187).drop 40).all (y_okE ztb znw zcls (ytb yw00) yr187) = true := z_seg (a := 40) (k := 40) yq_yr187_1 yq_yr187_e2
theorem yq_yr187_e0 : ((y_cd yr187).drop 0).all (y_okE ztb znw zcls (ytb yw00) yr187) = true := z_seg (a := 0) (k := 40) yq_yr187_0 yq_yr187_e1
theorem yq_yr187 : (y_cd yr187).all (y_okE ztb znw zcls (ytb yw00) yr187) = true := z_seg0 yq_yr187_e0
theorem yo_yr187 : y_okM ztb zcls yr187 := y_okM_i (z_codeIn (ch := 12) (i := 231) (l := tables_1_12) rfl rfl) (z_w_ok (n := 1012) (by decide +kernel)) (by decide +kernel) ⟨by decide +kernel, by decide +kernel⟩ (z_w_ok (n := 12230) (by decide +kernel)) (z_w_ok (n := 195) (by decide +kernel)) rfl rfl (by decide)
theorem yq_yr188_0 : (((y_cd yr188).drop 0).take 40).all (y_okE ztb znw zcls (ytb yw00) yr188) = true := by decide +kernel
theorem yq_yr188_1 : (((y_cd yr188).drop 40).take 40).all (y_okE ztb znw zcls (ytb yw00) yr188) = true := by decide +kernel
theorem yq_yr188_e2 : ((y_cd yr188).drop 80).all (y_okE ztb znw zcls (ytb yw00) yr188) = true := z_seg_end (by decide +kernel)
theorem yq_yr188_e1 : ((y_cd yr188).drop 40).all (y_okE ztb znw zcls (ytb yw00) yr188) = true := z_seg (a := 40) (k := 40) yq_yr188_1 yq_yr188_e2
theorem yq_yr188_e0 : ((y_cd yr188).drop 0).all (y_okE ztb znw zcls (ytb yw00) yr188) = true := z_seg (a := 0) (k := 40) yq_yr188_0 yq_yr188_e1
theorem yq_yr188 : (y_cd yr188).all (y_okE ztb znw zcls (ytb yw00) yr188) = true := z_seg0 yq_yr188_e0
theorem yo_yr188 : y_okM ztb zcls yr188 := y_okM_i (z_codeIn (ch := 13) (i := 6) (l := tables_1_13) rfl rfl) (z_w_ok (n := 1012) (by decide +kernel)) (by decide +kernel) ⟨by decide +kernel, by decide +kernel⟩ (z_w_ok (n := 13004) (by decide +kernel)) (z_w_ok (n := 13005) (by decide +kernel)) rfl rfl (by decide)
theorem yq_yr189 : (y_cd yr189).all (y_okE ztb znw zcls (ytb yw00) yr189) = true := by decide +kernel
theorem yo_yr189 : y_okM ztb zcls yr189 := y_okM_i (z_codeIn (ch := 12) (i := 105) (l := tables_1_12) rfl rfl) (z_w_ok (n := 1012) (by decide +kernel)) (by decide +kernel) ⟨by decide +kernel, by decide +kernel⟩ (z_w_ok (n := 12103) (by decide +kernel)) (z_w_ok (n := 12104) (by decide +kernel)) rfl rfl (by decide)
theorem yq_yr190_0 : (((y_cd yr190).drop 0).take 40).all (y_okE ztb znw zcls (ytb yw00) yr190) = true := by decide +kernel
theorem yq_yr190_1 : (((y_cd yr190).drop 40).take 40).all (y_okE ztb znw zcls (ytb yw00) yr190) = true := by decide +kernel
theorem yq_yr190_2 : (((y_cd yr190).drop 80).take 40).all (y_okE ztb znw zcls (ytb yw00) yr190) = true := by decide +kernel
theorem yq_yr190_e3 : ((y_cd yr190).drop 120).all (y_okE ztb znw zcls (ytb yw00) yr190) = true := z_seg_end (by decide +kernel)
theorem yq_yr190_e2 : ((y_cd yr190).drop 80).all (y_okE ztb znw zcls (ytb yw00) yr190) = true := z_seg (a := 80) (k := 40) yq_yr190_2 yq_yr190_e3
theorem yq_yr190_e1 : ((y_cd yr190).drop 40).all (y_okE ztb znw zcls (ytb yw00) yr190) = true := z_seg (a := 40) (k := 40) yq_yr190_1 yq_yr190_e2
theorem yq_yr190_e0 : ((y_cd yr190).drop 0).all (y_okE ztb znw zcls (ytb yw00) yr190) = true := z_seg (a := 0) (k := 40) yq_yr190_0 yq_yr190_e1
theorem yq_yr190 : (y_cd yr190).all (y_okE ztb znw zcls (ytb yw00) yr190) = true := z_seg0 yq_yr190_e0
theorem yo_yr190 : y_okM ztb zcls yr190 := y_okM_i (z_codeIn (ch := 12) (i := 40) (l := tables_1_12) rfl rfl) (z_w_ok (n := 1012) (by decide +kernel)) (by decide +kernel) ⟨by decide +kernel, by decide +kernel⟩ (z_w_ok (n := 12039) (by decide +kernel)) (z_w_ok (n := 167) (by decide +kernel)) rfl rfl (by decide)
theorem yq_yr191_0 : (((y_cd yr191).drop 0).take 40).all (y_okE ztb znw zcls (ytb yw00) yr191) = true := by decide +kernel
theorem yq_yr191_1 : (((y_cd yr191).drop 40).take 40).all (y_okE ztb znw zcls (ytb yw00) yr191) = true := by decide +kernel
theorem yq_yr191_2 : (((y_cd yr191).drop 80).take 40).all (y_okE ztb znw zcls (ytb yw00) yr191) = true := by decide +kernel
theorem yq_yr191_e3 : ((y_cd yr191).drop 120).all (y_okE ztb znw zcls (ytb yw00) yr191) = true := z_seg_end (by decide +kernel)
theorem yq_yr191_e2 : ((y_cd yr191).drop 80).all (y_okE ztb znw zcls (ytb yw00) yr191) = true := z_seg (a := 80) (k := 40) yq_yr191_2 yq_yr191_e3
theorem yq_yr191_e1 : ((y_cd yr191).drop 40).all (y_okE ztb znw zcls (ytb yw00) yr191) = true := z_seg (a := 40) (k := 40) yq_yr191_1 yq_yr191_e2
theorem yq_yr191_e0 : ((y_cd yr191).drop 0).all (y_okE ztb znw zcls (ytb yw00) yr191) = true := z_seg (a := 0) (k := 40) yq_yr191_0 yq_yr191_e1
theorem yq_yr191 : (y_cd yr191).all (y_okE ztb znw zcls (ytb yw00) yr191) = true := z_seg0 yq_yr191_e0
theorem yo_yr191 : y_okM ztb zcls yr191 := y_okM_i (z_codeIn (ch := 12) (i := 44) (l := tables_1_12) rfl rfl) (z_w_ok (n := 1012) (by decide +kernel)) (by decide +kernel) ⟨by decide +kernel, by decide +kernel⟩ (z_w_ok (n := 12043) (by decide +kernel)) (z_w_ok (n := 168) (by decide +kernel)) rfl rfl (by decide)
theorem yq_yr192_0 : (((y_cd yr192).drop 0).take 40).all (y_okE ztb znw zcls (ytb yw00) yr192) = true := by decide +kernel
theorem yq_yr192_1 : (((y_cd yr192).drop 40).take 40).all (y_okE ztb znw zcls (ytb yw00) yr192) = true := by decide +kernel
theorem yq_yr192_e2 : ((y_cd yr192).drop 80).all (y_okE ztb znw zcls (ytb yw00) yr192) = true := z_seg_end (by decide +kernel)
theorem yq_yr192_e1 : ((y_cd yr192).drop 40).all (y_okE ztb znw zcls (ytb yw00) yr192) = true := z_seg (a := 40) (k := 40) yq_yr192_1 yq_yr192_e2
theorem yq_yr192_e0 : ((y_cd yr192).drop 0).all (y_okE ztb znw zcls (ytb yw00) yr192) = true := z_seg (a := 0) (k := 40) yq_yr192_0 yq_yr192_e1
theorem yq_yr192 : (y_cd yr192).all (y_okE ztb znw zcls (ytb yw00) yr192) = true := z_seg0 yq_yr192_e0
theorem yo_yr192 : y_okM ztb zcls yr192 := y_okM_i (z_codeIn (ch := 12) (i := 36) (l := tables_1_12) rfl rfl) (z_w_ok (n := 1012) (by decide +kernel)) (by decide +kernel) ⟨by decide +kernel, by decide +kernel⟩ (z_w_ok (n := 12035) (by decide +kernel)) (z_w_ok (n := 166) (by decide +kernel)) rfl rfl (by decide)
theorem yq_yr193 : (y_cd yr193).all (y_okE ztb znw zcls (ytb yw00) yr193) = true := by decide +kernel
theorem yo_yr193 : y_okM ztb zcls yr193 := y_okM_i (z_codeIn (ch := 10) (i := 76) (l := tables_1_10) rfl rfl) (z_w_ok (n := 1012) (by decide +kernel)) (by decide +kernel) ⟨by decide +kernel, by decide +kernel⟩ (z_w_ok (n := 10074) (by decide +kernel)) (z_w_ok (n := 10075) (by decide +kernel)) rfl rfl (by decide)
theorem yq_yr194 : (y_cd yr194).all (y_okE ztb znw zcls (ytb yw00) yr194) = true := by decide +kernel
theorem yo_yr194 : y_okM ztb zcls yr194 := y_okM_i (z_codeIn (ch := 11) (i := 143) (l := tables_1_11) rfl rfl) (z_w_ok (n := 1012) (by decide +kernel)) (by decide +kernel) ⟨by decide +kernel, by decide +kernel⟩ (z_w_ok (n := 11141) (by decide +kernel)) (z_w_ok (n := 11142) (by decide +kernel)) rfl rfl (by decide)
theorem yq_yr195_0 : (((y_cd yr195).drop 0).take 40).all (y_okE ztb znw zcls (ytb yw00) yr195) = true := by decide +kernel
theorem yq_yr195_1 : (((y_cd yr195).drop 40).take 40).all (y_okE ztb znw zcls (ytb yw00) yr195) = true := by decide +kernel
theorem yq_yr195_e2 : ((y_cd yr195).drop 80).all (y_okE ztb znw zcls (ytb yw00) yr195) = true := z_seg_end (by decide +kernel)
theorem yq_yr195_e1 : ((y_cd yr195).drop 40).all (y_okE ztb znw zcls (ytb yw00) yr195) = true := z_seg (a := 40) (k := 40) yq_yr195_1 yq_yr195_e2
theorem yq_yr195_e0 : ((y_cd yr195).drop 0).all (y_okE ztb znw zcls (ytb yw00) yr195) = true := z_seg (a := 0) (k := 40) yq_yr195_0 yq_yr195_e1
theorem yq_yr195 : (y_cd yr195).all (y_okE ztb znw zcls (ytb yw00) yr195) = true := z_seg0 yq_yr195_e0
theorem yo_yr195 : y_okM ztb zcls yr195 := y_okM_i (z_codeIn (ch := 10) (i := 72) (l := tables_1_10) rfl rfl) (z_w_ok (n := 1012) (by decide +kernel)) (by decide +kernel) ⟨by decide +kernel, by decide +kernel⟩ (z_w_ok (n := 10070) (by decide +kernel)) (z_w_ok (n := 10071) (by decide +kernel)) rfl rfl (by decide)
theorem yq_yr196_0 : (((y_cd yr196).drop 0).take 40).all (y_okE ztb znw zcls (ytb yw00) yr196) = true := by decide +kernel
theorem yq_yr196_1 : (((y_cd yr196).drop 40).take 40).all (y_okE ztb znw zcls (ytb yw00) yr196) = true := by decide +kernel
theorem yq_yr196_e2 : ((y_cd yr196).drop 80).all (y_okE ztb znw zcls (ytb yw00) yr196) = true := z_seg_end (by decide +kernel)
theorem yq_yr196_e1 : ((y_cd yr196).drop 40).all (y_okE ztb znw zcls (ytb yw00) yr196) = true := z_seg (a := 40) (k := 40) yq_yr196_1 yq_yr196_e2
theorem yq_yr196_e0 : ((y_cd yr196).drop 0).all (y_okE ztb znw zcls (ytb yw00) yr196) = true := z_seg (a := 0) (k := 40) yq_yr196_0 yq_yr196_e1
theorem yq_yr196 : (y_cd yr196).all (y_okE ztb znw zcls (ytb yw00) yr196) = true := z_seg0 yq_yr196_e0
theorem yo_yr196 : y_okM ztb zcls yr196 := y_okM_i (z_codeIn (ch := 12) (i := 157) (l := tables_1_12) rfl rfl) (z_w_ok (n := 1012) (by decide +kernel)) (by decide +kernel) ⟨by decide +kernel, by decide +kernel⟩ (z_w_ok (n := 12156) (by decide +kernel)) (z_w_ok (n := 186) (by decide +kernel)) rfl rfl (by decide)
theorem yq_yr197_0 : (((y_cd yr197).drop 0).take 40).all (y_okE ztb znw zcls (ytb yw00) yr197) = true := by decide +kernel
theorem yq_yr197_1 : (((y_cd yr197).drop 40).take 40).all (y_okE ztb znw zcls (ytb yw00) yr197) = true := by decide +kernel
theorem yq_yr197_e2 : ((y_cd yr197).drop 80).all (y_okE ztb znw zcls (ytb yw00) yr197) = true := z_seg_end (by decide +kernel)
theorem yq_yr197_e1 : ((y_cd yr197).drop 40).all (y_okE ztb znw zcls (ytb yw00) yr197) = true := z_seg (a := 40) (k := 40) yq_yr197_1 yq_yr197_e2
theorem yq_yr197_e0 : ((y_cd yr197).drop 0).all (y_okE ztb znw zcls (ytb yw00) yr197) = true := z_seg (a := 0) (k := 40) yq_yr197_0 yq_yr197_e1
theorem yq_yr197 : (y_cd yr197).all (y_okE ztb znw zcls (ytb yw00) yr197) = true := z_seg0 yq_yr197_e0
theorem yo_yr197 : y_okM ztb zcls yr197 := y_okM_i (z_codeIn (ch := 11) (i := 3) (l := tables_1_11) rfl rfl) (z_w_ok (n := 1012) (by decide +kernel)) (by decide +kernel) ⟨by decide +kernel, by decide +kernel⟩ (z_w_ok (n := 11001) (by decide +kernel)) (z_w_ok (n := 11002) (by decide +kernel)) rfl rfl (by decide)
theorem yq_yr198 : (y_cd yr198).all (y_okE ztb znw zcls (ytb yw00) yr198) = true := by decide +kernel
theorem yo_yr198 : y_okM ztb zcls yr198 := y_okM_i (z_codeIn (ch := 11) (i := 43) (l := tables_1_11) rfl rfl) (z_w_ok (n := 1012) (by decide +kernel)) (by decide +kernel) ⟨by decide +kernel, by decide +kernel⟩ (z_w_ok (n := 11042) (by decide +kernel)) (z_w_ok (n := 123) (by decide +kernel)) rfl rfl (by decide)
theorem yq_yr199_0 : (((y_cd yr199).drop 0).take 40).all (y_okE ztb znw zcls (ytb yw00) yr199) = true := by decide +kernel
theorem yq_yr199_1 : (((y_cd yr199).drop 40).take 40).all (y_okE ztb znw zcls (ytb yw00) yr199) = true := by decide +kernel
theorem yq_yr199_e2 : ((y_cd yr199).drop 80).all (y_okE ztb znw zcls (ytb yw00) yr199) = true := z_seg_end (by decide +kernel)
theorem yq_yr199_e1 : ((y_cd yr199).drop 40).all (y_okE ztb znw zcls (ytb yw00) yr199) = true := z_seg (a := 40) (k := 40) yq_yr199_1 yq_yr199_e2
theorem yq_yr199_e0 : ((y_cd yr199).drop 0).all (y_okE ztb znw zcls (ytb yw00) yr199) = true := z_seg (a := 0) (k := 40) yq_yr199_0 yq_yr199_e1
theorem yq_yr199 : (y_cd yr199).all (y_okE ztb znw zcls (ytb yw00) yr199) = true := z_seg0 yq_yr199_e0
theorem yo_yr199 : y_okM ztb zcls yr199 := y_okM_i (z_codeIn (ch := 8) (i := 90) (l := tables_1_8) rfl rfl) (z_w_ok (n := 1012) (by decide +kernel)) (by decide +kernel) ⟨by decide +kernel, by decide +kernel⟩ (z_w_ok (n := 8089) (by decide +kernel)) (z_w_ok (n := 83) (by decide +kernel)) rfl rfl (by decide)
theorem yq_yr200 : (y_cd yr200).all (y_okE ztb znw zcls (ytb yw00) yr200) = true := by decide +kernel
theorem yo_yr200 : y_okM ztb zcls yr200 := y_okM_i (z_codeIn (ch := 8) (i := 86) (l := tables_1_8) rfl rfl) (z_w_ok (n := 1012) (by decide +kernel)) (by decide +kernel) ⟨by decide +kernel, by decide +kernel⟩ (z_w_ok (n := 8085) (by decide +kernel)) (z_w_ok (n := 82) (by decide +kernel)) rfl rfl (by decide)
theorem yq_yr201 : (y_cd yr201).all (y_okE ztb znw zcls (ytb yw00) yr201) = true := by decide +kernel
theorem yo_yr201 : y_okM ztb zcls yr201 := y_okM_i (z_codeIn (ch := 12) (i := 211) (l := tables_1_12) rfl rfl) (z_w_ok (n := 1012) (by decide +kernel)) (by decide +kernel) ⟨by decide +kernel, by decide +kernel⟩ (z_w_ok (n := 12209) (by decide +kernel)) (z_w_ok (n := 12210) (by decide +kernel)) rfl rfl (by decide)
theorem yq_yr202_0 : (((y_cd yr202).drop 0).take 40).all (y_okE ztb znw zcls (ytb yw00) yr202) = true := by decide +kernel
theorem yq_yr202_1 : (((y_cd yr202).drop 40).take 40).all (y_okE ztb znw zcls (ytb yw00) yr202) = true := by decide +kernel
theorem yq_yr202_2 : (((y_cd yr202).drop 80).take 40).all (y_okE ztb znw zcls (ytb yw00) yr202) = true := by decide +kernel
theorem yq_yr202_e3 : ((y_cd yr202).drop 120).all (y_okE ztb znw zcls (ytb yw00) yr202) = true := z_seg_end (by decide +kernel)
theorem yq_yr202_e2 : ((y_cd yr202).drop 80).all (y_okE ztb znw zcls (ytb yw00) yr202) = true := z_seg (a := 80) (k := 40) yq_yr202_2 yq_yr202_e3
theorem yq_yr202_e1 : ((y_cd yr202).drop 40).all (y_okE ztb znw zcls (ytb yw00) yr202) = true := z_seg (a := 40) (k := 40) yq_yr202_1 yq_yr202_e2
theorem yq_yr202_e0 : ((y_cd yr202).drop 0).all (y_okE ztb znw zcls (ytb yw00) yr202) = true := z_seg (a := 0) (k := 40) yq_yr202_0 yq_yr202_e1
theorem yq_yr202 : (y_cd yr202).all (y_okE ztb znw zcls (ytb yw00) yr202) = true := z_seg0 yq_yr202_e0
theorem yo_yr202 : y_okM ztb zcls yr202 := y_okM_i (z_codeIn (ch := 12) (i := 161) (l := tables_1_12) rfl rfl) (z_w_ok (n := 1012) (by decide +kernel)) (by decide +kernel) ⟨by decide +kernel, by decide +kernel⟩ (z_w_ok (n := 12160) (by decide +kernel)) (z_w_ok (n := 187) (by decide +kernel)) rfl rfl (by decide)
theorem yq_yr203 : (y_cd yr203).all (y_okE ztb znw zcls (ytb yw00) yr203) = true := by decide +kernel
theorem yo_yr203 : y_okM ztb zcls yr203 := y_okM_i (z_codeIn (ch := 11) (i := 111) (l := tables_1_11) rfl rfl) (z_w_ok (n := 1012) (by decide +kernel)) (by decide +kernel) ⟨by decide +kernel, by decide +kernel⟩ (z_w_ok (n := 11110) (by decide +kernel)) (z_w_ok (n := 140) (by decide +kernel)) rfl rfl (by decide)
theorem yq_yr204_0 : (((y_cd yr204).drop 0).take 40).all (y_okE ztb znw zcls (ytb yw00) yr204) = true := by decide +kernel
theorem yq_yr204_1 : (((y_cd yr204).drop 40).take 40).all (y_okE ztb znw zcls (ytb yw00) yr204) = true := by decide +kernel
theorem yq_yr204_e2 : ((y_cd yr204).drop 80).all (y_okE ztb znw zcls (ytb yw00) yr204) = true := z_seg_end (by decide +kernel)
theorem yq_yr204_e1 : ((y_cd yr204).drop 40).all (y_okE ztb znw zcls (ytb yw00) yr204) = true := z_seg (a := 40) (k := 40) yq_yr204_1 yq_yr204_e2
theorem yq_yr204_e0 : ((y_cd yr204).drop 0).all (y_okE ztb znw zcls (ytb yw00) yr204) = true := z_seg (a := 0) (k := 40) yq_yr204_0 yq_yr204_e1
theorem yq_yr204 : (y_cd yr204).all (y_okE ztb znw zcls (ytb yw00) yr204) = true := z_seg0 yq_yr204_e0
theorem yo_yr204 : y_okM ztb zcls yr204 := y_okM_i (z_codeIn (ch := 12) (i := 165) (l := tables_1_12) rfl rfl) (z_w_ok (n := 1012) (by decide +kernel)) (by decide +kernel) ⟨by decide +kernel, by decide +kernel⟩ (z_w_ok (n := 12164) (by decide +kernel)) (z_w_ok (n := 188) (by decide +kernel)) rfl rfl (by decide)
theorem yq_yr205 : (y_cd yr205).all (y_okE ztb znw zcls (ytb yw00) yr205) = true := by decide +kernel
theorem yo_yr205 : y_okM ztb zcls yr205 := y_okM_i (z_codeIn (ch := 10) (i := 231) (l := tables_1_10) rfl rfl) (z_w_ok (n := 1012) (by decide +kernel)) (by decide +kernel) ⟨by decide +kernel, by decide +kernel⟩ (z_w_ok (n := 10230) (by decide +kernel)) (z_w_ok (n := 113) (by decide +kernel)) rfl rfl (by decide)
theorem yq_yr206_0 : (((y_cd yr206).drop 0).take 40).all (y_okE ztb znw zcls (ytb yw00) yr206) = true := by decide +kernel
theorem yq_yr206_1 : (((y_cd yr206).drop 40).take 40).all (y_okE ztb znw zcls (ytb yw00) yr206) = true := by decide +kernel
theorem yq_yr206_2 : (((y_cd yr206).drop 80).take 40).all (y_okE ztb znw zcls (ytb yw00) yr206) = true := by decide +kernel
theorem yq_yr206_e3 : ((y_cd yr206).drop 120).all (y_okE ztb znw zcls (ytb yw00) yr206) = true := z_seg_end (by decide +kernel)
theorem yq_yr206_e2 : ((y_cd yr206).drop 80).all (y_okE ztb znw zcls (ytb yw00) yr206) = true := z_seg (a := 80) (k := 40) yq_yr206_2 yq_yr206_e3
theorem yq_yr206_e1 : ((y_cd yr206).drop 40).all (y_okE ztb znw zcls (ytb yw00) yr206) = true := z_seg (a := 40) (k := 40) yq_yr206_1 yq_yr206_e2
theorem yq_yr206_e0 : ((y_cd yr206).drop 0).all (y_okE ztb znw zcls (ytb yw00) yr206) = true := z_seg (a := 0) (k := 40) yq_yr206_0 yq_yr206_e1
theorem yq_yr206 : (y_cd yr206).all (y_okE ztb znw zcls (ytb yw00) yr206) = true := z_seg0 yq_yr206_e0
theorem yo_yr206 : y_okM ztb zcls yr206 := y_okM_i (z_codeIn (ch := 12) (i := 194) (l := tables_1_12) rfl rfl) (z_w_ok (n := 1012) (by decide +kernel)) (by decide +kernel) ⟨by decide +kernel, by decide +kernel⟩ (z_w_ok (n := 12192) (by decide +kernel)) (z_w_ok (n := 12193) (by decide +kernel)) rfl rfl (by decide)
