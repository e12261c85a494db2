theorem yq_yr192 : (y_cd yr192).all (y_okE ztb znw zcls (ytb yw00) yr192) = true := by decide +kernel
theorem yo_yr192 : y_okM ztb zcls yr192 := y_okM_i (z_codeIn (ch := 11) (i := 115) (l := tables_1_11) rfl rfl) (z_w_ok (n := 1012) (by decide +kernel)) (by decide +kernel) ⟨by decide +kernel, by decide +kernel⟩ (z_w_ok (n := 11113) (by decide +kernel)) (z_w_ok (n := 11114) (by decide +kernel)) rfl rfl (by decide)
theorem yq_yr193 : (y_cd yr193).all (y_okE ztb znw zcls (ytb yw00) yr193) = true := by decide +kernel
theorem yo_yr193 : y_okM ztb zcls yr193 := y_okM_i (z_codeIn (ch := 11) (i := 87) (l := tables_1_11) rfl rfl) (z_w_ok (n := 1012) (by decide +kernel)) (by decide +kernel) ⟨by decide +kernel, by decide +kernel⟩ (z_w_ok (n := 11086) (by decide +kernel)) (z_w_ok (n := 134) (by decide +kernel)) rfl rfl (by decide)
theorem yq_yr194 : (y_cd yr194).all (y_okE ztb znw zcls (ytb yw00) yr194) = true := by decide +kernel
theorem yo_yr194 : y_okM ztb zcls yr194 := y_okM_i (z_codeIn (ch := 11) (i := 147) (l := tables_1_11) rfl rfl) (z_w_ok (n := 1012) (by decide +kernel)) (by decide +kernel) ⟨by decide +kernel, by decide +kernel⟩ (z_w_ok (n := 11145) (by decide +kernel)) (z_w_ok (n := 11146) (by decide +kernel)) rfl rfl (by decide)
theorem yq_yr195 : (y_cd yr195).all (y_okE ztb znw zcls (ytb yw00) yr195) = true := by decide +kernel
theorem yo_yr195 : y_okM ztb zcls yr195 := y_okM_i (z_codeIn (ch := 13) (i := 10) (l := tables_1_13) rfl rfl) (z_w_ok (n := 1012) (by decide +kernel)) (by decide +kernel) ⟨by decide +kernel, by decide +kernel⟩ (z_w_ok (n := 13008) (by decide +kernel)) (z_w_ok (n := 13009) (by decide +kernel)) rfl rfl (by decide)
theorem yq_yr196 : (y_cd yr196).all (y_okE ztb znw zcls (ytb yw00) yr196) = true := by decide +kernel
theorem yo_yr196 : y_okM ztb zcls yr196 := y_okM_i (z_codeIn (ch := 12) (i := 223) (l := tables_1_12) rfl rfl) (z_w_ok (n := 1012) (by decide +kernel)) (by decide +kernel) ⟨by decide +kernel, by decide +kernel⟩ (z_w_ok (n := 12221) (by decide +kernel)) (z_w_ok (n := 12222) (by decide +kernel)) rfl rfl (by decide)
theorem yq_yr197_0 : (((y_cd yr197).drop 0).take 40).all (y_okE ztb znw zcls (ytb yw00) yr197) = true := by decide +kernel
theorem yq_yr197_1 : (((y_cd yr197).drop 40).take 40).all (y_okE ztb znw zcls (ytb yw00) yr197) = true := by decide +kernel
theorem yq_yr197_2 : (((y_cd yr197).drop 80).take 40).all (y_okE ztb znw zcls (ytb yw00) yr197) = true := by decide +kernel
theorem yq_yr197_e3 : ((y_cd yr197).drop 120).all (y_okE ztb znw zcls (ytb yw00) yr197) = true := z_seg_end (by decide +kernel)
theorem yq_yr197_e2 : ((y_cd yr197).drop 80).all (y_okE ztb znw zcls (ytb yw00) yr197) = true := z_seg (a := 80) (k := 40) yq_yr197_2 yq_yr197_e3
theorem yq_yr197_e1 : ((y_cd yr197).drop 40).all (y_okE ztb znw zcls (ytb yw00) yr197) = true := z_seg (a := 40) (k := 40) yq_yr197_1 yq_yr197_e2
theorem yq_yr197_e0 : ((y_cd yr197).drop 0).all (y_okE ztb znw zcls (ytb yw00) yr197) = true := z_seg (a := 0) (k := 40) yq_yr197_0 yq_yr197_e1
theorem yq_yr197 : (y_cd yr197).all (y_okE ztb znw zcls (ytb yw00) yr197) = true := z_seg0 yq_yr197_e0
theorem yo_yr197 : y_okM ztb zcls yr197 := y_okM_i (z_codeIn (ch := 10) (i := 227) (l := tables_1_10) rfl rfl) (z_w_ok (n := 1012) (by decide +kernel)) (by decide +kernel) ⟨by decide +kernel, by decide +kernel⟩ (z_w_ok (n := 10225) (by decide +kernel)) (z_w_ok (n := 10226) (by decide +kernel)) rfl rfl (by decide)
theorem yq_yr198_0 : (((y_cd yr198).drop 0).take 40).all (y_okE ztb znw zcls (ytb yw00) yr198) = true := by decide +kernel
theorem yq_yr198_1 : (((y_cd yr198).drop 40).take 40).all (y_okE ztb znw zcls (ytb yw00) yr198) = true := by decide +kernel
theorem yq_yr198_2 : (((y_cd yr198).drop 80).take 40).all (y_okE ztb znw zcls (ytb yw00) yr198) = true := by decide +kernel
theorem yq_yr198_e3 : ((y_cd yr198).drop 120).all (y_okE ztb znw zcls (ytb yw00) yr198) = true := z_seg_end (by decide +kernel)
theorem yq_yr198_e2 : ((y_cd yr198).drop 80).all (y_okE ztb znw zcls (ytb yw00) yr198) = true := z_seg (a := 80) (k := 40) yq_yr198_2 yq_yr198_e3
theorem yq_yr198_e1 : ((y_cd yr198).drop 40).all (y_okE ztb znw zcls (ytb yw00) yr198) = true := z_seg (a := 40) (k := 40) yq_yr198_1 yq_yr198_e2
theorem yq_yr198_e0 : ((y_cd yr198).drop 0).all (y_okE ztb znw zcls (ytb yw00) yr198) = true := z_seg (a := 0) (k := 40) yq_yr198_0 yq_yr198_e1
theorem yq_yr198 : (y_cd yr198).all (y_okE ztb znw zcls (ytb yw00) yr198) = true := z_seg0 yq_yr198_e0
theorem yo_yr198 : y_okM ztb zcls yr198 := y_okM_i (z_codeIn (ch := 12) (i := 97) (l := tables_1_12) rfl rfl) (z_w_ok (n := 1012) (by decide +kernel)) (by decide +kernel) ⟨by decide +kernel, by decide +kernel⟩ (z_w_ok (n := 12096) (by decide +kernel)) (z_w_ok (n := 179) (by decide +kernel)) rfl rfl (by decide)
theorem yq_yr199_0 : (((y_cd yr199).drop 0).take 40).all (y_okE ztb znw zcls (ytb yw00) yr199) = true := by decide +kernel
theorem yq_yr199_1 : (((y_cd yr199).drop 40).take 40).all (y_okE ztb znw zcls (ytb yw00) yr199) = true := by decide +kernel
theorem yq_yr199_2 : (((y_cd yr199).drop 80).take 40).all (y_okE ztb znw zcls (ytb yw00) yr199) = true := by decide +kernel
theorem yq_yr199_e3 : ((y_cd yr199).drop 120).all (y_okE ztb znw zcls (ytb yw00) yr199) = true := z_seg_end (by decide +kernel)
theorem yq_yr199_e2 : ((y_cd yr199).drop 80).all (y_okE ztb znw zcls (ytb yw00) yr199) = true := z_seg (a := 80) (k := 40) yq_yr199_2 yq_yr199_e3
theorem yq_yr199_e1 : ((y_cd yr199).drop 40).all (y_okE ztb znw zcls (ytb yw00) yr199) = true := z_seg (a := 40) (k := 40) yq_yr199_1 yq_yr199_e2
theorem yq_yr199_e0 : ((y_cd yr199).drop 0).all (y_okE ztb znw zcls (ytb yw00) yr199) = true := z_seg (a := 0) (k := 40) yq_yr199_0 yq_yr199_e1
theorem yq_yr199 : (y_cd yr199).all (y_okE ztb znw zcls (ytb yw00) yr199) = true := z_seg0 yq_yr199_e0
theorem yo_yr199 : y_okM ztb zcls yr199 := y_okM_i (z_codeIn (ch := 12) (i := 231) (l := tables_1_12) rfl rfl) (z_w_ok (n := 1012) (by decide +kernel)) (by decide +kernel) ⟨by decide +kernel, by decide +kernel⟩ (z_w_ok (n := 12230) (by decide +kernel)) (z_w_ok (n := 195) (by decide +kernel)) rfl rfl (by decide)
theorem yq_yr200_0 : (((y_cd yr200).drop 0).take 40).all (y_okE ztb znw zcls (ytb yw00) yr200) = true := by decide +kernel
theorem yq_yr200_1 : (((y_cd yr200).drop 40).take 40).all (y_okE ztb znw zcls (ytb yw00) yr200) = true := by decide +kernel
theorem yq_yr200_e2 : ((y_cd yr200).drop 80).all (y_okE ztb znw zcls (ytb yw00) yr200) = true := z_seg_end (by decide +kernel)
theorem yq_yr200_e1 : ((y_cd yr200).drop 40).all (y_okE ztb znw zcls (ytb yw00) yr200) = true := z_seg (a := 40) (k := 40) yq_yr200_1 yq_yr200_e2
theorem yq_yr200_e0 : ((y_cd yr200).drop 0).all (y_okE ztb znw zcls (ytb yw00) yr200) = true := z_seg (a := 0) (k := 40) yq_yr200_0 yq_yr200_e1
theorem yq_yr200 : (y_cd yr200).all (y_okE ztb znw zcls (ytb yw00) yr200) = true := z_seg0 yq_yr200_e0
theorem yo_yr200 : y_okM ztb zcls yr200 := y_okM_i (z_codeIn (ch := 13) (i := 6) (l := tables_1_13) rfl rfl) (z_w_ok (n := 1012) (by decide +kernel)) (by decide +kernel) ⟨by decide +kernel, by decide +kernel⟩ (z_w_ok (n := 13004) (by decide +kernel)) (z_w_ok (n := 13005) (by decide +kernel)) rfl rfl (by decide)
theorem yq_yr201 : (y_cd yr201).all (y_okE ztb znw zcls (ytb yw00) yr201) = true := by decide +kernel
theorem yo_yr201 : y_okM ztb zcls yr201 := y_okM_i (z_codeIn (ch := 12) (i := 105) (l := tables_1_12) rfl rfl) (z_w_ok (n := 1012) (by decide +kernel)) (by decide +kernel) ⟨by decide +kernel, by decide +kernel⟩ (z_w_ok (n := 12103) (by decide +kernel)) (z_w_ok (n := 12104) (by decide +kernel)) rfl rfl (by decide)
theorem yq_yr202_0 : (((y_cd yr202).drop 0).take 40).all (y_okE ztb znw zcls (ytb yw00) yr202) = true := by decide +kernel
theorem yq_yr202_1 : (((y_cd yr202).drop 40).take 40).all (y_okE ztb znw zcls (ytb yw00) yr202) = true := by decide +kernel
theorem yq_yr202_2 : (((y_cd yr202).drop 80).take 40).all (y_okE ztb znw zcls (ytb yw00) yr202) = true := by decide +kernel
theorem yq_yr202_e3 : ((y_cd yr202).drop 120).all (y_okE ztb znw zcls (ytb yw00) yr202) = true := z_seg_end (by decide +kernel)
theorem yq_yr202_e2 : ((y_cd yr202).drop 80).all (y_okE ztb znw zcls (ytb yw00) yr202) = true := z_seg (a := 80) (k := 40) yq_yr202_2 yq_yr202_e3
theorem yq_yr202_e1 : ((y_cd yr202).drop 40).all (y_okE ztb znw zcls (ytb yw00) yr202) = true := z_seg (a := 40) (k := 40) yq_yr202_1 yq_yr202_e2
theorem yq_yr202_e0 : ((y_cd yr202).drop 0).all (y_okE ztb znw zcls (ytb yw00) yr202) = true := z_seg (a := 0) (k := 40) yq_yr202_0 yq_yr202_e1
theorem yq_yr202 : (y_cd yr202).all (y_okE ztb znw zcls (ytb yw00) yr202) = true := z_seg0 yq_yr202_e0
theorem yo_yr202 : y_okM ztb zcls yr202 := y_okM_i (z_codeIn (ch := 12) (i := 40) (l := tables_1_12) rfl rfl) (z_w_ok (n := 1012) (by decide +kernel)) (by decide +kernel) ⟨by decide +kernel, by decide +kernel⟩ (z_w_ok (n := 12039) (by decide +kernel)) (z_w_ok (n := 167) (by decide +kernel)) rfl rfl (by decide)
theorem yq_yr203_0 : (((y_cd yr203).drop 0).take 40).all (y_okE ztb znw zcls (ytb yw00) yr203) = true := by decide +kernel
theorem yq_yr203_1 : (((y_cd yr203).drop 40).take 40).all (y_okE ztb znw zcls (ytb yw00) yr203) = true := by decide +kernel
theorem yq_yr203_2 : (((y_cd yr203).drop 80).take 40).all (y_okE ztb znw zcls (ytb yw00) yr203) = true := by decide +kernel
theorem yq_yr203_e3 : ((y_cd yr203).drop 120).all (y_okE ztb znw zcls (ytb yw00) yr203) = true := z_seg_end (by decide +kernel)
theorem yq_yr203_e2 : ((y_cd yr203).drop 80).all (y_okE ztb znw zcls (ytb yw00) yr203) = true := z_seg (a := 80) (k := 40) yq_yr203_2 yq_yr203_e3
theorem yq_yr203_e1 : ((y_cd yr203).drop 40).all (y_okE ztb znw zcls (ytb yw00) yr203) = true := z_seg (a := 40) (k := 40) yq_yr203_1 yq_yr203_e2
theorem yq_yr203_e0 : ((y_cd yr203).drop 0).all (y_okE ztb znw zcls (ytb yw00) yr203) = true := z_seg (a := 0) (k := 40) yq_yr203_0 yq_yr203_e1
theorem yq_yr203 : (y_cd yr203).all (y_okE ztb znw zcls (ytb yw00) yr203) = true := z_seg0 yq_yr203_e0
theorem yo_yr203 : y_okM ztb zcls yr203 := y_okM_i (z_codeIn (ch := 12) (i := 44) (l := tables_1_12) rfl rfl) (z_w_ok (n := 1012) (by decide +kernel)) (by decide +kernel) ⟨by decide +kernel, by decide +kernel⟩ (z_w_ok (n := 12043) (by decide +kernel)) (z_w_ok (n := 168) (by decide +kernel)) rfl rfl (by decide)
theorem yq_yr204_0 : (((y_cd yr204).drop 0).take 40).all (y_okE ztb znw zcls (ytb yw00) yr204) = true := by decide +kernel
theorem yq_yr204_1 : (((y_cd yr204).drop 40).take 40).all (y_okE ztb znw zcls (ytb yw00) yr204) = true := by decide +kernel
theorem yq_yr204_e2 : ((y_cd yr204).drop 80).all (y_okE ztb znw zcls (ytb yw00) yr204) = true := z_seg_end (by decide +kernel)
theorem yq_yr204_e1 : ((y_cd yr204).drop 40).all (y_okE ztb znw zcls (ytb yw00) yr204) = true := z_seg (a := 40) (k := 40) yq_yr204_1 yq_yr204_e2
theorem yq_yr204_e0 : ((y_cd yr204).drop 0).all (y_okE ztb znw zcls (ytb yw00) yr204) = true := z_seg (a := 0) (k := 40) yq_yr204_0 yq_yr204_e1
theorem yq_yr204 : (y_cd yr204).all (y_okE ztb znw zcls (ytb yw00) yr204) = true := z_seg0 yq_yr204_e0
theorem yo_yr204 : y_okM ztb zcls yr204 := y_okM_i (z_codeIn (ch := 12) (i := 36) (l := tables_1_12) rfl rfl) (z_w_ok (n := 1012) (by decide +kernel)) (by decide +kernel) ⟨by decide +kernel, by decide +kernel⟩ (z_w_ok (n := 12035) (by decide +kernel)) (z_w_ok (n := 166) (by decide +kernel)) rfl rfl (by decide)
theorem yq_yr205_0 : (((y_cd yr205).drop 0).take 40).all (y_okE ztb znw zcls (ytb yw00) yr205) = true := by decide +kernel
theorem yq_yr205_1 : (((y_cd yr205).drop 40).take 40).all (y_okE ztb znw zcls (ytb yw00) yr205) = true := by decide +kernel
theorem yq_yr205_e2 : ((y_cd yr205).drop 80).all (y_okE ztb znw zcls (ytb yw00) yr205) = true := z_seg_end (by decide +kernel)
theorem yq_yr205_e1 : ((y_cd yr205).drop 40).all (y_okE ztb znw zcls (ytb yw00) yr205) = true := z_seg (a := 40) (k := 40) yq_yr205_1 yq_yr205_e2
theorem yq_yr205_e0 : ((y_cd yr205).drop 0).all (y_okE ztb znw zcls (ytb yw00) yr205) = true := z_seg (a := 0) (k := 40) yq_yr205_0 yq_yr205_e1
theorem yq_yr205 : (y_cd yr205).all (y_okE ztb znw zcls (ytb yw00) yr205) = true := z_seg0 yq_yr205_e0
theorem yo_yr205 : y_okM ztb zcls yr205 := y_okM_i (z_codeIn (ch := 12) (i := 227) (l := tables_1_12) rfl rfl) (z_w_ok (n := 1012) (by decide +kernel)) (by decide +kernel) ⟨by decide +kernel, by decide +kernel⟩ (z_w_ok (n := 12225) (by decide +kernel)) (z_w_ok (n := 12226) (by decide +kernel)) rfl rfl (by decide)
theorem yq_yr206 : (y_cd yr206).all (y_okE ztb znw zcls (ytb yw00) yr206) = true := by decide +kernel
theorem yo_yr206 : y_okM ztb zcls yr206 := y_okM_i (z_codeIn (ch := 10) (i := 76) (l := tables_1_10) rfl rfl) (z_w_ok (n := 1012) (by decide +kernel)) (by decide +kernel) ⟨by decide +kernel, by decide +kernel⟩ (z_w_ok (n := 10074) (by decide +kernel)) (z_w_ok (n := 10075) (by decide +kernel)) rfl rfl (by decide)
theorem yq_yr207_0 : (((y_cd yr207).drop 0).take 40).all (y_okE ztb znw zcls (ytb yw00) yr207) = true := by decide +kernel
theorem yq_yr207_1 : (((y_cd yr207).drop 40).take 40).all (y_okE ztb znw zcls (ytb yw00) yr207) = true := by decide +kernel
theorem yq_yr207_2 : (((y_cd yr207).drop 80).take 40).all (y_okE ztb znw zcls (ytb yw00) yr207) = true := by decide +kernel
theorem yq_yr207_3 : (((y_cd yr207).drop 120).take 40).all (y_okE ztb znw zcls (ytb yw00) yr207) = true := by decide +kernel
theorem yq_yr207_4 : (((y_cd yr207).drop 160).take 40).all (y_okE ztb znw zcls (ytb yw00) yr207) = true := by decide +kernel
theorem yq_yr207_e5 : ((y_cd yr207).drop 200).all (y_okE ztb znw zcls (ytb yw00) yr207) = true := z_seg_end (by decide +kernel)
theorem yq_yr207_e4 : ((y_cd yr207).drop 160).all (y_okE ztb znw zcls (ytb yw00) yr207) = true := z_seg (a := 160) (k := 40) yq_yr207_4 yq_yr207_e5
theorem yq_yr207_e3 : ((y_cd yr207).drop 120).all (y_okE ztb znw zcls (ytb yw00) yr207) = true := z_seg (a := 120) (k := 40) yq_yr207_3 yq_yr207_e4
theorem yq_yr207_e2 : ((y_cd yr207).drop 80).all (y_okE ztb znw zcls (ytb yw00) yr207) = true := z_seg (a := 80) (k := 40) yq_yr207_2 yq_yr207_e3
theorem yq_yr207_e1 : ((y_cd yr207).drop 40).all (y_okE ztb znw zcls (ytb yw00) yr207) = true := z_seg (a := 40) (k := 40) yq_yr207_1 yq_yr207_e2
theorem yq_yr207_e0 : ((y_cd yr207).drop 0).all (y_okE ztb znw zcls (ytb yw00) yr207) = true := z_seg (a := 0) (k := 40) yq_yr207_0 yq_yr207_e1
theorem yq_yr207 : (y_cd yr207).all (y_okE ztb znw zcls (ytb yw00) yr207) = true := z_seg0 yq_yr207_e0
theorem yo_yr207 : y_okM ztb zcls yr207 := y_okM_i (z_codeIn (ch := 11) (i := 159) (l := tables_1_11) rfl rfl) (z_w_ok (n := 1012) (by decide +kernel)) (by decide +kernel) ⟨by decide +kernel, by decide +kernel⟩ (z_w_ok (n := 11157) (by decide +kernel)) (z_w_ok (n := 11158) (by decide +kernel)) rfl rfl (by decide)
theorem yq_yr208_0 : (((y_cd yr208).drop 0).take 40).all (y_okE ztb znw zcls (ytb yw00) yr208) = true := by decide +kernel
theorem yq_yr208_1 : (((y_cd yr208).drop 40).take 40).all (y_okE ztb znw zcls (ytb yw00) yr208) = true := by decide +kernel
theorem yq_yr208_2 : (((y_cd yr208).drop 80).take 40).all (y_okE ztb znw zcls (ytb yw00) yr208) = true := by decide +kernel
theorem yq_yr208_e3 : ((y_cd yr208).drop 120).all (y_okE ztb znw zcls (ytb yw00) yr208) = true := z_seg_end (by decide +kernel)
theorem yq_yr208_e2 : ((y_cd yr208).drop 80).all (y_okE ztb znw zcls (ytb yw00) yr208) = true := z_seg (a := 80) (k := 40) yq_yr208_2 yq_yr208_e3
theorem yq_yr208_e1 : ((y_cd yr208).drop 40).all (y_okE ztb znw zcls (ytb yw00) yr208) = true := z_seg (a := 40) (k := 40) yq_yr208_1 yq_yr208_e2
theorem yq_yr208_e0 : ((y_cd yr208).drop 0).all (y_okE ztb znw zcls (ytb yw00) yr208) = true := z_seg (a := 0) (k := 40) yq_yr208_0 yq_yr208_e1
theorem yq_yr208 : (y_cd yr208).all (y_okE ztb znw zcls (ytb yw00) yr208) = true := z_seg0 yq_yr208_e0
theorem yo_yr208 : y_okM ztb zcls yr208 := y_okM_i (z_codeIn (ch := 11) (i := 188) (l := tables_1_11) rfl rfl) (z_w_ok (n := 1012) (by decide +kernel)) (by decide +kernel) ⟨by decide +kernel, by decide +kernel⟩ (z_w_ok (n := 11187) (by decide +kernel)) (z_w_ok (n := 149) (by decide +kernel)) rfl rfl (by decide)
theorem yq_yr209 : (y_cd yr209).all (y_okE ztb znw zcls (ytb yw00) yr209) = true := by decide +kernel
theorem yo_yr209 : y_okM ztb zcls yr209 := y_okM_i (z_codeIn (ch := 11) (i := 143) (l := tables_1_11) rfl rfl) (z_w_ok (n := 1012) (by decide +kernel)) (by decide +kernel) ⟨by decide +kernel, by decide +kernel⟩ (z_w_ok (n := 11141) (by decide +kernel)) (z_w_ok (n := 11142) (by decide +kernel)) rfl rfl (by decide)
theorem yq_yr210_0 : (((y_cd yr210).drop 0).take 40).all (y_okE ztb znw zcls (ytb yw00) yr210) = true := by decide +kernel
theorem yq_yr210_1 : (((y_cd yr210).drop 40).take 40).all (y_okE ztb znw zcls (ytb yw00) yr210) = true := by decide +kernel
theorem yq_yr210_e2 : ((y_cd yr210).drop 80).all (y_okE ztb znw zcls (ytb yw00) yr210) = true := z_seg_end (by decide +kernel)
theorem yq_yr210_e1 : ((y_cd yr210).drop 40).all (y_okE ztb znw zcls (ytb yw00) yr210) = true := z_seg (a := 40) (k := 40) yq_yr210_1 yq_yr210_e2
theorem yq_yr210_e0 : ((y_cd yr210).drop 0).all (y_okE ztb znw zcls (ytb yw00) yr210) = true := z_seg (a := 0) (k := 40) yq_yr210_0 yq_yr210_e1
theorem yq_yr210 : (y_cd yr210).all (y_okE ztb znw zcls (ytb yw00) yr210) = true := z_seg0 yq_yr210_e0
theorem yo_yr210 : y_okM ztb zcls yr210 := y_okM_i (z_codeIn (ch := 10) (i := 72) (l := tables_1_10) rfl rfl) (z_w_ok (n := 1012) (by decide +kernel)) (by decide +kernel) ⟨by decide +kernel, by decide +kernel⟩ (z_w_ok (n := 10070) (by decide +kernel)) (z_w_ok (n := 10071) (by decide +kernel)) rfl rfl (by decide)
theorem yq_yr211_0 : (((y_cd yr211).drop 0).take 40).all (y_okE ztb znw zcls (ytb yw00) yr211) = true := by decide +kernel
theorem yq_yr211_1 : (((y_cd yr211).drop 40).take 40).all (y_okE ztb znw zcls (ytb yw00) yr211) = true := by decide +kernel
theorem yq_yr211_e2 : ((y_cd yr211).drop 80).all (y_okE ztb znw zcls (ytb yw00) yr211) = true := z_seg_end (by decide +kernel)
theorem yq_yr211_e1 : ((y_cd yr211).drop 40).all (y_okE ztb znw zcls (ytb yw00) yr211) = true := z_seg (a := 40) (k := 40) yq_yr211_1 yq_yr211_e2
theorem yq_yr211_e0 : ((y_cd yr211).drop 0).all (y_okE ztb znw zcls (ytb yw00) yr211) = true := z_seg (a := 0) (k := 40) yq_yr211_0 yq_yr211_e1
theorem yq_yr211 : (y_cd yr211).all (y_okE ztb znw zcls (ytb yw00) yr211) = true := z_seg0 yq_yr211_e0
theorem yo_yr211 : y_okM ztb zcls yr211 := y_okM_i (z_codeIn (ch := 12) (i := 157) (l := tables_1_12) rfl rfl) (z_w_ok (n := 1012) (by decide +kernel)) (by decide +kernel) ⟨by decide +kernel, by decide +kernel⟩ (z_w_ok (n := 12156) (by decide +kernel)) (z_w_ok (n := 186) (by decide +kernel)) rfl rfl (by decide)
theorem yq_yr212_0 : (((y_cd yr212).drop 0).take 40).all (y_okE ztb znw zcls (ytb yw00) yr212) = true := by decide +kernel
theorem yq_yr212_1 : (((y_cd yr212).drop 40).take 40).all (y_okE ztb znw zcls (ytb yw00) yr212) = true := by decide +kernel
theorem yq_yr212_2 : (((y_cd yr212).drop 80).take 40).all (y_okE ztb znw zcls (ytb yw00) yr212) = true := by decide +kernel
theorem yq_yr212_3 : (((y_cd yr212).drop 120).take 40).all (y_okE ztb znw zcls (ytb yw00) yr212) = true := by decide +kernel
theorem yq_yr212_4 : (((y_cd yr212).drop 160).take 40).all (y_okE ztb znw zcls (ytb yw00) yr212) = true := by decide +kernel
theorem yq_yr212_e5 : ((y_cd yr212).drop 200).all (y_okE ztb znw zcls (ytb yw00) yr212) = true := z_seg_end (by decide +kernel)
theorem yq_yr212_e4 : ((y_cd yr212).drop 160).all (y_okE ztb znw zcls (ytb yw00) yr212) = true := z_seg (a := 160) (k := 40) yq_yr212_4 yq_yr212_e5
theorem yq_yr212_e3 : ((y_cd yr212).drop 120).all (y_okE ztb znw zcls (ytb yw00) yr212) = true := z_seg (a := 120) (k := 40) yq_yr212_3 yq_yr212_e4
theorem yq_yr212_e2 : ((y_cd yr212).drop 80).all (y_okE ztb znw zcls (ytb yw00) yr212) = true := z_seg (a := 80) (k := 40) yq_yr212_2 yq_yr212_e3
theorem yq_yr212_e1 : ((y_cd yr212).drop 40).all (y_okE ztb znw zcls (ytb yw00) yr212) = true := z_seg (a := 40) (k := 40) yq_yr212_1 yq_yr212_e2
theorem yq_yr212_e0 : ((y_cd yr212).drop 0).all (y_okE ztb znw zcls (ytb yw00) yr212) = true := z_seg (a := 0) (k := 40) yq_yr212_0 yq_yr212_e1
theorem yq_yr212 : (y_cd yr212).all (y_okE ztb znw zcls (ytb yw00) yr212) = true := z_seg0 yq_yr212_e0
theorem yo_yr212 : y_okM ztb zcls yr212 := y_okM_i (z_codeIn (ch := 10) (i := 175) (l := tables_1_10) rfl rfl) (z_w_ok (n := 1012) (by decide +kernel)) (by decide +kernel) ⟨by decide +kernel, by decide +kernel⟩ (z_w_ok (n := 10174) (by decide +kernel)) (z_w_ok (n := 106) (by decide +kernel)) rfl rfl (by decide)
theorem yq_yr213_0 : (((y_cd yr213).drop 0).take 40).all (y_okE ztb znw zcls (ytb yw00) yr213) = true := by decide +kernel
theorem yq_yr213_1 : (((y_cd yr213).drop 40).take 40).all (y_okE ztb znw zcls (ytb yw00) yr213) = true := by decide +kernel
theorem yq_yr213_e2 : ((y_cd yr213).drop 80).all (y_okE ztb znw zcls (ytb yw00) yr213) = true := z_seg_end (by decide +kernel)
theorem yq_yr213_e1 : ((y_cd yr213).drop 40).all (y_okE ztb znw zcls (ytb yw00) yr213) = true := z_seg (a := 40) (k := 40) yq_yr213_1 yq_yr213_e2
theorem yq_yr213_e0 : ((y_cd yr213).drop 0).all (y_okE ztb znw zcls (ytb yw00) yr213) = true := z_seg (a := 0) (k := 40) yq_yr213_0 yq_yr213_e1
theorem yq_yr213 : (y_cd yr213).all (y_okE ztb znw zcls (ytb yw00) yr213) = true := z_seg0 yq_yr213_e0
theorem yo_yr213 : y_okM ztb zcls yr213 := y_okM_i (z_codeIn (ch := 10) (i := 163) (l := tables_1_10) rfl rfl) (z_w_ok (n := 1012) (by decide +kernel)) (by decide +kernel) ⟨by decide +kernel, by decide +kernel⟩ (z_w_ok (n := 10162) (by decide +kernel)) (z_w_ok (n := 103) (by decide +kernel)) rfl rfl (by decide)
theorem yq_yr214 : (y_cd yr214).all (y_okE ztb znw zcls (ytb yw00) yr214) = true := by decide +kernel
theorem yo_yr214 : y_okM ztb zcls yr214 := y_okM_i (z_codeIn (ch := 11) (i := 167) (l := tables_1_11) rfl rfl) (z_w_ok (n := 1012) (by decide +kernel)) (by decide +kernel) ⟨by decide +kernel, by decide +kernel⟩ (z_w_ok (n := 11166) (by decide +kernel)) (z_w_ok (n := 144) (by decide +kernel)) rfl rfl (by decide)
theorem yq_yr215_0 : (((y_cd yr215).drop 0).take 40).all (y_okE ztb znw zcls (ytb yw00) yr215) = true := by decide +kernel
theorem yq_yr215_1 : (((y_cd yr215).drop 40).take 40).all (y_okE ztb znw zcls (ytb yw00) yr215) = true := by decide +kernel
theorem yq_yr215_e2 : ((y_cd yr215).drop 80).all (y_okE ztb znw zcls (ytb yw00) yr215) = true := z_seg_end (by decide +kernel)
theorem yq_yr215_e1 : ((y_cd yr215).drop 40).all (y_okE ztb znw zcls (ytb yw00) yr215) = true := z_seg (a := 40) (k := 40) yq_yr215_1 yq_yr215_e2
theorem yq_yr215_e0 : ((y_cd yr215).drop 0).all (y_okE ztb znw zcls (ytb yw00) yr215) = true := z_seg (a := 0) (k := 40) yq_yr215_0 yq_yr215_e1
theorem yq_yr215 : (y_cd yr215).all (y_okE ztb znw zcls (ytb yw00) yr215) = true := z_seg0 yq_yr215_e0
theorem yo_yr215 : y_okM ztb zcls yr215 := y_okM_i (z_codeIn (ch := 11) (i := 3) (l := tables_1_11) rfl rfl) (z_w_ok (n := 1012) (by decide +kernel)) (by decide +kernel) ⟨by decide +kernel, by decide +kernel⟩ (z_w_ok (n := 11001) (by decide +kernel)) (z_w_ok (n := 11002) (by decide +kernel)) rfl rfl (by decide)
