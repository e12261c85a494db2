theorem yq_yr298_0 : (((y_cd yr298).drop 0).take 40).all (y_okE ztb znw zcls (ytb yw00) yr298) = true := by decide +kernel
theorem yq_yr298_1 : (((y_cd yr298).drop 40).take 40).all (y_okE ztb znw zcls (ytb yw00) yr298) = true := by decide +kernel
theorem yq_yr298_e2 : ((y_cd yr298).drop 80).all (y_okE ztb znw zcls (ytb yw00) yr298) = true := z_seg_end (by decide +kernel)
theorem yq_yr298_e1 : ((y_cd yr298).drop 40).all (y_okE ztb znw zcls (ytb yw00) yr298) = true := z_seg (a := 40) (k := 40) yq_yr298_1 yq_yr298_e2
theorem yq_yr298_e0 : ((y_cd yr298).drop 0).all (y_okE ztb znw zcls (ytb yw00) yr298) = true := z_seg (a := 0) (k := 40) yq_yr298_0 yq_yr298_e1
theorem yq_yr298 : (y_cd yr298).all (y_okE ztb znw zcls (ytb yw00) yr298) = true := z_seg0 yq_yr298_e0
theorem yo_yr298 : y_okM ztb zcls yr298 := y_okM_i (z_codeIn (ch := 10) (i := 105) (l := tables_1_10) rfl rfl) (z_w_ok (n := 1012) (by decide +kernel)) (by decide +kernel) ⟨by decide +kernel, by decide +kernel⟩ (z_w_ok (n := 10104) (by decide +kernel)) (z_w_ok (n := 91) (by decide +kernel)) rfl rfl (by decide)
theorem yq_yr299 : (y_cd yr299).all (y_okE ztb znw zcls (ytb yw00) yr299) = true := by decide +kernel
theorem yo_yr299 : y_okM ztb zcls yr299 := y_okM_i (z_codeIn (ch := 10) (i := 155) (l := tables_1_10) rfl rfl) (z_w_ok (n := 1012) (by decide +kernel)) (by decide +kernel) ⟨by decide +kernel, by decide +kernel⟩ (z_w_ok (n := 10154) (by decide +kernel)) (z_w_ok (n := 101) (by decide +kernel)) rfl rfl (by decide)
theorem yq_yr300 : (y_cd yr300).all (y_okE ztb znw zcls (ytb yw00) yr300) = true := by decide +kernel
theorem yo_yr300 : y_okM ztb zcls yr300 := y_okM_i (z_codeIn (ch := 11) (i := 119) (l := tables_1_11) rfl rfl) (z_w_ok (n := 1012) (by decide +kernel)) (by decide +kernel) ⟨by decide +kernel, by decide +kernel⟩ (z_w_ok (n := 11117) (by decide +kernel)) (z_w_ok (n := 11118) (by decide +kernel)) rfl rfl (by decide)
theorem yq_yr301_0 : (((y_cd yr301).drop 0).take 40).all (y_okE ztb znw zcls (ytb yw00) yr301) = true := by decide +kernel
theorem yq_yr301_1 : (((y_cd yr301).drop 40).take 40).all (y_okE ztb znw zcls (ytb yw00) yr301) = true := by decide +kernel
theorem yq_yr301_2 : (((y_cd yr301).drop 80).take 40).all (y_okE ztb znw zcls (ytb yw00) yr301) = true := by decide +kernel
theorem yq_yr301_e3 : ((y_cd yr301).drop 120).all (y_okE ztb znw zcls (ytb yw00) yr301) = true := z_seg_end (by decide +kernel)
theorem yq_yr301_e2 : ((y_cd yr301).drop 80).all (y_okE ztb znw zcls (ytb yw00) yr301) = true := z_seg (a := 80) (k := 40) yq_yr301_2 yq_yr301_e3
theorem yq_yr301_e1 : ((y_cd yr301).drop 40).all (y_okE ztb znw zcls (ytb yw00) yr301) = true := z_seg (a := 40) (k := 40) yq_yr301_1 yq_yr301_e2
theorem yq_yr301_e0 : ((y_cd yr301).drop 0).all (y_okE ztb znw zcls (ytb yw00) yr301) = true := z_seg (a := 0) (k := 40) yq_yr301_0 yq_yr301_e1
theorem yq_yr301 : (y_cd yr301).all (y_okE ztb znw zcls (ytb yw00) yr301) = true := z_seg0 yq_yr301_e0
theorem yo_yr301 : y_okM ztb zcls yr301 := y_okM_i (z_codeIn (ch := 12) (i := 32) (l := tables_1_12) rfl rfl) (z_w_ok (n := 1012) (by decide +kernel)) (by decide +kernel) ⟨by decide +kernel, by decide +kernel⟩ (z_w_ok (n := 12031) (by decide +kernel)) (z_w_ok (n := 165) (by decide +kernel)) rfl rfl (by decide)
theorem yq_yr302_0 : (((y_cd yr302).drop 0).take 40).all (y_okE ztb znw zcls (ytb yw00) yr302) = true := by decide +kernel
theorem yq_yr302_1 : (((y_cd yr302).drop 40).take 40).all (y_okE ztb znw zcls (ytb yw00) yr302) = true := by decide +kernel
theorem yq_yr302_e2 : ((y_cd yr302).drop 80).all (y_okE ztb znw zcls (ytb yw00) yr302) = true := z_seg_end (by decide +kernel)
theorem yq_yr302_e1 : ((y_cd yr302).drop 40).all (y_okE ztb znw zcls (ytb yw00) yr302) = true := z_seg (a := 40) (k := 40) yq_yr302_1 yq_yr302_e2
theorem yq_yr302_e0 : ((y_cd yr302).drop 0).all (y_okE ztb znw zcls (ytb yw00) yr302) = true := z_seg (a := 0) (k := 40) yq_yr302_0 yq_yr302_e1
theorem yq_yr302 : (y_cd yr302).all (y_okE ztb znw zcls (ytb yw00) yr302) = true := z_seg0 yq_yr302_e0
theorem yo_yr302 : y_okM ztb zcls yr302 := y_okM_i (z_codeIn (ch := 12) (i := 81) (l := tables_1_12) rfl rfl) (z_w_ok (n := 1012) (by decide +kernel)) (by decide +kernel) ⟨by decide +kernel, by decide +kernel⟩ (z_w_ok (n := 12079) (by decide +kernel)) (z_w_ok (n := 12080) (by decide +kernel)) rfl rfl (by decide)
theorem yq_yr303 : (y_cd yr303).all (y_okE ztb znw zcls (ytb yw00) yr303) = true := by decide +kernel
theorem yo_yr303 : y_okM ztb zcls yr303 := y_okM_i (z_codeIn (ch := 10) (i := 211) (l := tables_1_10) rfl rfl) (z_w_ok (n := 1012) (by decide +kernel)) (by decide +kernel) ⟨by decide +kernel, by decide +kernel⟩ (z_w_ok (n := 10209) (by decide +kernel)) (z_w_ok (n := 10210) (by decide +kernel)) rfl rfl (by decide)
theorem yq_yr304_0 : (((y_cd yr304).drop 0).take 40).all (y_okE ztb znw zcls (ytb yw00) yr304) = true := by decide +kernel
theorem yq_yr304_1 : (((y_cd yr304).drop 40).take 40).all (y_okE ztb znw zcls (ytb yw00) yr304) = true := by decide +kernel
theorem yq_yr304_e2 : ((y_cd yr304).drop 80).all (y_okE ztb znw zcls (ytb yw00) yr304) = true := z_seg_end (by decide +kernel)
theorem yq_yr304_e1 : ((y_cd yr304).drop 40).all (y_okE ztb znw zcls (ytb yw00) yr304) = true := z_seg (a := 40) (k := 40) yq_yr304_1 yq_yr304_e2
theorem yq_yr304_e0 : ((y_cd yr304).drop 0).all (y_okE ztb znw zcls (ytb yw00) yr304) = true := z_seg (a := 0) (k := 40) yq_yr304_0 yq_yr304_e1
theorem yq_yr304 : (y_cd yr304).all (y_okE ztb znw zcls (ytb yw00) yr304) = true := z_seg0 yq_yr304_e0
theorem yo_yr304 : y_okM ztb zcls yr304 := y_okM_i (z_codeIn (ch := 11) (i := 131) (l := tables_1_11) rfl rfl) (z_w_ok (n := 1012) (by decide +kernel)) (by decide +kernel) ⟨by decide +kernel, by decide +kernel⟩ (z_w_ok (n := 11129) (by decide +kernel)) (z_w_ok (n := 11130) (by decide +kernel)) rfl rfl (by decide)
theorem yq_yr305 : (y_cd yr305).all (y_okE ztb znw zcls (ytb yw00) yr305) = true := by decide +kernel
theorem yo_yr305 : y_okM ztb zcls yr305 := y_okM_i (z_codeIn (ch := 10) (i := 223) (l := tables_1_10) rfl rfl) (z_w_ok (n := 1012) (by decide +kernel)) (by decide +kernel) ⟨by decide +kernel, by decide +kernel⟩ (z_w_ok (n := 10221) (by decide +kernel)) (z_w_ok (n := 10222) (by decide +kernel)) rfl rfl (by decide)
theorem yq_yr306_0 : (((y_cd yr306).drop 0).take 40).all (y_okE ztb znw zcls (ytb yw00) yr306) = true := by decide +kernel
theorem yq_yr306_1 : (((y_cd yr306).drop 40).take 40).all (y_okE ztb znw zcls (ytb yw00) yr306) = true := by decide +kernel
theorem yq_yr306_e2 : ((y_cd yr306).drop 80).all (y_okE ztb znw zcls (ytb yw00) yr306) = true := z_seg_end (by decide +kernel)
theorem yq_yr306_e1 : ((y_cd yr306).drop 40).all (y_okE ztb znw zcls (ytb yw00) yr306) = true := z_seg (a := 40) (k := 40) yq_yr306_1 yq_yr306_e2
theorem yq_yr306_e0 : ((y_cd yr306).drop 0).all (y_okE ztb znw zcls (ytb yw00) yr306) = true := z_seg (a := 0) (k := 40) yq_yr306_0 yq_yr306_e1
theorem yq_yr306 : (y_cd yr306).all (y_okE ztb znw zcls (ytb yw00) yr306) = true := z_seg0 yq_yr306_e0
theorem yo_yr306 : y_okM ztb zcls yr306 := y_okM_i (z_codeIn (ch := 8) (i := 105) (l := tables_1_8) rfl rfl) (z_w_ok (n := 1012) (by decide +kernel)) (by decide +kernel) ⟨by decide +kernel, by decide +kernel⟩ (z_w_ok (n := 8104) (by decide +kernel)) (z_w_ok (n := 86) (by decide +kernel)) rfl rfl (by decide)
theorem yq_yr307 : (y_cd yr307).all (y_okE ztb znw zcls (ytb yw00) yr307) = true := by decide +kernel
theorem yo_yr307 : y_okM ztb zcls yr307 := y_okM_i (z_codeIn (ch := 10) (i := 219) (l := tables_1_10) rfl rfl) (z_w_ok (n := 1012) (by decide +kernel)) (by decide +kernel) ⟨by decide +kernel, by decide +kernel⟩ (z_w_ok (n := 10217) (by decide +kernel)) (z_w_ok (n := 10218) (by decide +kernel)) rfl rfl (by decide)
theorem yq_yr308 : (y_cd yr308).all (y_okE ztb znw zcls (ytb yw00) yr308) = true := by decide +kernel
theorem yo_yr308 : y_okM ztb zcls yr308 := y_okM_i (z_codeIn (ch := 12) (i := 145) (l := tables_1_12) rfl rfl) (z_w_ok (n := 1012) (by decide +kernel)) (by decide +kernel) ⟨by decide +kernel, by decide +kernel⟩ (z_w_ok (n := 12143) (by decide +kernel)) (z_w_ok (n := 12144) (by decide +kernel)) rfl rfl (by decide)
theorem yq_yr309_0 : (((y_cd yr309).drop 0).take 40).all (y_okE ztb znw zcls (ytb yw00) yr309) = true := by decide +kernel
theorem yq_yr309_1 : (((y_cd yr309).drop 40).take 40).all (y_okE ztb znw zcls (ytb yw00) yr309) = true := by decide +kernel
theorem yq_yr309_e2 : ((y_cd yr309).drop 80).all (y_okE ztb znw zcls (ytb yw00) yr309) = true := z_seg_end (by decide +kernel)
theorem yq_yr309_e1 : ((y_cd yr309).drop 40).all (y_okE ztb znw zcls (ytb yw00) yr309) = true := z_seg (a := 40) (k := 40) yq_yr309_1 yq_yr309_e2
theorem yq_yr309_e0 : ((y_cd yr309).drop 0).all (y_okE ztb znw zcls (ytb yw00) yr309) = true := z_seg (a := 0) (k := 40) yq_yr309_0 yq_yr309_e1
theorem yq_yr309 : (y_cd yr309).all (y_okE ztb znw zcls (ytb yw00) yr309) = true := z_seg0 yq_yr309_e0
theorem yo_yr309 : y_okM ztb zcls yr309 := y_okM_i (z_codeIn (ch := 11) (i := 107) (l := tables_1_11) rfl rfl) (z_w_ok (n := 1012) (by decide +kernel)) (by decide +kernel) ⟨by decide +kernel, by decide +kernel⟩ (z_w_ok (n := 11106) (by decide +kernel)) (z_w_ok (n := 139) (by decide +kernel)) rfl rfl (by decide)
theorem yq_yr310_0 : (((y_cd yr310).drop 0).take 40).all (y_okE ztb znw zcls (ytb yw00) yr310) = true := by decide +kernel
theorem yq_yr310_1 : (((y_cd yr310).drop 40).take 40).all (y_okE ztb znw zcls (ytb yw00) yr310) = true := by decide +kernel
theorem yq_yr310_e2 : ((y_cd yr310).drop 80).all (y_okE ztb znw zcls (ytb yw00) yr310) = true := z_seg_end (by decide +kernel)
theorem yq_yr310_e1 : ((y_cd yr310).drop 40).all (y_okE ztb znw zcls (ytb yw00) yr310) = true := z_seg (a := 40) (k := 40) yq_yr310_1 yq_yr310_e2
theorem yq_yr310_e0 : ((y_cd yr310).drop 0).all (y_okE ztb znw zcls (ytb yw00) yr310) = true := z_seg (a := 0) (k := 40) yq_yr310_0 yq_yr310_e1
theorem yq_yr310 : (y_cd yr310).all (y_okE ztb znw zcls (ytb yw00) yr310) = true := z_seg0 yq_yr310_e0
theorem yo_yr310 : y_okM ztb zcls yr310 := y_okM_i (z_codeIn (ch := 10) (i := 195) (l := tables_1_10) rfl rfl) (z_w_ok (n := 1012) (by decide +kernel)) (by decide +kernel) ⟨by decide +kernel, by decide +kernel⟩ (z_w_ok (n := 10193) (by decide +kernel)) (z_w_ok (n := 10194) (by decide +kernel)) rfl rfl (by decide)
theorem yq_yr311 : (y_cd yr311).all (y_okE ztb znw zcls (ytb yw00) yr311) = true := by decide +kernel
theorem yo_yr311 : y_okM ztb zcls yr311 := y_okM_i (z_codeIn (ch := 11) (i := 204) (l := tables_1_11) rfl rfl) (z_w_ok (n := 1012) (by decide +kernel)) (by decide +kernel) ⟨by decide +kernel, by decide +kernel⟩ (z_w_ok (n := 11203) (by decide +kernel)) (z_w_ok (n := 151) (by decide +kernel)) rfl rfl (by decide)
theorem yq_yr312 : (y_cd yr312).all (y_okE ztb znw zcls (ytb yw00) yr312) = true := by decide +kernel
theorem yo_yr312 : y_okM ztb zcls yr312 := y_okM_i (z_codeIn (ch := 11) (i := 19) (l := tables_1_11) rfl rfl) (z_w_ok (n := 1012) (by decide +kernel)) (by decide +kernel) ⟨by decide +kernel, by decide +kernel⟩ (z_w_ok (n := 11017) (by decide +kernel)) (z_w_ok (n := 11018) (by decide +kernel)) rfl rfl (by decide)
theorem yq_yr313 : (y_cd yr313).all (y_okE ztb znw zcls (ytb yw00) yr313) = true := by decide +kernel
theorem yo_yr313 : y_okM ztb zcls yr313 := y_okM_i (z_codeIn (ch := 10) (i := 235) (l := tables_1_10) rfl rfl) (z_w_ok (n := 1012) (by decide +kernel)) (by decide +kernel) ⟨by decide +kernel, by decide +kernel⟩ (z_w_ok (n := 10234) (by decide +kernel)) (z_w_ok (n := 114) (by decide +kernel)) rfl rfl (by decide)
theorem yq_yr314 : (y_cd yr314).all (y_okE ztb znw zcls (ytb yw00) yr314) = true := by decide +kernel
theorem yo_yr314 : y_okM ztb zcls yr314 := y_okM_i (z_codeIn (ch := 10) (i := 203) (l := tables_1_10) rfl rfl) (z_w_ok (n := 1012) (by decide +kernel)) (by decide +kernel) ⟨by decide +kernel, by decide +kernel⟩ (z_w_ok (n := 10201) (by decide +kernel)) (z_w_ok (n := 10202) (by decide +kernel)) rfl rfl (by decide)
theorem yq_yr315_0 : (((y_cd yr315).drop 0).take 40).all (y_okE ztb znw zcls (ytb yw00) yr315) = true := by decide +kernel
theorem yq_yr315_1 : (((y_cd yr315).drop 40).take 40).all (y_okE ztb znw zcls (ytb yw00) yr315) = true := by decide +kernel
theorem yq_yr315_e2 : ((y_cd yr315).drop 80).all (y_okE ztb znw zcls (ytb yw00) yr315) = true := z_seg_end (by decide +kernel)
theorem yq_yr315_e1 : ((y_cd yr315).drop 40).all (y_okE ztb znw zcls (ytb yw00) yr315) = true := z_seg (a := 40) (k := 40) yq_yr315_1 yq_yr315_e2
theorem yq_yr315_e0 : ((y_cd yr315).drop 0).all (y_okE ztb znw zcls (ytb yw00) yr315) = true := z_seg (a := 0) (k := 40) yq_yr315_0 yq_yr315_e1
theorem yq_yr315 : (y_cd yr315).all (y_okE ztb znw zcls (ytb yw00) yr315) = true := z_seg0 yq_yr315_e0
theorem yo_yr315 : y_okM ztb zcls yr315 := y_okM_i (z_codeIn (ch := 12) (i := 8) (l := tables_1_12) rfl rfl) (z_w_ok (n := 1012) (by decide +kernel)) (by decide +kernel) ⟨by decide +kernel, by decide +kernel⟩ (z_w_ok (n := 12007) (by decide +kernel)) (z_w_ok (n := 159) (by decide +kernel)) rfl rfl (by decide)
theorem yq_yr316 : (y_cd yr316).all (y_okE ztb znw zcls (ytb yw00) yr316) = true := by decide +kernel
theorem yo_yr316 : y_okM ztb zcls yr316 := y_okM_i (z_codeIn (ch := 11) (i := 192) (l := tables_1_11) rfl rfl) (z_w_ok (n := 1012) (by decide +kernel)) (by decide +kernel) ⟨by decide +kernel, by decide +kernel⟩ (z_w_ok (n := 11190) (by decide +kernel)) (z_w_ok (n := 11191) (by decide +kernel)) rfl rfl (by decide)
theorem yq_yr317 : (y_cd yr317).all (y_okE ztb znw zcls (ytb yw00) yr317) = true := by decide +kernel
theorem yo_yr317 : y_okM ztb zcls yr317 := y_okM_i (z_codeIn (ch := 12) (i := 109) (l := tables_1_12) rfl rfl) (z_w_ok (n := 1012) (by decide +kernel)) (by decide +kernel) ⟨by decide +kernel, by decide +kernel⟩ (z_w_ok (n := 12107) (by decide +kernel)) (z_w_ok (n := 12108) (by decide +kernel)) rfl rfl (by decide)
theorem yq_yr318 : (y_cd yr318).all (y_okE ztb znw zcls (ytb yw00) yr318) = true := by decide +kernel
theorem yo_yr318 : y_okM ztb zcls yr318 := y_okM_i (z_codeIn (ch := 12) (i := 141) (l := tables_1_12) rfl rfl) (z_w_ok (n := 1012) (by decide +kernel)) (by decide +kernel) ⟨by decide +kernel, by decide +kernel⟩ (z_w_ok (n := 12139) (by decide +kernel)) (z_w_ok (n := 12140) (by decide +kernel)) rfl rfl (by decide)
theorem yq_yr319_0 : (((y_cd yr319).drop 0).take 40).all (y_okE ztb znw zcls (ytb yw00) yr319) = true := by decide +kernel
theorem yq_yr319_1 : (((y_cd yr319).drop 40).take 40).all (y_okE ztb znw zcls (ytb yw00) yr319) = true := by decide +kernel
theorem yq_yr319_2 : (((y_cd yr319).drop 80).take 40).all (y_okE ztb znw zcls (ytb yw00) yr319) = true := by decide +kernel
theorem yq_yr319_e3 : ((y_cd yr319).drop 120).all (y_okE ztb znw zcls (ytb yw00) yr319) = true := z_seg_end (by decide +kernel)
theorem yq_yr319_e2 : ((y_cd yr319).drop 80).all (y_okE ztb znw zcls (ytb yw00) yr319) = true := z_seg (a := 80) (k := 40) yq_yr319_2 yq_yr319_e3
theorem yq_yr319_e1 : ((y_cd yr319).drop 40).all (y_okE ztb znw zcls (ytb yw00) yr319) = true := z_seg (a := 40) (k := 40) yq_yr319_1 yq_yr319_e2
theorem yq_yr319_e0 : ((y_cd yr319).drop 0).all (y_okE ztb znw zcls (ytb yw00) yr319) = true := z_seg (a := 0) (k := 40) yq_yr319_0 yq_yr319_e1
theorem yq_yr319 : (y_cd yr319).all (y_okE ztb znw zcls (ytb yw00) yr319) = true := z_seg0 yq_yr319_e0
theorem yo_yr319 : y_okM ztb zcls yr319 := y_okM_i (z_codeIn (ch := 12) (i := 149) (l := tables_1_12) rfl rfl) (z_w_ok (n := 1012) (by decide +kernel)) (by decide +kernel) ⟨by decide +kernel, by decide +kernel⟩ (z_w_ok (n := 12147) (by decide +kernel)) (z_w_ok (n := 12148) (by decide +kernel)) rfl rfl (by decide)
theorem yq_yr320_0 : (((y_cd yr320).drop 0).take 40).all (y_okE ztb znw zcls (ytb yw00) yr320) = true := by decide +kernel
theorem yq_yr320_1 : (((y_cd yr320).drop 40).take 40).all (y_okE ztb znw zcls (ytb yw00) yr320) = true := by decide +kernel
theorem yq_yr320_e2 : ((y_cd yr320).drop 80).all (y_okE ztb znw zcls (ytb yw00) yr320) = true := z_seg_end (by decide +kernel)
theorem yq_yr320_e1 : ((y_cd yr320).drop 40).all (y_okE ztb znw zcls (ytb yw00) yr320) = true := z_seg (a := 40) (k := 40) yq_yr320_1 yq_yr320_e2
theorem yq_yr320_e0 : ((y_cd yr320).drop 0).all (y_okE ztb znw zcls (ytb yw00) yr320) = true := z_seg (a := 0) (k := 40) yq_yr320_0 yq_yr320_e1
theorem yq_yr320 : (y_cd yr320).all (y_okE ztb znw zcls (ytb yw00) yr320) = true := z_seg0 yq_yr320_e0
theorem yo_yr320 : y_okM ztb zcls yr320 := y_okM_i (z_codeIn (ch := 12) (i := 101) (l := tables_1_12) rfl rfl) (z_w_ok (n := 1012) (by decide +kernel)) (by decide +kernel) ⟨by decide +kernel, by decide +kernel⟩ (z_w_ok (n := 12099) (by decide +kernel)) (z_w_ok (n := 12100) (by decide +kernel)) rfl rfl (by decide)
theorem yq_yr321_0 : (((y_cd yr321).drop 0).take 40).all (y_okE ztb znw zcls (ytb yw00) yr321) = true := by decide +kernel
theorem yq_yr321_1 : (((y_cd yr321).drop 40).take 40).all (y_okE ztb znw zcls (ytb yw00) yr321) = true := by decide +kernel
theorem yq_yr321_2 : (((y_cd yr321).drop 80).take 40).all (y_okE ztb znw zcls (ytb yw00) yr321) = true := by decide +kernel
theorem yq_yr321_e3 : ((y_cd yr321).drop 120).all (y_okE ztb znw zcls (ytb yw00) yr321) = true := z_seg_end (by decide +kernel)
theorem yq_yr321_e2 : ((y_cd yr321).drop 80).all (y_okE ztb znw zcls (ytb yw00) yr321) = true := z_seg (a := 80) (k := 40) yq_yr321_2 yq_yr321_e3
theorem yq_yr321_e1 : ((y_cd yr321).drop 40).all (y_okE ztb znw zcls (ytb yw00) yr321) = true := z_seg (a := 40) (k := 40) yq_yr321_1 yq_yr321_e2
theorem yq_yr321_e0 : ((y_cd yr321).drop 0).all (y_okE ztb znw zcls (ytb yw00) yr321) = true := z_seg (a := 0) (k := 40) yq_yr321_0 yq_yr321_e1
theorem yq_yr321 : (y_cd yr321).all (y_okE ztb znw zcls (ytb yw00) yr321) = true := z_seg0 yq_yr321_e0
theorem yo_yr321 : y_okM ztb zcls yr321 := y_okM_i (z_codeIn (ch := 12) (i := 113) (l := tables_1_12) rfl rfl) (z_w_ok (n := 1012) (by decide +kernel)) (by decide +kernel) ⟨by decide +kernel, by decide +kernel⟩ (z_w_ok (n := 12112) (by decide +kernel)) (z_w_ok (n := 180) (by decide +kernel)) rfl rfl (by decide)
theorem yq_yr322_0 : (((y_cd yr322).drop 0).take 40).all (y_okE ztb znw zcls (ytb yw00) yr322) = true := by decide +kernel
theorem yq_yr322_1 : (((y_cd yr322).drop 40).take 40).all (y_okE ztb znw zcls (ytb yw00) yr322) = true := by decide +kernel
theorem yq_yr322_2 : (((y_cd yr322).drop 80).take 40).all (y_okE ztb znw zcls (ytb yw00) yr322) = true := by decide +kernel
theorem yq_yr322_3 : (((y_cd yr322).drop 120).take 40).all (y_okE ztb znw zcls (ytb yw00) yr322) = true := by decide +kernel
theorem yq_yr322_e4 : ((y_cd yr322).drop 160).all (y_okE ztb znw zcls (ytb yw00) yr322) = true := z_seg_end (by decide +kernel)
theorem yq_yr322_e3 : ((y_cd yr322).drop 120).all (y_okE ztb znw zcls (ytb yw00) yr322) = true := z_seg (a := 120) (k := 40) yq_yr322_3 yq_yr322_e4
theorem yq_yr322_e2 : ((y_cd yr322).drop 80).all (y_okE ztb znw zcls (ytb yw00) yr322) = true := z_seg (a := 80) (k := 40) yq_yr322_2 yq_yr322_e3
theorem yq_yr322_e1 : ((y_cd yr322).drop 40).all (y_okE ztb znw zcls (ytb yw00) yr322) = true := z_seg (a := 40) (k := 40) yq_yr322_1 yq_yr322_e2
theorem yq_yr322_e0 : ((y_cd yr322).drop 0).all (y_okE ztb znw zcls (ytb yw00) yr322) = true := z_seg (a := 0) (k := 40) yq_yr322_0 yq_yr322_e1
theorem yq_yr322 : (y_cd yr322).all (y_okE ztb znw zcls (ytb yw00) yr322) = true := z_seg0 yq_yr322_e0
theorem yo_yr322 : y_okM ztb zcls yr322 := y_okM_i (z_codeIn (ch := 10) (i := 159) (l := tables_1_10) rfl rfl) (z_w_ok (n := 1012) (by decide +kernel)) (by decide +kernel) ⟨by decide +kernel, by decide +kernel⟩ (z_w_ok (n := 10158) (by decide +kernel)) (z_w_ok (n := 102) (by decide +kernel)) rfl rfl (by decide)
theorem yq_yr323_0 : (((y_cd yr323).drop 0).take 40).all (y_okE ztb znw zcls (ytb yw00) yr323) = true := by decide +kernel
theorem yq_yr323_1 : (((y_cd yr323).drop 40).take 40).all (y_okE ztb znw zcls (ytb yw00) yr323) = true := by decide +kernel
theorem yq_yr323_2 : (((y_cd yr323).drop 80).take 40).all (y_okE ztb znw zcls (ytb yw00) yr323) = true := by decide +kernel
theorem yq_yr323_3 : (((y_cd yr323).drop 120).take 40).all (y_okE ztb znw zcls (ytb yw00) yr323) = true := by decide +kernel
theorem yq_yr323_e4 : ((y_cd yr323).drop 160).all (y_okE ztb znw zcls (ytb yw00) yr323) = true := z_seg_end (by decide +kernel)
theorem yq_yr323_e3 : ((y_cd yr323).drop 120).all (y_okE ztb znw zcls (ytb yw00) yr323) = true := z_seg (a := 120) (k := 40) yq_yr323_3 yq_yr323_e4
theorem yq_yr323_e2 : ((y_cd yr323).drop 80).all (y_okE ztb znw zcls (ytb yw00) yr323) = true := z_seg (a := 80) (k := 40) yq_yr323_2 yq_yr323_e3
theorem yq_yr323_e1 : ((y_cd yr323).drop 40).all (y_okE ztb znw zcls (ytb yw00) yr323) = true := z_seg (a := 40) (k := 40) yq_yr323_1 yq_yr323_e2
theorem yq_yr323_e0 : ((y_cd yr323).drop 0).all (y_okE ztb znw zcls (ytb yw00) yr323) = true := z_seg (a := 0) (k := 40) yq_yr323_0 yq_yr323_e1
theorem yq_yr323 : (y_cd yr323).all (y_okE ztb znw zcls (ytb yw00) yr323) = true := z_seg0 yq_yr323_e0
theorem yo_yr323 : y_okM ztb zcls yr323 := y_okM_i (z_codeIn (ch := 10) (i := 159) (l := tables_1_10) rfl rfl) (z_w_ok (n := 1012) (by decide +kernel)) (by decide +kernel) ⟨by decide +kernel, by decide +kernel⟩ (z_w_ok (n := 10158) (by decide +kernel)) (z_w_ok (n := 102) (by decide +kernel)) rfl rfl (by decide)
theorem yq_yr324_0 : (((y_cd yr324).drop 0).take 40).all (y_okE ztb znw zcls (ytb yw00) yr324) = true := by decide +kernel
theorem yq_yr324_1 : (((y_cd yr324).drop 40).take 40).all (y_okE ztb znw zcls (ytb yw00) yr324) = true := by decide +kernel
theorem yq_yr324_2 : (((y_cd yr324).drop 80).take 40).all (y_okE ztb znw zcls (ytb yw00) yr324) = true := by decide +kernel
theorem yq_yr324_3 : (((y_cd yr324).drop 120).take 40).all (y_okE ztb znw zcls (ytb yw00) yr324) = true := by decide +kernel
theorem yq_yr324_e4 : ((y_cd yr324).drop 160).all (y_okE ztb znw zcls (ytb yw00) yr324) = true := z_seg_end (by decide +kernel)
theorem yq_yr324_e3 : ((y_cd yr324).drop 120).all (y_okE ztb znw zcls (ytb yw00) yr324) = true := z_seg (a := 120) (k := 40) yq_yr324_3 yq_yr324_e4
theorem yq_yr324_e2 : ((y_cd yr324).drop 80).all (y_okE ztb znw zcls (ytb yw00) yr324) = true := z_seg (a := 80) (k := 40) yq_yr324_2 yq_yr324_e3
theorem yq_yr324_e1 : ((y_cd yr324).drop 40).all (y_okE ztb znw zcls (ytb yw00) yr324) = true := z_seg (a := 40) (k := 40) yq_yr324_1 yq_yr324_e2
theorem yq_yr324_e0 : ((y_cd yr324).drop 0).all (y_okE ztb znw zcls (ytb yw00) yr324) = true := z_seg (a := 0) (k := 40) yq_yr324_0 yq_yr324_e1
theorem yq_yr324 : (y_cd yr324).all (y_okE ztb znw zcls (ytb yw00) yr324) = true := z_seg0 yq_yr324_e0
theorem yo_yr324 : y_okM ztb zcls yr324 := y_okM_i (z_codeIn (ch := 10) (i := 159) (l := tables_1_10) rfl rfl) (z_w_ok (n := 1012) (by decide +kernel)) (by decide +kernel) ⟨by decide +kernel, by decide +kernel⟩ (z_w_ok (n := 10158) (by decide +kernel)) (z_w_ok (n := 102) (by decide +kernel)) rfl rfl (by decide)
