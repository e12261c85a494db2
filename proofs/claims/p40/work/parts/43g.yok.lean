theorem yq_yr104 : (y_cd yr104).all (y_okE ztb znw zcls (ytb yw00) yr104) = true := by decide +kernel
theorem yo_yr104 : y_okM ztb zcls yr104 := y_okM_i (z_codeIn (ch := 4) (i := 202) (l := tables_1_4) rfl rfl) (z_w_ok (n := 1004) (by decide +kernel)) (by decide +kernel) ⟨by decide +kernel, by decide +kernel⟩ (z_w_ok (n := 4201) (by decide +kernel)) (z_w_ok (n := 27) (by decide +kernel)) rfl rfl (by decide)
theorem yq_yr105 : (y_cd yr105).all (y_okE ztb znw zcls (ytb yw00) yr105) = true := by decide +kernel
theorem yo_yr105 : y_okM ztb zcls yr105 := y_okM_i (z_codeIn (ch := 4) (i := 189) (l := tables_1_4) rfl rfl) (z_w_ok (n := 1004) (by decide +kernel)) (by decide +kernel) ⟨by decide +kernel, by decide +kernel⟩ (z_w_ok (n := 4188) (by decide +kernel)) (z_w_ok (n := 24) (by decide +kernel)) rfl rfl (by decide)
theorem yq_yr106_0 : (((y_cd yr106).drop 0).take 40).all (y_okE ztb znw zcls (ytb yw00) yr106) = true := by decide +kernel
theorem yq_yr106_1 : (((y_cd yr106).drop 40).take 40).all (y_okE ztb znw zcls (ytb yw00) yr106) = true := by decide +kernel
theorem yq_yr106_e2 : ((y_cd yr106).drop 80).all (y_okE ztb znw zcls (ytb yw00) yr106) = true := z_seg_end (by decide +kernel)
theorem yq_yr106_e1 : ((y_cd yr106).drop 40).all (y_okE ztb znw zcls (ytb yw00) yr106) = true := z_seg (a := 40) (k := 40) yq_yr106_1 yq_yr106_e2
theorem yq_yr106_e0 : ((y_cd yr106).drop 0).all (y_okE ztb znw zcls (ytb yw00) yr106) = true := z_seg (a := 0) (k := 40) yq_yr106_0 yq_yr106_e1
theorem yq_yr106 : (y_cd yr106).all (y_okE ztb znw zcls (ytb yw00) yr106) = true := z_seg0 yq_yr106_e0
theorem yo_yr106 : y_okM ztb zcls yr106 := y_okM_i (z_codeIn (ch := 4) (i := 194) (l := tables_1_4) rfl rfl) (z_w_ok (n := 1004) (by decide +kernel)) (by decide +kernel) ⟨by decide +kernel, by decide +kernel⟩ (z_w_ok (n := 4193) (by decide +kernel)) (z_w_ok (n := 25) (by decide +kernel)) rfl rfl (by decide)
theorem yq_yr107_0 : (((y_cd yr107).drop 0).take 40).all (y_okE ztb znw zcls (ytb yw00) yr107) = true := by decide +kernel
theorem yq_yr107_1 : (((y_cd yr107).drop 40).take 40).all (y_okE ztb znw zcls (ytb yw00) yr107) = true := by decide +kernel
theorem yq_yr107_e2 : ((y_cd yr107).drop 80).all (y_okE ztb znw zcls (ytb yw00) yr107) = true := z_seg_end (by decide +kernel)
theorem yq_yr107_e1 : ((y_cd yr107).drop 40).all (y_okE ztb znw zcls (ytb yw00) yr107) = true := z_seg (a := 40) (k := 40) yq_yr107_1 yq_yr107_e2
theorem yq_yr107_e0 : ((y_cd yr107).drop 0).all (y_okE ztb znw zcls (ytb yw00) yr107) = true := z_seg (a := 0) (k := 40) yq_yr107_0 yq_yr107_e1
theorem yq_yr107 : (y_cd yr107).all (y_okE ztb znw zcls (ytb yw00) yr107) = true := z_seg0 yq_yr107_e0
theorem yo_yr107 : y_okM ztb zcls yr107 := y_okM_i (z_codeIn (ch := 4) (i := 198) (l := tables_1_4) rfl rfl) (z_w_ok (n := 1004) (by decide +kernel)) (by decide +kernel) ⟨by decide +kernel, by decide +kernel⟩ (z_w_ok (n := 4197) (by decide +kernel)) (z_w_ok (n := 26) (by decide +kernel)) rfl rfl (by decide)
theorem yq_yr108 : (y_cd yr108).all (y_okE ztb znw zcls (ytb yw00) yr108) = true := by decide +kernel
theorem yo_yr108 : y_okM ztb zcls yr108 := y_okM_i (z_codeIn (ch := 4) (i := 210) (l := tables_1_4) rfl rfl) (z_w_ok (n := 1004) (by decide +kernel)) (by decide +kernel) ⟨by decide +kernel, by decide +kernel⟩ (z_w_ok (n := 4209) (by decide +kernel)) (z_w_ok (n := 29) (by decide +kernel)) rfl rfl (by decide)
theorem yq_yr109 : (y_cd yr109).all (y_okE ztb znw zcls (ytb yw00) yr109) = true := by decide +kernel
theorem yo_yr109 : y_okM ztb zcls yr109 := y_okM_i (z_codeIn (ch := 3) (i := 131) (l := tables_1_3) rfl rfl) (z_w_ok (n := 1008) (by decide +kernel)) (by decide +kernel) ⟨by decide +kernel, by decide +kernel⟩ (z_w_ok (n := 3129) (by decide +kernel)) (z_w_ok (n := 3130) (by decide +kernel)) rfl rfl (by decide)
theorem yq_yr110_0 : (((y_cd yr110).drop 0).take 40).all (y_okE ztb znw zcls (ytb yw00) yr110) = true := by decide +kernel
theorem yq_yr110_1 : (((y_cd yr110).drop 40).take 40).all (y_okE ztb znw zcls (ytb yw00) yr110) = true := by decide +kernel
theorem yq_yr110_e2 : ((y_cd yr110).drop 80).all (y_okE ztb znw zcls (ytb yw00) yr110) = true := z_seg_end (by decide +kernel)
theorem yq_yr110_e1 : ((y_cd yr110).drop 40).all (y_okE ztb znw zcls (ytb yw00) yr110) = true := z_seg (a := 40) (k := 40) yq_yr110_1 yq_yr110_e2
theorem yq_yr110_e0 : ((y_cd yr110).drop 0).all (y_okE ztb znw zcls (ytb yw00) yr110) = true := z_seg (a := 0) (k := 40) yq_yr110_0 yq_yr110_e1
theorem yq_yr110 : (y_cd yr110).all (y_okE ztb znw zcls (ytb yw00) yr110) = true := z_seg0 yq_yr110_e0
theorem yo_yr110 : y_okM ztb zcls yr110 := y_okM_i (z_codeIn (ch := 6) (i := 188) (l := tables_1_6) rfl rfl) (z_w_ok (n := 1008) (by decide +kernel)) (by decide +kernel) ⟨by decide +kernel, by decide +kernel⟩ (z_w_ok (n := 6187) (by decide +kernel)) (z_w_ok (n := 54) (by decide +kernel)) rfl rfl (by decide)
theorem yq_yr111 : (y_cd yr111).all (y_okE ztb znw zcls (ytb yw00) yr111) = true := by decide +kernel
theorem yo_yr111 : y_okM ztb zcls yr111 := y_okM_i (z_codeIn (ch := 6) (i := 3) (l := tables_1_6) rfl rfl) (z_w_ok (n := 1008) (by decide +kernel)) (by decide +kernel) ⟨by decide +kernel, by decide +kernel⟩ (z_w_ok (n := 6001) (by decide +kernel)) (z_w_ok (n := 6002) (by decide +kernel)) rfl rfl (by decide)
theorem yq_yr112_0 : (((y_cd yr112).drop 0).take 40).all (y_okE ztb znw zcls (ytb yw00) yr112) = true := by decide +kernel
theorem yq_yr112_1 : (((y_cd yr112).drop 40).take 40).all (y_okE ztb znw zcls (ytb yw00) yr112) = true := by decide +kernel
theorem yq_yr112_e2 : ((y_cd yr112).drop 80).all (y_okE ztb znw zcls (ytb yw00) yr112) = true := z_seg_end (by decide +kernel)
theorem yq_yr112_e1 : ((y_cd yr112).drop 40).all (y_okE ztb znw zcls (ytb yw00) yr112) = true := z_seg (a := 40) (k := 40) yq_yr112_1 yq_yr112_e2
theorem yq_yr112_e0 : ((y_cd yr112).drop 0).all (y_okE ztb znw zcls (ytb yw00) yr112) = true := z_seg (a := 0) (k := 40) yq_yr112_0 yq_yr112_e1
theorem yq_yr112 : (y_cd yr112).all (y_okE ztb znw zcls (ytb yw00) yr112) = true := z_seg0 yq_yr112_e0
theorem yo_yr112 : y_okM ztb zcls yr112 := y_okM_i (z_codeIn (ch := 6) (i := 184) (l := tables_1_6) rfl rfl) (z_w_ok (n := 1008) (by decide +kernel)) (by decide +kernel) ⟨by decide +kernel, by decide +kernel⟩ (z_w_ok (n := 6183) (by decide +kernel)) (z_w_ok (n := 53) (by decide +kernel)) rfl rfl (by decide)
theorem yq_yr113 : (y_cd yr113).all (y_okE ztb znw zcls (ytb yw00) yr113) = true := by decide +kernel
theorem yo_yr113 : y_okM ztb zcls yr113 := y_okM_i (z_codeIn (ch := 5) (i := 193) (l := tables_1_5) rfl rfl) (z_w_ok (n := 1008) (by decide +kernel)) (by decide +kernel) ⟨by decide +kernel, by decide +kernel⟩ (z_w_ok (n := 5191) (by decide +kernel)) (z_w_ok (n := 5192) (by decide +kernel)) rfl rfl (by decide)
theorem yq_yr114_0 : (((y_cd yr114).drop 0).take 40).all (y_okE ztb znw zcls (ytb yw00) yr114) = true := by decide +kernel
theorem yq_yr114_1 : (((y_cd yr114).drop 40).take 40).all (y_okE ztb znw zcls (ytb yw00) yr114) = true := by decide +kernel
theorem yq_yr114_e2 : ((y_cd yr114).drop 80).all (y_okE ztb znw zcls (ytb yw00) yr114) = true := z_seg_end (by decide +kernel)
theorem yq_yr114_e1 : ((y_cd yr114).drop 40).all (y_okE ztb znw zcls (ytb yw00) yr114) = true := z_seg (a := 40) (k := 40) yq_yr114_1 yq_yr114_e2
theorem yq_yr114_e0 : ((y_cd yr114).drop 0).all (y_okE ztb znw zcls (ytb yw00) yr114) = true := z_seg (a := 0) (k := 40) yq_yr114_0 yq_yr114_e1
theorem yq_yr114 : (y_cd yr114).all (y_okE ztb znw zcls (ytb yw00) yr114) = true := z_seg0 yq_yr114_e0
theorem yo_yr114 : y_okM ztb zcls yr114 := y_okM_i (z_codeIn (ch := 6) (i := 176) (l := tables_1_6) rfl rfl) (z_w_ok (n := 1008) (by decide +kernel)) (by decide +kernel) ⟨by decide +kernel, by decide +kernel⟩ (z_w_ok (n := 6175) (by decide +kernel)) (z_w_ok (n := 51) (by decide +kernel)) rfl rfl (by decide)
theorem yq_yr115 : (y_cd yr115).all (y_okE ztb znw zcls (ytb yw00) yr115) = true := by decide +kernel
theorem yo_yr115 : y_okM ztb zcls yr115 := y_okM_i (z_codeIn (ch := 6) (i := 180) (l := tables_1_6) rfl rfl) (z_w_ok (n := 1008) (by decide +kernel)) (by decide +kernel) ⟨by decide +kernel, by decide +kernel⟩ (z_w_ok (n := 6179) (by decide +kernel)) (z_w_ok (n := 52) (by decide +kernel)) rfl rfl (by decide)
theorem yq_yr116 : (y_cd yr116).all (y_okE ztb znw zcls (ytb yw00) yr116) = true := by decide +kernel
theorem yo_yr116 : y_okM ztb zcls yr116 := y_okM_i (z_codeIn (ch := 5) (i := 205) (l := tables_1_5) rfl rfl) (z_w_ok (n := 1008) (by decide +kernel)) (by decide +kernel) ⟨by decide +kernel, by decide +kernel⟩ (z_w_ok (n := 5203) (by decide +kernel)) (z_w_ok (n := 5204) (by decide +kernel)) rfl rfl (by decide)
theorem yq_yr117 : (y_cd yr117).all (y_okE ztb znw zcls (ytb yw00) yr117) = true := by decide +kernel
theorem yo_yr117 : y_okM ztb zcls yr117 := y_okM_i (z_codeIn (ch := 6) (i := 171) (l := tables_1_6) rfl rfl) (z_w_ok (n := 1008) (by decide +kernel)) (by decide +kernel) ⟨by decide +kernel, by decide +kernel⟩ (z_w_ok (n := 6170) (by decide +kernel)) (z_w_ok (n := 50) (by decide +kernel)) rfl rfl (by decide)
theorem yq_yr118_0 : (((y_cd yr118).drop 0).take 40).all (y_okE ztb znw zcls (ytb yw00) yr118) = true := by decide +kernel
theorem yq_yr118_1 : (((y_cd yr118).drop 40).take 40).all (y_okE ztb znw zcls (ytb yw00) yr118) = true := by decide +kernel
theorem yq_yr118_e2 : ((y_cd yr118).drop 80).all (y_okE ztb znw zcls (ytb yw00) yr118) = true := z_seg_end (by decide +kernel)
theorem yq_yr118_e1 : ((y_cd yr118).drop 40).all (y_okE ztb znw zcls (ytb yw00) yr118) = true := z_seg (a := 40) (k := 40) yq_yr118_1 yq_yr118_e2
theorem yq_yr118_e0 : ((y_cd yr118).drop 0).all (y_okE ztb znw zcls (ytb yw00) yr118) = true := z_seg (a := 0) (k := 40) yq_yr118_0 yq_yr118_e1
theorem yq_yr118 : (y_cd yr118).all (y_okE ztb znw zcls (ytb yw00) yr118) = true := z_seg0 yq_yr118_e0
theorem yo_yr118 : y_okM ztb zcls yr118 := y_okM_i (z_codeIn (ch := 6) (i := 158) (l := tables_1_6) rfl rfl) (z_w_ok (n := 1008) (by decide +kernel)) (by decide +kernel) ⟨by decide +kernel, by decide +kernel⟩ (z_w_ok (n := 6157) (by decide +kernel)) (z_w_ok (n := 48) (by decide +kernel)) rfl rfl (by decide)
theorem yq_yr119 : (y_cd yr119).all (y_okE ztb znw zcls (ytb yw00) yr119) = true := by decide +kernel
theorem yo_yr119 : y_okM ztb zcls yr119 := y_okM_i (z_codeIn (ch := 6) (i := 154) (l := tables_1_6) rfl rfl) (z_w_ok (n := 1008) (by decide +kernel)) (by decide +kernel) ⟨by decide +kernel, by decide +kernel⟩ (z_w_ok (n := 6152) (by decide +kernel)) (z_w_ok (n := 6153) (by decide +kernel)) rfl rfl (by decide)
theorem yq_yr120 : (y_cd yr120).all (y_okE ztb znw zcls (ytb yw00) yr120) = true := by decide +kernel
theorem yo_yr120 : y_okM ztb zcls yr120 := y_okM_i (z_codeIn (ch := 5) (i := 197) (l := tables_1_5) rfl rfl) (z_w_ok (n := 1008) (by decide +kernel)) (by decide +kernel) ⟨by decide +kernel, by decide +kernel⟩ (z_w_ok (n := 5196) (by decide +kernel)) (z_w_ok (n := 41) (by decide +kernel)) rfl rfl (by decide)
theorem yq_yr121_0 : (((y_cd yr121).drop 0).take 40).all (y_okE ztb znw zcls (ytb yw00) yr121) = true := by decide +kernel
theorem yq_yr121_1 : (((y_cd yr121).drop 40).take 40).all (y_okE ztb znw zcls (ytb yw00) yr121) = true := by decide +kernel
theorem yq_yr121_e2 : ((y_cd yr121).drop 80).all (y_okE ztb znw zcls (ytb yw00) yr121) = true := z_seg_end (by decide +kernel)
theorem yq_yr121_e1 : ((y_cd yr121).drop 40).all (y_okE ztb znw zcls (ytb yw00) yr121) = true := z_seg (a := 40) (k := 40) yq_yr121_1 yq_yr121_e2
theorem yq_yr121_e0 : ((y_cd yr121).drop 0).all (y_okE ztb znw zcls (ytb yw00) yr121) = true := z_seg (a := 0) (k := 40) yq_yr121_0 yq_yr121_e1
theorem yq_yr121 : (y_cd yr121).all (y_okE ztb znw zcls (ytb yw00) yr121) = true := z_seg0 yq_yr121_e0
theorem yo_yr121 : y_okM ztb zcls yr121 := y_okM_i (z_codeIn (ch := 6) (i := 126) (l := tables_1_6) rfl rfl) (z_w_ok (n := 1008) (by decide +kernel)) (by decide +kernel) ⟨by decide +kernel, by decide +kernel⟩ (z_w_ok (n := 6125) (by decide +kernel)) (z_w_ok (n := 43) (by decide +kernel)) rfl rfl (by decide)
theorem yq_yr122_0 : (((y_cd yr122).drop 0).take 40).all (y_okE ztb znw zcls (ytb yw00) yr122) = true := by decide +kernel
theorem yq_yr122_1 : (((y_cd yr122).drop 40).take 40).all (y_okE ztb znw zcls (ytb yw00) yr122) = true := by decide +kernel
theorem yq_yr122_e2 : ((y_cd yr122).drop 80).all (y_okE ztb znw zcls (ytb yw00) yr122) = true := z_seg_end (by decide +kernel)
theorem yq_yr122_e1 : ((y_cd yr122).drop 40).all (y_okE ztb znw zcls (ytb yw00) yr122) = true := z_seg (a := 40) (k := 40) yq_yr122_1 yq_yr122_e2
theorem yq_yr122_e0 : ((y_cd yr122).drop 0).all (y_okE ztb znw zcls (ytb yw00) yr122) = true := z_seg (a := 0) (k := 40) yq_yr122_0 yq_yr122_e1
theorem yq_yr122 : (y_cd yr122).all (y_okE ztb znw zcls (ytb yw00) yr122) = true := z_seg0 yq_yr122_e0
theorem yo_yr122 : y_okM ztb zcls yr122 := y_okM_i (z_codeIn (ch := 6) (i := 134) (l := tables_1_6) rfl rfl) (z_w_ok (n := 1008) (by decide +kernel)) (by decide +kernel) ⟨by decide +kernel, by decide +kernel⟩ (z_w_ok (n := 6133) (by decide +kernel)) (z_w_ok (n := 45) (by decide +kernel)) rfl rfl (by decide)
theorem yq_yr123 : (y_cd yr123).all (y_okE ztb znw zcls (ytb yw00) yr123) = true := by decide +kernel
theorem yo_yr123 : y_okM ztb zcls yr123 := y_okM_i (z_codeIn (ch := 6) (i := 163) (l := tables_1_6) rfl rfl) (z_w_ok (n := 1008) (by decide +kernel)) (by decide +kernel) ⟨by decide +kernel, by decide +kernel⟩ (z_w_ok (n := 6161) (by decide +kernel)) (z_w_ok (n := 6162) (by decide +kernel)) rfl rfl (by decide)
theorem yq_yr124 : (y_cd yr124).all (y_okE ztb znw zcls (ytb yw00) yr124) = true := by decide +kernel
theorem yo_yr124 : y_okM ztb zcls yr124 := y_okM_i (z_codeIn (ch := 7) (i := 87) (l := tables_1_7) rfl rfl) (z_w_ok (n := 1008) (by decide +kernel)) (by decide +kernel) ⟨by decide +kernel, by decide +kernel⟩ (z_w_ok (n := 7085) (by decide +kernel)) (z_w_ok (n := 7086) (by decide +kernel)) rfl rfl (by decide)
theorem yq_yr125 : (y_cd yr125).all (y_okE ztb znw zcls (ytb yw00) yr125) = true := by decide +kernel
theorem yo_yr125 : y_okM ztb zcls yr125 := y_okM_i (z_codeIn (ch := 7) (i := 62) (l := tables_1_7) rfl rfl) (z_w_ok (n := 1001) (by decide +kernel)) (by decide +kernel) ⟨by decide +kernel, by decide +kernel⟩ (z_w_ok (n := 7060) (by decide +kernel)) (z_w_ok (n := 7061) (by decide +kernel)) rfl rfl (by decide)
theorem yq_yr126 : (y_cd yr126).all (y_okE ztb znw zcls (ytb yw00) yr126) = true := by decide +kernel
theorem yo_yr126 : y_okM ztb zcls yr126 := y_okM_i (z_codeIn (ch := 3) (i := 91) (l := tables_1_3) rfl rfl) (z_w_ok (n := 1001) (by decide +kernel)) (by decide +kernel) ⟨by decide +kernel, by decide +kernel⟩ (z_w_ok (n := 3090) (by decide +kernel)) (z_w_ok (n := 0) (by decide +kernel)) rfl rfl (by decide)
theorem yq_yr127 : (y_cd yr127).all (y_okE ztb znw zcls (ytb yw00) yr127) = true := by decide +kernel
theorem yo_yr127 : y_okM ztb zcls yr127 := y_okM_i (z_codeIn (ch := 5) (i := 225) (l := tables_1_5) rfl rfl) (z_w_ok (n := 1001) (by decide +kernel)) (by decide +kernel) ⟨by decide +kernel, by decide +kernel⟩ (z_w_ok (n := 5223) (by decide +kernel)) (z_w_ok (n := 5224) (by decide +kernel)) rfl rfl (by decide)
theorem yq_yr128 : (y_cd yr128).all (y_okE ztb znw zcls (ytb yw00) yr128) = true := by decide +kernel
theorem yo_yr128 : y_okM ztb zcls yr128 := y_okM_i (z_codeIn (ch := 5) (i := 120) (l := tables_1_5) rfl rfl) (z_w_ok (n := 1001) (by decide +kernel)) (by decide +kernel) ⟨by decide +kernel, by decide +kernel⟩ (z_w_ok (n := 5118) (by decide +kernel)) (z_w_ok (n := 5119) (by decide +kernel)) rfl rfl (by decide)
theorem yq_yr129 : (y_cd yr129).all (y_okE ztb znw zcls (ytb yw00) yr129) = true := by decide +kernel
theorem yo_yr129 : y_okM ztb zcls yr129 := y_okM_i (z_codeIn (ch := 5) (i := 181) (l := tables_1_5) rfl rfl) (z_w_ok (n := 1001) (by decide +kernel)) (by decide +kernel) ⟨by decide +kernel, by decide +kernel⟩ (z_w_ok (n := 5179) (by decide +kernel)) (z_w_ok (n := 5180) (by decide +kernel)) rfl rfl (by decide)
theorem yq_yr130 : (y_cd yr130).all (y_okE ztb znw zcls (ytb yw00) yr130) = true := by decide +kernel
theorem yo_yr130 : y_okM ztb zcls yr130 := y_okM_i (z_codeIn (ch := 8) (i := 62) (l := tables_1_8) rfl rfl) (z_w_ok (n := 1001) (by decide +kernel)) (by decide +kernel) ⟨by decide +kernel, by decide +kernel⟩ (z_w_ok (n := 8060) (by decide +kernel)) (z_w_ok (n := 8061) (by decide +kernel)) rfl rfl (by decide)
theorem yq_yr131 : (y_cd yr131).all (y_okE ztb znw zcls (ytb yw00) yr131) = true := by decide +kernel
theorem yo_yr131 : y_okM ztb zcls yr131 := y_okM_i (z_codeIn (ch := 8) (i := 23) (l := tables_1_8) rfl rfl) (z_w_ok (n := 1001) (by decide +kernel)) (by decide +kernel) ⟨by decide +kernel, by decide +kernel⟩ (z_w_ok (n := 8021) (by decide +kernel)) (z_w_ok (n := 8022) (by decide +kernel)) rfl rfl (by decide)
theorem yq_yr132 : (y_cd yr132).all (y_okE ztb znw zcls (ytb yw00) yr132) = true := by decide +kernel
theorem yo_yr132 : y_okM ztb zcls yr132 := y_okM_i (z_codeIn (ch := 5) (i := 21) (l := tables_1_5) rfl rfl) (z_w_ok (n := 1001) (by decide +kernel)) (by decide +kernel) ⟨by decide +kernel, by decide +kernel⟩ (z_w_ok (n := 5019) (by decide +kernel)) (z_w_ok (n := 5020) (by decide +kernel)) rfl rfl (by decide)
theorem yq_yr133_0 : (((y_cd yr133).drop 0).take 40).all (y_okE ztb znw zcls (ytb yw00) yr133) = true := by decide +kernel
theorem yq_yr133_1 : (((y_cd yr133).drop 40).take 40).all (y_okE ztb znw zcls (ytb yw00) yr133) = true := by decide +kernel
theorem yq_yr133_e2 : ((y_cd yr133).drop 80).all (y_okE ztb znw zcls (ytb yw00) yr133) = true := z_seg_end (by decide +kernel)
theorem yq_yr133_e1 : ((y_cd yr133).drop 40).all (y_okE ztb znw zcls (ytb yw00) yr133) = true := z_seg (a := 40) (k := 40) yq_yr133_1 yq_yr133_e2
theorem yq_yr133_e0 : ((y_cd yr133).drop 0).all (y_okE ztb znw zcls (ytb yw00) yr133) = true := z_seg (a := 0) (k := 40) yq_yr133_0 yq_yr133_e1
theorem yq_yr133 : (y_cd yr133).all (y_okE ztb znw zcls (ytb yw00) yr133) = true := z_seg0 yq_yr133_e0
theorem yo_yr133 : y_okM ztb zcls yr133 := y_okM_i (z_codeIn (ch := 8) (i := 58) (l := tables_1_8) rfl rfl) (z_w_ok (n := 1001) (by decide +kernel)) (by decide +kernel) ⟨by decide +kernel, by decide +kernel⟩ (z_w_ok (n := 8056) (by decide +kernel)) (z_w_ok (n := 8057) (by decide +kernel)) rfl rfl (by decide)
theorem yq_yr134 : (y_cd yr134).all (y_okE ztb znw zcls (ytb yw00) yr134) = true := by decide +kernel
theorem yo_yr134 : y_okM ztb zcls yr134 := y_okM_i (z_codeIn (ch := 7) (i := 100) (l := tables_1_7) rfl rfl) (z_w_ok (n := 1001) (by decide +kernel)) (by decide +kernel) ⟨by decide +kernel, by decide +kernel⟩ (z_w_ok (n := 7098) (by decide +kernel)) (z_w_ok (n := 7099) (by decide +kernel)) rfl rfl (by decide)
theorem yq_yr135 : (y_cd yr135).all (y_okE ztb znw zcls (ytb yw00) yr135) = true := by decide +kernel
theorem yo_yr135 : y_okM ztb zcls yr135 := y_okM_i (z_codeIn (ch := 8) (i := 27) (l := tables_1_8) rfl rfl) (z_w_ok (n := 1001) (by decide +kernel)) (by decide +kernel) ⟨by decide +kernel, by decide +kernel⟩ (z_w_ok (n := 8025) (by decide +kernel)) (z_w_ok (n := 8026) (by decide +kernel)) rfl rfl (by decide)
theorem yq_yr136 : (y_cd yr136).all (y_okE ztb znw zcls (ytb yw00) yr136) = true := by decide +kernel
theorem yo_yr136 : y_okM ztb zcls yr136 := y_okM_i (z_codeIn (ch := 3) (i := 185) (l := tables_1_3) rfl rfl) (z_w_ok (n := 1001) (by decide +kernel)) (by decide +kernel) ⟨by decide +kernel, by decide +kernel⟩ (z_w_ok (n := 3183) (by decide +kernel)) (z_w_ok (n := 3184) (by decide +kernel)) rfl rfl (by decide)
theorem yq_yr137 : (y_cd yr137).all (y_okE ztb znw zcls (ytb yw00) yr137) = true := by decide +kernel
theorem yo_yr137 : y_okM ztb zcls yr137 := y_okM_i (z_codeIn (ch := 5) (i := 177) (l := tables_1_5) rfl rfl) (z_w_ok (n := 1001) (by decide +kernel)) (by decide +kernel) ⟨by decide +kernel, by decide +kernel⟩ (z_w_ok (n := 5175) (by decide +kernel)) (z_w_ok (n := 5176) (by decide +kernel)) rfl rfl (by decide)
theorem yq_yr138 : (y_cd yr138).all (y_okE ztb znw zcls (ytb yw00) yr138) = true := by decide +kernel
theorem yo_yr138 : y_okM ztb zcls yr138 := y_okM_i (z_codeIn (ch := 3) (i := 172) (l := tables_1_3) rfl rfl) (z_w_ok (n := 1001) (by decide +kernel)) (by decide +kernel) ⟨by decide +kernel, by decide +kernel⟩ (z_w_ok (n := 3170) (by decide +kernel)) (z_w_ok (n := 3171) (by decide +kernel)) rfl rfl (by decide)
theorem yq_yr139 : (y_cd yr139).all (y_okE ztb znw zcls (ytb yw00) yr139) = true := by decide +kernel
theorem yo_yr139 : y_okM ztb zcls yr139 := y_okM_i (z_codeIn (ch := 5) (i := 156) (l := tables_1_5) rfl rfl) (z_w_ok (n := 1001) (by decide +kernel)) (by decide +kernel) ⟨by decide +kernel, by decide +kernel⟩ (z_w_ok (n := 5154) (by decide +kernel)) (z_w_ok (n := 5155) (by decide +kernel)) rfl rfl (by decide)
theorem yq_yr140 : (y_cd yr140).all (y_okE ztb znw zcls (ytb yw00) yr140) = true := by decide +kernel
theorem yo_yr140 : y_okM ztb zcls yr140 := y_okM_i (z_codeIn (ch := 8) (i := 6) (l := tables_1_8) rfl rfl) (z_w_ok (n := 1001) (by decide +kernel)) (by decide +kernel) ⟨by decide +kernel, by decide +kernel⟩ (z_w_ok (n := 8004) (by decide +kernel)) (z_w_ok (n := 8005) (by decide +kernel)) rfl rfl (by decide)
theorem yq_yr141_0 : (((y_cd yr141).drop 0).take 40).all (y_okE ztb znw zcls (ytb yw00) yr141) = true := by decide +kernel
theorem yq_yr141_1 : (((y_cd yr141).drop 40).take 40).all (y_okE ztb znw zcls (ytb yw00) yr141) = true := by decide +kernel
theorem yq_yr141_e2 : ((y_cd yr141).drop 80).all (y_okE ztb znw zcls (ytb yw00) yr141) = true := z_seg_end (by decide +kernel)
theorem yq_yr141_e1 : ((y_cd yr141).drop 40).all (y_okE ztb znw zcls (ytb yw00) yr141) = true := z_seg (a := 40) (k := 40) yq_yr141_1 yq_yr141_e2
theorem yq_yr141_e0 : ((y_cd yr141).drop 0).all (y_okE ztb znw zcls (ytb yw00) yr141) = true := z_seg (a := 0) (k := 40) yq_yr141_0 yq_yr141_e1
theorem yq_yr141 : (y_cd yr141).all (y_okE ztb znw zcls (ytb yw00) yr141) = true := z_seg0 yq_yr141_e0
theorem yo_yr141 : y_okM ztb zcls yr141 := y_okM_i (z_codeIn (ch := 7) (i := 219) (l := tables_1_7) rfl rfl) (z_w_ok (n := 1001) (by decide +kernel)) (by decide +kernel) ⟨by decide +kernel, by decide +kernel⟩ (z_w_ok (n := 7217) (by decide +kernel)) (z_w_ok (n := 7218) (by decide +kernel)) rfl rfl (by decide)
theorem yq_yr142 : (y_cd yr142).all (y_okE ztb znw zcls (ytb yw00) yr142) = true := by decide +kernel
theorem yo_yr142 : y_okM ztb zcls yr142 := y_okM_i (z_codeIn (ch := 8) (i := 11) (l := tables_1_8) rfl rfl) (z_w_ok (n := 1001) (by decide +kernel)) (by decide +kernel) ⟨by decide +kernel, by decide +kernel⟩ (z_w_ok (n := 8009) (by decide +kernel)) (z_w_ok (n := 8010) (by decide +kernel)) rfl rfl (by decide)
theorem yq_yr143 : (y_cd yr143).all (y_okE ztb znw zcls (ytb yw00) yr143) = true := by decide +kernel
theorem yo_yr143 : y_okM ztb zcls yr143 := y_okM_i (z_codeIn (ch := 5) (i := 144) (l := tables_1_5) rfl rfl) (z_w_ok (n := 1001) (by decide +kernel)) (by decide +kernel) ⟨by decide +kernel, by decide +kernel⟩ (z_w_ok (n := 5142) (by decide +kernel)) (z_w_ok (n := 5143) (by decide +kernel)) rfl rfl (by decide)
theorem yq_yr144 : (y_cd yr144).all (y_okE ztb znw zcls (ytb yw00) yr144) = true := by decide +kernel
theorem yo_yr144 : y_okM ztb zcls yr144 := y_okM_i (z_codeIn (ch := 7) (i := 58) (l := tables_1_7) rfl rfl) (z_w_ok (n := 1001) (by decide +kernel)) (by decide +kernel) ⟨by decide +kernel, by decide +kernel⟩ (z_w_ok (n := 7056) (by decide +kernel)) (z_w_ok (n := 7057) (by decide +kernel)) rfl rfl (by decide)
theorem yq_yr145 : (y_cd yr145).all (y_okE ztb znw zcls (ytb yw00) yr145) = true := by decide +kernel
theorem yo_yr145 : y_okM ztb zcls yr145 := y_okM_i (z_codeIn (ch := 7) (i := 153) (l := tables_1_7) rfl rfl) (z_w_ok (n := 1001) (by decide +kernel)) (by decide +kernel) ⟨by decide +kernel, by decide +kernel⟩ (z_w_ok (n := 7151) (by decide +kernel)) (z_w_ok (n := 7152) (by decide +kernel)) rfl rfl (by decide)
theorem yq_yr146 : (y_cd yr146).all (y_okE ztb znw zcls (ytb yw00) yr146) = true := by decide +kernel
theorem yo_yr146 : y_okM ztb zcls yr146 := y_okM_i (z_codeIn (ch := 6) (i := 118) (l := tables_1_6) rfl rfl) (z_w_ok (n := 1001) (by decide +kernel)) (by decide +kernel) ⟨by decide +kernel, by decide +kernel⟩ (z_w_ok (n := 6116) (by decide +kernel)) (z_w_ok (n := 6117) (by decide +kernel)) rfl rfl (by decide)
theorem yq_yr147 : (y_cd yr147).all (y_okE ztb znw zcls (ytb yw00) yr147) = true := by decide +kernel
theorem yo_yr147 : y_okM ztb zcls yr147 := y_okM_i (z_codeIn (ch := 7) (i := 211) (l := tables_1_7) rfl rfl) (z_w_ok (n := 1001) (by decide +kernel)) (by decide +kernel) ⟨by decide +kernel, by decide +kernel⟩ (z_w_ok (n := 7209) (by decide +kernel)) (z_w_ok (n := 7210) (by decide +kernel)) rfl rfl (by decide)
theorem yq_yr148 : (y_cd yr148).all (y_okE ztb znw zcls (ytb yw00) yr148) = true := by decide +kernel
theorem yo_yr148 : y_okM ztb zcls yr148 := y_okM_i (z_codeIn (ch := 5) (i := 221) (l := tables_1_5) rfl rfl) (z_w_ok (n := 1001) (by decide +kernel)) (by decide +kernel) ⟨by decide +kernel, by decide +kernel⟩ (z_w_ok (n := 5219) (by decide +kernel)) (z_w_ok (n := 5220) (by decide +kernel)) rfl rfl (by decide)
theorem yq_yr149_0 : (((y_cd yr149).drop 0).take 40).all (y_okE ztb znw zcls (ytb yw00) yr149) = true := by decide +kernel
theorem yq_yr149_1 : (((y_cd yr149).drop 40).take 40).all (y_okE ztb znw zcls (ytb yw00) yr149) = true := by decide +kernel
theorem yq_yr149_e2 : ((y_cd yr149).drop 80).all (y_okE ztb znw zcls (ytb yw00) yr149) = true := z_seg_end (by decide +kernel)
theorem yq_yr149_e1 : ((y_cd yr149).drop 40).all (y_okE ztb znw zcls (ytb yw00) yr149) = true := z_seg (a := 40) (k := 40) yq_yr149_1 yq_yr149_e2
theorem yq_yr149_e0 : ((y_cd yr149).drop 0).all (y_okE ztb znw zcls (ytb yw00) yr149) = true := z_seg (a := 0) (k := 40) yq_yr149_0 yq_yr149_e1
theorem yq_yr149 : (y_cd yr149).all (y_okE ztb znw zcls (ytb yw00) yr149) = true := z_seg0 yq_yr149_e0
theorem yo_yr149 : y_okM ztb zcls yr149 := y_okM_i (z_codeIn (ch := 8) (i := 15) (l := tables_1_8) rfl rfl) (z_w_ok (n := 1001) (by decide +kernel)) (by decide +kernel) ⟨by decide +kernel, by decide +kernel⟩ (z_w_ok (n := 8013) (by decide +kernel)) (z_w_ok (n := 8014) (by decide +kernel)) rfl rfl (by decide)
theorem yq_yr150 : (y_cd yr150).all (y_okE ztb znw zcls (ytb yw00) yr150) = true := by decide +kernel
theorem yo_yr150 : y_okM ztb zcls yr150 := y_okM_i (z_codeIn (ch := 3) (i := 189) (l := tables_1_3) rfl rfl) (z_w_ok (n := 1001) (by decide +kernel)) (by decide +kernel) ⟨by decide +kernel, by decide +kernel⟩ (z_w_ok (n := 3187) (by decide +kernel)) (z_w_ok (n := 3188) (by decide +kernel)) rfl rfl (by decide)
