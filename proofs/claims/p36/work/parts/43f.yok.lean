theorem yq_yr93_0 : (((y_cd yr93).drop 0).take 40).all (y_okE ztb znw zcls (ytb yw00) yr93) = true := by decide +kernel
theorem yq_yr93_1 : (((y_cd yr93).drop 40).take 40).all (y_okE ztb znw zcls (ytb yw00) yr93) = true := by decide +kernel
theorem yq_yr93_2 : (((y_cd yr93).drop 80).take 40).all (y_okE ztb znw zcls (ytb yw00) yr93) = true := by decide +kernel
theorem yq_yr93_3 : (((y_cd yr93).drop 120).take 40).all (y_okE ztb znw zcls (ytb yw00) yr93) = true := by decide +kernel
theorem yq_yr93_e4 : ((y_cd yr93).drop 160).all (y_okE ztb znw zcls (ytb yw00) yr93) = true := z_seg_end (by decide +kernel)
theorem yq_yr93_e3 : ((y_cd yr93).drop 120).all (y_okE ztb znw zcls (ytb yw00) yr93) = true := z_seg (a := 120) (k := 40) yq_yr93_3 yq_yr93_e4
theorem yq_yr93_e2 : ((y_cd yr93).drop 80).all (y_okE ztb znw zcls (ytb yw00) yr93) = true := z_seg (a := 80) (k := 40) yq_yr93_2 yq_yr93_e3
theorem yq_yr93_e1 : ((y_cd yr93).drop 40).all (y_okE ztb znw zcls (ytb yw00) yr93) = true := z_seg (a := 40) (k := 40) yq_yr93_1 yq_yr93_e2
theorem yq_yr93_e0 : ((y_cd yr93).drop 0).all (y_okE ztb znw zcls (ytb yw00) yr93) = true := z_seg (a := 0) (k := 40) yq_yr93_0 yq_yr93_e1
theorem yq_yr93 : (y_cd yr93).all (y_okE ztb znw zcls (ytb yw00) yr93) = true := z_seg0 yq_yr93_e0
theorem yo_yr93 : y_okM ztb zcls yr93 := y_okM_i (z_codeIn (ch := 4) (i := 181) (l := tables_1_4) rfl rfl) (z_w_ok (n := 1004) (by decide +kernel)) (by decide +kernel) ⟨by decide +kernel, by decide +kernel⟩ (z_w_ok (n := 4180) (by decide +kernel)) (z_w_ok (n := 22) (by decide +kernel)) rfl rfl (by decide)
theorem yq_yr94_0 : (((y_cd yr94).drop 0).take 40).all (y_okE ztb znw zcls (ytb yw00) yr94) = true := by decide +kernel
theorem yq_yr94_1 : (((y_cd yr94).drop 40).take 40).all (y_okE ztb znw zcls (ytb yw00) yr94) = true := by decide +kernel
theorem yq_yr94_2 : (((y_cd yr94).drop 80).take 40).all (y_okE ztb znw zcls (ytb yw00) yr94) = true := by decide +kernel
theorem yq_yr94_3 : (((y_cd yr94).drop 120).take 40).all (y_okE ztb znw zcls (ytb yw00) yr94) = true := by decide +kernel
theorem yq_yr94_e4 : ((y_cd yr94).drop 160).all (y_okE ztb znw zcls (ytb yw00) yr94) = true := z_seg_end (by decide +kernel)
theorem yq_yr94_e3 : ((y_cd yr94).drop 120).all (y_okE ztb znw zcls (ytb yw00) yr94) = true := z_seg (a := 120) (k := 40) yq_yr94_3 yq_yr94_e4
theorem yq_yr94_e2 : ((y_cd yr94).drop 80).all (y_okE ztb znw zcls (ytb yw00) yr94) = true := z_seg (a := 80) (k := 40) yq_yr94_2 yq_yr94_e3
theorem yq_yr94_e1 : ((y_cd yr94).drop 40).all (y_okE ztb znw zcls (ytb yw00) yr94) = true := z_seg (a := 40) (k := 40) yq_yr94_1 yq_yr94_e2
theorem yq_yr94_e0 : ((y_cd yr94).drop 0).all (y_okE ztb znw zcls (ytb yw00) yr94) = true := z_seg (a := 0) (k := 40) yq_yr94_0 yq_yr94_e1
theorem yq_yr94 : (y_cd yr94).all (y_okE ztb znw zcls (ytb yw00) yr94) = true := z_seg0 yq_yr94_e0
theorem yo_yr94 : y_okM ztb zcls yr94 := y_okM_i (z_codeIn (ch := 4) (i := 181) (l := tables_1_4) rfl rfl) (z_w_ok (n := 1004) (by decide +kernel)) (by decide +kernel) ⟨by decide +kernel, by decide +kernel⟩ (z_w_ok (n := 4180) (by decide +kernel)) (z_w_ok (n := 22) (by decide +kernel)) rfl rfl (by decide)
theorem yq_yr95_0 : (((y_cd yr95).drop 0).take 40).all (y_okE ztb znw zcls (ytb yw00) yr95) = true := by decide +kernel
theorem yq_yr95_1 : (((y_cd yr95).drop 40).take 40).all (y_okE ztb znw zcls (ytb yw00) yr95) = true := by decide +kernel
theorem yq_yr95_2 : (((y_cd yr95).drop 80).take 40).all (y_okE ztb znw zcls (ytb yw00) yr95) = true := by decide +kernel
theorem yq_yr95_3 : (((y_cd yr95).drop 120).take 40).all (y_okE ztb znw zcls (ytb yw00) yr95) = true := by decide +kernel
theorem yq_yr95_e4 : ((y_cd yr95).drop 160).all (y_okE ztb znw zcls (ytb yw00) yr95) = true := z_seg_end (by decide +kernel)
theorem yq_yr95_e3 : ((y_cd yr95).drop 120).all (y_okE ztb znw zcls (ytb yw00) yr95) = true := z_seg (a := 120) (k := 40) yq_yr95_3 yq_yr95_e4
theorem yq_yr95_e2 : ((y_cd yr95).drop 80).all (y_okE ztb znw zcls (ytb yw00) yr95) = true := z_seg (a := 80) (k := 40) yq_yr95_2 yq_yr95_e3
theorem yq_yr95_e1 : ((y_cd yr95).drop 40).all (y_okE ztb znw zcls (ytb yw00) yr95) = true := z_seg (a := 40) (k := 40) yq_yr95_1 yq_yr95_e2
theorem yq_yr95_e0 : ((y_cd yr95).drop 0).all (y_okE ztb znw zcls (ytb yw00) yr95) = true := z_seg (a := 0) (k := 40) yq_yr95_0 yq_yr95_e1
theorem yq_yr95 : (y_cd yr95).all (y_okE ztb znw zcls (ytb yw00) yr95) = true := z_seg0 yq_yr95_e0
theorem yo_yr95 : y_okM ztb zcls yr95 := y_okM_i (z_codeIn (ch := 4) (i := 181) (l := tables_1_4) rfl rfl) (z_w_ok (n := 1004) (by decide +kernel)) (by decide +kernel) ⟨by decide +kernel, by decide +kernel⟩ (z_w_ok (n := 4180) (by decide +kernel)) (z_w_ok (n := 22) (by decide +kernel)) rfl rfl (by decide)
theorem yq_yr96 : (y_cd yr96).all (y_okE ztb znw zcls (ytb yw00) yr96) = true := by decide +kernel
theorem yo_yr96 : y_okM ztb zcls yr96 := y_okM_i (z_codeIn (ch := 4) (i := 172) (l := tables_1_4) rfl rfl) (z_w_ok (n := 1004) (by decide +kernel)) (by decide +kernel) ⟨by decide +kernel, by decide +kernel⟩ (z_w_ok (n := 4171) (by decide +kernel)) (z_w_ok (n := 20) (by decide +kernel)) rfl rfl (by decide)
theorem yq_yr97_0 : (((y_cd yr97).drop 0).take 40).all (y_okE ztb znw zcls (ytb yw00) yr97) = true := by decide +kernel
theorem yq_yr97_1 : (((y_cd yr97).drop 40).take 40).all (y_okE ztb znw zcls (ytb yw00) yr97) = true := by decide +kernel
theorem yq_yr97_e2 : ((y_cd yr97).drop 80).all (y_okE ztb znw zcls (ytb yw00) yr97) = true := z_seg_end (by decide +kernel)
theorem yq_yr97_e1 : ((y_cd yr97).drop 40).all (y_okE ztb znw zcls (ytb yw00) yr97) = true := z_seg (a := 40) (k := 40) yq_yr97_1 yq_yr97_e2
theorem yq_yr97_e0 : ((y_cd yr97).drop 0).all (y_okE ztb znw zcls (ytb yw00) yr97) = true := z_seg (a := 0) (k := 40) yq_yr97_0 yq_yr97_e1
theorem yq_yr97 : (y_cd yr97).all (y_okE ztb znw zcls (ytb yw00) yr97) = true := z_seg0 yq_yr97_e0
theorem yo_yr97 : y_okM ztb zcls yr97 := y_okM_i (z_codeIn (ch := 4) (i := 206) (l := tables_1_4) rfl rfl) (z_w_ok (n := 1004) (by decide +kernel)) (by decide +kernel) ⟨by decide +kernel, by decide +kernel⟩ (z_w_ok (n := 4205) (by decide +kernel)) (z_w_ok (n := 28) (by decide +kernel)) rfl rfl (by decide)
theorem yq_yr98 : (y_cd yr98).all (y_okE ztb znw zcls (ytb yw00) yr98) = true := by decide +kernel
theorem yo_yr98 : y_okM ztb zcls yr98 := y_okM_i (z_codeIn (ch := 4) (i := 202) (l := tables_1_4) rfl rfl) (z_w_ok (n := 1004) (by decide +kernel)) (by decide +kernel) ⟨by decide +kernel, by decide +kernel⟩ (z_w_ok (n := 4201) (by decide +kernel)) (z_w_ok (n := 27) (by decide +kernel)) rfl rfl (by decide)
theorem yq_yr99 : (y_cd yr99).all (y_okE ztb znw zcls (ytb yw00) yr99) = true := by decide +kernel
theorem yo_yr99 : y_okM ztb zcls yr99 := y_okM_i (z_codeIn (ch := 4) (i := 189) (l := tables_1_4) rfl rfl) (z_w_ok (n := 1004) (by decide +kernel)) (by decide +kernel) ⟨by decide +kernel, by decide +kernel⟩ (z_w_ok (n := 4188) (by decide +kernel)) (z_w_ok (n := 24) (by decide +kernel)) rfl rfl (by decide)
theorem yq_yr100_0 : (((y_cd yr100).drop 0).take 40).all (y_okE ztb znw zcls (ytb yw00) yr100) = true := by decide +kernel
theorem yq_yr100_1 : (((y_cd yr100).drop 40).take 40).all (y_okE ztb znw zcls (ytb yw00) yr100) = true := by decide +kernel
theorem yq_yr100_e2 : ((y_cd yr100).drop 80).all (y_okE ztb znw zcls (ytb yw00) yr100) = true := z_seg_end (by decide +kernel)
theorem yq_yr100_e1 : ((y_cd yr100).drop 40).all (y_okE ztb znw zcls (ytb yw00) yr100) = true := z_seg (a := 40) (k := 40) yq_yr100_1 yq_yr100_e2
theorem yq_yr100_e0 : ((y_cd yr100).drop 0).all (y_okE ztb znw zcls (ytb yw00) yr100) = true := z_seg (a := 0) (k := 40) yq_yr100_0 yq_yr100_e1
theorem yq_yr100 : (y_cd yr100).all (y_okE ztb znw zcls (ytb yw00) yr100) = true := z_seg0 yq_yr100_e0
theorem yo_yr100 : y_okM ztb zcls yr100 := y_okM_i (z_codeIn (ch := 4) (i := 194) (l := tables_1_4) rfl rfl) (z_w_ok (n := 1004) (by decide +kernel)) (by decide +kernel) ⟨by decide +kernel, by decide +kernel⟩ (z_w_ok (n := 4193) (by decide +kernel)) (z_w_ok (n := 25) (by decide +kernel)) rfl rfl (by decide)
theorem yq_yr101_0 : (((y_cd yr101).drop 0).take 40).all (y_okE ztb znw zcls (ytb yw00) yr101) = true := by decide +kernel
theorem yq_yr101_1 : (((y_cd yr101).drop 40).take 40).all (y_okE ztb znw zcls (ytb yw00) yr101) = true := by decide +kernel
theorem yq_yr101_e2 : ((y_cd yr101).drop 80).all (y_okE ztb znw zcls (ytb yw00) yr101) = true := z_seg_end (by decide +kernel)
theorem yq_yr101_e1 : ((y_cd yr101).drop 40).all (y_okE ztb znw zcls (ytb yw00) yr101) = true := z_seg (a := 40) (k := 40) yq_yr101_1 yq_yr101_e2
theorem yq_yr101_e0 : ((y_cd yr101).drop 0).all (y_okE ztb znw zcls (ytb yw00) yr101) = true := z_seg (a := 0) (k := 40) yq_yr101_0 yq_yr101_e1
theorem yq_yr101 : (y_cd yr101).all (y_okE ztb znw zcls (ytb yw00) yr101) = true := z_seg0 yq_yr101_e0
theorem yo_yr101 : y_okM ztb zcls yr101 := y_okM_i (z_codeIn (ch := 4) (i := 198) (l := tables_1_4) rfl rfl) (z_w_ok (n := 1004) (by decide +kernel)) (by decide +kernel) ⟨by decide +kernel, by decide +kernel⟩ (z_w_ok (n := 4197) (by decide +kernel)) (z_w_ok (n := 26) (by decide +kernel)) rfl rfl (by decide)
theorem yq_yr102 : (y_cd yr102).all (y_okE ztb znw zcls (ytb yw00) yr102) = true := by decide +kernel
theorem yo_yr102 : y_okM ztb zcls yr102 := y_okM_i (z_codeIn (ch := 4) (i := 210) (l := tables_1_4) rfl rfl) (z_w_ok (n := 1004) (by decide +kernel)) (by decide +kernel) ⟨by decide +kernel, by decide +kernel⟩ (z_w_ok (n := 4209) (by decide +kernel)) (z_w_ok (n := 29) (by decide +kernel)) rfl rfl (by decide)
theorem yq_yr103 : (y_cd yr103).all (y_okE ztb znw zcls (ytb yw00) yr103) = true := by decide +kernel
theorem yo_yr103 : y_okM ztb zcls yr103 := y_okM_i (z_codeIn (ch := 3) (i := 131) (l := tables_1_3) rfl rfl) (z_w_ok (n := 1008) (by decide +kernel)) (by decide +kernel) ⟨by decide +kernel, by decide +kernel⟩ (z_w_ok (n := 3129) (by decide +kernel)) (z_w_ok (n := 3130) (by decide +kernel)) rfl rfl (by decide)
theorem yq_yr104_0 : (((y_cd yr104).drop 0).take 40).all (y_okE ztb znw zcls (ytb yw00) yr104) = true := by decide +kernel
theorem yq_yr104_1 : (((y_cd yr104).drop 40).take 40).all (y_okE ztb znw zcls (ytb yw00) yr104) = true := by decide +kernel
theorem yq_yr104_e2 : ((y_cd yr104).drop 80).all (y_okE ztb znw zcls (ytb yw00) yr104) = true := z_seg_end (by decide +kernel)
theorem yq_yr104_e1 : ((y_cd yr104).drop 40).all (y_okE ztb znw zcls (ytb yw00) yr104) = true := z_seg (a := 40) (k := 40) yq_yr104_1 yq_yr104_e2
theorem yq_yr104_e0 : ((y_cd yr104).drop 0).all (y_okE ztb znw zcls (ytb yw00) yr104) = true := z_seg (a := 0) (k := 40) yq_yr104_0 yq_yr104_e1
theorem yq_yr104 : (y_cd yr104).all (y_okE ztb znw zcls (ytb yw00) yr104) = true := z_seg0 yq_yr104_e0
theorem yo_yr104 : y_okM ztb zcls yr104 := y_okM_i (z_codeIn (ch := 6) (i := 188) (l := tables_1_6) rfl rfl) (z_w_ok (n := 1008) (by decide +kernel)) (by decide +kernel) ⟨by decide +kernel, by decide +kernel⟩ (z_w_ok (n := 6187) (by decide +kernel)) (z_w_ok (n := 54) (by decide +kernel)) rfl rfl (by decide)
theorem yq_yr105 : (y_cd yr105).all (y_okE ztb znw zcls (ytb yw00) yr105) = true := by decide +kernel
theorem yo_yr105 : y_okM ztb zcls yr105 := y_okM_i (z_codeIn (ch := 6) (i := 3) (l := tables_1_6) rfl rfl) (z_w_ok (n := 1008) (by decide +kernel)) (by decide +kernel) ⟨by decide +kernel, by decide +kernel⟩ (z_w_ok (n := 6001) (by decide +kernel)) (z_w_ok (n := 6002) (by decide +kernel)) rfl rfl (by decide)
theorem yq_yr106_0 : (((y_cd yr106).drop 0).take 40).all (y_okE ztb znw zcls (ytb yw00) yr106) = true := by decide +kernel
theorem yq_yr106_1 : (((y_cd yr106).drop 40).take 40).all (y_okE ztb znw zcls (ytb yw00) yr106) = true := by decide +kernel
theorem yq_yr106_e2 : ((y_cd yr106).drop 80).all (y_okE ztb znw zcls (ytb yw00) yr106) = true := z_seg_end (by decide +kernel)
theorem yq_yr106_e1 : ((y_cd yr106).drop 40).all (y_okE ztb znw zcls (ytb yw00) yr106) = true := z_seg (a := 40) (k := 40) yq_yr106_1 yq_yr106_e2
theorem yq_yr106_e0 : ((y_cd yr106).drop 0).all (y_okE ztb znw zcls (ytb yw00) yr106) = true := z_seg (a := 0) (k := 40) yq_yr106_0 yq_yr106_e1
theorem yq_yr106 : (y_cd yr106).all (y_okE ztb znw zcls (ytb yw00) yr106) = true := z_seg0 yq_yr106_e0
theorem yo_yr106 : y_okM ztb zcls yr106 := y_okM_i (z_codeIn (ch := 6) (i := 184) (l := tables_1_6) rfl rfl) (z_w_ok (n := 1008) (by decide +kernel)) (by decide +kernel) ⟨by decide +kernel, by decide +kernel⟩ (z_w_ok (n := 6183) (by decide +kernel)) (z_w_ok (n := 53) (by decide +kernel)) rfl rfl (by decide)
theorem yq_yr107 : (y_cd yr107).all (y_okE ztb znw zcls (ytb yw00) yr107) = true := by decide +kernel
theorem yo_yr107 : y_okM ztb zcls yr107 := y_okM_i (z_codeIn (ch := 5) (i := 193) (l := tables_1_5) rfl rfl) (z_w_ok (n := 1008) (by decide +kernel)) (by decide +kernel) ⟨by decide +kernel, by decide +kernel⟩ (z_w_ok (n := 5191) (by decide +kernel)) (z_w_ok (n := 5192) (by decide +kernel)) rfl rfl (by decide)
theorem yq_yr108_0 : (((y_cd yr108).drop 0).take 40).all (y_okE ztb znw zcls (ytb yw00) yr108) = true := by decide +kernel
theorem yq_yr108_1 : (((y_cd yr108).drop 40).take 40).all (y_okE ztb znw zcls (ytb yw00) yr108) = true := by decide +kernel
theorem yq_yr108_e2 : ((y_cd yr108).drop 80).all (y_okE ztb znw zcls (ytb yw00) yr108) = true := z_seg_end (by decide +kernel)
theorem yq_yr108_e1 : ((y_cd yr108).drop 40).all (y_okE ztb znw zcls (ytb yw00) yr108) = true := z_seg (a := 40) (k := 40) yq_yr108_1 yq_yr108_e2
theorem yq_yr108_e0 : ((y_cd yr108).drop 0).all (y_okE ztb znw zcls (ytb yw00) yr108) = true := z_seg (a := 0) (k := 40) yq_yr108_0 yq_yr108_e1
theorem yq_yr108 : (y_cd yr108).all (y_okE ztb znw zcls (ytb yw00) yr108) = true := z_seg0 yq_yr108_e0
theorem yo_yr108 : y_okM ztb zcls yr108 := y_okM_i (z_codeIn (ch := 6) (i := 176) (l := tables_1_6) rfl rfl) (z_w_ok (n := 1008) (by decide +kernel)) (by decide +kernel) ⟨by decide +kernel, by decide +kernel⟩ (z_w_ok (n := 6175) (by decide +kernel)) (z_w_ok (n := 51) (by decide +kernel)) rfl rfl (by decide)
theorem yq_yr109 : (y_cd yr109).all (y_okE ztb znw zcls (ytb yw00) yr109) = true := by decide +kernel
theorem yo_yr109 : y_okM ztb zcls yr109 := y_okM_i (z_codeIn (ch := 6) (i := 180) (l := tables_1_6) rfl rfl) (z_w_ok (n := 1008) (by decide +kernel)) (by decide +kernel) ⟨by decide +kernel, by decide +kernel⟩ (z_w_ok (n := 6179) (by decide +kernel)) (z_w_ok (n := 52) (by decide +kernel)) rfl rfl (by decide)
theorem yq_yr110 : (y_cd yr110).all (y_okE ztb znw zcls (ytb yw00) yr110) = true := by decide +kernel
theorem yo_yr110 : y_okM ztb zcls yr110 := y_okM_i (z_codeIn (ch := 5) (i := 205) (l := tables_1_5) rfl rfl) (z_w_ok (n := 1008) (by decide +kernel)) (by decide +kernel) ⟨by decide +kernel, by decide +kernel⟩ (z_w_ok (n := 5203) (by decide +kernel)) (z_w_ok (n := 5204) (by decide +kernel)) rfl rfl (by decide)
theorem yq_yr111 : (y_cd yr111).all (y_okE ztb znw zcls (ytb yw00) yr111) = true := by decide +kernel
theorem yo_yr111 : y_okM ztb zcls yr111 := y_okM_i (z_codeIn (ch := 6) (i := 171) (l := tables_1_6) rfl rfl) (z_w_ok (n := 1008) (by decide +kernel)) (by decide +kernel) ⟨by decide +kernel, by decide +kernel⟩ (z_w_ok (n := 6170) (by decide +kernel)) (z_w_ok (n := 50) (by decide +kernel)) rfl rfl (by decide)
theorem yq_yr112_0 : (((y_cd yr112).drop 0).take 40).all (y_okE ztb znw zcls (ytb yw00) yr112) = true := by decide +kernel
theorem yq_yr112_1 : (((y_cd yr112).drop 40).take 40).all (y_okE ztb znw zcls (ytb yw00) yr112) = true := by decide +kernel
theorem yq_yr112_e2 : ((y_cd yr112).drop 80).all (y_okE ztb znw zcls (ytb yw00) yr112) = true := z_seg_end (by decide +kernel)
theorem yq_yr112_e1 : ((y_cd yr112).drop 40).all (y_okE ztb znw zcls (ytb yw00) yr112) = true := z_seg (a := 40) (k := 40) yq_yr112_1 yq_yr112_e2
theorem yq_yr112_e0 : ((y_cd yr112).drop 0).all (y_okE ztb znw zcls (ytb yw00) yr112) = true := z_seg (a := 0) (k := 40) yq_yr112_0 yq_yr112_e1
theorem yq_yr112 : (y_cd yr112).all (y_okE ztb znw zcls (ytb yw00) yr112) = true := z_seg0 yq_yr112_e0
theorem yo_yr112 : y_okM ztb zcls yr112 := y_okM_i (z_codeIn (ch := 6) (i := 158) (l := tables_1_6) rfl rfl) (z_w_ok (n := 1008) (by decide +kernel)) (by decide +kernel) ⟨by decide +kernel, by decide +kernel⟩ (z_w_ok (n := 6157) (by decide +kernel)) (z_w_ok (n := 48) (by decide +kernel)) rfl rfl (by decide)
theorem yq_yr113 : (y_cd yr113).all (y_okE ztb znw zcls (ytb yw00) yr113) = true := by decide +kernel
theorem yo_yr113 : y_okM ztb zcls yr113 := y_okM_i (z_codeIn (ch := 6) (i := 154) (l := tables_1_6) rfl rfl) (z_w_ok (n := 1008) (by decide +kernel)) (by decide +kernel) ⟨by decide +kernel, by decide +kernel⟩ (z_w_ok (n := 6152) (by decide +kernel)) (z_w_ok (n := 6153) (by decide +kernel)) rfl rfl (by decide)
theorem yq_yr114 : (y_cd yr114).all (y_okE ztb znw zcls (ytb yw00) yr114) = true := by decide +kernel
theorem yo_yr114 : y_okM ztb zcls yr114 := y_okM_i (z_codeIn (ch := 5) (i := 197) (l := tables_1_5) rfl rfl) (z_w_ok (n := 1008) (by decide +kernel)) (by decide +kernel) ⟨by decide +kernel, by decide +kernel⟩ (z_w_ok (n := 5196) (by decide +kernel)) (z_w_ok (n := 41) (by decide +kernel)) rfl rfl (by decide)
theorem yq_yr115_0 : (((y_cd yr115).drop 0).take 40).all (y_okE ztb znw zcls (ytb yw00) yr115) = true := by decide +kernel
theorem yq_yr115_1 : (((y_cd yr115).drop 40).take 40).all (y_okE ztb znw zcls (ytb yw00) yr115) = true := by decide +kernel
theorem yq_yr115_e2 : ((y_cd yr115).drop 80).all (y_okE ztb znw zcls (ytb yw00) yr115) = true := z_seg_end (by decide +kernel)
theorem yq_yr115_e1 : ((y_cd yr115).drop 40).all (y_okE ztb znw zcls (ytb yw00) yr115) = true := z_seg (a := 40) (k := 40) yq_yr115_1 yq_yr115_e2
theorem yq_yr115_e0 : ((y_cd yr115).drop 0).all (y_okE ztb znw zcls (ytb yw00) yr115) = true := z_seg (a := 0) (k := 40) yq_yr115_0 yq_yr115_e1
theorem yq_yr115 : (y_cd yr115).all (y_okE ztb znw zcls (ytb yw00) yr115) = true := z_seg0 yq_yr115_e0
theorem yo_yr115 : y_okM ztb zcls yr115 := y_okM_i (z_codeIn (ch := 6) (i := 126) (l := tables_1_6) rfl rfl) (z_w_ok (n := 1008) (by decide +kernel)) (by decide +kernel) ⟨by decide +kernel, by decide +kernel⟩ (z_w_ok (n := 6125) (by decide +kernel)) (z_w_ok (n := 43) (by decide +kernel)) rfl rfl (by decide)
theorem yq_yr116_0 : (((y_cd yr116).drop 0).take 40).all (y_okE ztb znw zcls (ytb yw00) yr116) = true := by decide +kernel
theorem yq_yr116_1 : (((y_cd yr116).drop 40).take 40).all (y_okE ztb znw zcls (ytb yw00) yr116) = true := by decide +kernel
theorem yq_yr116_e2 : ((y_cd yr116).drop 80).all (y_okE ztb znw zcls (ytb yw00) yr116) = true := z_seg_end (by decide +kernel)
theorem yq_yr116_e1 : ((y_cd yr116).drop 40).all (y_okE ztb znw zcls (ytb yw00) yr116) = true := z_seg (a := 40) (k := 40) yq_yr116_1 yq_yr116_e2
theorem yq_yr116_e0 : ((y_cd yr116).drop 0).all (y_okE ztb znw zcls (ytb yw00) yr116) = true := z_seg (a := 0) (k := 40) yq_yr116_0 yq_yr116_e1
theorem yq_yr116 : (y_cd yr116).all (y_okE ztb znw zcls (ytb yw00) yr116) = true := z_seg0 yq_yr116_e0
theorem yo_yr116 : y_okM ztb zcls yr116 := y_okM_i (z_codeIn (ch := 6) (i := 134) (l := tables_1_6) rfl rfl) (z_w_ok (n := 1008) (by decide +kernel)) (by decide +kernel) ⟨by decide +kernel, by decide +kernel⟩ (z_w_ok (n := 6133) (by decide +kernel)) (z_w_ok (n := 45) (by decide +kernel)) rfl rfl (by decide)
theorem yq_yr117 : (y_cd yr117).all (y_okE ztb znw zcls (ytb yw00) yr117) = true := by decide +kernel
theorem yo_yr117 : y_okM ztb zcls yr117 := y_okM_i (z_codeIn (ch := 7) (i := 87) (l := tables_1_7) rfl rfl) (z_w_ok (n := 1008) (by decide +kernel)) (by decide +kernel) ⟨by decide +kernel, by decide +kernel⟩ (z_w_ok (n := 7085) (by decide +kernel)) (z_w_ok (n := 7086) (by decide +kernel)) rfl rfl (by decide)
theorem yq_yr118 : (y_cd yr118).all (y_okE ztb znw zcls (ytb yw00) yr118) = true := by decide +kernel
theorem yo_yr118 : y_okM ztb zcls yr118 := y_okM_i (z_codeIn (ch := 7) (i := 62) (l := tables_1_7) rfl rfl) (z_w_ok (n := 1001) (by decide +kernel)) (by decide +kernel) ⟨by decide +kernel, by decide +kernel⟩ (z_w_ok (n := 7060) (by decide +kernel)) (z_w_ok (n := 7061) (by decide +kernel)) rfl rfl (by decide)
theorem yq_yr119 : (y_cd yr119).all (y_okE ztb znw zcls (ytb yw00) yr119) = true := by decide +kernel
theorem yo_yr119 : y_okM ztb zcls yr119 := y_okM_i (z_codeIn (ch := 3) (i := 91) (l := tables_1_3) rfl rfl) (z_w_ok (n := 1001) (by decide +kernel)) (by decide +kernel) ⟨by decide +kernel, by decide +kernel⟩ (z_w_ok (n := 3090) (by decide +kernel)) (z_w_ok (n := 0) (by decide +kernel)) rfl rfl (by decide)
theorem yq_yr120 : (y_cd yr120).all (y_okE ztb znw zcls (ytb yw00) yr120) = true := by decide +kernel
theorem yo_yr120 : y_okM ztb zcls yr120 := y_okM_i (z_codeIn (ch := 5) (i := 225) (l := tables_1_5) rfl rfl) (z_w_ok (n := 1001) (by decide +kernel)) (by decide +kernel) ⟨by decide +kernel, by decide +kernel⟩ (z_w_ok (n := 5223) (by decide +kernel)) (z_w_ok (n := 5224) (by decide +kernel)) rfl rfl (by decide)
theorem yq_yr121 : (y_cd yr121).all (y_okE ztb znw zcls (ytb yw00) yr121) = true := by decide +kernel
theorem yo_yr121 : y_okM ztb zcls yr121 := y_okM_i (z_codeIn (ch := 5) (i := 120) (l := tables_1_5) rfl rfl) (z_w_ok (n := 1001) (by decide +kernel)) (by decide +kernel) ⟨by decide +kernel, by decide +kernel⟩ (z_w_ok (n := 5118) (by decide +kernel)) (z_w_ok (n := 5119) (by decide +kernel)) rfl rfl (by decide)
theorem yq_yr122 : (y_cd yr122).all (y_okE ztb znw zcls (ytb yw00) yr122) = true := by decide +kernel
theorem yo_yr122 : y_okM ztb zcls yr122 := y_okM_i (z_codeIn (ch := 5) (i := 181) (l := tables_1_5) rfl rfl) (z_w_ok (n := 1001) (by decide +kernel)) (by decide +kernel) ⟨by decide +kernel, by decide +kernel⟩ (z_w_ok (n := 5179) (by decide +kernel)) (z_w_ok (n := 5180) (by decide +kernel)) rfl rfl (by decide)
theorem yq_yr123 : (y_cd yr123).all (y_okE ztb znw zcls (ytb yw00) yr123) = true := by decide +kernel
theorem yo_yr123 : y_okM ztb zcls yr123 := y_okM_i (z_codeIn (ch := 8) (i := 62) (l := tables_1_8) rfl rfl) (z_w_ok (n := 1001) (by decide +kernel)) (by decide +kernel) ⟨by decide +kernel, by decide +kernel⟩ (z_w_ok (n := 8060) (by decide +kernel)) (z_w_ok (n := 8061) (by decide +kernel)) rfl rfl (by decide)
theorem yq_yr124 : (y_cd yr124).all (y_okE ztb znw zcls (ytb yw00) yr124) = true := by decide +kernel
theorem yo_yr124 : y_okM ztb zcls yr124 := y_okM_i (z_codeIn (ch := 8) (i := 23) (l := tables_1_8) rfl rfl) (z_w_ok (n := 1001) (by decide +kernel)) (by decide +kernel) ⟨by decide +kernel, by decide +kernel⟩ (z_w_ok (n := 8021) (by decide +kernel)) (z_w_ok (n := 8022) (by decide +kernel)) rfl rfl (by decide)
theorem yq_yr125 : (y_cd yr125).all (y_okE ztb znw zcls (ytb yw00) yr125) = true := by decide +kernel
theorem yo_yr125 : y_okM ztb zcls yr125 := y_okM_i (z_codeIn (ch := 5) (i := 21) (l := tables_1_5) rfl rfl) (z_w_ok (n := 1001) (by decide +kernel)) (by decide +kernel) ⟨by decide +kernel, by decide +kernel⟩ (z_w_ok (n := 5019) (by decide +kernel)) (z_w_ok (n := 5020) (by decide +kernel)) rfl rfl (by decide)
theorem yq_yr126_0 : (((y_cd yr126).drop 0).take 40).all (y_okE ztb znw zcls (ytb yw00) yr126) = true := by decide +kernel
theorem yq_yr126_1 : (((y_cd yr126).drop 40).take 40).all (y_okE ztb znw zcls (ytb yw00) yr126) = true := by decide +kernel
theorem yq_yr126_e2 : ((y_cd yr126).drop 80).all (y_okE ztb znw zcls (ytb yw00) yr126) = true := z_seg_end (by decide +kernel)
theorem yq_yr126_e1 : ((y_cd yr126).drop 40).all (y_okE ztb znw zcls (ytb yw00) yr126) = true := z_seg (a := 40) (k := 40) yq_yr126_1 yq_yr126_e2
theorem yq_yr126_e0 : ((y_cd yr126).drop 0).all (y_okE ztb znw zcls (ytb yw00) yr126) = true := z_seg (a := 0) (k := 40) yq_yr126_0 yq_yr126_e1
theorem yq_yr126 : (y_cd yr126).all (y_okE ztb znw zcls (ytb yw00) yr126) = true := z_seg0 yq_yr126_e0
theorem yo_yr126 : y_okM ztb zcls yr126 := y_okM_i (z_codeIn (ch := 8) (i := 58) (l := tables_1_8) rfl rfl) (z_w_ok (n := 1001) (by decide +kernel)) (by decide +kernel) ⟨by decide +kernel, by decide +kernel⟩ (z_w_ok (n := 8056) (by decide +kernel)) (z_w_ok (n := 8057) (by decide +kernel)) rfl rfl (by decide)
