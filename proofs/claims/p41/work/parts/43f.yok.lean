theorem yq_yr89_0 : (((y_cd yr89).drop 0).take 40).all (y_okE ztb znw zcls (ytb yw00) yr89) = true := by decide +kernel
theorem yq_yr89_1 : (((y_cd yr89).drop 40).take 40).all (y_okE ztb znw zcls (ytb yw00) yr89) = true := by decide +kernel
theorem yq_yr89_2 : (((y_cd yr89).drop 80).take 40).all (y_okE ztb znw zcls (ytb yw00) yr89) = true := by decide +kernel
theorem yq_yr89_e3 : ((y_cd yr89).drop 120).all (y_okE ztb znw zcls (ytb yw00) yr89) = true := z_seg_end (by decide +kernel)
theorem yq_yr89_e2 : ((y_cd yr89).drop 80).all (y_okE ztb znw zcls (ytb yw00) yr89) = true := z_seg (a := 80) (k := 40) yq_yr89_2 yq_yr89_e3
theorem yq_yr89_e1 : ((y_cd yr89).drop 40).all (y_okE ztb znw zcls (ytb yw00) yr89) = true := z_seg (a := 40) (k := 40) yq_yr89_1 yq_yr89_e2
theorem yq_yr89_e0 : ((y_cd yr89).drop 0).all (y_okE ztb znw zcls (ytb yw00) yr89) = true := z_seg (a := 0) (k := 40) yq_yr89_0 yq_yr89_e1
theorem yq_yr89 : (y_cd yr89).all (y_okE ztb znw zcls (ytb yw00) yr89) = true := z_seg0 yq_yr89_e0
theorem yo_yr89 : y_okM ztb zcls yr89 := y_okM_i (z_codeIn (ch := 4) (i := 185) (l := tables_1_4) rfl rfl) (z_w_ok (n := 1004) (by decide +kernel)) (by decide +kernel) ⟨by decide +kernel, by decide +kernel⟩ (z_w_ok (n := 4184) (by decide +kernel)) (z_w_ok (n := 23) (by decide +kernel)) rfl rfl (by decide)
theorem yq_yr90_0 : (((y_cd yr90).drop 0).take 40).all (y_okE ztb znw zcls (ytb yw00) yr90) = true := by decide +kernel
theorem yq_yr90_1 : (((y_cd yr90).drop 40).take 40).all (y_okE ztb znw zcls (ytb yw00) yr90) = true := by decide +kernel
theorem yq_yr90_2 : (((y_cd yr90).drop 80).take 40).all (y_okE ztb znw zcls (ytb yw00) yr90) = true := by decide +kernel
theorem yq_yr90_e3 : ((y_cd yr90).drop 120).all (y_okE ztb znw zcls (ytb yw00) yr90) = true := z_seg_end (by decide +kernel)
theorem yq_yr90_e2 : ((y_cd yr90).drop 80).all (y_okE ztb znw zcls (ytb yw00) yr90) = true := z_seg (a := 80) (k := 40) yq_yr90_2 yq_yr90_e3
theorem yq_yr90_e1 : ((y_cd yr90).drop 40).all (y_okE ztb znw zcls (ytb yw00) yr90) = true := z_seg (a := 40) (k := 40) yq_yr90_1 yq_yr90_e2
theorem yq_yr90_e0 : ((y_cd yr90).drop 0).all (y_okE ztb znw zcls (ytb yw00) yr90) = true := z_seg (a := 0) (k := 40) yq_yr90_0 yq_yr90_e1
theorem yq_yr90 : (y_cd yr90).all (y_okE ztb znw zcls (ytb yw00) yr90) = true := z_seg0 yq_yr90_e0
theorem yo_yr90 : y_okM ztb zcls yr90 := y_okM_i (z_codeIn (ch := 4) (i := 185) (l := tables_1_4) rfl rfl) (z_w_ok (n := 1004) (by decide +kernel)) (by decide +kernel) ⟨by decide +kernel, by decide +kernel⟩ (z_w_ok (n := 4184) (by decide +kernel)) (z_w_ok (n := 23) (by decide +kernel)) rfl rfl (by decide)
theorem yq_yr91_0 : (((y_cd yr91).drop 0).take 40).all (y_okE ztb znw zcls (ytb yw00) yr91) = true := by decide +kernel
theorem yq_yr91_1 : (((y_cd yr91).drop 40).take 40).all (y_okE ztb znw zcls (ytb yw00) yr91) = true := by decide +kernel
theorem yq_yr91_2 : (((y_cd yr91).drop 80).take 40).all (y_okE ztb znw zcls (ytb yw00) yr91) = true := by decide +kernel
theorem yq_yr91_e3 : ((y_cd yr91).drop 120).all (y_okE ztb znw zcls (ytb yw00) yr91) = true := z_seg_end (by decide +kernel)
theorem yq_yr91_e2 : ((y_cd yr91).drop 80).all (y_okE ztb znw zcls (ytb yw00) yr91) = true := z_seg (a := 80) (k := 40) yq_yr91_2 yq_yr91_e3
theorem yq_yr91_e1 : ((y_cd yr91).drop 40).all (y_okE ztb znw zcls (ytb yw00) yr91) = true := z_seg (a := 40) (k := 40) yq_yr91_1 yq_yr91_e2
theorem yq_yr91_e0 : ((y_cd yr91).drop 0).all (y_okE ztb znw zcls (ytb yw00) yr91) = true := z_seg (a := 0) (k := 40) yq_yr91_0 yq_yr91_e1
theorem yq_yr91 : (y_cd yr91).all (y_okE ztb znw zcls (ytb yw00) yr91) = true := z_seg0 yq_yr91_e0
theorem yo_yr91 : y_okM ztb zcls yr91 := y_okM_i (z_codeIn (ch := 4) (i := 185) (l := tables_1_4) rfl rfl) (z_w_ok (n := 1004) (by decide +kernel)) (by decide +kernel) ⟨by decide +kernel, by decide +kernel⟩ (z_w_ok (n := 4184) (by decide +kernel)) (z_w_ok (n := 23) (by decide +kernel)) rfl rfl (by decide)
theorem yq_yr92_0 : (((y_cd yr92).drop 0).take 40).all (y_okE ztb znw zcls (ytb yw00) yr92) = true := by decide +kernel
theorem yq_yr92_1 : (((y_cd yr92).drop 40).take 40).all (y_okE ztb znw zcls (ytb yw00) yr92) = true := by decide +kernel
theorem yq_yr92_2 : (((y_cd yr92).drop 80).take 40).all (y_okE ztb znw zcls (ytb yw00) yr92) = true := by decide +kernel
theorem yq_yr92_e3 : ((y_cd yr92).drop 120).all (y_okE ztb znw zcls (ytb yw00) yr92) = true := z_seg_end (by decide +kernel)
theorem yq_yr92_e2 : ((y_cd yr92).drop 80).all (y_okE ztb znw zcls (ytb yw00) yr92) = true := z_seg (a := 80) (k := 40) yq_yr92_2 yq_yr92_e3
theorem yq_yr92_e1 : ((y_cd yr92).drop 40).all (y_okE ztb znw zcls (ytb yw00) yr92) = true := z_seg (a := 40) (k := 40) yq_yr92_1 yq_yr92_e2
theorem yq_yr92_e0 : ((y_cd yr92).drop 0).all (y_okE ztb znw zcls (ytb yw00) yr92) = true := z_seg (a := 0) (k := 40) yq_yr92_0 yq_yr92_e1
theorem yq_yr92 : (y_cd yr92).all (y_okE ztb znw zcls (ytb yw00) yr92) = true := z_seg0 yq_yr92_e0
theorem yo_yr92 : y_okM ztb zcls yr92 := y_okM_i (z_codeIn (ch := 4) (i := 185) (l := tables_1_4) rfl rfl) (z_w_ok (n := 1004) (by decide +kernel)) (by decide +kernel) ⟨by decide +kernel, by decide +kernel⟩ (z_w_ok (n := 4184) (by decide +kernel)) (z_w_ok (n := 23) (by decide +kernel)) rfl rfl (by decide)
theorem yq_yr93_0 : (((y_cd yr93).drop 0).take 40).all (y_okE ztb znw zcls (ytb yw00) yr93) = true := by decide +kernel
theorem yq_yr93_1 : (((y_cd yr93).drop 40).take 40).all (y_okE ztb znw zcls (ytb yw00) yr93) = true := by decide +kernel
theorem yq_yr93_2 : (((y_cd yr93).drop 80).take 40).all (y_okE ztb znw zcls (ytb yw00) yr93) = true := by decide +kernel
theorem yq_yr93_e3 : ((y_cd yr93).drop 120).all (y_okE ztb znw zcls (ytb yw00) yr93) = true := z_seg_end (by decide +kernel)
theorem yq_yr93_e2 : ((y_cd yr93).drop 80).all (y_okE ztb znw zcls (ytb yw00) yr93) = true := z_seg (a := 80) (k := 40) yq_yr93_2 yq_yr93_e3
theorem yq_yr93_e1 : ((y_cd yr93).drop 40).all (y_okE ztb znw zcls (ytb yw00) yr93) = true := z_seg (a := 40) (k := 40) yq_yr93_1 yq_yr93_e2
theorem yq_yr93_e0 : ((y_cd yr93).drop 0).all (y_okE ztb znw zcls (ytb yw00) yr93) = true := z_seg (a := 0) (k := 40) yq_yr93_0 yq_yr93_e1
theorem yq_yr93 : (y_cd yr93).all (y_okE ztb znw zcls (ytb yw00) yr93) = true := z_seg0 yq_yr93_e0
theorem yo_yr93 : y_okM ztb zcls yr93 := y_okM_i (z_codeIn (ch := 4) (i := 185) (l := tables_1_4) rfl rfl) (z_w_ok (n := 1004) (by decide +kernel)) (by decide +kernel) ⟨by decide +kernel, by decide +kernel⟩ (z_w_ok (n := 4184) (by decide +kernel)) (z_w_ok (n := 23) (by decide +kernel)) rfl rfl (by decide)
theorem yq_yr94_0 : (((y_cd yr94).drop 0).take 40).all (y_okE ztb znw zcls (ytb yw00) yr94) = true := by decide +kernel
theorem yq_yr94_1 : (((y_cd yr94).drop 40).take 40).all (y_okE ztb znw zcls (ytb yw00) yr94) = true := by decide +kernel
theorem yq_yr94_2 : (((y_cd yr94).drop 80).take 40).all (y_okE ztb znw zcls (ytb yw00) yr94) = true := by decide +kernel
theorem yq_yr94_3 : (((y_cd yr94).drop 120).take 40).all (y_okE ztb znw zcls (ytb yw00) yr94) = true := by decide +kernel
theorem yq_yr94_e4 : ((y_cd yr94).drop 160).all (y_okE ztb znw zcls (ytb yw00) yr94) = true := z_seg_end (by decide +kernel)
theorem yq_yr94_e3 : ((y_cd yr94).drop 120).all (y_okE ztb znw zcls (ytb yw00) yr94) = true := z_seg (a := 120) (k := 40) yq_yr94_3 yq_yr94_e4
theorem yq_yr94_e2 : ((y_cd yr94).drop 80).all (y_okE ztb znw zcls (ytb yw00) yr94) = true := z_seg (a := 80) (k := 40) yq_yr94_2 yq_yr94_e3
theorem yq_yr94_e1 : ((y_cd yr94).drop 40).all (y_okE ztb znw zcls (ytb yw00) yr94) = true := z_seg (a := 40) (k := 40) yq_yr94_1 yq_yr94_e2
theorem yq_yr94_e0 : ((y_cd yr94).drop 0).all (y_okE ztb znw zcls (ytb yw00) yr94) = true := z_seg (a := 0) (k := 40) yq_yr94_0 yq_yr94_e1
theorem yq_yr94 : (y_cd yr94).all (y_okE ztb znw zcls (ytb yw00) yr94) = true := z_seg0 yq_yr94_e0
theorem yo_yr94 : y_okM ztb zcls yr94 := y_okM_i (z_codeIn (ch := 4) (i := 181) (l := tables_1_4) rfl rfl) (z_w_ok (n := 1004) (by decide +kernel)) (by decide +kernel) ⟨by decide +kernel, by decide +kernel⟩ (z_w_ok (n := 4180) (by decide +kernel)) (z_w_ok (n := 22) (by decide +kernel)) rfl rfl (by decide)
theorem yq_yr95_0 : (((y_cd yr95).drop 0).take 40).all (y_okE ztb znw zcls (ytb yw00) yr95) = true := by decide +kernel
theorem yq_yr95_1 : (((y_cd yr95).drop 40).take 40).all (y_okE ztb znw zcls (ytb yw00) yr95) = true := by decide +kernel
theorem yq_yr95_2 : (((y_cd yr95).drop 80).take 40).all (y_okE ztb znw zcls (ytb yw00) yr95) = true := by decide +kernel
theorem yq_yr95_3 : (((y_cd yr95).drop 120).take 40).all (y_okE ztb znw zcls (ytb yw00) yr95) = true := by decide +kernel
theorem yq_yr95_e4 : ((y_cd yr95).drop 160).all (y_okE ztb znw zcls (ytb yw00) yr95) = true := z_seg_end (by decide +kernel)
theorem yq_yr95_e3 : ((y_cd yr95).drop 120).all (y_okE ztb znw zcls (ytb yw00) yr95) = true := z_seg (a := 120) (k := 40) yq_yr95_3 yq_yr95_e4
theorem yq_yr95_e2 : ((y_cd yr95).drop 80).all (y_okE ztb znw zcls (ytb yw00) yr95) = true := z_seg (a := 80) (k := 40) yq_yr95_2 yq_yr95_e3
theorem yq_yr95_e1 : ((y_cd yr95).drop 40).all (y_okE ztb znw zcls (ytb yw00) yr95) = true := z_seg (a := 40) (k := 40) yq_yr95_1 yq_yr95_e2
theorem yq_yr95_e0 : ((y_cd yr95).drop 0).all (y_okE ztb znw zcls (ytb yw00) yr95) = true := z_seg (a := 0) (k := 40) yq_yr95_0 yq_yr95_e1
theorem yq_yr95 : (y_cd yr95).all (y_okE ztb znw zcls (ytb yw00) yr95) = true := z_seg0 yq_yr95_e0
theorem yo_yr95 : y_okM ztb zcls yr95 := y_okM_i (z_codeIn (ch := 4) (i := 181) (l := tables_1_4) rfl rfl) (z_w_ok (n := 1004) (by decide +kernel)) (by decide +kernel) ⟨by decide +kernel, by decide +kernel⟩ (z_w_ok (n := 4180) (by decide +kernel)) (z_w_ok (n := 22) (by decide +kernel)) rfl rfl (by decide)
theorem yq_yr96_0 : (((y_cd yr96).drop 0).take 40).all (y_okE ztb znw zcls (ytb yw00) yr96) = true := by decide +kernel
theorem yq_yr96_1 : (((y_cd yr96).drop 40).take 40).all (y_okE ztb znw zcls (ytb yw00) yr96) = true := by decide +kernel
theorem yq_yr96_2 : (((y_cd yr96).drop 80).take 40).all (y_okE ztb znw zcls (ytb yw00) yr96) = true := by decide +kernel
theorem yq_yr96_3 : (((y_cd yr96).drop 120).take 40).all (y_okE ztb znw zcls (ytb yw00) yr96) = true := by decide +kernel
theorem yq_yr96_e4 : ((y_cd yr96).drop 160).all (y_okE ztb znw zcls (ytb yw00) yr96) = true := z_seg_end (by decide +kernel)
theorem yq_yr96_e3 : ((y_cd yr96).drop 120).all (y_okE ztb znw zcls (ytb yw00) yr96) = true := z_seg (a := 120) (k := 40) yq_yr96_3 yq_yr96_e4
theorem yq_yr96_e2 : ((y_cd yr96).drop 80).all (y_okE ztb znw zcls (ytb yw00) yr96) = true := z_seg (a := 80) (k := 40) yq_yr96_2 yq_yr96_e3
theorem yq_yr96_e1 : ((y_cd yr96).drop 40).all (y_okE ztb znw zcls (ytb yw00) yr96) = true := z_seg (a := 40) (k := 40) yq_yr96_1 yq_yr96_e2
theorem yq_yr96_e0 : ((y_cd yr96).drop 0).all (y_okE ztb znw zcls (ytb yw00) yr96) = true := z_seg (a := 0) (k := 40) yq_yr96_0 yq_yr96_e1
theorem yq_yr96 : (y_cd yr96).all (y_okE ztb znw zcls (ytb yw00) yr96) = true := z_seg0 yq_yr96_e0
theorem yo_yr96 : y_okM ztb zcls yr96 := y_okM_i (z_codeIn (ch := 4) (i := 181) (l := tables_1_4) rfl rfl) (z_w_ok (n := 1004) (by decide +kernel)) (by decide +kernel) ⟨by decide +kernel, by decide +kernel⟩ (z_w_ok (n := 4180) (by decide +kernel)) (z_w_ok (n := 22) (by decide +kernel)) rfl rfl (by decide)
theorem yq_yr97_0 : (((y_cd yr97).drop 0).take 40).all (y_okE ztb znw zcls (ytb yw00) yr97) = true := by decide +kernel
theorem yq_yr97_1 : (((y_cd yr97).drop 40).take 40).all (y_okE ztb znw zcls (ytb yw00) yr97) = true := by decide +kernel
theorem yq_yr97_2 : (((y_cd yr97).drop 80).take 40).all (y_okE ztb znw zcls (ytb yw00) yr97) = true := by decide +kernel
theorem yq_yr97_3 : (((y_cd yr97).drop 120).take 40).all (y_okE ztb znw zcls (ytb yw00) yr97) = true := by decide +kernel
theorem yq_yr97_e4 : ((y_cd yr97).drop 160).all (y_okE ztb znw zcls (ytb yw00) yr97) = true := z_seg_end (by decide +kernel)
theorem yq_yr97_e3 : ((y_cd yr97).drop 120).all (y_okE ztb znw zcls (ytb yw00) yr97) = true := z_seg (a := 120) (k := 40) yq_yr97_3 yq_yr97_e4
theorem yq_yr97_e2 : ((y_cd yr97).drop 80).all (y_okE ztb znw zcls (ytb yw00) yr97) = true := z_seg (a := 80) (k := 40) yq_yr97_2 yq_yr97_e3
theorem yq_yr97_e1 : ((y_cd yr97).drop 40).all (y_okE ztb znw zcls (ytb yw00) yr97) = true := z_seg (a := 40) (k := 40) yq_yr97_1 yq_yr97_e2
theorem yq_yr97_e0 : ((y_cd yr97).drop 0).all (y_okE ztb znw zcls (ytb yw00) yr97) = true := z_seg (a := 0) (k := 40) yq_yr97_0 yq_yr97_e1
theorem yq_yr97 : (y_cd yr97).all (y_okE ztb znw zcls (ytb yw00) yr97) = true := z_seg0 yq_yr97_e0
theorem yo_yr97 : y_okM ztb zcls yr97 := y_okM_i (z_codeIn (ch := 4) (i := 181) (l := tables_1_4) rfl rfl) (z_w_ok (n := 1004) (by decide +kernel)) (by decide +kernel) ⟨by decide +kernel, by decide +kernel⟩ (z_w_ok (n := 4180) (by decide +kernel)) (z_w_ok (n := 22) (by decide +kernel)) rfl rfl (by decide)
theorem yq_yr98_0 : (((y_cd yr98).drop 0).take 40).all (y_okE ztb znw zcls (ytb yw00) yr98) = true := by decide +kernel
theorem yq_yr98_1 : (((y_cd yr98).drop 40).take 40).all (y_okE ztb znw zcls (ytb yw00) yr98) = true := by decide +kernel
theorem yq_yr98_2 : (((y_cd yr98).drop 80).take 40).all (y_okE ztb znw zcls (ytb yw00) yr98) = true := by decide +kernel
theorem yq_yr98_3 : (((y_cd yr98).drop 120).take 40).all (y_okE ztb znw zcls (ytb yw00) yr98) = true := by decide +kernel
theorem yq_yr98_e4 : ((y_cd yr98).drop 160).all (y_okE ztb znw zcls (ytb yw00) yr98) = true := z_seg_end (by decide +kernel)
theorem yq_yr98_e3 : ((y_cd yr98).drop 120).all (y_okE ztb znw zcls (ytb yw00) yr98) = true := z_seg (a := 120) (k := 40) yq_yr98_3 yq_yr98_e4
theorem yq_yr98_e2 : ((y_cd yr98).drop 80).all (y_okE ztb znw zcls (ytb yw00) yr98) = true := z_seg (a := 80) (k := 40) yq_yr98_2 yq_yr98_e3
theorem yq_yr98_e1 : ((y_cd yr98).drop 40).all (y_okE ztb znw zcls (ytb yw00) yr98) = true := z_seg (a := 40) (k := 40) yq_yr98_1 yq_yr98_e2
theorem yq_yr98_e0 : ((y_cd yr98).drop 0).all (y_okE ztb znw zcls (ytb yw00) yr98) = true := z_seg (a := 0) (k := 40) yq_yr98_0 yq_yr98_e1
theorem yq_yr98 : (y_cd yr98).all (y_okE ztb znw zcls (ytb yw00) yr98) = true := z_seg0 yq_yr98_e0
theorem yo_yr98 : y_okM ztb zcls yr98 := y_okM_i (z_codeIn (ch := 4) (i := 181) (l := tables_1_4) rfl rfl) (z_w_ok (n := 1004) (by decide +kernel)) (by decide +kernel) ⟨by decide +kernel, by decide +kernel⟩ (z_w_ok (n := 4180) (by decide +kernel)) (z_w_ok (n := 22) (by decide +kernel)) rfl rfl (by decide)
theorem yq_yr99_0 : (((y_cd yr99).drop 0).take 40).all (y_okE ztb znw zcls (ytb yw00) yr99) = true := by decide +kernel
theorem yq_yr99_1 : (((y_cd yr99).drop 40).take 40).all (y_okE ztb znw zcls (ytb yw00) yr99) = true := by decide +kernel
theorem yq_yr99_2 : (((y_cd yr99).drop 80).take 40).all (y_okE ztb znw zcls (ytb yw00) yr99) = true := by decide +kernel
theorem yq_yr99_3 : (((y_cd yr99).drop 120).take 40).all (y_okE ztb znw zcls (ytb yw00) yr99) = true := by decide +kernel
theorem yq_yr99_e4 : ((y_cd yr99).drop 160).all (y_okE ztb znw zcls (ytb yw00) yr99) = true := z_seg_end (by decide +kernel)
theorem yq_yr99_e3 : ((y_cd yr99).drop 120).all (y_okE ztb znw zcls (ytb yw00) yr99) = true := z_seg (a := 120) (k := 40) yq_yr99_3 yq_yr99_e4
theorem yq_yr99_e2 : ((y_cd yr99).drop 80).all (y_okE ztb znw zcls (ytb yw00) yr99) = true := z_seg (a := 80) (k := 40) yq_yr99_2 yq_yr99_e3
theorem yq_yr99_e1 : ((y_cd yr99).drop 40).all (y_okE ztb znw zcls (ytb yw00) yr99) = true := z_seg (a := 40) (k := 40) yq_yr99_1 yq_yr99_e2
theorem yq_yr99_e0 : ((y_cd yr99).drop 0).all (y_okE ztb znw zcls (ytb yw00) yr99) = true := z_seg (a := 0) (k := 40) yq_yr99_0 yq_yr99_e1
theorem yq_yr99 : (y_cd yr99).all (y_okE ztb znw zcls (ytb yw00) yr99) = true := z_seg0 yq_yr99_e0
theorem yo_yr99 : y_okM ztb zcls yr99 := y_okM_i (z_codeIn (ch := 4) (i := 181) (l := tables_1_4) rfl rfl) (z_w_ok (n := 1004) (by decide +kernel)) (by decide +kernel) ⟨by decide +kernel, by decide +kernel⟩ (z_w_ok (n := 4180) (by decide +kernel)) (z_w_ok (n := 22) (by decide +kernel)) rfl rfl (by decide)
theorem yq_yr100_0 : (((y_cd yr100).drop 0).take 40).all (y_okE ztb znw zcls (ytb yw00) yr100) = true := by decide +kernel
theorem yq_yr100_1 : (((y_cd yr100).drop 40).take 40).all (y_okE ztb znw zcls (ytb yw00) yr100) = true := by decide +kernel
theorem yq_yr100_2 : (((y_cd yr100).drop 80).take 40).all (y_okE ztb znw zcls (ytb yw00) yr100) = true := by decide +kernel
theorem yq_yr100_3 : (((y_cd yr100).drop 120).take 40).all (y_okE ztb znw zcls (ytb yw00) yr100) = true := by decide +kernel
theorem yq_yr100_e4 : ((y_cd yr100).drop 160).all (y_okE ztb znw zcls (ytb yw00) yr100) = true := z_seg_end (by decide +kernel)
theorem yq_yr100_e3 : ((y_cd yr100).drop 120).all (y_okE ztb znw zcls (ytb yw00) yr100) = true := z_seg (a := 120) (k := 40) yq_yr100_3 yq_yr100_e4
theorem yq_yr100_e2 : ((y_cd yr100).drop 80).all (y_okE ztb znw zcls (ytb yw00) yr100) = true := z_seg (a := 80) (k := 40) yq_yr100_2 yq_yr100_e3
theorem yq_yr100_e1 : ((y_cd yr100).drop 40).all (y_okE ztb znw zcls (ytb yw00) yr100) = true := z_seg (a := 40) (k := 40) yq_yr100_1 yq_yr100_e2
theorem yq_yr100_e0 : ((y_cd yr100).drop 0).all (y_okE ztb znw zcls (ytb yw00) yr100) = true := z_seg (a := 0) (k := 40) yq_yr100_0 yq_yr100_e1
theorem yq_yr100 : (y_cd yr100).all (y_okE ztb znw zcls (ytb yw00) yr100) = true := z_seg0 yq_yr100_e0
theorem yo_yr100 : y_okM ztb zcls yr100 := y_okM_i (z_codeIn (ch := 4) (i := 181) (l := tables_1_4) rfl rfl) (z_w_ok (n := 1004) (by decide +kernel)) (by decide +kernel) ⟨by decide +kernel, by decide +kernel⟩ (z_w_ok (n := 4180) (by decide +kernel)) (z_w_ok (n := 22) (by decide +kernel)) rfl rfl (by decide)
theorem yq_yr101_0 : (((y_cd yr101).drop 0).take 40).all (y_okE ztb znw zcls (ytb yw00) yr101) = true := by decide +kernel
theorem yq_yr101_1 : (((y_cd yr101).drop 40).take 40).all (y_okE ztb znw zcls (ytb yw00) yr101) = true := by decide +kernel
theorem yq_yr101_2 : (((y_cd yr101).drop 80).take 40).all (y_okE ztb znw zcls (ytb yw00) yr101) = true := by decide +kernel
theorem yq_yr101_3 : (((y_cd yr101).drop 120).take 40).all (y_okE ztb znw zcls (ytb yw00) yr101) = true := by decide +kernel
theorem yq_yr101_e4 : ((y_cd yr101).drop 160).all (y_okE ztb znw zcls (ytb yw00) yr101) = true := z_seg_end (by decide +kernel)
theorem yq_yr101_e3 : ((y_cd yr101).drop 120).all (y_okE ztb znw zcls (ytb yw00) yr101) = true := z_seg (a := 120) (k := 40) yq_yr101_3 yq_yr101_e4
theorem yq_yr101_e2 : ((y_cd yr101).drop 80).all (y_okE ztb znw zcls (ytb yw00) yr101) = true := z_seg (a := 80) (k := 40) yq_yr101_2 yq_yr101_e3
theorem yq_yr101_e1 : ((y_cd yr101).drop 40).all (y_okE ztb znw zcls (ytb yw00) yr101) = true := z_seg (a := 40) (k := 40) yq_yr101_1 yq_yr101_e2
theorem yq_yr101_e0 : ((y_cd yr101).drop 0).all (y_okE ztb znw zcls (ytb yw00) yr101) = true := z_seg (a := 0) (k := 40) yq_yr101_0 yq_yr101_e1
theorem yq_yr101 : (y_cd yr101).all (y_okE ztb znw zcls (ytb yw00) yr101) = true := z_seg0 yq_yr101_e0
theorem yo_yr101 : y_okM ztb zcls yr101 := y_okM_i (z_codeIn (ch := 4) (i := 181) (l := tables_1_4) rfl rfl) (z_w_ok (n := 1004) (by decide +kernel)) (by decide +kernel) ⟨by decide +kernel, by decide +kernel⟩ (z_w_ok (n := 4180) (by decide +kernel)) (z_w_ok (n := 22) (by decide +kernel)) rfl rfl (by decide)
theorem yq_yr102 : (y_cd yr102).all (y_okE ztb znw zcls (ytb yw00) yr102) = true := by decide +kernel
theorem yo_yr102 : y_okM ztb zcls yr102 := y_okM_i (z_codeIn (ch := 4) (i := 172) (l := tables_1_4) rfl rfl) (z_w_ok (n := 1004) (by decide +kernel)) (by decide +kernel) ⟨by decide +kernel, by decide +kernel⟩ (z_w_ok (n := 4171) (by decide +kernel)) (z_w_ok (n := 20) (by decide +kernel)) rfl rfl (by decide)
theorem yq_yr103_0 : (((y_cd yr103).drop 0).take 40).all (y_okE ztb znw zcls (ytb yw00) yr103) = true := by decide +kernel
theorem yq_yr103_1 : (((y_cd yr103).drop 40).take 40).all (y_okE ztb znw zcls (ytb yw00) yr103) = true := by decide +kernel
theorem yq_yr103_e2 : ((y_cd yr103).drop 80).all (y_okE ztb znw zcls (ytb yw00) yr103) = true := z_seg_end (by decide +kernel)
theorem yq_yr103_e1 : ((y_cd yr103).drop 40).all (y_okE ztb znw zcls (ytb yw00) yr103) = true := z_seg (a := 40) (k := 40) yq_yr103_1 yq_yr103_e2
theorem yq_yr103_e0 : ((y_cd yr103).drop 0).all (y_okE ztb znw zcls (ytb yw00) yr103) = true := z_seg (a := 0) (k := 40) yq_yr103_0 yq_yr103_e1
theorem yq_yr103 : (y_cd yr103).all (y_okE ztb znw zcls (ytb yw00) yr103) = true := z_seg0 yq_yr103_e0
theorem yo_yr103 : y_okM ztb zcls yr103 := y_okM_i (z_codeIn (ch := 4) (i := 206) (l := tables_1_4) rfl rfl) (z_w_ok (n := 1004) (by decide +kernel)) (by decide +kernel) ⟨by decide +kernel, by decide +kernel⟩ (z_w_ok (n := 4205) (by decide +kernel)) (z_w_ok (n := 28) (by decide +kernel)) rfl rfl (by decide)
