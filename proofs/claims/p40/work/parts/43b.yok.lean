theorem yq_ym71 : (y_cd ym71).all (y_okE ztb znw zcls (ytb yw00) ym71) = true := by decide +kernel
theorem yo_ym71 : y_okM ztb zcls ym71 := y_okM_i (z_codeIn (ch := 5) (i := 9) (l := tables_1_5) rfl rfl) (z_w_ok (n := 1004) (by decide +kernel)) (by decide +kernel) ⟨by decide +kernel, by decide +kernel⟩ (z_w_ok (n := 5007) (by decide +kernel)) (z_w_ok (n := 5008) (by decide +kernel)) rfl rfl (by decide)
theorem yq_ym72 : (y_cd ym72).all (y_okE ztb znw zcls (ytb yw00) ym72) = true := by decide +kernel
theorem yo_ym72 : y_okM ztb zcls ym72 := y_okM_i (z_codeIn (ch := 5) (i := 70) (l := tables_1_5) rfl rfl) (z_w_ok (n := 1004) (by decide +kernel)) (by decide +kernel) ⟨by decide +kernel, by decide +kernel⟩ (z_w_ok (n := 5068) (by decide +kernel)) (z_w_ok (n := 5069) (by decide +kernel)) rfl rfl (by decide)
theorem yq_ym73 : (y_cd ym73).all (y_okE ztb znw zcls (ytb yw00) ym73) = true := by decide +kernel
theorem yo_ym73 : y_okM ztb zcls ym73 := y_okM_i (z_codeIn (ch := 5) (i := 29) (l := tables_1_5) rfl rfl) (z_w_ok (n := 1004) (by decide +kernel)) (by decide +kernel) ⟨by decide +kernel, by decide +kernel⟩ (z_w_ok (n := 5027) (by decide +kernel)) (z_w_ok (n := 5028) (by decide +kernel)) rfl rfl (by decide)
theorem yq_ym74 : (y_cd ym74).all (y_okE ztb znw zcls (ytb yw00) ym74) = true := by decide +kernel
theorem yo_ym74 : y_okM ztb zcls ym74 := y_okM_i (z_codeIn (ch := 4) (i := 168) (l := tables_1_4) rfl rfl) (z_w_ok (n := 1004) (by decide +kernel)) (by decide +kernel) ⟨by decide +kernel, by decide +kernel⟩ (z_w_ok (n := 4167) (by decide +kernel)) (z_w_ok (n := 19) (by decide +kernel)) rfl rfl (by decide)
theorem yq_ym75 : (y_cd ym75).all (y_okE ztb znw zcls (ytb yw00) ym75) = true := by decide +kernel
theorem yo_ym75 : y_okM ztb zcls ym75 := y_okM_i (z_codeIn (ch := 5) (i := 78) (l := tables_1_5) rfl rfl) (z_w_ok (n := 1004) (by decide +kernel)) (by decide +kernel) ⟨by decide +kernel, by decide +kernel⟩ (z_w_ok (n := 5076) (by decide +kernel)) (z_w_ok (n := 5077) (by decide +kernel)) rfl rfl (by decide)
theorem yq_ym76 : (y_cd ym76).all (y_okE ztb znw zcls (ytb yw00) ym76) = true := by decide +kernel
theorem yo_ym76 : y_okM ztb zcls ym76 := y_okM_i (z_codeIn (ch := 6) (i := 130) (l := tables_1_6) rfl rfl) (z_w_ok (n := 1008) (by decide +kernel)) (by decide +kernel) ⟨by decide +kernel, by decide +kernel⟩ (z_w_ok (n := 6129) (by decide +kernel)) (z_w_ok (n := 44) (by decide +kernel)) rfl rfl (by decide)
theorem yq_ym77 : (y_cd ym77).all (y_okE ztb znw zcls (ytb yw00) ym77) = true := by decide +kernel
theorem yo_ym77 : y_okM ztb zcls ym77 := y_okM_i (z_codeIn (ch := 6) (i := 138) (l := tables_1_6) rfl rfl) (z_w_ok (n := 1008) (by decide +kernel)) (by decide +kernel) ⟨by decide +kernel, by decide +kernel⟩ (z_w_ok (n := 6137) (by decide +kernel)) (z_w_ok (n := 46) (by decide +kernel)) rfl rfl (by decide)
theorem yq_ym78 : (y_cd ym78).all (y_okE ztb znw zcls (ytb yw00) ym78) = true := by decide +kernel
theorem yo_ym78 : y_okM ztb zcls ym78 := y_okM_i (z_codeIn (ch := 6) (i := 122) (l := tables_1_6) rfl rfl) (z_w_ok (n := 1008) (by decide +kernel)) (by decide +kernel) ⟨by decide +kernel, by decide +kernel⟩ (z_w_ok (n := 6120) (by decide +kernel)) (z_w_ok (n := 6121) (by decide +kernel)) rfl rfl (by decide)
theorem yq_ym79 : (y_cd ym79).all (y_okE ztb znw zcls (ytb yw00) ym79) = true := by decide +kernel
theorem yo_ym79 : y_okM ztb zcls ym79 := y_okM_i (z_codeIn (ch := 6) (i := 167) (l := tables_1_6) rfl rfl) (z_w_ok (n := 1008) (by decide +kernel)) (by decide +kernel) ⟨by decide +kernel, by decide +kernel⟩ (z_w_ok (n := 6166) (by decide +kernel)) (z_w_ok (n := 49) (by decide +kernel)) rfl rfl (by decide)
theorem yq_ym80 : (y_cd ym80).all (y_okE ztb znw zcls (ytb yw00) ym80) = true := by decide +kernel
theorem yo_ym80 : y_okM ztb zcls ym80 := y_okM_i (z_codeIn (ch := 5) (i := 201) (l := tables_1_5) rfl rfl) (z_w_ok (n := 1008) (by decide +kernel)) (by decide +kernel) ⟨by decide +kernel, by decide +kernel⟩ (z_w_ok (n := 5199) (by decide +kernel)) (z_w_ok (n := 5200) (by decide +kernel)) rfl rfl (by decide)
theorem yq_ym81 : (y_cd ym81).all (y_okE ztb znw zcls (ytb yw00) ym81) = true := by decide +kernel
theorem yo_ym81 : y_okM ztb zcls ym81 := y_okM_s (z_codeIn (ch := 5) (i := 1) (l := tables_1_5) rfl rfl) (z_w_ok (n := 1001) (by decide +kernel)) (by decide +kernel) ⟨by decide +kernel, by decide +kernel⟩ (z_w_ok (n := 5000) (by decide +kernel)) (by decide)
theorem yq_ym82 : (y_cd ym82).all (y_okE ztb znw zcls (ytb yw00) ym82) = true := by decide +kernel
theorem yo_ym82 : y_okM ztb zcls ym82 := y_okM_s (z_codeIn (ch := 5) (i := 136) (l := tables_1_5) rfl rfl) (z_w_ok (n := 1001) (by decide +kernel)) (by decide +kernel) ⟨by decide +kernel, by decide +kernel⟩ (z_w_ok (n := 5135) (by decide +kernel)) (by decide)
theorem yq_ym83 : (y_cd ym83).all (y_okE ztb znw zcls (ytb yw00) ym83) = true := by decide +kernel
theorem yo_ym83 : y_okM ztb zcls ym83 := y_okM_i (z_codeIn (ch := 5) (i := 160) (l := tables_1_5) rfl rfl) (z_w_ok (n := 1001) (by decide +kernel)) (by decide +kernel) ⟨by decide +kernel, by decide +kernel⟩ (z_w_ok (n := 5159) (by decide +kernel)) (z_w_ok (n := 40) (by decide +kernel)) rfl rfl (by decide)
theorem yq_ym84 : (y_cd ym84).all (y_okE ztb znw zcls (ytb yw00) ym84) = true := by decide +kernel
theorem yo_ym84 : y_okM ztb zcls ym84 := y_okM_s (z_codeIn (ch := 7) (i := 125) (l := tables_1_7) rfl rfl) (z_w_ok (n := 1001) (by decide +kernel)) (by decide +kernel) ⟨by decide +kernel, by decide +kernel⟩ (z_w_ok (n := 7124) (by decide +kernel)) (by decide)
theorem yq_ym85 : (y_cd ym85).all (y_okE ztb znw zcls (ytb yw00) ym85) = true := by decide +kernel
theorem yo_ym85 : y_okM ztb zcls ym85 := y_okM_s (z_codeIn (ch := 5) (i := 239) (l := tables_1_5) rfl rfl) (z_w_ok (n := 1001) (by decide +kernel)) (by decide +kernel) ⟨by decide +kernel, by decide +kernel⟩ (z_w_ok (n := 5238) (by decide +kernel)) (by decide)
theorem yq_ym86 : (y_cd ym86).all (y_okE ztb znw zcls (ytb yw00) ym86) = true := by decide +kernel
theorem yo_ym86 : y_okM ztb zcls ym86 := y_okM_i (z_codeIn (ch := 6) (i := 150) (l := tables_1_6) rfl rfl) (z_w_ok (n := 1001) (by decide +kernel)) (by decide +kernel) ⟨by decide +kernel, by decide +kernel⟩ (z_w_ok (n := 6149) (by decide +kernel)) (z_w_ok (n := 47) (by decide +kernel)) rfl rfl (by decide)
theorem yq_ym87 : (y_cd ym87).all (y_okE ztb znw zcls (ytb yw00) ym87) = true := by decide +kernel
theorem yo_ym87 : y_okM ztb zcls ym87 := y_okM_s (z_codeIn (ch := 5) (i := 107) (l := tables_1_5) rfl rfl) (z_w_ok (n := 1001) (by decide +kernel)) (by decide +kernel) ⟨by decide +kernel, by decide +kernel⟩ (z_w_ok (n := 5106) (by decide +kernel)) (by decide)
theorem yq_ym88 : (y_cd ym88).all (y_okE ztb znw zcls (ytb yw00) ym88) = true := by decide +kernel
theorem yo_ym88 : y_okM ztb zcls ym88 := y_okM_i (z_codeIn (ch := 11) (i := 103) (l := tables_1_11) rfl rfl) (z_w_ok (n := 1012) (by decide +kernel)) (by decide +kernel) ⟨by decide +kernel, by decide +kernel⟩ (z_w_ok (n := 11102) (by decide +kernel)) (z_w_ok (n := 138) (by decide +kernel)) rfl rfl (by decide)
theorem yq_ym89_0 : (((y_cd ym89).drop 0).take 40).all (y_okE ztb znw zcls (ytb yw00) ym89) = true := by decide +kernel
theorem yq_ym89_1 : (((y_cd ym89).drop 40).take 40).all (y_okE ztb znw zcls (ytb yw00) ym89) = true := by decide +kernel
theorem yq_ym89_e2 : ((y_cd ym89).drop 80).all (y_okE ztb znw zcls (ytb yw00) ym89) = true := z_seg_end (by decide +kernel)
theorem yq_ym89_e1 : ((y_cd ym89).drop 40).all (y_okE ztb znw zcls (ytb yw00) ym89) = true := z_seg (a := 40) (k := 40) yq_ym89_1 yq_ym89_e2
theorem yq_ym89_e0 : ((y_cd ym89).drop 0).all (y_okE ztb znw zcls (ytb yw00) ym89) = true := z_seg (a := 0) (k := 40) yq_ym89_0 yq_ym89_e1
theorem yq_ym89 : (y_cd ym89).all (y_okE ztb znw zcls (ytb yw00) ym89) = true := z_seg0 yq_ym89_e0
theorem yo_ym89 : y_okM ztb zcls ym89 := y_okM_i (z_codeIn (ch := 11) (i := 163) (l := tables_1_11) rfl rfl) (z_w_ok (n := 1012) (by decide +kernel)) (by decide +kernel) ⟨by decide +kernel, by decide +kernel⟩ (z_w_ok (n := 11162) (by decide +kernel)) (z_w_ok (n := 143) (by decide +kernel)) rfl rfl (by decide)
theorem yq_ym90 : (y_cd ym90).all (y_okE ztb znw zcls (ytb yw00) ym90) = true := by decide +kernel
theorem yo_ym90 : y_okM ztb zcls ym90 := y_okM_i (z_codeIn (ch := 10) (i := 95) (l := tables_1_10) rfl rfl) (z_w_ok (n := 1012) (by decide +kernel)) (by decide +kernel) ⟨by decide +kernel, by decide +kernel⟩ (z_w_ok (n := 10094) (by decide +kernel)) (z_w_ok (n := 90) (by decide +kernel)) rfl rfl (by decide)
theorem yq_ym91 : (y_cd ym91).all (y_okE ztb znw zcls (ytb yw00) ym91) = true := by decide +kernel
theorem yo_ym91 : y_okM ztb zcls ym91 := y_okM_i (z_codeIn (ch := 12) (i := 56) (l := tables_1_12) rfl rfl) (z_w_ok (n := 1012) (by decide +kernel)) (by decide +kernel) ⟨by decide +kernel, by decide +kernel⟩ (z_w_ok (n := 12055) (by decide +kernel)) (z_w_ok (n := 171) (by decide +kernel)) rfl rfl (by decide)
theorem yq_ym92_0 : (((y_cd ym92).drop 0).take 40).all (y_okE ztb znw zcls (ytb yw00) ym92) = true := by decide +kernel
theorem yq_ym92_1 : (((y_cd ym92).drop 40).take 40).all (y_okE ztb znw zcls (ytb yw00) ym92) = true := by decide +kernel
theorem yq_ym92_e2 : ((y_cd ym92).drop 80).all (y_okE ztb znw zcls (ytb yw00) ym92) = true := z_seg_end (by decide +kernel)
theorem yq_ym92_e1 : ((y_cd ym92).drop 40).all (y_okE ztb znw zcls (ytb yw00) ym92) = true := z_seg (a := 40) (k := 40) yq_ym92_1 yq_ym92_e2
theorem yq_ym92_e0 : ((y_cd ym92).drop 0).all (y_okE ztb znw zcls (ytb yw00) ym92) = true := z_seg (a := 0) (k := 40) yq_ym92_0 yq_ym92_e1
theorem yq_ym92 : (y_cd ym92).all (y_okE ztb znw zcls (ytb yw00) ym92) = true := z_seg0 yq_ym92_e0
theorem yo_ym92 : y_okM ztb zcls ym92 := y_okM_i (z_codeIn (ch := 11) (i := 188) (l := tables_1_11) rfl rfl) (z_w_ok (n := 1012) (by decide +kernel)) (by decide +kernel) ⟨by decide +kernel, by decide +kernel⟩ (z_w_ok (n := 11187) (by decide +kernel)) (z_w_ok (n := 149) (by decide +kernel)) rfl rfl (by decide)
theorem yq_ym93 : (y_cd ym93).all (y_okE ztb znw zcls (ytb yw00) ym93) = true := by decide +kernel
theorem yo_ym93 : y_okM ztb zcls ym93 := y_okM_i (z_codeIn (ch := 12) (i := 169) (l := tables_1_12) rfl rfl) (z_w_ok (n := 1012) (by decide +kernel)) (by decide +kernel) ⟨by decide +kernel, by decide +kernel⟩ (z_w_ok (n := 12168) (by decide +kernel)) (z_w_ok (n := 189) (by decide +kernel)) rfl rfl (by decide)
theorem yq_ym94 : (y_cd ym94).all (y_okE ztb znw zcls (ytb yw00) ym94) = true := by decide +kernel
theorem yo_ym94 : y_okM ztb zcls ym94 := y_okM_i (z_codeIn (ch := 12) (i := 64) (l := tables_1_12) rfl rfl) (z_w_ok (n := 1012) (by decide +kernel)) (by decide +kernel) ⟨by decide +kernel, by decide +kernel⟩ (z_w_ok (n := 12063) (by decide +kernel)) (z_w_ok (n := 173) (by decide +kernel)) rfl rfl (by decide)
theorem yq_ym95 : (y_cd ym95).all (y_okE ztb znw zcls (ytb yw00) ym95) = true := by decide +kernel
theorem yo_ym95 : y_okM ztb zcls ym95 := y_okM_i (z_codeIn (ch := 11) (i := 83) (l := tables_1_11) rfl rfl) (z_w_ok (n := 1012) (by decide +kernel)) (by decide +kernel) ⟨by decide +kernel, by decide +kernel⟩ (z_w_ok (n := 11082) (by decide +kernel)) (z_w_ok (n := 133) (by decide +kernel)) rfl rfl (by decide)
theorem yq_ym96 : (y_cd ym96).all (y_okE ztb znw zcls (ytb yw00) ym96) = true := by decide +kernel
theorem yo_ym96 : y_okM ztb zcls ym96 := y_okM_i (z_codeIn (ch := 11) (i := 139) (l := tables_1_11) rfl rfl) (z_w_ok (n := 1012) (by decide +kernel)) (by decide +kernel) ⟨by decide +kernel, by decide +kernel⟩ (z_w_ok (n := 11138) (by decide +kernel)) (z_w_ok (n := 142) (by decide +kernel)) rfl rfl (by decide)
theorem yq_ym97 : (y_cd ym97).all (y_okE ztb znw zcls (ytb yw00) ym97) = true := by decide +kernel
theorem yo_ym97 : y_okM ztb zcls ym97 := y_okM_s (z_codeIn (ch := 10) (i := 79) (l := tables_1_10) rfl rfl) (z_w_ok (n := 1012) (by decide +kernel)) (by decide +kernel) ⟨by decide +kernel, by decide +kernel⟩ (z_w_ok (n := 10078) (by decide +kernel)) (by decide)
theorem yq_ym98 : (y_cd ym98).all (y_okE ztb znw zcls (ytb yw00) ym98) = true := by decide +kernel
theorem yo_ym98 : y_okM ztb zcls ym98 := y_okM_s (z_codeIn (ch := 10) (i := 98) (l := tables_1_10) rfl rfl) (z_w_ok (n := 1012) (by decide +kernel)) (by decide +kernel) ⟨by decide +kernel, by decide +kernel⟩ (z_w_ok (n := 10097) (by decide +kernel)) (by decide)
theorem yq_ym99 : (y_cd ym99).all (y_okE ztb znw zcls (ytb yw00) ym99) = true := by decide +kernel
theorem yo_ym99 : y_okM ztb zcls ym99 := y_okM_i (z_codeIn (ch := 11) (i := 11) (l := tables_1_11) rfl rfl) (z_w_ok (n := 1012) (by decide +kernel)) (by decide +kernel) ⟨by decide +kernel, by decide +kernel⟩ (z_w_ok (n := 11010) (by decide +kernel)) (z_w_ok (n := 116) (by decide +kernel)) rfl rfl (by decide)
theorem yq_ym100 : (y_cd ym100).all (y_okE ztb znw zcls (ytb yw00) ym100) = true := by decide +kernel
theorem yo_ym100 : y_okM ztb zcls ym100 := y_okM_i (z_codeIn (ch := 11) (i := 171) (l := tables_1_11) rfl rfl) (z_w_ok (n := 1012) (by decide +kernel)) (by decide +kernel) ⟨by decide +kernel, by decide +kernel⟩ (z_w_ok (n := 11170) (by decide +kernel)) (z_w_ok (n := 145) (by decide +kernel)) rfl rfl (by decide)
theorem yq_ym101 : (y_cd ym101).all (y_okE ztb znw zcls (ytb yw00) ym101) = true := by decide +kernel
theorem yo_ym101 : y_okM ztb zcls ym101 := y_okM_s (z_codeIn (ch := 10) (i := 101) (l := tables_1_10) rfl rfl) (z_w_ok (n := 1012) (by decide +kernel)) (by decide +kernel) ⟨by decide +kernel, by decide +kernel⟩ (z_w_ok (n := 10100) (by decide +kernel)) (by decide)
theorem yq_ym102 : (y_cd ym102).all (y_okE ztb znw zcls (ytb yw00) ym102) = true := by decide +kernel
theorem yo_ym102 : y_okM ztb zcls ym102 := y_okM_i (z_codeIn (ch := 10) (i := 109) (l := tables_1_10) rfl rfl) (z_w_ok (n := 1012) (by decide +kernel)) (by decide +kernel) ⟨by decide +kernel, by decide +kernel⟩ (z_w_ok (n := 10108) (by decide +kernel)) (z_w_ok (n := 92) (by decide +kernel)) rfl rfl (by decide)
theorem yq_ym103 : (y_cd ym103).all (y_okE ztb znw zcls (ytb yw00) ym103) = true := by decide +kernel
theorem yo_ym103 : y_okM ztb zcls ym103 := y_okM_i (z_codeIn (ch := 11) (i := 183) (l := tables_1_11) rfl rfl) (z_w_ok (n := 1012) (by decide +kernel)) (by decide +kernel) ⟨by decide +kernel, by decide +kernel⟩ (z_w_ok (n := 11182) (by decide +kernel)) (z_w_ok (n := 148) (by decide +kernel)) rfl rfl (by decide)
theorem yq_ym104 : (y_cd ym104).all (y_okE ztb znw zcls (ytb yw00) ym104) = true := by decide +kernel
theorem yo_ym104 : y_okM ztb zcls ym104 := y_okM_s (z_codeIn (ch := 12) (i := 234) (l := tables_1_12) rfl rfl) (z_w_ok (n := 1012) (by decide +kernel)) (by decide +kernel) ⟨by decide +kernel, by decide +kernel⟩ (z_w_ok (n := 12233) (by decide +kernel)) (by decide)
theorem yq_ym105 : (y_cd ym105).all (y_okE ztb znw zcls (ytb yw00) ym105) = true := by decide +kernel
theorem yo_ym105 : y_okM ztb zcls ym105 := y_okM_i (z_codeIn (ch := 8) (i := 101) (l := tables_1_8) rfl rfl) (z_w_ok (n := 1012) (by decide +kernel)) (by decide +kernel) ⟨by decide +kernel, by decide +kernel⟩ (z_w_ok (n := 8100) (by decide +kernel)) (z_w_ok (n := 85) (by decide +kernel)) rfl rfl (by decide)
theorem yq_ym106 : (y_cd ym106).all (y_okE ztb znw zcls (ytb yw00) ym106) = true := by decide +kernel
theorem yo_ym106 : y_okM ztb zcls ym106 := y_okM_i (z_codeIn (ch := 11) (i := 15) (l := tables_1_11) rfl rfl) (z_w_ok (n := 1012) (by decide +kernel)) (by decide +kernel) ⟨by decide +kernel, by decide +kernel⟩ (z_w_ok (n := 11014) (by decide +kernel)) (z_w_ok (n := 117) (by decide +kernel)) rfl rfl (by decide)
theorem yq_ym107 : (y_cd ym107).all (y_okE ztb znw zcls (ytb yw00) ym107) = true := by decide +kernel
theorem yo_ym107 : y_okM ztb zcls ym107 := y_okM_i (z_codeIn (ch := 11) (i := 95) (l := tables_1_11) rfl rfl) (z_w_ok (n := 1012) (by decide +kernel)) (by decide +kernel) ⟨by decide +kernel, by decide +kernel⟩ (z_w_ok (n := 11094) (by decide +kernel)) (z_w_ok (n := 136) (by decide +kernel)) rfl rfl (by decide)
theorem yq_ym108 : (y_cd ym108).all (y_okE ztb znw zcls (ytb yw00) ym108) = true := by decide +kernel
theorem yo_ym108 : y_okM ztb zcls ym108 := y_okM_i (z_codeIn (ch := 10) (i := 187) (l := tables_1_10) rfl rfl) (z_w_ok (n := 1012) (by decide +kernel)) (by decide +kernel) ⟨by decide +kernel, by decide +kernel⟩ (z_w_ok (n := 10186) (by decide +kernel)) (z_w_ok (n := 109) (by decide +kernel)) rfl rfl (by decide)
theorem yq_ym109_0 : (((y_cd ym109).drop 0).take 40).all (y_okE ztb znw zcls (ytb yw00) ym109) = true := by decide +kernel
theorem yq_ym109_1 : (((y_cd ym109).drop 40).take 40).all (y_okE ztb znw zcls (ytb yw00) ym109) = true := by decide +kernel
theorem yq_ym109_2 : (((y_cd ym109).drop 80).take 40).all (y_okE ztb znw zcls (ytb yw00) ym109) = true := by decide +kernel
theorem yq_ym109_e3 : ((y_cd ym109).drop 120).all (y_okE ztb znw zcls (ytb yw00) ym109) = true := z_seg_end (by decide +kernel)
theorem yq_ym109_e2 : ((y_cd ym109).drop 80).all (y_okE ztb znw zcls (ytb yw00) ym109) = true := z_seg (a := 80) (k := 40) yq_ym109_2 yq_ym109_e3
theorem yq_ym109_e1 : ((y_cd ym109).drop 40).all (y_okE ztb znw zcls (ytb yw00) ym109) = true := z_seg (a := 40) (k := 40) yq_ym109_1 yq_ym109_e2
theorem yq_ym109_e0 : ((y_cd ym109).drop 0).all (y_okE ztb znw zcls (ytb yw00) ym109) = true := z_seg (a := 0) (k := 40) yq_ym109_0 yq_ym109_e1
theorem yq_ym109 : (y_cd ym109).all (y_okE ztb znw zcls (ytb yw00) ym109) = true := z_seg0 yq_ym109_e0
theorem yo_ym109 : y_okM ztb zcls ym109 := y_okM_i (z_codeIn (ch := 12) (i := 238) (l := tables_1_12) rfl rfl) (z_w_ok (n := 1012) (by decide +kernel)) (by decide +kernel) ⟨by decide +kernel, by decide +kernel⟩ (z_w_ok (n := 12237) (by decide +kernel)) (z_w_ok (n := 196) (by decide +kernel)) rfl rfl (by decide)
theorem yq_ym110 : (y_cd ym110).all (y_okE ztb znw zcls (ytb yw00) ym110) = true := by decide +kernel
theorem yo_ym110 : y_okM ztb zcls ym110 := y_okM_i (z_codeIn (ch := 11) (i := 127) (l := tables_1_11) rfl rfl) (z_w_ok (n := 1012) (by decide +kernel)) (by decide +kernel) ⟨by decide +kernel, by decide +kernel⟩ (z_w_ok (n := 11126) (by decide +kernel)) (z_w_ok (n := 141) (by decide +kernel)) rfl rfl (by decide)
theorem yq_ym111 : (y_cd ym111).all (y_okE ztb znw zcls (ytb yw00) ym111) = true := by decide +kernel
theorem yo_ym111 : y_okM ztb zcls ym111 := y_okM_i (z_codeIn (ch := 10) (i := 215) (l := tables_1_10) rfl rfl) (z_w_ok (n := 1012) (by decide +kernel)) (by decide +kernel) ⟨by decide +kernel, by decide +kernel⟩ (z_w_ok (n := 10214) (by decide +kernel)) (z_w_ok (n := 112) (by decide +kernel)) rfl rfl (by decide)
theorem yq_ym112 : (y_cd ym112).all (y_okE ztb znw zcls (ytb yw00) ym112) = true := by decide +kernel
theorem yo_ym112 : y_okM ztb zcls ym112 := y_okM_i (z_codeIn (ch := 10) (i := 199) (l := tables_1_10) rfl rfl) (z_w_ok (n := 1012) (by decide +kernel)) (by decide +kernel) ⟨by decide +kernel, by decide +kernel⟩ (z_w_ok (n := 10198) (by decide +kernel)) (z_w_ok (n := 110) (by decide +kernel)) rfl rfl (by decide)
theorem yq_ym113 : (y_cd ym113).all (y_okE ztb znw zcls (ytb yw00) ym113) = true := by decide +kernel
theorem yo_ym113 : y_okM ztb zcls ym113 := y_okM_i (z_codeIn (ch := 10) (i := 207) (l := tables_1_10) rfl rfl) (z_w_ok (n := 1012) (by decide +kernel)) (by decide +kernel) ⟨by decide +kernel, by decide +kernel⟩ (z_w_ok (n := 10206) (by decide +kernel)) (z_w_ok (n := 111) (by decide +kernel)) rfl rfl (by decide)
theorem yq_ym114 : (y_cd ym114).all (y_okE ztb znw zcls (ytb yw00) ym114) = true := by decide +kernel
theorem yo_ym114 : y_okM ztb zcls ym114 := y_okM_i (z_codeIn (ch := 11) (i := 196) (l := tables_1_11) rfl rfl) (z_w_ok (n := 1012) (by decide +kernel)) (by decide +kernel) ⟨by decide +kernel, by decide +kernel⟩ (z_w_ok (n := 11195) (by decide +kernel)) (z_w_ok (n := 150) (by decide +kernel)) rfl rfl (by decide)
theorem yq_ym115 : (y_cd ym115).all (y_okE ztb znw zcls (ytb yw00) ym115) = true := by decide +kernel
theorem yo_ym115 : y_okM ztb zcls ym115 := y_okM_i (z_codeIn (ch := 8) (i := 97) (l := tables_1_8) rfl rfl) (z_w_ok (n := 1012) (by decide +kernel)) (by decide +kernel) ⟨by decide +kernel, by decide +kernel⟩ (z_w_ok (n := 8096) (by decide +kernel)) (z_w_ok (n := 84) (by decide +kernel)) rfl rfl (by decide)
theorem yq_ym116 : (y_cd ym116).all (y_okE ztb znw zcls (ytb yw00) ym116) = true := by decide +kernel
theorem yo_ym116 : y_okM ztb zcls ym116 := y_okM_i (z_codeIn (ch := 11) (i := 220) (l := tables_1_11) rfl rfl) (z_w_ok (n := 1012) (by decide +kernel)) (by decide +kernel) ⟨by decide +kernel, by decide +kernel⟩ (z_w_ok (n := 11219) (by decide +kernel)) (z_w_ok (n := 154) (by decide +kernel)) rfl rfl (by decide)
theorem yq_ym117 : (y_cd ym117).all (y_okE ztb znw zcls (ytb yw00) ym117) = true := by decide +kernel
theorem yo_ym117 : y_okM ztb zcls ym117 := y_okM_i (z_codeIn (ch := 11) (i := 216) (l := tables_1_11) rfl rfl) (z_w_ok (n := 1012) (by decide +kernel)) (by decide +kernel) ⟨by decide +kernel, by decide +kernel⟩ (z_w_ok (n := 11215) (by decide +kernel)) (z_w_ok (n := 153) (by decide +kernel)) rfl rfl (by decide)
theorem yq_ym118 : (y_cd ym118).all (y_okE ztb znw zcls (ytb yw00) ym118) = true := by decide +kernel
theorem yo_ym118 : y_okM ztb zcls ym118 := y_okM_i (z_codeIn (ch := 11) (i := 91) (l := tables_1_11) rfl rfl) (z_w_ok (n := 1012) (by decide +kernel)) (by decide +kernel) ⟨by decide +kernel, by decide +kernel⟩ (z_w_ok (n := 11090) (by decide +kernel)) (z_w_ok (n := 135) (by decide +kernel)) rfl rfl (by decide)
theorem yq_ym119_0 : (((y_cd ym119).drop 0).take 40).all (y_okE ztb znw zcls (ytb yw00) ym119) = true := by decide +kernel
theorem yq_ym119_1 : (((y_cd ym119).drop 40).take 40).all (y_okE ztb znw zcls (ytb yw00) ym119) = true := by decide +kernel
theorem yq_ym119_e2 : ((y_cd ym119).drop 80).all (y_okE ztb znw zcls (ytb yw00) ym119) = true := z_seg_end (by decide +kernel)
theorem yq_ym119_e1 : ((y_cd ym119).drop 40).all (y_okE ztb znw zcls (ytb yw00) ym119) = true := z_seg (a := 40) (k := 40) yq_ym119_1 yq_ym119_e2
theorem yq_ym119_e0 : ((y_cd ym119).drop 0).all (y_okE ztb znw zcls (ytb yw00) ym119) = true := z_seg (a := 0) (k := 40) yq_ym119_0 yq_ym119_e1
theorem yq_ym119 : (y_cd ym119).all (y_okE ztb znw zcls (ytb yw00) ym119) = true := z_seg0 yq_ym119_e0
theorem yo_ym119 : y_okM ztb zcls ym119 := y_okM_i (z_codeIn (ch := 12) (i := 68) (l := tables_1_12) rfl rfl) (z_w_ok (n := 1012) (by decide +kernel)) (by decide +kernel) ⟨by decide +kernel, by decide +kernel⟩ (z_w_ok (n := 12067) (by decide +kernel)) (z_w_ok (n := 174) (by decide +kernel)) rfl rfl (by decide)
theorem yq_ym120 : (y_cd ym120).all (y_okE ztb znw zcls (ytb yw00) ym120) = true := by decide +kernel
theorem yo_ym120 : y_okM ztb zcls ym120 := y_okM_i (z_codeIn (ch := 11) (i := 31) (l := tables_1_11) rfl rfl) (z_w_ok (n := 1012) (by decide +kernel)) (by decide +kernel) ⟨by decide +kernel, by decide +kernel⟩ (z_w_ok (n := 11030) (by decide +kernel)) (z_w_ok (n := 120) (by decide +kernel)) rfl rfl (by decide)
theorem yq_ym121 : (y_cd ym121).all (y_okE ztb znw zcls (ytb yw00) ym121) = true := by decide +kernel
theorem yo_ym121 : y_okM ztb zcls ym121 := y_okM_s (z_codeIn (ch := 8) (i := 93) (l := tables_1_8) rfl rfl) (z_w_ok (n := 1012) (by decide +kernel)) (by decide +kernel) ⟨by decide +kernel, by decide +kernel⟩ (z_w_ok (n := 8092) (by decide +kernel)) (by decide)
theorem yq_ym122_0 : (((y_cd ym122).drop 0).take 40).all (y_okE ztb znw zcls (ytb yw00) ym122) = true := by decide +kernel
theorem yq_ym122_1 : (((y_cd ym122).drop 40).take 40).all (y_okE ztb znw zcls (ytb yw00) ym122) = true := by decide +kernel
theorem yq_ym122_2 : (((y_cd ym122).drop 80).take 40).all (y_okE ztb znw zcls (ytb yw00) ym122) = true := by decide +kernel
theorem yq_ym122_e3 : ((y_cd ym122).drop 120).all (y_okE ztb znw zcls (ytb yw00) ym122) = true := z_seg_end (by decide +kernel)
theorem yq_ym122_e2 : ((y_cd ym122).drop 80).all (y_okE ztb znw zcls (ytb yw00) ym122) = true := z_seg (a := 80) (k := 40) yq_ym122_2 yq_ym122_e3
theorem yq_ym122_e1 : ((y_cd ym122).drop 40).all (y_okE ztb znw zcls (ytb yw00) ym122) = true := z_seg (a := 40) (k := 40) yq_ym122_1 yq_ym122_e2
theorem yq_ym122_e0 : ((y_cd ym122).drop 0).all (y_okE ztb znw zcls (ytb yw00) ym122) = true := z_seg (a := 0) (k := 40) yq_ym122_0 yq_ym122_e1
theorem yq_ym122 : (y_cd ym122).all (y_okE ztb znw zcls (ytb yw00) ym122) = true := z_seg0 yq_ym122_e0
theorem yo_ym122 : y_okM ztb zcls ym122 := y_okM_i (z_codeIn (ch := 10) (i := 136) (l := tables_1_10) rfl rfl) (z_w_ok (n := 1012) (by decide +kernel)) (by decide +kernel) ⟨by decide +kernel, by decide +kernel⟩ (z_w_ok (n := 10135) (by decide +kernel)) (z_w_ok (n := 98) (by decide +kernel)) rfl rfl (by decide)
theorem yq_ym123 : (y_cd ym123).all (y_okE ztb znw zcls (ytb yw00) ym123) = true := by decide +kernel
theorem yo_ym123 : y_okM ztb zcls ym123 := y_okM_i (z_codeIn (ch := 10) (i := 123) (l := tables_1_10) rfl rfl) (z_w_ok (n := 1012) (by decide +kernel)) (by decide +kernel) ⟨by decide +kernel, by decide +kernel⟩ (z_w_ok (n := 10122) (by decide +kernel)) (z_w_ok (n := 95) (by decide +kernel)) rfl rfl (by decide)
theorem yq_ym124 : (y_cd ym124).all (y_okE ztb znw zcls (ytb yw00) ym124) = true := by decide +kernel
theorem yo_ym124 : y_okM ztb zcls ym124 := y_okM_i (z_codeIn (ch := 10) (i := 150) (l := tables_1_10) rfl rfl) (z_w_ok (n := 1012) (by decide +kernel)) (by decide +kernel) ⟨by decide +kernel, by decide +kernel⟩ (z_w_ok (n := 10149) (by decide +kernel)) (z_w_ok (n := 100) (by decide +kernel)) rfl rfl (by decide)
theorem yq_ym125 : (y_cd ym125).all (y_okE ztb znw zcls (ytb yw00) ym125) = true := by decide +kernel
theorem yo_ym125 : y_okM ztb zcls ym125 := y_okM_i (z_codeIn (ch := 10) (i := 113) (l := tables_1_10) rfl rfl) (z_w_ok (n := 1012) (by decide +kernel)) (by decide +kernel) ⟨by decide +kernel, by decide +kernel⟩ (z_w_ok (n := 10112) (by decide +kernel)) (z_w_ok (n := 93) (by decide +kernel)) rfl rfl (by decide)
theorem yq_ym126_0 : (((y_cd ym126).drop 0).take 40).all (y_okE ztb znw zcls (ytb yw00) ym126) = true := by decide +kernel
theorem yq_ym126_1 : (((y_cd ym126).drop 40).take 40).all (y_okE ztb znw zcls (ytb yw00) ym126) = true := by decide +kernel
theorem yq_ym126_e2 : ((y_cd ym126).drop 80).all (y_okE ztb znw zcls (ytb yw00) ym126) = true := z_seg_end (by decide +kernel)
theorem yq_ym126_e1 : ((y_cd ym126).drop 40).all (y_okE ztb znw zcls (ytb yw00) ym126) = true := z_seg (a := 40) (k := 40) yq_ym126_1 yq_ym126_e2
theorem yq_ym126_e0 : ((y_cd ym126).drop 0).all (y_okE ztb znw zcls (ytb yw00) ym126) = true := z_seg (a := 0) (k := 40) yq_ym126_0 yq_ym126_e1
theorem yq_ym126 : (y_cd ym126).all (y_okE ztb znw zcls (ytb yw00) ym126) = true := z_seg0 yq_ym126_e0
theorem yo_ym126 : y_okM ztb zcls ym126 := y_okM_s (z_codeIn (ch := 6) (i := 111) (l := tables_1_6) rfl rfl) (z_w_ok (n := 1021) (by decide +kernel)) (by decide +kernel) ⟨by decide +kernel, by decide +kernel⟩ (z_w_ok (n := 6110) (by decide +kernel)) (by decide)
theorem yq_ym127 : (y_cd ym127).all (y_okE ztb znw zcls (ytb yw00) ym127) = true := by decide +kernel
theorem yo_ym127 : y_okM ztb zcls ym127 := y_okM_t (z_codeIn (ch := 4) (i := 6) (l := tables_1_4) rfl rfl) (z_w_ok (n := 1013) (by decide +kernel)) (by decide +kernel) ⟨by decide +kernel, by decide +kernel⟩ (z_w_ok (n := 4004) (by decide +kernel)) (z_w_ok (n := 4005) (by decide +kernel)) rfl rfl
theorem yq_ym128 : (y_cd ym128).all (y_okE ztb znw zcls (ytb yw00) ym128) = true := by decide +kernel
theorem yo_ym128 : y_okM ztb zcls ym128 := y_okM_s (z_codeIn (ch := 4) (i := 16) (l := tables_1_4) rfl rfl) (z_w_ok (n := 1013) (by decide +kernel)) (by decide +kernel) ⟨by decide +kernel, by decide +kernel⟩ (z_w_ok (n := 4015) (by decide +kernel)) (by decide)
theorem yq_ym129 : (y_cd ym129).all (y_okE ztb znw zcls (ytb yw00) ym129) = true := by decide +kernel
theorem yo_ym129 : y_okM ztb zcls ym129 := y_okM_t (z_codeIn (ch := 4) (i := 0) (l := tables_1_4) rfl rfl) (z_w_ok (n := 1013) (by decide +kernel)) (by decide +kernel) ⟨by decide +kernel, by decide +kernel⟩ (z_w_ok (n := 3238) (by decide +kernel)) (z_w_ok (n := 3239) (by decide +kernel)) rfl rfl
theorem yq_ym130 : (y_cd ym130).all (y_okE ztb znw zcls (ytb yw00) ym130) = true := by decide +kernel
theorem yo_ym130 : y_okM ztb zcls ym130 := y_okM_t (z_codeIn (ch := 4) (i := 76) (l := tables_1_4) rfl rfl) (z_w_ok (n := 1013) (by decide +kernel)) (by decide +kernel) ⟨by decide +kernel, by decide +kernel⟩ (z_w_ok (n := 4074) (by decide +kernel)) (z_w_ok (n := 4075) (by decide +kernel)) rfl rfl
theorem yq_ym131 : (y_cd ym131).all (y_okE ztb znw zcls (ytb yw00) ym131) = true := by decide +kernel
theorem yo_ym131 : y_okM ztb zcls ym131 := y_okM_t (z_codeIn (ch := 4) (i := 80) (l := tables_1_4) rfl rfl) (z_w_ok (n := 1013) (by decide +kernel)) (by decide +kernel) ⟨by decide +kernel, by decide +kernel⟩ (z_w_ok (n := 4078) (by decide +kernel)) (z_w_ok (n := 4079) (by decide +kernel)) rfl rfl
theorem yq_ym132 : (y_cd ym132).all (y_okE ztb znw zcls (ytb yw00) ym132) = true := by decide +kernel
theorem yo_ym132 : y_okM ztb zcls ym132 := y_okM_t (z_codeIn (ch := 4) (i := 10) (l := tables_1_4) rfl rfl) (z_w_ok (n := 1013) (by decide +kernel)) (by decide +kernel) ⟨by decide +kernel, by decide +kernel⟩ (z_w_ok (n := 4008) (by decide +kernel)) (z_w_ok (n := 4009) (by decide +kernel)) rfl rfl
theorem yq_ym133 : (y_cd ym133).all (y_okE ztb znw zcls (ytb yw00) ym133) = true := by decide +kernel
theorem yo_ym133 : y_okM ztb zcls ym133 := y_okM_t (z_codeIn (ch := 3) (i := 236) (l := tables_1_3) rfl rfl) (z_w_ok (n := 1013) (by decide +kernel)) (by decide +kernel) ⟨by decide +kernel, by decide +kernel⟩ (z_w_ok (n := 3234) (by decide +kernel)) (z_w_ok (n := 3235) (by decide +kernel)) rfl rfl
theorem yq_ym134 : (y_cd ym134).all (y_okE ztb znw zcls (ytb yw00) ym134) = true := by decide +kernel
theorem yo_ym134 : y_okM ztb zcls ym134 := y_okM_s (z_codeIn (ch := 4) (i := 87) (l := tables_1_4) rfl rfl) (z_w_ok (n := 1014) (by decide +kernel)) (by decide +kernel) ⟨by decide +kernel, by decide +kernel⟩ (z_w_ok (n := 4086) (by decide +kernel)) (by decide)
theorem yq_ym135 : (y_cd ym135).all (y_okE ztb znw zcls (ytb yw00) ym135) = true := by decide +kernel
theorem yo_ym135 : y_okM ztb zcls ym135 := y_okM_s (z_codeIn (ch := 4) (i := 13) (l := tables_1_4) rfl rfl) (z_w_ok (n := 1014) (by decide +kernel)) (by decide +kernel) ⟨by decide +kernel, by decide +kernel⟩ (z_w_ok (n := 4012) (by decide +kernel)) (by decide)
theorem yq_ym136 : (y_cd ym136).all (y_okE ztb znw zcls (ytb yw00) ym136) = true := by decide +kernel
theorem yo_ym136 : y_okM ztb zcls ym136 := y_okM_s (z_codeIn (ch := 4) (i := 84) (l := tables_1_4) rfl rfl) (z_w_ok (n := 1014) (by decide +kernel)) (by decide +kernel) ⟨by decide +kernel, by decide +kernel⟩ (z_w_ok (n := 4083) (by decide +kernel)) (by decide)
theorem yq_ym137 : (y_cd ym137).all (y_okE ztb znw zcls (ytb yw00) ym137) = true := by decide +kernel
theorem yo_ym137 : y_okM ztb zcls ym137 := y_okM_s (z_codeIn (ch := 4) (i := 96) (l := tables_1_4) rfl rfl) (z_w_ok (n := 1014) (by decide +kernel)) (by decide +kernel) ⟨by decide +kernel, by decide +kernel⟩ (z_w_ok (n := 4095) (by decide +kernel)) (by decide)
theorem yq_ym138 : (y_cd ym138).all (y_okE ztb znw zcls (ytb yw00) ym138) = true := by decide +kernel
theorem yo_ym138 : y_okM ztb zcls ym138 := y_okM_s (z_codeIn (ch := 4) (i := 21) (l := tables_1_4) rfl rfl) (z_w_ok (n := 1015) (by decide +kernel)) (by decide +kernel) ⟨by decide +kernel, by decide +kernel⟩ (z_w_ok (n := 4020) (by decide +kernel)) (by decide)
theorem yq_yr0 : (y_cd yr0).all (y_okE ztb znw zcls (ytb yw00) yr0) = true := by decide +kernel
theorem yo_yr0 : y_okM ztb zcls yr0 := y_okM_i (z_codeIn (ch := 7) (i := 22) (l := tables_1_7) rfl rfl) (z_w_ok (n := 1007) (by decide +kernel)) (by decide +kernel) ⟨by decide +kernel, by decide +kernel⟩ (z_w_ok (n := 7020) (by decide +kernel)) (z_w_ok (n := 7021) (by decide +kernel)) rfl rfl (by decide)
theorem yq_yr1_0 : (((y_cd yr1).drop 0).take 40).all (y_okE ztb znw zcls (ytb yw00) yr1) = true := by decide +kernel
theorem yq_yr1_1 : (((y_cd yr1).drop 40).take 40).all (y_okE ztb znw zcls (ytb yw00) yr1) = true := by decide +kernel
theorem yq_yr1_e2 : ((y_cd yr1).drop 80).all (y_okE ztb znw zcls (ytb yw00) yr1) = true := z_seg_end (by decide +kernel)
theorem yq_yr1_e1 : ((y_cd yr1).drop 40).all (y_okE ztb znw zcls (ytb yw00) yr1) = true := z_seg (a := 40) (k := 40) yq_yr1_1 yq_yr1_e2
theorem yq_yr1_e0 : ((y_cd yr1).drop 0).all (y_okE ztb znw zcls (ytb yw00) yr1) = true := z_seg (a := 0) (k := 40) yq_yr1_0 yq_yr1_e1
theorem yq_yr1 : (y_cd yr1).all (y_okE ztb znw zcls (ytb yw00) yr1) = true := z_seg0 yq_yr1_e0
theorem yo_yr1 : y_okM ztb zcls yr1 := y_okM_i (z_codeIn (ch := 5) (i := 216) (l := tables_1_5) rfl rfl) (z_w_ok (n := 1007) (by decide +kernel)) (by decide +kernel) ⟨by decide +kernel, by decide +kernel⟩ (z_w_ok (n := 5214) (by decide +kernel)) (z_w_ok (n := 5215) (by decide +kernel)) rfl rfl (by decide)
