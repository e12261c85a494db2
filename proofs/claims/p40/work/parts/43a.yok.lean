theorem yq_ym0 : (y_cd ym0).all (y_okE ztb znw zcls (ytb yw00) ym0) = true := by decide +kernel
theorem yo_ym0 : y_okM ztb zcls ym0 := y_okM_i (z_codeIn (ch := 5) (i := 82) (l := tables_1_5) rfl rfl) (z_w_ok (n := 1007) (by decide +kernel)) (by decide +kernel) ⟨by decide +kernel, by decide +kernel⟩ (z_w_ok (n := 5080) (by decide +kernel)) (z_w_ok (n := 5081) (by decide +kernel)) rfl rfl (by decide)
theorem yq_ym1 : (y_cd ym1).all (y_okE ztb znw zcls (ytb yw00) ym1) = true := by decide +kernel
theorem yo_ym1 : y_okM ztb zcls ym1 := y_okM_i (z_codeIn (ch := 7) (i := 42) (l := tables_1_7) rfl rfl) (z_w_ok (n := 1007) (by decide +kernel)) (by decide +kernel) ⟨by decide +kernel, by decide +kernel⟩ (z_w_ok (n := 7040) (by decide +kernel)) (z_w_ok (n := 7041) (by decide +kernel)) rfl rfl (by decide)
theorem yq_ym2 : (y_cd ym2).all (y_okE ztb znw zcls (ytb yw00) ym2) = true := by decide +kernel
theorem yo_ym2 : y_okM ztb zcls ym2 := y_okM_i (z_codeIn (ch := 7) (i := 10) (l := tables_1_7) rfl rfl) (z_w_ok (n := 1007) (by decide +kernel)) (by decide +kernel) ⟨by decide +kernel, by decide +kernel⟩ (z_w_ok (n := 7009) (by decide +kernel)) (z_w_ok (n := 61) (by decide +kernel)) rfl rfl (by decide)
theorem yq_ym3 : (y_cd ym3).all (y_okE ztb znw zcls (ytb yw00) ym3) = true := by decide +kernel
theorem yo_ym3 : y_okM ztb zcls ym3 := y_okM_i (z_codeIn (ch := 3) (i := 115) (l := tables_1_3) rfl rfl) (z_w_ok (n := 1007) (by decide +kernel)) (by decide +kernel) ⟨by decide +kernel, by decide +kernel⟩ (z_w_ok (n := 3114) (by decide +kernel)) (z_w_ok (n := 2) (by decide +kernel)) rfl rfl (by decide)
theorem yq_ym4 : (y_cd ym4).all (y_okE ztb znw zcls (ytb yw00) ym4) = true := by decide +kernel
theorem yo_ym4 : y_okM ztb zcls ym4 := y_okM_i (z_codeIn (ch := 5) (i := 91) (l := tables_1_5) rfl rfl) (z_w_ok (n := 1007) (by decide +kernel)) (by decide +kernel) ⟨by decide +kernel, by decide +kernel⟩ (z_w_ok (n := 5090) (by decide +kernel)) (z_w_ok (n := 34) (by decide +kernel)) rfl rfl (by decide)
theorem yq_ym5 : (y_cd ym5).all (y_okE ztb znw zcls (ytb yw00) ym5) = true := by decide +kernel
theorem yo_ym5 : y_okM ztb zcls ym5 := y_okM_i (z_codeIn (ch := 6) (i := 214) (l := tables_1_6) rfl rfl) (z_w_ok (n := 1007) (by decide +kernel)) (by decide +kernel) ⟨by decide +kernel, by decide +kernel⟩ (z_w_ok (n := 6212) (by decide +kernel)) (z_w_ok (n := 6213) (by decide +kernel)) rfl rfl (by decide)
theorem yq_ym6 : (y_cd ym6).all (y_okE ztb znw zcls (ytb yw00) ym6) = true := by decide +kernel
theorem yo_ym6 : y_okM ztb zcls ym6 := y_okM_i (z_codeIn (ch := 5) (i := 66) (l := tables_1_5) rfl rfl) (z_w_ok (n := 1007) (by decide +kernel)) (by decide +kernel) ⟨by decide +kernel, by decide +kernel⟩ (z_w_ok (n := 5064) (by decide +kernel)) (z_w_ok (n := 5065) (by decide +kernel)) rfl rfl (by decide)
theorem yq_ym7 : (y_cd ym7).all (y_okE ztb znw zcls (ytb yw00) ym7) = true := by decide +kernel
theorem yo_ym7 : y_okM ztb zcls ym7 := y_okM_i (z_codeIn (ch := 5) (i := 87) (l := tables_1_5) rfl rfl) (z_w_ok (n := 1007) (by decide +kernel)) (by decide +kernel) ⟨by decide +kernel, by decide +kernel⟩ (z_w_ok (n := 5085) (by decide +kernel)) (z_w_ok (n := 5086) (by decide +kernel)) rfl rfl (by decide)
theorem yq_ym8 : (y_cd ym8).all (y_okE ztb znw zcls (ytb yw00) ym8) = true := by decide +kernel
theorem yo_ym8 : y_okM ztb zcls ym8 := y_okM_i (z_codeIn (ch := 6) (i := 226) (l := tables_1_6) rfl rfl) (z_w_ok (n := 1007) (by decide +kernel)) (by decide +kernel) ⟨by decide +kernel, by decide +kernel⟩ (z_w_ok (n := 6225) (by decide +kernel)) (z_w_ok (n := 56) (by decide +kernel)) rfl rfl (by decide)
theorem yq_ym9 : (y_cd ym9).all (y_okE ztb znw zcls (ytb yw00) ym9) = true := by decide +kernel
theorem yo_ym9 : y_okM ztb zcls ym9 := y_okM_i (z_codeIn (ch := 3) (i := 119) (l := tables_1_3) rfl rfl) (z_w_ok (n := 1007) (by decide +kernel)) (by decide +kernel) ⟨by decide +kernel, by decide +kernel⟩ (z_w_ok (n := 3117) (by decide +kernel)) (z_w_ok (n := 3118) (by decide +kernel)) rfl rfl (by decide)
theorem yq_ym10_0 : (((y_cd ym10).drop 0).take 40).all (y_okE ztb znw zcls (ytb yw00) ym10) = true := by decide +kernel
theorem yq_ym10_1 : (((y_cd ym10).drop 40).take 40).all (y_okE ztb znw zcls (ytb yw00) ym10) = true := by decide +kernel
theorem yq_ym10_e2 : ((y_cd ym10).drop 80).all (y_okE ztb znw zcls (ytb yw00) ym10) = true := z_seg_end (by decide +kernel)
theorem yq_ym10_e1 : ((y_cd ym10).drop 40).all (y_okE ztb znw zcls (ytb yw00) ym10) = true := z_seg (a := 40) (k := 40) yq_ym10_1 yq_ym10_e2
theorem yq_ym10_e0 : ((y_cd ym10).drop 0).all (y_okE ztb znw zcls (ytb yw00) ym10) = true := z_seg (a := 0) (k := 40) yq_ym10_0 yq_ym10_e1
theorem yq_ym10 : (y_cd ym10).all (y_okE ztb znw zcls (ytb yw00) ym10) = true := z_seg0 yq_ym10_e0
theorem yo_ym10 : y_okM ztb zcls ym10 := y_okM_i (z_codeIn (ch := 7) (i := 6) (l := tables_1_7) rfl rfl) (z_w_ok (n := 1007) (by decide +kernel)) (by decide +kernel) ⟨by decide +kernel, by decide +kernel⟩ (z_w_ok (n := 7005) (by decide +kernel)) (z_w_ok (n := 60) (by decide +kernel)) rfl rfl (by decide)
theorem yq_ym11 : (y_cd ym11).all (y_okE ztb znw zcls (ytb yw00) ym11) = true := by decide +kernel
theorem yo_ym11 : y_okM ztb zcls ym11 := y_okM_i (z_codeIn (ch := 5) (i := 95) (l := tables_1_5) rfl rfl) (z_w_ok (n := 1007) (by decide +kernel)) (by decide +kernel) ⟨by decide +kernel, by decide +kernel⟩ (z_w_ok (n := 5094) (by decide +kernel)) (z_w_ok (n := 35) (by decide +kernel)) rfl rfl (by decide)
theorem yq_ym12 : (y_cd ym12).all (y_okE ztb znw zcls (ytb yw00) ym12) = true := by decide +kernel
theorem yo_ym12 : y_okM ztb zcls ym12 := y_okM_i (z_codeIn (ch := 5) (i := 99) (l := tables_1_5) rfl rfl) (z_w_ok (n := 1007) (by decide +kernel)) (by decide +kernel) ⟨by decide +kernel, by decide +kernel⟩ (z_w_ok (n := 5098) (by decide +kernel)) (z_w_ok (n := 36) (by decide +kernel)) rfl rfl (by decide)
theorem yq_ym13 : (y_cd ym13).all (y_okE ztb znw zcls (ytb yw00) ym13) = true := by decide +kernel
theorem yo_ym13 : y_okM ztb zcls ym13 := y_okM_i (z_codeIn (ch := 5) (i := 57) (l := tables_1_5) rfl rfl) (z_w_ok (n := 1007) (by decide +kernel)) (by decide +kernel) ⟨by decide +kernel, by decide +kernel⟩ (z_w_ok (n := 5056) (by decide +kernel)) (z_w_ok (n := 31) (by decide +kernel)) rfl rfl (by decide)
theorem yq_ym14_0 : (((y_cd ym14).drop 0).take 40).all (y_okE ztb znw zcls (ytb yw00) ym14) = true := by decide +kernel
theorem yq_ym14_1 : (((y_cd ym14).drop 40).take 40).all (y_okE ztb znw zcls (ytb yw00) ym14) = true := by decide +kernel
theorem yq_ym14_e2 : ((y_cd ym14).drop 80).all (y_okE ztb znw zcls (ytb yw00) ym14) = true := z_seg_end (by decide +kernel)
theorem yq_ym14_e1 : ((y_cd ym14).drop 40).all (y_okE ztb znw zcls (ytb yw00) ym14) = true := z_seg (a := 40) (k := 40) yq_ym14_1 yq_ym14_e2
theorem yq_ym14_e0 : ((y_cd ym14).drop 0).all (y_okE ztb znw zcls (ytb yw00) ym14) = true := z_seg (a := 0) (k := 40) yq_ym14_0 yq_ym14_e1
theorem yq_ym14 : (y_cd ym14).all (y_okE ztb znw zcls (ytb yw00) ym14) = true := z_seg0 yq_ym14_e0
theorem yo_ym14 : y_okM ztb zcls ym14 := y_okM_i (z_codeIn (ch := 3) (i := 127) (l := tables_1_3) rfl rfl) (z_w_ok (n := 1007) (by decide +kernel)) (by decide +kernel) ⟨by decide +kernel, by decide +kernel⟩ (z_w_ok (n := 3125) (by decide +kernel)) (z_w_ok (n := 3126) (by decide +kernel)) rfl rfl (by decide)
theorem yq_ym15 : (y_cd ym15).all (y_okE ztb znw zcls (ytb yw00) ym15) = true := by decide +kernel
theorem yo_ym15 : y_okM ztb zcls ym15 := y_okM_i (z_codeIn (ch := 7) (i := 74) (l := tables_1_7) rfl rfl) (z_w_ok (n := 1007) (by decide +kernel)) (by decide +kernel) ⟨by decide +kernel, by decide +kernel⟩ (z_w_ok (n := 7072) (by decide +kernel)) (z_w_ok (n := 7073) (by decide +kernel)) rfl rfl (by decide)
theorem yq_ym16 : (y_cd ym16).all (y_okE ztb znw zcls (ytb yw00) ym16) = true := by decide +kernel
theorem yo_ym16 : y_okM ztb zcls ym16 := y_okM_i (z_codeIn (ch := 7) (i := 26) (l := tables_1_7) rfl rfl) (z_w_ok (n := 1007) (by decide +kernel)) (by decide +kernel) ⟨by decide +kernel, by decide +kernel⟩ (z_w_ok (n := 7025) (by decide +kernel)) (z_w_ok (n := 64) (by decide +kernel)) rfl rfl (by decide)
theorem yq_ym17 : (y_cd ym17).all (y_okE ztb znw zcls (ytb yw00) ym17) = true := by decide +kernel
theorem yo_ym17 : y_okM ztb zcls ym17 := y_okM_i (z_codeIn (ch := 7) (i := 34) (l := tables_1_7) rfl rfl) (z_w_ok (n := 1007) (by decide +kernel)) (by decide +kernel) ⟨by decide +kernel, by decide +kernel⟩ (z_w_ok (n := 7032) (by decide +kernel)) (z_w_ok (n := 7033) (by decide +kernel)) rfl rfl (by decide)
theorem yq_ym18 : (y_cd ym18).all (y_okE ztb znw zcls (ytb yw00) ym18) = true := by decide +kernel
theorem yo_ym18 : y_okM ztb zcls ym18 := y_okM_i (z_codeIn (ch := 7) (i := 30) (l := tables_1_7) rfl rfl) (z_w_ok (n := 1007) (by decide +kernel)) (by decide +kernel) ⟨by decide +kernel, by decide +kernel⟩ (z_w_ok (n := 7028) (by decide +kernel)) (z_w_ok (n := 7029) (by decide +kernel)) rfl rfl (by decide)
theorem yq_ym19 : (y_cd ym19).all (y_okE ztb znw zcls (ytb yw00) ym19) = true := by decide +kernel
theorem yo_ym19 : y_okM ztb zcls ym19 := y_okM_i (z_codeIn (ch := 7) (i := 165) (l := tables_1_7) rfl rfl) (z_w_ok (n := 1010) (by decide +kernel)) (by decide +kernel) ⟨by decide +kernel, by decide +kernel⟩ (z_w_ok (n := 7164) (by decide +kernel)) (z_w_ok (n := 70) (by decide +kernel)) rfl rfl (by decide)
theorem yq_ym20 : (y_cd ym20).all (y_okE ztb znw zcls (ytb yw00) ym20) = true := by decide +kernel
theorem yo_ym20 : y_okM ztb zcls ym20 := y_okM_i (z_codeIn (ch := 7) (i := 195) (l := tables_1_7) rfl rfl) (z_w_ok (n := 1010) (by decide +kernel)) (by decide +kernel) ⟨by decide +kernel, by decide +kernel⟩ (z_w_ok (n := 7194) (by decide +kernel)) (z_w_ok (n := 75) (by decide +kernel)) rfl rfl (by decide)
theorem yq_ym21 : (y_cd ym21).all (y_okE ztb znw zcls (ytb yw00) ym21) = true := by decide +kernel
theorem yo_ym21 : y_okM ztb zcls ym21 := y_okM_i (z_codeIn (ch := 7) (i := 207) (l := tables_1_7) rfl rfl) (z_w_ok (n := 1010) (by decide +kernel)) (by decide +kernel) ⟨by decide +kernel, by decide +kernel⟩ (z_w_ok (n := 7205) (by decide +kernel)) (z_w_ok (n := 7206) (by decide +kernel)) rfl rfl (by decide)
theorem yq_ym22_0 : (((y_cd ym22).drop 0).take 40).all (y_okE ztb znw zcls (ytb yw00) ym22) = true := by decide +kernel
theorem yq_ym22_1 : (((y_cd ym22).drop 40).take 40).all (y_okE ztb znw zcls (ytb yw00) ym22) = true := by decide +kernel
theorem yq_ym22_e2 : ((y_cd ym22).drop 80).all (y_okE ztb znw zcls (ytb yw00) ym22) = true := z_seg_end (by decide +kernel)
theorem yq_ym22_e1 : ((y_cd ym22).drop 40).all (y_okE ztb znw zcls (ytb yw00) ym22) = true := z_seg (a := 40) (k := 40) yq_ym22_1 yq_ym22_e2
theorem yq_ym22_e0 : ((y_cd ym22).drop 0).all (y_okE ztb znw zcls (ytb yw00) ym22) = true := z_seg (a := 0) (k := 40) yq_ym22_0 yq_ym22_e1
theorem yq_ym22 : (y_cd ym22).all (y_okE ztb znw zcls (ytb yw00) ym22) = true := z_seg0 yq_ym22_e0
theorem yo_ym22 : y_okM ztb zcls ym22 := y_okM_i (z_codeIn (ch := 7) (i := 199) (l := tables_1_7) rfl rfl) (z_w_ok (n := 1010) (by decide +kernel)) (by decide +kernel) ⟨by decide +kernel, by decide +kernel⟩ (z_w_ok (n := 7198) (by decide +kernel)) (z_w_ok (n := 76) (by decide +kernel)) rfl rfl (by decide)
theorem yq_ym23 : (y_cd ym23).all (y_okE ztb znw zcls (ytb yw00) ym23) = true := by decide +kernel
theorem yo_ym23 : y_okM ztb zcls ym23 := y_okM_s (z_codeIn (ch := 7) (i := 179) (l := tables_1_7) rfl rfl) (z_w_ok (n := 1010) (by decide +kernel)) (by decide +kernel) ⟨by decide +kernel, by decide +kernel⟩ (z_w_ok (n := 7178) (by decide +kernel)) (by decide)
theorem yq_ym24 : (y_cd ym24).all (y_okE ztb znw zcls (ytb yw00) ym24) = true := by decide +kernel
theorem yo_ym24 : y_okM ztb zcls ym24 := y_okM_i (z_codeIn (ch := 7) (i := 215) (l := tables_1_7) rfl rfl) (z_w_ok (n := 1010) (by decide +kernel)) (by decide +kernel) ⟨by decide +kernel, by decide +kernel⟩ (z_w_ok (n := 7213) (by decide +kernel)) (z_w_ok (n := 7214) (by decide +kernel)) rfl rfl (by decide)
theorem yq_ym25 : (y_cd ym25).all (y_okE ztb znw zcls (ytb yw00) ym25) = true := by decide +kernel
theorem yo_ym25 : y_okM ztb zcls ym25 := y_okM_i (z_codeIn (ch := 4) (i := 135) (l := tables_1_4) rfl rfl) (z_w_ok (n := 1003) (by decide +kernel)) (by decide +kernel) ⟨by decide +kernel, by decide +kernel⟩ (z_w_ok (n := 4133) (by decide +kernel)) (z_w_ok (n := 4134) (by decide +kernel)) rfl rfl (by decide)
theorem yq_ym26 : (y_cd ym26).all (y_okE ztb znw zcls (ytb yw00) ym26) = true := by decide +kernel
theorem yo_ym26 : y_okM ztb zcls ym26 := y_okM_i (z_codeIn (ch := 4) (i := 144) (l := tables_1_4) rfl rfl) (z_w_ok (n := 1003) (by decide +kernel)) (by decide +kernel) ⟨by decide +kernel, by decide +kernel⟩ (z_w_ok (n := 4142) (by decide +kernel)) (z_w_ok (n := 4143) (by decide +kernel)) rfl rfl (by decide)
theorem yq_ym27_0 : (((y_cd ym27).drop 0).take 40).all (y_okE ztb znw zcls (ytb yw00) ym27) = true := by decide +kernel
theorem yq_ym27_1 : (((y_cd ym27).drop 40).take 40).all (y_okE ztb znw zcls (ytb yw00) ym27) = true := by decide +kernel
theorem yq_ym27_e2 : ((y_cd ym27).drop 80).all (y_okE ztb znw zcls (ytb yw00) ym27) = true := z_seg_end (by decide +kernel)
theorem yq_ym27_e1 : ((y_cd ym27).drop 40).all (y_okE ztb znw zcls (ytb yw00) ym27) = true := z_seg (a := 40) (k := 40) yq_ym27_1 yq_ym27_e2
theorem yq_ym27_e0 : ((y_cd ym27).drop 0).all (y_okE ztb znw zcls (ytb yw00) ym27) = true := z_seg (a := 0) (k := 40) yq_ym27_0 yq_ym27_e1
theorem yq_ym27 : (y_cd ym27).all (y_okE ztb znw zcls (ytb yw00) ym27) = true := z_seg0 yq_ym27_e0
theorem yo_ym27 : y_okM ztb zcls ym27 := y_okM_i (z_codeIn (ch := 4) (i := 153) (l := tables_1_4) rfl rfl) (z_w_ok (n := 1003) (by decide +kernel)) (by decide +kernel) ⟨by decide +kernel, by decide +kernel⟩ (z_w_ok (n := 4151) (by decide +kernel)) (z_w_ok (n := 4152) (by decide +kernel)) rfl rfl (by decide)
theorem yq_ym28 : (y_cd ym28).all (y_okE ztb znw zcls (ytb yw00) ym28) = true := by decide +kernel
theorem yo_ym28 : y_okM ztb zcls ym28 := y_okM_i (z_codeIn (ch := 4) (i := 226) (l := tables_1_4) rfl rfl) (z_w_ok (n := 1003) (by decide +kernel)) (by decide +kernel) ⟨by decide +kernel, by decide +kernel⟩ (z_w_ok (n := 4224) (by decide +kernel)) (z_w_ok (n := 4225) (by decide +kernel)) rfl rfl (by decide)
theorem yq_ym29 : (y_cd ym29).all (y_okE ztb znw zcls (ytb yw00) ym29) = true := by decide +kernel
theorem yo_ym29 : y_okM ztb zcls ym29 := y_okM_i (z_codeIn (ch := 4) (i := 238) (l := tables_1_4) rfl rfl) (z_w_ok (n := 1003) (by decide +kernel)) (by decide +kernel) ⟨by decide +kernel, by decide +kernel⟩ (z_w_ok (n := 4236) (by decide +kernel)) (z_w_ok (n := 4237) (by decide +kernel)) rfl rfl (by decide)
theorem yq_ym30 : (y_cd ym30).all (y_okE ztb znw zcls (ytb yw00) ym30) = true := by decide +kernel
theorem yo_ym30 : y_okM ztb zcls ym30 := y_okM_i (z_codeIn (ch := 4) (i := 70) (l := tables_1_4) rfl rfl) (z_w_ok (n := 1003) (by decide +kernel)) (by decide +kernel) ⟨by decide +kernel, by decide +kernel⟩ (z_w_ok (n := 4068) (by decide +kernel)) (z_w_ok (n := 4069) (by decide +kernel)) rfl rfl (by decide)
theorem yq_ym31 : (y_cd ym31).all (y_okE ztb znw zcls (ytb yw00) ym31) = true := by decide +kernel
theorem yo_ym31 : y_okM ztb zcls ym31 := y_okM_i (z_codeIn (ch := 3) (i := 197) (l := tables_1_3) rfl rfl) (z_w_ok (n := 1003) (by decide +kernel)) (by decide +kernel) ⟨by decide +kernel, by decide +kernel⟩ (z_w_ok (n := 3195) (by decide +kernel)) (z_w_ok (n := 3196) (by decide +kernel)) rfl rfl (by decide)
theorem yq_ym32_0 : (((y_cd ym32).drop 0).take 40).all (y_okE ztb znw zcls (ytb yw00) ym32) = true := by decide +kernel
theorem yq_ym32_1 : (((y_cd ym32).drop 40).take 40).all (y_okE ztb znw zcls (ytb yw00) ym32) = true := by decide +kernel
theorem yq_ym32_e2 : ((y_cd ym32).drop 80).all (y_okE ztb znw zcls (ytb yw00) ym32) = true := z_seg_end (by decide +kernel)
theorem yq_ym32_e1 : ((y_cd ym32).drop 40).all (y_okE ztb znw zcls (ytb yw00) ym32) = true := z_seg (a := 40) (k := 40) yq_ym32_1 yq_ym32_e2
theorem yq_ym32_e0 : ((y_cd ym32).drop 0).all (y_okE ztb znw zcls (ytb yw00) ym32) = true := z_seg (a := 0) (k := 40) yq_ym32_0 yq_ym32_e1
theorem yq_ym32 : (y_cd ym32).all (y_okE ztb znw zcls (ytb yw00) ym32) = true := z_seg0 yq_ym32_e0
theorem yo_ym32 : y_okM ztb zcls ym32 := y_okM_i (z_codeIn (ch := 8) (i := 19) (l := tables_1_8) rfl rfl) (z_w_ok (n := 1011) (by decide +kernel)) (by decide +kernel) ⟨by decide +kernel, by decide +kernel⟩ (z_w_ok (n := 8017) (by decide +kernel)) (z_w_ok (n := 8018) (by decide +kernel)) rfl rfl (by decide)
theorem yq_ym33 : (y_cd ym33).all (y_okE ztb znw zcls (ytb yw00) ym33) = true := by decide +kernel
theorem yo_ym33 : y_okM ztb zcls ym33 := y_okM_i (z_codeIn (ch := 8) (i := 31) (l := tables_1_8) rfl rfl) (z_w_ok (n := 1011) (by decide +kernel)) (by decide +kernel) ⟨by decide +kernel, by decide +kernel⟩ (z_w_ok (n := 8029) (by decide +kernel)) (z_w_ok (n := 8030) (by decide +kernel)) rfl rfl (by decide)
theorem yq_ym34 : (y_cd ym34).all (y_okE ztb znw zcls (ytb yw00) ym34) = true := by decide +kernel
theorem yo_ym34 : y_okM ztb zcls ym34 := y_okM_i (z_codeIn (ch := 8) (i := 54) (l := tables_1_8) rfl rfl) (z_w_ok (n := 1011) (by decide +kernel)) (by decide +kernel) ⟨by decide +kernel, by decide +kernel⟩ (z_w_ok (n := 8052) (by decide +kernel)) (z_w_ok (n := 8053) (by decide +kernel)) rfl rfl (by decide)
theorem yq_ym35 : (y_cd ym35).all (y_okE ztb znw zcls (ytb yw00) ym35) = true := by decide +kernel
theorem yo_ym35 : y_okM ztb zcls ym35 := y_okM_i (z_codeIn (ch := 3) (i := 180) (l := tables_1_3) rfl rfl) (z_w_ok (n := 1002) (by decide +kernel)) (by decide +kernel) ⟨by decide +kernel, by decide +kernel⟩ (z_w_ok (n := 3178) (by decide +kernel)) (z_w_ok (n := 3179) (by decide +kernel)) rfl rfl (by decide)
theorem yq_ym36 : (y_cd ym36).all (y_okE ztb znw zcls (ytb yw00) ym36) = true := by decide +kernel
theorem yo_ym36 : y_okM ztb zcls ym36 := y_okM_i (z_codeIn (ch := 8) (i := 66) (l := tables_1_8) rfl rfl) (z_w_ok (n := 1002) (by decide +kernel)) (by decide +kernel) ⟨by decide +kernel, by decide +kernel⟩ (z_w_ok (n := 8064) (by decide +kernel)) (z_w_ok (n := 8065) (by decide +kernel)) rfl rfl (by decide)
theorem yq_ym37 : (y_cd ym37).all (y_okE ztb znw zcls (ytb yw00) ym37) = true := by decide +kernel
theorem yo_ym37 : y_okM ztb zcls ym37 := y_okM_i (z_codeIn (ch := 3) (i := 212) (l := tables_1_3) rfl rfl) (z_w_ok (n := 1002) (by decide +kernel)) (by decide +kernel) ⟨by decide +kernel, by decide +kernel⟩ (z_w_ok (n := 3211) (by decide +kernel)) (z_w_ok (n := 6) (by decide +kernel)) rfl rfl (by decide)
theorem yq_ym38 : (y_cd ym38).all (y_okE ztb znw zcls (ytb yw00) ym38) = true := by decide +kernel
theorem yo_ym38 : y_okM ztb zcls ym38 := y_okM_i (z_codeIn (ch := 3) (i := 176) (l := tables_1_3) rfl rfl) (z_w_ok (n := 1002) (by decide +kernel)) (by decide +kernel) ⟨by decide +kernel, by decide +kernel⟩ (z_w_ok (n := 3174) (by decide +kernel)) (z_w_ok (n := 3175) (by decide +kernel)) rfl rfl (by decide)
theorem yq_ym39 : (y_cd ym39).all (y_okE ztb znw zcls (ytb yw00) ym39) = true := by decide +kernel
theorem yo_ym39 : y_okM ztb zcls ym39 := y_okM_s (z_codeIn (ch := 3) (i := 204) (l := tables_1_3) rfl rfl) (z_w_ok (n := 1002) (by decide +kernel)) (by decide +kernel) ⟨by decide +kernel, by decide +kernel⟩ (z_w_ok (n := 3203) (by decide +kernel)) (by decide)
theorem yq_ym40 : (y_cd ym40).all (y_okE ztb znw zcls (ytb yw00) ym40) = true := by decide +kernel
theorem yo_ym40 : y_okM ztb zcls ym40 := y_okM_s (z_codeIn (ch := 3) (i := 215) (l := tables_1_3) rfl rfl) (z_w_ok (n := 1002) (by decide +kernel)) (by decide +kernel) ⟨by decide +kernel, by decide +kernel⟩ (z_w_ok (n := 3214) (by decide +kernel)) (by decide)
theorem yq_ym41 : (y_cd ym41).all (y_okE ztb znw zcls (ytb yw00) ym41) = true := by decide +kernel
theorem yo_ym41 : y_okM ztb zcls ym41 := y_okM_i (z_codeIn (ch := 3) (i := 232) (l := tables_1_3) rfl rfl) (z_w_ok (n := 1002) (by decide +kernel)) (by decide +kernel) ⟨by decide +kernel, by decide +kernel⟩ (z_w_ok (n := 3231) (by decide +kernel)) (z_w_ok (n := 10) (by decide +kernel)) rfl rfl (by decide)
theorem yq_ym42 : (y_cd ym42).all (y_okE ztb znw zcls (ytb yw00) ym42) = true := by decide +kernel
theorem yo_ym42 : y_okM ztb zcls ym42 := y_okM_i (z_codeIn (ch := 4) (i := 52) (l := tables_1_4) rfl rfl) (z_w_ok (n := 1002) (by decide +kernel)) (by decide +kernel) ⟨by decide +kernel, by decide +kernel⟩ (z_w_ok (n := 4051) (by decide +kernel)) (z_w_ok (n := 13) (by decide +kernel)) rfl rfl (by decide)
theorem yq_ym43 : (y_cd ym43).all (y_okE ztb znw zcls (ytb yw00) ym43) = true := by decide +kernel
theorem yo_ym43 : y_okM ztb zcls ym43 := y_okM_i (z_codeIn (ch := 5) (i := 164) (l := tables_1_5) rfl rfl) (z_w_ok (n := 1005) (by decide +kernel)) (by decide +kernel) ⟨by decide +kernel, by decide +kernel⟩ (z_w_ok (n := 5162) (by decide +kernel)) (z_w_ok (n := 5163) (by decide +kernel)) rfl rfl (by decide)
theorem yq_ym44 : (y_cd ym44).all (y_okE ztb znw zcls (ytb yw00) ym44) = true := by decide +kernel
theorem yo_ym44 : y_okM ztb zcls ym44 := y_okM_s (z_codeIn (ch := 6) (i := 204) (l := tables_1_6) rfl rfl) (z_w_ok (n := 1005) (by decide +kernel)) (by decide +kernel) ⟨by decide +kernel, by decide +kernel⟩ (z_w_ok (n := 6203) (by decide +kernel)) (by decide)
theorem yq_ym45 : (y_cd ym45).all (y_okE ztb znw zcls (ytb yw00) ym45) = true := by decide +kernel
theorem yo_ym45 : y_okM ztb zcls ym45 := y_okM_i (z_codeIn (ch := 5) (i := 172) (l := tables_1_5) rfl rfl) (z_w_ok (n := 1005) (by decide +kernel)) (by decide +kernel) ⟨by decide +kernel, by decide +kernel⟩ (z_w_ok (n := 5170) (by decide +kernel)) (z_w_ok (n := 5171) (by decide +kernel)) rfl rfl (by decide)
theorem yq_ym46 : (y_cd ym46).all (y_okE ztb znw zcls (ytb yw00) ym46) = true := by decide +kernel
theorem yo_ym46 : y_okM ztb zcls ym46 := y_okM_s (z_codeIn (ch := 6) (i := 201) (l := tables_1_6) rfl rfl) (z_w_ok (n := 1005) (by decide +kernel)) (by decide +kernel) ⟨by decide +kernel, by decide +kernel⟩ (z_w_ok (n := 6200) (by decide +kernel)) (by decide)
theorem yq_ym47_0 : (((y_cd ym47).drop 0).take 40).all (y_okE ztb znw zcls (ytb yw00) ym47) = true := by decide +kernel
theorem yq_ym47_1 : (((y_cd ym47).drop 40).take 40).all (y_okE ztb znw zcls (ytb yw00) ym47) = true := by decide +kernel
theorem yq_ym47_e2 : ((y_cd ym47).drop 80).all (y_okE ztb znw zcls (ytb yw00) ym47) = true := z_seg_end (by decide +kernel)
theorem yq_ym47_e1 : ((y_cd ym47).drop 40).all (y_okE ztb znw zcls (ytb yw00) ym47) = true := z_seg (a := 40) (k := 40) yq_ym47_1 yq_ym47_e2
theorem yq_ym47_e0 : ((y_cd ym47).drop 0).all (y_okE ztb znw zcls (ytb yw00) ym47) = true := z_seg (a := 0) (k := 40) yq_ym47_0 yq_ym47_e1
theorem yq_ym47 : (y_cd ym47).all (y_okE ztb znw zcls (ytb yw00) ym47) = true := z_seg0 yq_ym47_e0
theorem yo_ym47 : y_okM ztb zcls ym47 := y_okM_i (z_codeIn (ch := 7) (i := 234) (l := tables_1_7) rfl rfl) (z_w_ok (n := 1009) (by decide +kernel)) (by decide +kernel) ⟨by decide +kernel, by decide +kernel⟩ (z_w_ok (n := 7232) (by decide +kernel)) (z_w_ok (n := 7233) (by decide +kernel)) rfl rfl (by decide)
theorem yq_ym48 : (y_cd ym48).all (y_okE ztb znw zcls (ytb yw00) ym48) = true := by decide +kernel
theorem yo_ym48 : y_okM ztb zcls ym48 := y_okM_i (z_codeIn (ch := 7) (i := 133) (l := tables_1_7) rfl rfl) (z_w_ok (n := 1009) (by decide +kernel)) (by decide +kernel) ⟨by decide +kernel, by decide +kernel⟩ (z_w_ok (n := 7131) (by decide +kernel)) (z_w_ok (n := 7132) (by decide +kernel)) rfl rfl (by decide)
theorem yq_ym49 : (y_cd ym49).all (y_okE ztb znw zcls (ytb yw00) ym49) = true := by decide +kernel
theorem yo_ym49 : y_okM ztb zcls ym49 := y_okM_i (z_codeIn (ch := 7) (i := 149) (l := tables_1_7) rfl rfl) (z_w_ok (n := 1009) (by decide +kernel)) (by decide +kernel) ⟨by decide +kernel, by decide +kernel⟩ (z_w_ok (n := 7147) (by decide +kernel)) (z_w_ok (n := 7148) (by decide +kernel)) rfl rfl (by decide)
theorem yq_ym50 : (y_cd ym50).all (y_okE ztb znw zcls (ytb yw00) ym50) = true := by decide +kernel
theorem yo_ym50 : y_okM ztb zcls ym50 := y_okM_i (z_codeIn (ch := 7) (i := 54) (l := tables_1_7) rfl rfl) (z_w_ok (n := 1009) (by decide +kernel)) (by decide +kernel) ⟨by decide +kernel, by decide +kernel⟩ (z_w_ok (n := 7052) (by decide +kernel)) (z_w_ok (n := 7053) (by decide +kernel)) rfl rfl (by decide)
theorem yq_ym51 : (y_cd ym51).all (y_okE ztb znw zcls (ytb yw00) ym51) = true := by decide +kernel
theorem yo_ym51 : y_okM ztb zcls ym51 := y_okM_i (z_codeIn (ch := 8) (i := 2) (l := tables_1_8) rfl rfl) (z_w_ok (n := 1009) (by decide +kernel)) (by decide +kernel) ⟨by decide +kernel, by decide +kernel⟩ (z_w_ok (n := 8000) (by decide +kernel)) (z_w_ok (n := 8001) (by decide +kernel)) rfl rfl (by decide)
theorem yq_ym52 : (y_cd ym52).all (y_okE ztb znw zcls (ytb yw00) ym52) = true := by decide +kernel
theorem yo_ym52 : y_okM ztb zcls ym52 := y_okM_i (z_codeIn (ch := 7) (i := 141) (l := tables_1_7) rfl rfl) (z_w_ok (n := 1009) (by decide +kernel)) (by decide +kernel) ⟨by decide +kernel, by decide +kernel⟩ (z_w_ok (n := 7139) (by decide +kernel)) (z_w_ok (n := 7140) (by decide +kernel)) rfl rfl (by decide)
theorem yq_ym53 : (y_cd ym53).all (y_okE ztb znw zcls (ytb yw00) ym53) = true := by decide +kernel
theorem yo_ym53 : y_okM ztb zcls ym53 := y_okM_i (z_codeIn (ch := 7) (i := 223) (l := tables_1_7) rfl rfl) (z_w_ok (n := 1009) (by decide +kernel)) (by decide +kernel) ⟨by decide +kernel, by decide +kernel⟩ (z_w_ok (n := 7221) (by decide +kernel)) (z_w_ok (n := 7222) (by decide +kernel)) rfl rfl (by decide)
theorem yq_ym54 : (y_cd ym54).all (y_okE ztb znw zcls (ytb yw00) ym54) = true := by decide +kernel
theorem yo_ym54 : y_okM ztb zcls ym54 := y_okM_i (z_codeIn (ch := 7) (i := 145) (l := tables_1_7) rfl rfl) (z_w_ok (n := 1009) (by decide +kernel)) (by decide +kernel) ⟨by decide +kernel, by decide +kernel⟩ (z_w_ok (n := 7143) (by decide +kernel)) (z_w_ok (n := 7144) (by decide +kernel)) rfl rfl (by decide)
theorem yq_ym55 : (y_cd ym55).all (y_okE ztb znw zcls (ytb yw00) ym55) = true := by decide +kernel
theorem yo_ym55 : y_okM ztb zcls ym55 := y_okM_i (z_codeIn (ch := 7) (i := 173) (l := tables_1_7) rfl rfl) (z_w_ok (n := 1009) (by decide +kernel)) (by decide +kernel) ⟨by decide +kernel, by decide +kernel⟩ (z_w_ok (n := 7171) (by decide +kernel)) (z_w_ok (n := 7172) (by decide +kernel)) rfl rfl (by decide)
theorem yq_ym56 : (y_cd ym56).all (y_okE ztb znw zcls (ytb yw00) ym56) = true := by decide +kernel
theorem yo_ym56 : y_okM ztb zcls ym56 := y_okM_i (z_codeIn (ch := 6) (i := 85) (l := tables_1_6) rfl rfl) (z_w_ok (n := 1020) (by decide +kernel)) (by decide +kernel) ⟨by decide +kernel, by decide +kernel⟩ (z_w_ok (n := 6083) (by decide +kernel)) (z_w_ok (n := 6084) (by decide +kernel)) rfl rfl (by decide)
theorem yq_ym57 : (y_cd ym57).all (y_okE ztb znw zcls (ytb yw00) ym57) = true := by decide +kernel
theorem yo_ym57 : y_okM ztb zcls ym57 := y_okM_i (z_codeIn (ch := 5) (i := 189) (l := tables_1_5) rfl rfl) (z_w_ok (n := 1006) (by decide +kernel)) (by decide +kernel) ⟨by decide +kernel, by decide +kernel⟩ (z_w_ok (n := 5187) (by decide +kernel)) (z_w_ok (n := 5188) (by decide +kernel)) rfl rfl (by decide)
theorem yq_ym58 : (y_cd ym58).all (y_okE ztb znw zcls (ytb yw00) ym58) = true := by decide +kernel
theorem yo_ym58 : y_okM ztb zcls ym58 := y_okM_i (z_codeIn (ch := 5) (i := 148) (l := tables_1_5) rfl rfl) (z_w_ok (n := 1006) (by decide +kernel)) (by decide +kernel) ⟨by decide +kernel, by decide +kernel⟩ (z_w_ok (n := 5146) (by decide +kernel)) (z_w_ok (n := 5147) (by decide +kernel)) rfl rfl (by decide)
theorem yq_ym59 : (y_cd ym59).all (y_okE ztb znw zcls (ytb yw00) ym59) = true := by decide +kernel
theorem yo_ym59 : y_okM ztb zcls ym59 := y_okM_i (z_codeIn (ch := 7) (i := 104) (l := tables_1_7) rfl rfl) (z_w_ok (n := 1006) (by decide +kernel)) (by decide +kernel) ⟨by decide +kernel, by decide +kernel⟩ (z_w_ok (n := 7102) (by decide +kernel)) (z_w_ok (n := 7103) (by decide +kernel)) rfl rfl (by decide)
theorem yq_ym60 : (y_cd ym60).all (y_okE ztb znw zcls (ytb yw00) ym60) = true := by decide +kernel
theorem yo_ym60 : y_okM ztb zcls ym60 := y_okM_i (z_codeIn (ch := 5) (i := 33) (l := tables_1_5) rfl rfl) (z_w_ok (n := 1004) (by decide +kernel)) (by decide +kernel) ⟨by decide +kernel, by decide +kernel⟩ (z_w_ok (n := 5031) (by decide +kernel)) (z_w_ok (n := 5032) (by decide +kernel)) rfl rfl (by decide)
theorem yq_ym61 : (y_cd ym61).all (y_okE ztb znw zcls (ytb yw00) ym61) = true := by decide +kernel
theorem yo_ym61 : y_okM ztb zcls ym61 := y_okM_i (z_codeIn (ch := 6) (i := 230) (l := tables_1_6) rfl rfl) (z_w_ok (n := 1004) (by decide +kernel)) (by decide +kernel) ⟨by decide +kernel, by decide +kernel⟩ (z_w_ok (n := 6228) (by decide +kernel)) (z_w_ok (n := 6229) (by decide +kernel)) rfl rfl (by decide)
theorem yq_ym62 : (y_cd ym62).all (y_okE ztb znw zcls (ytb yw00) ym62) = true := by decide +kernel
theorem yo_ym62 : y_okM ztb zcls ym62 := y_okM_i (z_codeIn (ch := 4) (i := 177) (l := tables_1_4) rfl rfl) (z_w_ok (n := 1004) (by decide +kernel)) (by decide +kernel) ⟨by decide +kernel, by decide +kernel⟩ (z_w_ok (n := 4176) (by decide +kernel)) (z_w_ok (n := 21) (by decide +kernel)) rfl rfl (by decide)
theorem yq_ym63 : (y_cd ym63).all (y_okE ztb znw zcls (ytb yw00) ym63) = true := by decide +kernel
theorem yo_ym63 : y_okM ztb zcls ym63 := y_okM_i (z_codeIn (ch := 4) (i := 177) (l := tables_1_4) rfl rfl) (z_w_ok (n := 1004) (by decide +kernel)) (by decide +kernel) ⟨by decide +kernel, by decide +kernel⟩ (z_w_ok (n := 4176) (by decide +kernel)) (z_w_ok (n := 21) (by decide +kernel)) rfl rfl (by decide)
theorem yq_ym64 : (y_cd ym64).all (y_okE ztb znw zcls (ytb yw00) ym64) = true := by decide +kernel
theorem yo_ym64 : y_okM ztb zcls ym64 := y_okM_i (z_codeIn (ch := 4) (i := 177) (l := tables_1_4) rfl rfl) (z_w_ok (n := 1004) (by decide +kernel)) (by decide +kernel) ⟨by decide +kernel, by decide +kernel⟩ (z_w_ok (n := 4176) (by decide +kernel)) (z_w_ok (n := 21) (by decide +kernel)) rfl rfl (by decide)
theorem yq_ym65 : (y_cd ym65).all (y_okE ztb znw zcls (ytb yw00) ym65) = true := by decide +kernel
theorem yo_ym65 : y_okM ztb zcls ym65 := y_okM_i (z_codeIn (ch := 4) (i := 177) (l := tables_1_4) rfl rfl) (z_w_ok (n := 1004) (by decide +kernel)) (by decide +kernel) ⟨by decide +kernel, by decide +kernel⟩ (z_w_ok (n := 4176) (by decide +kernel)) (z_w_ok (n := 21) (by decide +kernel)) rfl rfl (by decide)
theorem yq_ym66 : (y_cd ym66).all (y_okE ztb znw zcls (ytb yw00) ym66) = true := by decide +kernel
theorem yo_ym66 : y_okM ztb zcls ym66 := y_okM_i (z_codeIn (ch := 4) (i := 177) (l := tables_1_4) rfl rfl) (z_w_ok (n := 1004) (by decide +kernel)) (by decide +kernel) ⟨by decide +kernel, by decide +kernel⟩ (z_w_ok (n := 4176) (by decide +kernel)) (z_w_ok (n := 21) (by decide +kernel)) rfl rfl (by decide)
theorem yq_ym67 : (y_cd ym67).all (y_okE ztb znw zcls (ytb yw00) ym67) = true := by decide +kernel
theorem yo_ym67 : y_okM ztb zcls ym67 := y_okM_i (z_codeIn (ch := 4) (i := 177) (l := tables_1_4) rfl rfl) (z_w_ok (n := 1004) (by decide +kernel)) (by decide +kernel) ⟨by decide +kernel, by decide +kernel⟩ (z_w_ok (n := 4176) (by decide +kernel)) (z_w_ok (n := 21) (by decide +kernel)) rfl rfl (by decide)
theorem yq_ym68 : (y_cd ym68).all (y_okE ztb znw zcls (ytb yw00) ym68) = true := by decide +kernel
theorem yo_ym68 : y_okM ztb zcls ym68 := y_okM_i (z_codeIn (ch := 4) (i := 177) (l := tables_1_4) rfl rfl) (z_w_ok (n := 1004) (by decide +kernel)) (by decide +kernel) ⟨by decide +kernel, by decide +kernel⟩ (z_w_ok (n := 4176) (by decide +kernel)) (z_w_ok (n := 21) (by decide +kernel)) rfl rfl (by decide)
theorem yq_ym69 : (y_cd ym69).all (y_okE ztb znw zcls (ytb yw00) ym69) = true := by decide +kernel
theorem yo_ym69 : y_okM ztb zcls ym69 := y_okM_i (z_codeIn (ch := 4) (i := 177) (l := tables_1_4) rfl rfl) (z_w_ok (n := 1004) (by decide +kernel)) (by decide +kernel) ⟨by decide +kernel, by decide +kernel⟩ (z_w_ok (n := 4176) (by decide +kernel)) (z_w_ok (n := 21) (by decide +kernel)) rfl rfl (by decide)
theorem yq_ym70 : (y_cd ym70).all (y_okE ztb znw zcls (ytb yw00) ym70) = true := by decide +kernel
theorem yo_ym70 : y_okM ztb zcls ym70 := y_okM_i (z_codeIn (ch := 5) (i := 53) (l := tables_1_5) rfl rfl) (z_w_ok (n := 1004) (by decide +kernel)) (by decide +kernel) ⟨by decide +kernel, by decide +kernel⟩ (z_w_ok (n := 5051) (by decide +kernel)) (z_w_ok (n := 5052) (by decide +kernel)) rfl rfl (by decide)
