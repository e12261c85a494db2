theorem yq_yr2 : (y_cd yr2).all (y_okE ztb znw zcls (ytb yw00) yr2) = true := by decide +kernel
theorem yo_yr2 : y_okM ztb zcls yr2 := y_okM_i (z_codeIn (ch := 3) (i := 111) (l := tables_1_3) rfl rfl) (z_w_ok (n := 1007) (by decide +kernel)) (by decide +kernel) ⟨by decide +kernel, by decide +kernel⟩ (z_w_ok (n := 3109) (by decide +kernel)) (z_w_ok (n := 3110) (by decide +kernel)) rfl rfl (by decide)
theorem yq_yr3_0 : (((y_cd yr3).drop 0).take 40).all (y_okE ztb znw zcls (ytb yw00) yr3) = true := by decide +kernel
theorem yq_yr3_1 : (((y_cd yr3).drop 40).take 40).all (y_okE ztb znw zcls (ytb yw00) yr3) = true := by decide +kernel
theorem yq_yr3_e2 : ((y_cd yr3).drop 80).all (y_okE ztb znw zcls (ytb yw00) yr3) = true := z_seg_end (by decide +kernel)
theorem yq_yr3_e1 : ((y_cd yr3).drop 40).all (y_okE ztb znw zcls (ytb yw00) yr3) = true := z_seg (a := 40) (k := 40) yq_yr3_1 yq_yr3_e2
theorem yq_yr3_e0 : ((y_cd yr3).drop 0).all (y_okE ztb znw zcls (ytb yw00) yr3) = true := z_seg (a := 0) (k := 40) yq_yr3_0 yq_yr3_e1
theorem yq_yr3 : (y_cd yr3).all (y_okE ztb znw zcls (ytb yw00) yr3) = true := z_seg0 yq_yr3_e0
theorem yo_yr3 : y_okM ztb zcls yr3 := y_okM_i (z_codeIn (ch := 5) (i := 74) (l := tables_1_5) rfl rfl) (z_w_ok (n := 1007) (by decide +kernel)) (by decide +kernel) ⟨by decide +kernel, by decide +kernel⟩ (z_w_ok (n := 5073) (by decide +kernel)) (z_w_ok (n := 33) (by decide +kernel)) rfl rfl (by decide)
theorem yq_yr4 : (y_cd yr4).all (y_okE ztb znw zcls (ytb yw00) yr4) = true := by decide +kernel
theorem yo_yr4 : y_okM ztb zcls yr4 := y_okM_i (z_codeIn (ch := 7) (i := 14) (l := tables_1_7) rfl rfl) (z_w_ok (n := 1007) (by decide +kernel)) (by decide +kernel) ⟨by decide +kernel, by decide +kernel⟩ (z_w_ok (n := 7013) (by decide +kernel)) (z_w_ok (n := 62) (by decide +kernel)) rfl rfl (by decide)
theorem yq_yr5_0 : (((y_cd yr5).drop 0).take 40).all (y_okE ztb znw zcls (ytb yw00) yr5) = true := by decide +kernel
theorem yq_yr5_1 : (((y_cd yr5).drop 40).take 40).all (y_okE ztb znw zcls (ytb yw00) yr5) = true := by decide +kernel
theorem yq_yr5_e2 : ((y_cd yr5).drop 80).all (y_okE ztb znw zcls (ytb yw00) yr5) = true := z_seg_end (by decide +kernel)
theorem yq_yr5_e1 : ((y_cd yr5).drop 40).all (y_okE ztb znw zcls (ytb yw00) yr5) = true := z_seg (a := 40) (k := 40) yq_yr5_1 yq_yr5_e2
theorem yq_yr5_e0 : ((y_cd yr5).drop 0).all (y_okE ztb znw zcls (ytb yw00) yr5) = true := z_seg (a := 0) (k := 40) yq_yr5_0 yq_yr5_e1
theorem yq_yr5 : (y_cd yr5).all (y_okE ztb znw zcls (ytb yw00) yr5) = true := z_seg0 yq_yr5_e0
theorem yo_yr5 : y_okM ztb zcls yr5 := y_okM_i (z_codeIn (ch := 6) (i := 218) (l := tables_1_6) rfl rfl) (z_w_ok (n := 1007) (by decide +kernel)) (by decide +kernel) ⟨by decide +kernel, by decide +kernel⟩ (z_w_ok (n := 6216) (by decide +kernel)) (z_w_ok (n := 6217) (by decide +kernel)) rfl rfl (by decide)
theorem yq_yr6 : (y_cd yr6).all (y_okE ztb znw zcls (ytb yw00) yr6) = true := by decide +kernel
theorem yo_yr6 : y_okM ztb zcls yr6 := y_okM_i (z_codeIn (ch := 5) (i := 152) (l := tables_1_5) rfl rfl) (z_w_ok (n := 1007) (by decide +kernel)) (by decide +kernel) ⟨by decide +kernel, by decide +kernel⟩ (z_w_ok (n := 5150) (by decide +kernel)) (z_w_ok (n := 5151) (by decide +kernel)) rfl rfl (by decide)
theorem yq_yr7_0 : (((y_cd yr7).drop 0).take 40).all (y_okE ztb znw zcls (ytb yw00) yr7) = true := by decide +kernel
theorem yq_yr7_1 : (((y_cd yr7).drop 40).take 40).all (y_okE ztb znw zcls (ytb yw00) yr7) = true := by decide +kernel
theorem yq_yr7_e2 : ((y_cd yr7).drop 80).all (y_okE ztb znw zcls (ytb yw00) yr7) = true := z_seg_end (by decide +kernel)
theorem yq_yr7_e1 : ((y_cd yr7).drop 40).all (y_okE ztb znw zcls (ytb yw00) yr7) = true := z_seg (a := 40) (k := 40) yq_yr7_1 yq_yr7_e2
theorem yq_yr7_e0 : ((y_cd yr7).drop 0).all (y_okE ztb znw zcls (ytb yw00) yr7) = true := z_seg (a := 0) (k := 40) yq_yr7_0 yq_yr7_e1
theorem yq_yr7 : (y_cd yr7).all (y_okE ztb znw zcls (ytb yw00) yr7) = true := z_seg0 yq_yr7_e0
theorem yo_yr7 : y_okM ztb zcls yr7 := y_okM_i (z_codeIn (ch := 5) (i := 61) (l := tables_1_5) rfl rfl) (z_w_ok (n := 1007) (by decide +kernel)) (by decide +kernel) ⟨by decide +kernel, by decide +kernel⟩ (z_w_ok (n := 5060) (by decide +kernel)) (z_w_ok (n := 32) (by decide +kernel)) rfl rfl (by decide)
theorem yq_yr8 : (y_cd yr8).all (y_okE ztb znw zcls (ytb yw00) yr8) = true := by decide +kernel
theorem yo_yr8 : y_okM ztb zcls yr8 := y_okM_i (z_codeIn (ch := 6) (i := 238) (l := tables_1_6) rfl rfl) (z_w_ok (n := 1007) (by decide +kernel)) (by decide +kernel) ⟨by decide +kernel, by decide +kernel⟩ (z_w_ok (n := 6237) (by decide +kernel)) (z_w_ok (n := 58) (by decide +kernel)) rfl rfl (by decide)
theorem yq_yr9 : (y_cd yr9).all (y_okE ztb znw zcls (ytb yw00) yr9) = true := by decide +kernel
theorem yo_yr9 : y_okM ztb zcls yr9 := y_okM_i (z_codeIn (ch := 5) (i := 45) (l := tables_1_5) rfl rfl) (z_w_ok (n := 1007) (by decide +kernel)) (by decide +kernel) ⟨by decide +kernel, by decide +kernel⟩ (z_w_ok (n := 5043) (by decide +kernel)) (z_w_ok (n := 5044) (by decide +kernel)) rfl rfl (by decide)
theorem yq_yr10_0 : (((y_cd yr10).drop 0).take 40).all (y_okE ztb znw zcls (ytb yw00) yr10) = true := by decide +kernel
theorem yq_yr10_1 : (((y_cd yr10).drop 40).take 40).all (y_okE ztb znw zcls (ytb yw00) yr10) = true := by decide +kernel
theorem yq_yr10_e2 : ((y_cd yr10).drop 80).all (y_okE ztb znw zcls (ytb yw00) yr10) = true := z_seg_end (by decide +kernel)
theorem yq_yr10_e1 : ((y_cd yr10).drop 40).all (y_okE ztb znw zcls (ytb yw00) yr10) = true := z_seg (a := 40) (k := 40) yq_yr10_1 yq_yr10_e2
theorem yq_yr10_e0 : ((y_cd yr10).drop 0).all (y_okE ztb znw zcls (ytb yw00) yr10) = true := z_seg (a := 0) (k := 40) yq_yr10_0 yq_yr10_e1
theorem yq_yr10 : (y_cd yr10).all (y_okE ztb znw zcls (ytb yw00) yr10) = true := z_seg0 yq_yr10_e0
theorem yo_yr10 : y_okM ztb zcls yr10 := y_okM_i (z_codeIn (ch := 5) (i := 103) (l := tables_1_5) rfl rfl) (z_w_ok (n := 1007) (by decide +kernel)) (by decide +kernel) ⟨by decide +kernel, by decide +kernel⟩ (z_w_ok (n := 5102) (by decide +kernel)) (z_w_ok (n := 37) (by decide +kernel)) rfl rfl (by decide)
theorem yq_yr11_0 : (((y_cd yr11).drop 0).take 40).all (y_okE ztb znw zcls (ytb yw00) yr11) = true := by decide +kernel
theorem yq_yr11_1 : (((y_cd yr11).drop 40).take 40).all (y_okE ztb znw zcls (ytb yw00) yr11) = true := by decide +kernel
theorem yq_yr11_e2 : ((y_cd yr11).drop 80).all (y_okE ztb znw zcls (ytb yw00) yr11) = true := z_seg_end (by decide +kernel)
theorem yq_yr11_e1 : ((y_cd yr11).drop 40).all (y_okE ztb znw zcls (ytb yw00) yr11) = true := z_seg (a := 40) (k := 40) yq_yr11_1 yq_yr11_e2
theorem yq_yr11_e0 : ((y_cd yr11).drop 0).all (y_okE ztb znw zcls (ytb yw00) yr11) = true := z_seg (a := 0) (k := 40) yq_yr11_0 yq_yr11_e1
theorem yq_yr11 : (y_cd yr11).all (y_okE ztb znw zcls (ytb yw00) yr11) = true := z_seg0 yq_yr11_e0
theorem yo_yr11 : y_okM ztb zcls yr11 := y_okM_i (z_codeIn (ch := 5) (i := 49) (l := tables_1_5) rfl rfl) (z_w_ok (n := 1007) (by decide +kernel)) (by decide +kernel) ⟨by decide +kernel, by decide +kernel⟩ (z_w_ok (n := 5048) (by decide +kernel)) (z_w_ok (n := 30) (by decide +kernel)) rfl rfl (by decide)
theorem yq_yr12_0 : (((y_cd yr12).drop 0).take 40).all (y_okE ztb znw zcls (ytb yw00) yr12) = true := by decide +kernel
theorem yq_yr12_1 : (((y_cd yr12).drop 40).take 40).all (y_okE ztb znw zcls (ytb yw00) yr12) = true := by decide +kernel
theorem yq_yr12_e2 : ((y_cd yr12).drop 80).all (y_okE ztb znw zcls (ytb yw00) yr12) = true := z_seg_end (by decide +kernel)
theorem yq_yr12_e1 : ((y_cd yr12).drop 40).all (y_okE ztb znw zcls (ytb yw00) yr12) = true := z_seg (a := 40) (k := 40) yq_yr12_1 yq_yr12_e2
theorem yq_yr12_e0 : ((y_cd yr12).drop 0).all (y_okE ztb znw zcls (ytb yw00) yr12) = true := z_seg (a := 0) (k := 40) yq_yr12_0 yq_yr12_e1
theorem yq_yr12 : (y_cd yr12).all (y_okE ztb znw zcls (ytb yw00) yr12) = true := z_seg0 yq_yr12_e0
theorem yo_yr12 : y_okM ztb zcls yr12 := y_okM_i (z_codeIn (ch := 7) (i := 116) (l := tables_1_7) rfl rfl) (z_w_ok (n := 1007) (by decide +kernel)) (by decide +kernel) ⟨by decide +kernel, by decide +kernel⟩ (z_w_ok (n := 7114) (by decide +kernel)) (z_w_ok (n := 7115) (by decide +kernel)) rfl rfl (by decide)
theorem yq_yr13_0 : (((y_cd yr13).drop 0).take 40).all (y_okE ztb znw zcls (ytb yw00) yr13) = true := by decide +kernel
theorem yq_yr13_1 : (((y_cd yr13).drop 40).take 40).all (y_okE ztb znw zcls (ytb yw00) yr13) = true := by decide +kernel
theorem yq_yr13_e2 : ((y_cd yr13).drop 80).all (y_okE ztb znw zcls (ytb yw00) yr13) = true := z_seg_end (by decide +kernel)
theorem yq_yr13_e1 : ((y_cd yr13).drop 40).all (y_okE ztb znw zcls (ytb yw00) yr13) = true := z_seg (a := 40) (k := 40) yq_yr13_1 yq_yr13_e2
theorem yq_yr13_e0 : ((y_cd yr13).drop 0).all (y_okE ztb znw zcls (ytb yw00) yr13) = true := z_seg (a := 0) (k := 40) yq_yr13_0 yq_yr13_e1
theorem yq_yr13 : (y_cd yr13).all (y_okE ztb znw zcls (ytb yw00) yr13) = true := z_seg0 yq_yr13_e0
theorem yo_yr13 : y_okM ztb zcls yr13 := y_okM_i (z_codeIn (ch := 6) (i := 234) (l := tables_1_6) rfl rfl) (z_w_ok (n := 1007) (by decide +kernel)) (by decide +kernel) ⟨by decide +kernel, by decide +kernel⟩ (z_w_ok (n := 6233) (by decide +kernel)) (z_w_ok (n := 57) (by decide +kernel)) rfl rfl (by decide)
theorem yq_yr14_0 : (((y_cd yr14).drop 0).take 40).all (y_okE ztb znw zcls (ytb yw00) yr14) = true := by decide +kernel
theorem yq_yr14_1 : (((y_cd yr14).drop 40).take 40).all (y_okE ztb znw zcls (ytb yw00) yr14) = true := by decide +kernel
theorem yq_yr14_2 : (((y_cd yr14).drop 80).take 40).all (y_okE ztb znw zcls (ytb yw00) yr14) = true := by decide +kernel
theorem yq_yr14_e3 : ((y_cd yr14).drop 120).all (y_okE ztb znw zcls (ytb yw00) yr14) = true := z_seg_end (by decide +kernel)
theorem yq_yr14_e2 : ((y_cd yr14).drop 80).all (y_okE ztb znw zcls (ytb yw00) yr14) = true := z_seg (a := 80) (k := 40) yq_yr14_2 yq_yr14_e3
theorem yq_yr14_e1 : ((y_cd yr14).drop 40).all (y_okE ztb znw zcls (ytb yw00) yr14) = true := z_seg (a := 40) (k := 40) yq_yr14_1 yq_yr14_e2
theorem yq_yr14_e0 : ((y_cd yr14).drop 0).all (y_okE ztb znw zcls (ytb yw00) yr14) = true := z_seg (a := 0) (k := 40) yq_yr14_0 yq_yr14_e1
theorem yq_yr14 : (y_cd yr14).all (y_okE ztb znw zcls (ytb yw00) yr14) = true := z_seg0 yq_yr14_e0
theorem yo_yr14 : y_okM ztb zcls yr14 := y_okM_i (z_codeIn (ch := 7) (i := 2) (l := tables_1_7) rfl rfl) (z_w_ok (n := 1007) (by decide +kernel)) (by decide +kernel) ⟨by decide +kernel, by decide +kernel⟩ (z_w_ok (n := 7001) (by decide +kernel)) (z_w_ok (n := 59) (by decide +kernel)) rfl rfl (by decide)
theorem yq_yr15_0 : (((y_cd yr15).drop 0).take 40).all (y_okE ztb znw zcls (ytb yw00) yr15) = true := by decide +kernel
theorem yq_yr15_1 : (((y_cd yr15).drop 40).take 40).all (y_okE ztb znw zcls (ytb yw00) yr15) = true := by decide +kernel
theorem yq_yr15_2 : (((y_cd yr15).drop 80).take 40).all (y_okE ztb znw zcls (ytb yw00) yr15) = true := by decide +kernel
theorem yq_yr15_e3 : ((y_cd yr15).drop 120).all (y_okE ztb znw zcls (ytb yw00) yr15) = true := z_seg_end (by decide +kernel)
theorem yq_yr15_e2 : ((y_cd yr15).drop 80).all (y_okE ztb znw zcls (ytb yw00) yr15) = true := z_seg (a := 80) (k := 40) yq_yr15_2 yq_yr15_e3
theorem yq_yr15_e1 : ((y_cd yr15).drop 40).all (y_okE ztb znw zcls (ytb yw00) yr15) = true := z_seg (a := 40) (k := 40) yq_yr15_1 yq_yr15_e2
theorem yq_yr15_e0 : ((y_cd yr15).drop 0).all (y_okE ztb znw zcls (ytb yw00) yr15) = true := z_seg (a := 0) (k := 40) yq_yr15_0 yq_yr15_e1
theorem yq_yr15 : (y_cd yr15).all (y_okE ztb znw zcls (ytb yw00) yr15) = true := z_seg0 yq_yr15_e0
theorem yo_yr15 : y_okM ztb zcls yr15 := y_okM_i (z_codeIn (ch := 6) (i := 222) (l := tables_1_6) rfl rfl) (z_w_ok (n := 1007) (by decide +kernel)) (by decide +kernel) ⟨by decide +kernel, by decide +kernel⟩ (z_w_ok (n := 6221) (by decide +kernel)) (z_w_ok (n := 55) (by decide +kernel)) rfl rfl (by decide)
theorem yq_yr16 : (y_cd yr16).all (y_okE ztb znw zcls (ytb yw00) yr16) = true := by decide +kernel
theorem yo_yr16 : y_okM ztb zcls yr16 := y_okM_i (z_codeIn (ch := 5) (i := 140) (l := tables_1_5) rfl rfl) (z_w_ok (n := 1007) (by decide +kernel)) (by decide +kernel) ⟨by decide +kernel, by decide +kernel⟩ (z_w_ok (n := 5138) (by decide +kernel)) (z_w_ok (n := 5139) (by decide +kernel)) rfl rfl (by decide)
theorem yq_yr17 : (y_cd yr17).all (y_okE ztb znw zcls (ytb yw00) yr17) = true := by decide +kernel
theorem yo_yr17 : y_okM ztb zcls yr17 := y_okM_i (z_codeIn (ch := 3) (i := 123) (l := tables_1_3) rfl rfl) (z_w_ok (n := 1007) (by decide +kernel)) (by decide +kernel) ⟨by decide +kernel, by decide +kernel⟩ (z_w_ok (n := 3122) (by decide +kernel)) (z_w_ok (n := 3) (by decide +kernel)) rfl rfl (by decide)
theorem yq_yr18 : (y_cd yr18).all (y_okE ztb znw zcls (ytb yw00) yr18) = true := by decide +kernel
theorem yo_yr18 : y_okM ztb zcls yr18 := y_okM_i (z_codeIn (ch := 7) (i := 161) (l := tables_1_7) rfl rfl) (z_w_ok (n := 1010) (by decide +kernel)) (by decide +kernel) ⟨by decide +kernel, by decide +kernel⟩ (z_w_ok (n := 7160) (by decide +kernel)) (z_w_ok (n := 69) (by decide +kernel)) rfl rfl (by decide)
theorem yq_yr19_0 : (((y_cd yr19).drop 0).take 40).all (y_okE ztb znw zcls (ytb yw00) yr19) = true := by decide +kernel
theorem yq_yr19_1 : (((y_cd yr19).drop 40).take 40).all (y_okE ztb znw zcls (ytb yw00) yr19) = true := by decide +kernel
theorem yq_yr19_2 : (((y_cd yr19).drop 80).take 40).all (y_okE ztb znw zcls (ytb yw00) yr19) = true := by decide +kernel
theorem yq_yr19_e3 : ((y_cd yr19).drop 120).all (y_okE ztb znw zcls (ytb yw00) yr19) = true := z_seg_end (by decide +kernel)
theorem yq_yr19_e2 : ((y_cd yr19).drop 80).all (y_okE ztb znw zcls (ytb yw00) yr19) = true := z_seg (a := 80) (k := 40) yq_yr19_2 yq_yr19_e3
theorem yq_yr19_e1 : ((y_cd yr19).drop 40).all (y_okE ztb znw zcls (ytb yw00) yr19) = true := z_seg (a := 40) (k := 40) yq_yr19_1 yq_yr19_e2
theorem yq_yr19_e0 : ((y_cd yr19).drop 0).all (y_okE ztb znw zcls (ytb yw00) yr19) = true := z_seg (a := 0) (k := 40) yq_yr19_0 yq_yr19_e1
theorem yq_yr19 : (y_cd yr19).all (y_okE ztb znw zcls (ytb yw00) yr19) = true := z_seg0 yq_yr19_e0
theorem yo_yr19 : y_okM ztb zcls yr19 := y_okM_i (z_codeIn (ch := 7) (i := 183) (l := tables_1_7) rfl rfl) (z_w_ok (n := 1010) (by decide +kernel)) (by decide +kernel) ⟨by decide +kernel, by decide +kernel⟩ (z_w_ok (n := 7182) (by decide +kernel)) (z_w_ok (n := 72) (by decide +kernel)) rfl rfl (by decide)
theorem yq_yr20_0 : (((y_cd yr20).drop 0).take 40).all (y_okE ztb znw zcls (ytb yw00) yr20) = true := by decide +kernel
theorem yq_yr20_1 : (((y_cd yr20).drop 40).take 40).all (y_okE ztb znw zcls (ytb yw00) yr20) = true := by decide +kernel
theorem yq_yr20_e2 : ((y_cd yr20).drop 80).all (y_okE ztb znw zcls (ytb yw00) yr20) = true := z_seg_end (by decide +kernel)
theorem yq_yr20_e1 : ((y_cd yr20).drop 40).all (y_okE ztb znw zcls (ytb yw00) yr20) = true := z_seg (a := 40) (k := 40) yq_yr20_1 yq_yr20_e2
theorem yq_yr20_e0 : ((y_cd yr20).drop 0).all (y_okE ztb znw zcls (ytb yw00) yr20) = true := z_seg (a := 0) (k := 40) yq_yr20_0 yq_yr20_e1
theorem yq_yr20 : (y_cd yr20).all (y_okE ztb znw zcls (ytb yw00) yr20) = true := z_seg0 yq_yr20_e0
theorem yo_yr20 : y_okM ztb zcls yr20 := y_okM_i (z_codeIn (ch := 7) (i := 157) (l := tables_1_7) rfl rfl) (z_w_ok (n := 1010) (by decide +kernel)) (by decide +kernel) ⟨by decide +kernel, by decide +kernel⟩ (z_w_ok (n := 7155) (by decide +kernel)) (z_w_ok (n := 7156) (by decide +kernel)) rfl rfl (by decide)
theorem yq_yr21_0 : (((y_cd yr21).drop 0).take 40).all (y_okE ztb znw zcls (ytb yw00) yr21) = true := by decide +kernel
theorem yq_yr21_1 : (((y_cd yr21).drop 40).take 40).all (y_okE ztb znw zcls (ytb yw00) yr21) = true := by decide +kernel
theorem yq_yr21_e2 : ((y_cd yr21).drop 80).all (y_okE ztb znw zcls (ytb yw00) yr21) = true := z_seg_end (by decide +kernel)
theorem yq_yr21_e1 : ((y_cd yr21).drop 40).all (y_okE ztb znw zcls (ytb yw00) yr21) = true := z_seg (a := 40) (k := 40) yq_yr21_1 yq_yr21_e2
theorem yq_yr21_e0 : ((y_cd yr21).drop 0).all (y_okE ztb znw zcls (ytb yw00) yr21) = true := z_seg (a := 0) (k := 40) yq_yr21_0 yq_yr21_e1
theorem yq_yr21 : (y_cd yr21).all (y_okE ztb znw zcls (ytb yw00) yr21) = true := z_seg0 yq_yr21_e0
theorem yo_yr21 : y_okM ztb zcls yr21 := y_okM_i (z_codeIn (ch := 7) (i := 187) (l := tables_1_7) rfl rfl) (z_w_ok (n := 1010) (by decide +kernel)) (by decide +kernel) ⟨by decide +kernel, by decide +kernel⟩ (z_w_ok (n := 7186) (by decide +kernel)) (z_w_ok (n := 73) (by decide +kernel)) rfl rfl (by decide)
theorem yq_yr22_0 : (((y_cd yr22).drop 0).take 40).all (y_okE ztb znw zcls (ytb yw00) yr22) = true := by decide +kernel
theorem yq_yr22_1 : (((y_cd yr22).drop 40).take 40).all (y_okE ztb znw zcls (ytb yw00) yr22) = true := by decide +kernel
theorem yq_yr22_2 : (((y_cd yr22).drop 80).take 40).all (y_okE ztb znw zcls (ytb yw00) yr22) = true := by decide +kernel
theorem yq_yr22_3 : (((y_cd yr22).drop 120).take 40).all (y_okE ztb znw zcls (ytb yw00) yr22) = true := by decide +kernel
theorem yq_yr22_e4 : ((y_cd yr22).drop 160).all (y_okE ztb znw zcls (ytb yw00) yr22) = true := z_seg_end (by decide +kernel)
theorem yq_yr22_e3 : ((y_cd yr22).drop 120).all (y_okE ztb znw zcls (ytb yw00) yr22) = true := z_seg (a := 120) (k := 40) yq_yr22_3 yq_yr22_e4
theorem yq_yr22_e2 : ((y_cd yr22).drop 80).all (y_okE ztb znw zcls (ytb yw00) yr22) = true := z_seg (a := 80) (k := 40) yq_yr22_2 yq_yr22_e3
theorem yq_yr22_e1 : ((y_cd yr22).drop 40).all (y_okE ztb znw zcls (ytb yw00) yr22) = true := z_seg (a := 40) (k := 40) yq_yr22_1 yq_yr22_e2
theorem yq_yr22_e0 : ((y_cd yr22).drop 0).all (y_okE ztb znw zcls (ytb yw00) yr22) = true := z_seg (a := 0) (k := 40) yq_yr22_0 yq_yr22_e1
theorem yq_yr22 : (y_cd yr22).all (y_okE ztb znw zcls (ytb yw00) yr22) = true := z_seg0 yq_yr22_e0
theorem yo_yr22 : y_okM ztb zcls yr22 := y_okM_i (z_codeIn (ch := 7) (i := 191) (l := tables_1_7) rfl rfl) (z_w_ok (n := 1010) (by decide +kernel)) (by decide +kernel) ⟨by decide +kernel, by decide +kernel⟩ (z_w_ok (n := 7190) (by decide +kernel)) (z_w_ok (n := 74) (by decide +kernel)) rfl rfl (by decide)
theorem yq_yr23_0 : (((y_cd yr23).drop 0).take 40).all (y_okE ztb znw zcls (ytb yw00) yr23) = true := by decide +kernel
theorem yq_yr23_1 : (((y_cd yr23).drop 40).take 40).all (y_okE ztb znw zcls (ytb yw00) yr23) = true := by decide +kernel
theorem yq_yr23_e2 : ((y_cd yr23).drop 80).all (y_okE ztb znw zcls (ytb yw00) yr23) = true := z_seg_end (by decide +kernel)
theorem yq_yr23_e1 : ((y_cd yr23).drop 40).all (y_okE ztb znw zcls (ytb yw00) yr23) = true := z_seg (a := 40) (k := 40) yq_yr23_1 yq_yr23_e2
theorem yq_yr23_e0 : ((y_cd yr23).drop 0).all (y_okE ztb znw zcls (ytb yw00) yr23) = true := z_seg (a := 0) (k := 40) yq_yr23_0 yq_yr23_e1
theorem yq_yr23 : (y_cd yr23).all (y_okE ztb znw zcls (ytb yw00) yr23) = true := z_seg0 yq_yr23_e0
theorem yo_yr23 : y_okM ztb zcls yr23 := y_okM_i (z_codeIn (ch := 7) (i := 169) (l := tables_1_7) rfl rfl) (z_w_ok (n := 1010) (by decide +kernel)) (by decide +kernel) ⟨by decide +kernel, by decide +kernel⟩ (z_w_ok (n := 7168) (by decide +kernel)) (z_w_ok (n := 71) (by decide +kernel)) rfl rfl (by decide)
theorem yq_yr24_0 : (((y_cd yr24).drop 0).take 40).all (y_okE ztb znw zcls (ytb yw00) yr24) = true := by decide +kernel
theorem yq_yr24_1 : (((y_cd yr24).drop 40).take 40).all (y_okE ztb znw zcls (ytb yw00) yr24) = true := by decide +kernel
theorem yq_yr24_e2 : ((y_cd yr24).drop 80).all (y_okE ztb znw zcls (ytb yw00) yr24) = true := z_seg_end (by decide +kernel)
theorem yq_yr24_e1 : ((y_cd yr24).drop 40).all (y_okE ztb znw zcls (ytb yw00) yr24) = true := z_seg (a := 40) (k := 40) yq_yr24_1 yq_yr24_e2
theorem yq_yr24_e0 : ((y_cd yr24).drop 0).all (y_okE ztb znw zcls (ytb yw00) yr24) = true := z_seg (a := 0) (k := 40) yq_yr24_0 yq_yr24_e1
theorem yq_yr24 : (y_cd yr24).all (y_okE ztb znw zcls (ytb yw00) yr24) = true := z_seg0 yq_yr24_e0
theorem yo_yr24 : y_okM ztb zcls yr24 := y_okM_i (z_codeIn (ch := 4) (i := 56) (l := tables_1_4) rfl rfl) (z_w_ok (n := 1003) (by decide +kernel)) (by decide +kernel) ⟨by decide +kernel, by decide +kernel⟩ (z_w_ok (n := 4054) (by decide +kernel)) (z_w_ok (n := 4055) (by decide +kernel)) rfl rfl (by decide)
theorem yq_yr25_0 : (((y_cd yr25).drop 0).take 40).all (y_okE ztb znw zcls (ytb yw00) yr25) = true := by decide +kernel
theorem yq_yr25_1 : (((y_cd yr25).drop 40).take 40).all (y_okE ztb znw zcls (ytb yw00) yr25) = true := by decide +kernel
theorem yq_yr25_e2 : ((y_cd yr25).drop 80).all (y_okE ztb znw zcls (ytb yw00) yr25) = true := z_seg_end (by decide +kernel)
theorem yq_yr25_e1 : ((y_cd yr25).drop 40).all (y_okE ztb znw zcls (ytb yw00) yr25) = true := z_seg (a := 40) (k := 40) yq_yr25_1 yq_yr25_e2
theorem yq_yr25_e0 : ((y_cd yr25).drop 0).all (y_okE ztb znw zcls (ytb yw00) yr25) = true := z_seg (a := 0) (k := 40) yq_yr25_0 yq_yr25_e1
theorem yq_yr25 : (y_cd yr25).all (y_okE ztb znw zcls (ytb yw00) yr25) = true := z_seg0 yq_yr25_e0
theorem yo_yr25 : y_okM ztb zcls yr25 := y_okM_i (z_codeIn (ch := 4) (i := 230) (l := tables_1_4) rfl rfl) (z_w_ok (n := 1003) (by decide +kernel)) (by decide +kernel) ⟨by decide +kernel, by decide +kernel⟩ (z_w_ok (n := 4228) (by decide +kernel)) (z_w_ok (n := 4229) (by decide +kernel)) rfl rfl (by decide)
theorem yq_yr26_0 : (((y_cd yr26).drop 0).take 40).all (y_okE ztb znw zcls (ytb yw00) yr26) = true := by decide +kernel
theorem yq_yr26_1 : (((y_cd yr26).drop 40).take 40).all (y_okE ztb znw zcls (ytb yw00) yr26) = true := by decide +kernel
theorem yq_yr26_e2 : ((y_cd yr26).drop 80).all (y_okE ztb znw zcls (ytb yw00) yr26) = true := z_seg_end (by decide +kernel)
theorem yq_yr26_e1 : ((y_cd yr26).drop 40).all (y_okE ztb znw zcls (ytb yw00) yr26) = true := z_seg (a := 40) (k := 40) yq_yr26_1 yq_yr26_e2
theorem yq_yr26_e0 : ((y_cd yr26).drop 0).all (y_okE ztb znw zcls (ytb yw00) yr26) = true := z_seg (a := 0) (k := 40) yq_yr26_0 yq_yr26_e1
theorem yq_yr26 : (y_cd yr26).all (y_okE ztb znw zcls (ytb yw00) yr26) = true := z_seg0 yq_yr26_e0
theorem yo_yr26 : y_okM ztb zcls yr26 := y_okM_i (z_codeIn (ch := 4) (i := 214) (l := tables_1_4) rfl rfl) (z_w_ok (n := 1003) (by decide +kernel)) (by decide +kernel) ⟨by decide +kernel, by decide +kernel⟩ (z_w_ok (n := 4212) (by decide +kernel)) (z_w_ok (n := 4213) (by decide +kernel)) rfl rfl (by decide)
theorem yq_yr27_0 : (((y_cd yr27).drop 0).take 40).all (y_okE ztb znw zcls (ytb yw00) yr27) = true := by decide +kernel
theorem yq_yr27_1 : (((y_cd yr27).drop 40).take 40).all (y_okE ztb znw zcls (ytb yw00) yr27) = true := by decide +kernel
theorem yq_yr27_e2 : ((y_cd yr27).drop 80).all (y_okE ztb znw zcls (ytb yw00) yr27) = true := z_seg_end (by decide +kernel)
theorem yq_yr27_e1 : ((y_cd yr27).drop 40).all (y_okE ztb znw zcls (ytb yw00) yr27) = true := z_seg (a := 40) (k := 40) yq_yr27_1 yq_yr27_e2
theorem yq_yr27_e0 : ((y_cd yr27).drop 0).all (y_okE ztb znw zcls (ytb yw00) yr27) = true := z_seg (a := 0) (k := 40) yq_yr27_0 yq_yr27_e1
theorem yq_yr27 : (y_cd yr27).all (y_okE ztb znw zcls (ytb yw00) yr27) = true := z_seg0 yq_yr27_e0
theorem yo_yr27 : y_okM ztb zcls yr27 := y_okM_i (z_codeIn (ch := 8) (i := 45) (l := tables_1_8) rfl rfl) (z_w_ok (n := 1011) (by decide +kernel)) (by decide +kernel) ⟨by decide +kernel, by decide +kernel⟩ (z_w_ok (n := 8044) (by decide +kernel)) (z_w_ok (n := 79) (by decide +kernel)) rfl rfl (by decide)
theorem yq_yr28_0 : (((y_cd yr28).drop 0).take 40).all (y_okE ztb znw zcls (ytb yw00) yr28) = true := by decide +kernel
theorem yq_yr28_1 : (((y_cd yr28).drop 40).take 40).all (y_okE ztb znw zcls (ytb yw00) yr28) = true := by decide +kernel
theorem yq_yr28_e2 : ((y_cd yr28).drop 80).all (y_okE ztb znw zcls (ytb yw00) yr28) = true := z_seg_end (by decide +kernel)
theorem yq_yr28_e1 : ((y_cd yr28).drop 40).all (y_okE ztb znw zcls (ytb yw00) yr28) = true := z_seg (a := 40) (k := 40) yq_yr28_1 yq_yr28_e2
theorem yq_yr28_e0 : ((y_cd yr28).drop 0).all (y_okE ztb znw zcls (ytb yw00) yr28) = true := z_seg (a := 0) (k := 40) yq_yr28_0 yq_yr28_e1
theorem yq_yr28 : (y_cd yr28).all (y_okE ztb znw zcls (ytb yw00) yr28) = true := z_seg0 yq_yr28_e0
theorem yo_yr28 : y_okM ztb zcls yr28 := y_okM_i (z_codeIn (ch := 8) (i := 40) (l := tables_1_8) rfl rfl) (z_w_ok (n := 1011) (by decide +kernel)) (by decide +kernel) ⟨by decide +kernel, by decide +kernel⟩ (z_w_ok (n := 8039) (by decide +kernel)) (z_w_ok (n := 78) (by decide +kernel)) rfl rfl (by decide)
