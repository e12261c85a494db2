theorem yq_yr273_0 : (((y_cd yr273).drop 0).take 40).all (y_okE ztb znw zcls (ytb yw00) yr273) = true := by decide +kernel
theorem yq_yr273_1 : (((y_cd yr273).drop 40).take 40).all (y_okE ztb znw zcls (ytb yw00) yr273) = true := by decide +kernel
theorem yq_yr273_2 : (((y_cd yr273).drop 80).take 40).all (y_okE ztb znw zcls (ytb yw00) yr273) = true := by decide +kernel
theorem yq_yr273_e3 : ((y_cd yr273).drop 120).all (y_okE ztb znw zcls (ytb yw00) yr273) = true := z_seg_end (by decide +kernel)
theorem yq_yr273_e2 : ((y_cd yr273).drop 80).all (y_okE ztb znw zcls (ytb yw00) yr273) = true := z_seg (a := 80) (k := 40) yq_yr273_2 yq_yr273_e3
theorem yq_yr273_e1 : ((y_cd yr273).drop 40).all (y_okE ztb znw zcls (ytb yw00) yr273) = true := z_seg (a := 40) (k := 40) yq_yr273_1 yq_yr273_e2
theorem yq_yr273_e0 : ((y_cd yr273).drop 0).all (y_okE ztb znw zcls (ytb yw00) yr273) = true := z_seg (a := 0) (k := 40) yq_yr273_0 yq_yr273_e1
theorem yq_yr273 : (y_cd yr273).all (y_okE ztb znw zcls (ytb yw00) yr273) = true := z_seg0 yq_yr273_e0
theorem yo_yr273 : y_okM ztb zcls yr273 := y_okM_i (z_codeIn (ch := 12) (i := 149) (l := tables_1_12) rfl rfl) (z_w_ok (n := 1012) (by decide +kernel)) (by decide +kernel) ⟨by decide +kernel, by decide +kernel⟩ (z_w_ok (n := 12147) (by decide +kernel)) (z_w_ok (n := 12148) (by decide +kernel)) rfl rfl (by decide)
theorem yq_yr274_0 : (((y_cd yr274).drop 0).take 40).all (y_okE ztb znw zcls (ytb yw00) yr274) = true := by decide +kernel
theorem yq_yr274_1 : (((y_cd yr274).drop 40).take 40).all (y_okE ztb znw zcls (ytb yw00) yr274) = true := by decide +kernel
theorem yq_yr274_e2 : ((y_cd yr274).drop 80).all (y_okE ztb znw zcls (ytb yw00) yr274) = true := z_seg_end (by decide +kernel)
theorem yq_yr274_e1 : ((y_cd yr274).drop 40).all (y_okE ztb znw zcls (ytb yw00) yr274) = true := z_seg (a := 40) (k := 40) yq_yr274_1 yq_yr274_e2
theorem yq_yr274_e0 : ((y_cd yr274).drop 0).all (y_okE ztb znw zcls (ytb yw00) yr274) = true := z_seg (a := 0) (k := 40) yq_yr274_0 yq_yr274_e1
theorem yq_yr274 : (y_cd yr274).all (y_okE ztb znw zcls (ytb yw00) yr274) = true := z_seg0 yq_yr274_e0
theorem yo_yr274 : y_okM ztb zcls yr274 := y_okM_i (z_codeIn (ch := 12) (i := 101) (l := tables_1_12) rfl rfl) (z_w_ok (n := 1012) (by decide +kernel)) (by decide +kernel) ⟨by decide +kernel, by decide +kernel⟩ (z_w_ok (n := 12099) (by decide +kernel)) (z_w_ok (n := 12100) (by decide +kernel)) rfl rfl (by decide)
theorem yq_yr275_0 : (((y_cd yr275).drop 0).take 40).all (y_okE ztb znw zcls (ytb yw00) yr275) = true := by decide +kernel
theorem yq_yr275_1 : (((y_cd yr275).drop 40).take 40).all (y_okE ztb znw zcls (ytb yw00) yr275) = true := by decide +kernel
theorem yq_yr275_2 : (((y_cd yr275).drop 80).take 40).all (y_okE ztb znw zcls (ytb yw00) yr275) = true := by decide +kernel
theorem yq_yr275_e3 : ((y_cd yr275).drop 120).all (y_okE ztb znw zcls (ytb yw00) yr275) = true := z_seg_end (by decide +kernel)
theorem yq_yr275_e2 : ((y_cd yr275).drop 80).all (y_okE ztb znw zcls (ytb yw00) yr275) = true := z_seg (a := 80) (k := 40) yq_yr275_2 yq_yr275_e3
theorem yq_yr275_e1 : ((y_cd yr275).drop 40).all (y_okE ztb znw zcls (ytb yw00) yr275) = true := z_seg (a := 40) (k := 40) yq_yr275_1 yq_yr275_e2
theorem yq_yr275_e0 : ((y_cd yr275).drop 0).all (y_okE ztb znw zcls (ytb yw00) yr275) = true := z_seg (a := 0) (k := 40) yq_yr275_0 yq_yr275_e1
theorem yq_yr275 : (y_cd yr275).all (y_okE ztb znw zcls (ytb yw00) yr275) = true := z_seg0 yq_yr275_e0
theorem yo_yr275 : y_okM ztb zcls yr275 := y_okM_i (z_codeIn (ch := 12) (i := 113) (l := tables_1_12) rfl rfl) (z_w_ok (n := 1012) (by decide +kernel)) (by decide +kernel) ⟨by decide +kernel, by decide +kernel⟩ (z_w_ok (n := 12112) (by decide +kernel)) (z_w_ok (n := 180) (by decide +kernel)) rfl rfl (by decide)
theorem yq_yr276_0 : (((y_cd yr276).drop 0).take 40).all (y_okE ztb znw zcls (ytb yw00) yr276) = true := by decide +kernel
theorem yq_yr276_1 : (((y_cd yr276).drop 40).take 40).all (y_okE ztb znw zcls (ytb yw00) yr276) = true := by decide +kernel
theorem yq_yr276_2 : (((y_cd yr276).drop 80).take 40).all (y_okE ztb znw zcls (ytb yw00) yr276) = true := by decide +kernel
theorem yq_yr276_3 : (((y_cd yr276).drop 120).take 40).all (y_okE ztb znw zcls (ytb yw00) yr276) = true := by decide +kernel
theorem yq_yr276_e4 : ((y_cd yr276).drop 160).all (y_okE ztb znw zcls (ytb yw00) yr276) = true := z_seg_end (by decide +kernel)
theorem yq_yr276_e3 : ((y_cd yr276).drop 120).all (y_okE ztb znw zcls (ytb yw00) yr276) = true := z_seg (a := 120) (k := 40) yq_yr276_3 yq_yr276_e4
theorem yq_yr276_e2 : ((y_cd yr276).drop 80).all (y_okE ztb znw zcls (ytb yw00) yr276) = true := z_seg (a := 80) (k := 40) yq_yr276_2 yq_yr276_e3
theorem yq_yr276_e1 : ((y_cd yr276).drop 40).all (y_okE ztb znw zcls (ytb yw00) yr276) = true := z_seg (a := 40) (k := 40) yq_yr276_1 yq_yr276_e2
theorem yq_yr276_e0 : ((y_cd yr276).drop 0).all (y_okE ztb znw zcls (ytb yw00) yr276) = true := z_seg (a := 0) (k := 40) yq_yr276_0 yq_yr276_e1
theorem yq_yr276 : (y_cd yr276).all (y_okE ztb znw zcls (ytb yw00) yr276) = true := z_seg0 yq_yr276_e0
theorem yo_yr276 : y_okM ztb zcls yr276 := y_okM_i (z_codeIn (ch := 10) (i := 159) (l := tables_1_10) rfl rfl) (z_w_ok (n := 1012) (by decide +kernel)) (by decide +kernel) ⟨by decide +kernel, by decide +kernel⟩ (z_w_ok (n := 10158) (by decide +kernel)) (z_w_ok (n := 102) (by decide +kernel)) rfl rfl (by decide)
theorem yq_yr277 : (y_cd yr277).all (y_okE ztb znw zcls (ytb yw00) yr277) = true := by decide +kernel
theorem yo_yr277 : y_okM ztb zcls yr277 := y_okM_i (z_codeIn (ch := 10) (i := 127) (l := tables_1_10) rfl rfl) (z_w_ok (n := 1012) (by decide +kernel)) (by decide +kernel) ⟨by decide +kernel, by decide +kernel⟩ (z_w_ok (n := 10126) (by decide +kernel)) (z_w_ok (n := 96) (by decide +kernel)) rfl rfl (by decide)
theorem yq_yr278 : (y_cd yr278).all (y_okE ztb znw zcls (ytb yw00) yr278) = true := by decide +kernel
theorem yo_yr278 : y_okM ztb zcls yr278 := y_okM_i (z_codeIn (ch := 13) (i := 2) (l := tables_1_13) rfl rfl) (z_w_ok (n := 1012) (by decide +kernel)) (by decide +kernel) ⟨by decide +kernel, by decide +kernel⟩ (z_w_ok (n := 13000) (by decide +kernel)) (z_w_ok (n := 13001) (by decide +kernel)) rfl rfl (by decide)
theorem yq_yr279 : (y_cd yr279).all (y_okE ztb znw zcls (ytb yw00) yr279) = true := by decide +kernel
theorem yo_yr279 : y_okM ztb zcls yr279 := y_okM_i (z_codeIn (ch := 11) (i := 7) (l := tables_1_11) rfl rfl) (z_w_ok (n := 1012) (by decide +kernel)) (by decide +kernel) ⟨by decide +kernel, by decide +kernel⟩ (z_w_ok (n := 11005) (by decide +kernel)) (z_w_ok (n := 11006) (by decide +kernel)) rfl rfl (by decide)
theorem yq_yr280_0 : (((y_cd yr280).drop 0).take 40).all (y_okE ztb znw zcls (ytb yw00) yr280) = true := by decide +kernel
theorem yq_yr280_1 : (((y_cd yr280).drop 40).take 40).all (y_okE ztb znw zcls (ytb yw00) yr280) = true := by decide +kernel
theorem yq_yr280_2 : (((y_cd yr280).drop 80).take 40).all (y_okE ztb znw zcls (ytb yw00) yr280) = true := by decide +kernel
theorem yq_yr280_3 : (((y_cd yr280).drop 120).take 40).all (y_okE ztb znw zcls (ytb yw00) yr280) = true := by decide +kernel
theorem yq_yr280_e4 : ((y_cd yr280).drop 160).all (y_okE ztb znw zcls (ytb yw00) yr280) = true := z_seg_end (by decide +kernel)
theorem yq_yr280_e3 : ((y_cd yr280).drop 120).all (y_okE ztb znw zcls (ytb yw00) yr280) = true := z_seg (a := 120) (k := 40) yq_yr280_3 yq_yr280_e4
theorem yq_yr280_e2 : ((y_cd yr280).drop 80).all (y_okE ztb znw zcls (ytb yw00) yr280) = true := z_seg (a := 80) (k := 40) yq_yr280_2 yq_yr280_e3
theorem yq_yr280_e1 : ((y_cd yr280).drop 40).all (y_okE ztb znw zcls (ytb yw00) yr280) = true := z_seg (a := 40) (k := 40) yq_yr280_1 yq_yr280_e2
theorem yq_yr280_e0 : ((y_cd yr280).drop 0).all (y_okE ztb znw zcls (ytb yw00) yr280) = true := z_seg (a := 0) (k := 40) yq_yr280_0 yq_yr280_e1
theorem yq_yr280 : (y_cd yr280).all (y_okE ztb znw zcls (ytb yw00) yr280) = true := z_seg0 yq_yr280_e0
theorem yo_yr280 : y_okM ztb zcls yr280 := y_okM_i (z_codeIn (ch := 12) (i := 60) (l := tables_1_12) rfl rfl) (z_w_ok (n := 1012) (by decide +kernel)) (by decide +kernel) ⟨by decide +kernel, by decide +kernel⟩ (z_w_ok (n := 12059) (by decide +kernel)) (z_w_ok (n := 172) (by decide +kernel)) rfl rfl (by decide)
theorem yq_yr281_0 : (((y_cd yr281).drop 0).take 40).all (y_okE ztb znw zcls (ytb yw00) yr281) = true := by decide +kernel
theorem yq_yr281_1 : (((y_cd yr281).drop 40).take 40).all (y_okE ztb znw zcls (ytb yw00) yr281) = true := by decide +kernel
theorem yq_yr281_e2 : ((y_cd yr281).drop 80).all (y_okE ztb znw zcls (ytb yw00) yr281) = true := z_seg_end (by decide +kernel)
theorem yq_yr281_e1 : ((y_cd yr281).drop 40).all (y_okE ztb znw zcls (ytb yw00) yr281) = true := z_seg (a := 40) (k := 40) yq_yr281_1 yq_yr281_e2
theorem yq_yr281_e0 : ((y_cd yr281).drop 0).all (y_okE ztb znw zcls (ytb yw00) yr281) = true := z_seg (a := 0) (k := 40) yq_yr281_0 yq_yr281_e1
theorem yq_yr281 : (y_cd yr281).all (y_okE ztb znw zcls (ytb yw00) yr281) = true := z_seg0 yq_yr281_e0
theorem yo_yr281 : y_okM ztb zcls yr281 := y_okM_i (z_codeIn (ch := 11) (i := 99) (l := tables_1_11) rfl rfl) (z_w_ok (n := 1012) (by decide +kernel)) (by decide +kernel) ⟨by decide +kernel, by decide +kernel⟩ (z_w_ok (n := 11098) (by decide +kernel)) (z_w_ok (n := 137) (by decide +kernel)) rfl rfl (by decide)
theorem yq_yr282 : (y_cd yr282).all (y_okE ztb znw zcls (ytb yw00) yr282) = true := by decide +kernel
theorem yo_yr282 : y_okM ztb zcls yr282 := y_okM_i (z_codeIn (ch := 12) (i := 85) (l := tables_1_12) rfl rfl) (z_w_ok (n := 1012) (by decide +kernel)) (by decide +kernel) ⟨by decide +kernel, by decide +kernel⟩ (z_w_ok (n := 12084) (by decide +kernel)) (z_w_ok (n := 176) (by decide +kernel)) rfl rfl (by decide)
