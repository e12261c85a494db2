theorem yq_yr271 : (y_cd yr271).all (y_okE ztb znw zcls (ytb yw00) yr271) = true := by decide +kernel
theorem yo_yr271 : y_okM ztb zcls yr271 := y_okM_i (z_codeIn (ch := 11) (i := 27) (l := tables_1_11) rfl rfl) (z_w_ok (n := 1012) (by decide +kernel)) (by decide +kernel) ⟨by decide +kernel, by decide +kernel⟩ (z_w_ok (n := 11026) (by decide +kernel)) (z_w_ok (n := 119) (by decide +kernel)) rfl rfl (by decide)
theorem yq_yr272 : (y_cd yr272).all (y_okE ztb znw zcls (ytb yw00) yr272) = true := by decide +kernel
theorem yo_yr272 : y_okM ztb zcls yr272 := y_okM_i (z_codeIn (ch := 11) (i := 27) (l := tables_1_11) rfl rfl) (z_w_ok (n := 1012) (by decide +kernel)) (by decide +kernel) ⟨by decide +kernel, by decide +kernel⟩ (z_w_ok (n := 11026) (by decide +kernel)) (z_w_ok (n := 119) (by decide +kernel)) rfl rfl (by decide)
theorem yq_yr273 : (y_cd yr273).all (y_okE ztb znw zcls (ytb yw00) yr273) = true := by decide +kernel
theorem yo_yr273 : y_okM ztb zcls yr273 := y_okM_i (z_codeIn (ch := 11) (i := 27) (l := tables_1_11) rfl rfl) (z_w_ok (n := 1012) (by decide +kernel)) (by decide +kernel) ⟨by decide +kernel, by decide +kernel⟩ (z_w_ok (n := 11026) (by decide +kernel)) (z_w_ok (n := 119) (by decide +kernel)) rfl rfl (by decide)
theorem yq_yr274 : (y_cd yr274).all (y_okE ztb znw zcls (ytb yw00) yr274) = true := by decide +kernel
theorem yo_yr274 : y_okM ztb zcls yr274 := y_okM_i (z_codeIn (ch := 11) (i := 27) (l := tables_1_11) rfl rfl) (z_w_ok (n := 1012) (by decide +kernel)) (by decide +kernel) ⟨by decide +kernel, by decide +kernel⟩ (z_w_ok (n := 11026) (by decide +kernel)) (z_w_ok (n := 119) (by decide +kernel)) rfl rfl (by decide)
theorem yq_yr275 : (y_cd yr275).all (y_okE ztb znw zcls (ytb yw00) yr275) = true := by decide +kernel
theorem yo_yr275 : y_okM ztb zcls yr275 := y_okM_i (z_codeIn (ch := 12) (i := 207) (l := tables_1_12) rfl rfl) (z_w_ok (n := 1012) (by decide +kernel)) (by decide +kernel) ⟨by decide +kernel, by decide +kernel⟩ (z_w_ok (n := 12205) (by decide +kernel)) (z_w_ok (n := 12206) (by decide +kernel)) rfl rfl (by decide)
theorem yq_yr276 : (y_cd yr276).all (y_okE ztb znw zcls (ytb yw00) yr276) = true := by decide +kernel
theorem yo_yr276 : y_okM ztb zcls yr276 := y_okM_i (z_codeIn (ch := 10) (i := 191) (l := tables_1_10) rfl rfl) (z_w_ok (n := 1012) (by decide +kernel)) (by decide +kernel) ⟨by decide +kernel, by decide +kernel⟩ (z_w_ok (n := 10189) (by decide +kernel)) (z_w_ok (n := 10190) (by decide +kernel)) rfl rfl (by decide)
theorem yq_yr277_0 : (((y_cd yr277).drop 0).take 40).all (y_okE ztb znw zcls (ytb yw00) yr277) = true := by decide +kernel
theorem yq_yr277_1 : (((y_cd yr277).drop 40).take 40).all (y_okE ztb znw zcls (ytb yw00) yr277) = true := by decide +kernel
theorem yq_yr277_2 : (((y_cd yr277).drop 80).take 40).all (y_okE ztb znw zcls (ytb yw00) yr277) = true := by decide +kernel
theorem yq_yr277_e3 : ((y_cd yr277).drop 120).all (y_okE ztb znw zcls (ytb yw00) yr277) = true := z_seg_end (by decide +kernel)
theorem yq_yr277_e2 : ((y_cd yr277).drop 80).all (y_okE ztb znw zcls (ytb yw00) yr277) = true := z_seg (a := 80) (k := 40) yq_yr277_2 yq_yr277_e3
theorem yq_yr277_e1 : ((y_cd yr277).drop 40).all (y_okE ztb znw zcls (ytb yw00) yr277) = true := z_seg (a := 40) (k := 40) yq_yr277_1 yq_yr277_e2
theorem yq_yr277_e0 : ((y_cd yr277).drop 0).all (y_okE ztb znw zcls (ytb yw00) yr277) = true := z_seg (a := 0) (k := 40) yq_yr277_0 yq_yr277_e1
theorem yq_yr277 : (y_cd yr277).all (y_okE ztb znw zcls (ytb yw00) yr277) = true := z_seg0 yq_yr277_e0
theorem yo_yr277 : y_okM ztb zcls yr277 := y_okM_i (z_codeIn (ch := 11) (i := 236) (l := tables_1_11) rfl rfl) (z_w_ok (n := 1012) (by decide +kernel)) (by decide +kernel) ⟨by decide +kernel, by decide +kernel⟩ (z_w_ok (n := 11235) (by decide +kernel)) (z_w_ok (n := 156) (by decide +kernel)) rfl rfl (by decide)
theorem yq_yr278 : (y_cd yr278).all (y_okE ztb znw zcls (ytb yw00) yr278) = true := by decide +kernel
theorem yo_yr278 : y_okM ztb zcls yr278 := y_okM_i (z_codeIn (ch := 12) (i := 121) (l := tables_1_12) rfl rfl) (z_w_ok (n := 1012) (by decide +kernel)) (by decide +kernel) ⟨by decide +kernel, by decide +kernel⟩ (z_w_ok (n := 12120) (by decide +kernel)) (z_w_ok (n := 181) (by decide +kernel)) rfl rfl (by decide)
theorem yq_yr279_0 : (((y_cd yr279).drop 0).take 40).all (y_okE ztb znw zcls (ytb yw00) yr279) = true := by decide +kernel
theorem yq_yr279_1 : (((y_cd yr279).drop 40).take 40).all (y_okE ztb znw zcls (ytb yw00) yr279) = true := by decide +kernel
theorem yq_yr279_e2 : ((y_cd yr279).drop 80).all (y_okE ztb znw zcls (ytb yw00) yr279) = true := z_seg_end (by decide +kernel)
theorem yq_yr279_e1 : ((y_cd yr279).drop 40).all (y_okE ztb znw zcls (ytb yw00) yr279) = true := z_seg (a := 40) (k := 40) yq_yr279_1 yq_yr279_e2
theorem yq_yr279_e0 : ((y_cd yr279).drop 0).all (y_okE ztb znw zcls (ytb yw00) yr279) = true := z_seg (a := 0) (k := 40) yq_yr279_0 yq_yr279_e1
theorem yq_yr279 : (y_cd yr279).all (y_okE ztb znw zcls (ytb yw00) yr279) = true := z_seg0 yq_yr279_e0
theorem yo_yr279 : y_okM ztb zcls yr279 := y_okM_i (z_codeIn (ch := 10) (i := 132) (l := tables_1_10) rfl rfl) (z_w_ok (n := 1012) (by decide +kernel)) (by decide +kernel) ⟨by decide +kernel, by decide +kernel⟩ (z_w_ok (n := 10131) (by decide +kernel)) (z_w_ok (n := 97) (by decide +kernel)) rfl rfl (by decide)
theorem yq_yr280_0 : (((y_cd yr280).drop 0).take 40).all (y_okE ztb znw zcls (ytb yw00) yr280) = true := by decide +kernel
theorem yq_yr280_1 : (((y_cd yr280).drop 40).take 40).all (y_okE ztb znw zcls (ytb yw00) yr280) = true := by decide +kernel
theorem yq_yr280_e2 : ((y_cd yr280).drop 80).all (y_okE ztb znw zcls (ytb yw00) yr280) = true := z_seg_end (by decide +kernel)
theorem yq_yr280_e1 : ((y_cd yr280).drop 40).all (y_okE ztb znw zcls (ytb yw00) yr280) = true := z_seg (a := 40) (k := 40) yq_yr280_1 yq_yr280_e2
theorem yq_yr280_e0 : ((y_cd yr280).drop 0).all (y_okE ztb znw zcls (ytb yw00) yr280) = true := z_seg (a := 0) (k := 40) yq_yr280_0 yq_yr280_e1
theorem yq_yr280 : (y_cd yr280).all (y_okE ztb znw zcls (ytb yw00) yr280) = true := z_seg0 yq_yr280_e0
theorem yo_yr280 : y_okM ztb zcls yr280 := y_okM_i (z_codeIn (ch := 10) (i := 87) (l := tables_1_10) rfl rfl) (z_w_ok (n := 1012) (by decide +kernel)) (by decide +kernel) ⟨by decide +kernel, by decide +kernel⟩ (z_w_ok (n := 10086) (by decide +kernel)) (z_w_ok (n := 88) (by decide +kernel)) rfl rfl (by decide)
theorem yq_yr281_0 : (((y_cd yr281).drop 0).take 40).all (y_okE ztb znw zcls (ytb yw00) yr281) = true := by decide +kernel
theorem yq_yr281_1 : (((y_cd yr281).drop 40).take 40).all (y_okE ztb znw zcls (ytb yw00) yr281) = true := by decide +kernel
theorem yq_yr281_e2 : ((y_cd yr281).drop 80).all (y_okE ztb znw zcls (ytb yw00) yr281) = true := z_seg_end (by decide +kernel)
theorem yq_yr281_e1 : ((y_cd yr281).drop 40).all (y_okE ztb znw zcls (ytb yw00) yr281) = true := z_seg (a := 40) (k := 40) yq_yr281_1 yq_yr281_e2
theorem yq_yr281_e0 : ((y_cd yr281).drop 0).all (y_okE ztb znw zcls (ytb yw00) yr281) = true := z_seg (a := 0) (k := 40) yq_yr281_0 yq_yr281_e1
theorem yq_yr281 : (y_cd yr281).all (y_okE ztb znw zcls (ytb yw00) yr281) = true := z_seg0 yq_yr281_e0
theorem yo_yr281 : y_okM ztb zcls yr281 := y_okM_i (z_codeIn (ch := 10) (i := 87) (l := tables_1_10) rfl rfl) (z_w_ok (n := 1012) (by decide +kernel)) (by decide +kernel) ⟨by decide +kernel, by decide +kernel⟩ (z_w_ok (n := 10086) (by decide +kernel)) (z_w_ok (n := 88) (by decide +kernel)) rfl rfl (by decide)
theorem yq_yr282_0 : (((y_cd yr282).drop 0).take 40).all (y_okE ztb znw zcls (ytb yw00) yr282) = true := by decide +kernel
theorem yq_yr282_1 : (((y_cd yr282).drop 40).take 40).all (y_okE ztb znw zcls (ytb yw00) yr282) = true := by decide +kernel
theorem yq_yr282_e2 : ((y_cd yr282).drop 80).all (y_okE ztb znw zcls (ytb yw00) yr282) = true := z_seg_end (by decide +kernel)
theorem yq_yr282_e1 : ((y_cd yr282).drop 40).all (y_okE ztb znw zcls (ytb yw00) yr282) = true := z_seg (a := 40) (k := 40) yq_yr282_1 yq_yr282_e2
theorem yq_yr282_e0 : ((y_cd yr282).drop 0).all (y_okE ztb znw zcls (ytb yw00) yr282) = true := z_seg (a := 0) (k := 40) yq_yr282_0 yq_yr282_e1
theorem yq_yr282 : (y_cd yr282).all (y_okE ztb znw zcls (ytb yw00) yr282) = true := z_seg0 yq_yr282_e0
theorem yo_yr282 : y_okM ztb zcls yr282 := y_okM_i (z_codeIn (ch := 10) (i := 87) (l := tables_1_10) rfl rfl) (z_w_ok (n := 1012) (by decide +kernel)) (by decide +kernel) ⟨by decide +kernel, by decide +kernel⟩ (z_w_ok (n := 10086) (by decide +kernel)) (z_w_ok (n := 88) (by decide +kernel)) rfl rfl (by decide)
theorem yq_yr283_0 : (((y_cd yr283).drop 0).take 40).all (y_okE ztb znw zcls (ytb yw00) yr283) = true := by decide +kernel
theorem yq_yr283_1 : (((y_cd yr283).drop 40).take 40).all (y_okE ztb znw zcls (ytb yw00) yr283) = true := by decide +kernel
theorem yq_yr283_e2 : ((y_cd yr283).drop 80).all (y_okE ztb znw zcls (ytb yw00) yr283) = true := z_seg_end (by decide +kernel)
theorem yq_yr283_e1 : ((y_cd yr283).drop 40).all (y_okE ztb znw zcls (ytb yw00) yr283) = true := z_seg (a := 40) (k := 40) yq_yr283_1 yq_yr283_e2
theorem yq_yr283_e0 : ((y_cd yr283).drop 0).all (y_okE ztb znw zcls (ytb yw00) yr283) = true := z_seg (a := 0) (k := 40) yq_yr283_0 yq_yr283_e1
theorem yq_yr283 : (y_cd yr283).all (y_okE ztb znw zcls (ytb yw00) yr283) = true := z_seg0 yq_yr283_e0
theorem yo_yr283 : y_okM ztb zcls yr283 := y_okM_i (z_codeIn (ch := 10) (i := 87) (l := tables_1_10) rfl rfl) (z_w_ok (n := 1012) (by decide +kernel)) (by decide +kernel) ⟨by decide +kernel, by decide +kernel⟩ (z_w_ok (n := 10086) (by decide +kernel)) (z_w_ok (n := 88) (by decide +kernel)) rfl rfl (by decide)
theorem yq_yr284_0 : (((y_cd yr284).drop 0).take 40).all (y_okE ztb znw zcls (ytb yw00) yr284) = true := by decide +kernel
theorem yq_yr284_1 : (((y_cd yr284).drop 40).take 40).all (y_okE ztb znw zcls (ytb yw00) yr284) = true := by decide +kernel
theorem yq_yr284_e2 : ((y_cd yr284).drop 80).all (y_okE ztb znw zcls (ytb yw00) yr284) = true := z_seg_end (by decide +kernel)
theorem yq_yr284_e1 : ((y_cd yr284).drop 40).all (y_okE ztb znw zcls (ytb yw00) yr284) = true := z_seg (a := 40) (k := 40) yq_yr284_1 yq_yr284_e2
theorem yq_yr284_e0 : ((y_cd yr284).drop 0).all (y_okE ztb znw zcls (ytb yw00) yr284) = true := z_seg (a := 0) (k := 40) yq_yr284_0 yq_yr284_e1
theorem yq_yr284 : (y_cd yr284).all (y_okE ztb znw zcls (ytb yw00) yr284) = true := z_seg0 yq_yr284_e0
theorem yo_yr284 : y_okM ztb zcls yr284 := y_okM_i (z_codeIn (ch := 10) (i := 87) (l := tables_1_10) rfl rfl) (z_w_ok (n := 1012) (by decide +kernel)) (by decide +kernel) ⟨by decide +kernel, by decide +kernel⟩ (z_w_ok (n := 10086) (by decide +kernel)) (z_w_ok (n := 88) (by decide +kernel)) rfl rfl (by decide)
theorem yq_yr285_0 : (((y_cd yr285).drop 0).take 40).all (y_okE ztb znw zcls (ytb yw00) yr285) = true := by decide +kernel
theorem yq_yr285_1 : (((y_cd yr285).drop 40).take 40).all (y_okE ztb znw zcls (ytb yw00) yr285) = true := by decide +kernel
theorem yq_yr285_e2 : ((y_cd yr285).drop 80).all (y_okE ztb znw zcls (ytb yw00) yr285) = true := z_seg_end (by decide +kernel)
theorem yq_yr285_e1 : ((y_cd yr285).drop 40).all (y_okE ztb znw zcls (ytb yw00) yr285) = true := z_seg (a := 40) (k := 40) yq_yr285_1 yq_yr285_e2
theorem yq_yr285_e0 : ((y_cd yr285).drop 0).all (y_okE ztb znw zcls (ytb yw00) yr285) = true := z_seg (a := 0) (k := 40) yq_yr285_0 yq_yr285_e1
theorem yq_yr285 : (y_cd yr285).all (y_okE ztb znw zcls (ytb yw00) yr285) = true := z_seg0 yq_yr285_e0
theorem yo_yr285 : y_okM ztb zcls yr285 := y_okM_i (z_codeIn (ch := 10) (i := 87) (l := tables_1_10) rfl rfl) (z_w_ok (n := 1012) (by decide +kernel)) (by decide +kernel) ⟨by decide +kernel, by decide +kernel⟩ (z_w_ok (n := 10086) (by decide +kernel)) (z_w_ok (n := 88) (by decide +kernel)) rfl rfl (by decide)
theorem yq_yr286_0 : (((y_cd yr286).drop 0).take 40).all (y_okE ztb znw zcls (ytb yw00) yr286) = true := by decide +kernel
theorem yq_yr286_1 : (((y_cd yr286).drop 40).take 40).all (y_okE ztb znw zcls (ytb yw00) yr286) = true := by decide +kernel
theorem yq_yr286_e2 : ((y_cd yr286).drop 80).all (y_okE ztb znw zcls (ytb yw00) yr286) = true := z_seg_end (by decide +kernel)
theorem yq_yr286_e1 : ((y_cd yr286).drop 40).all (y_okE ztb znw zcls (ytb yw00) yr286) = true := z_seg (a := 40) (k := 40) yq_yr286_1 yq_yr286_e2
theorem yq_yr286_e0 : ((y_cd yr286).drop 0).all (y_okE ztb znw zcls (ytb yw00) yr286) = true := z_seg (a := 0) (k := 40) yq_yr286_0 yq_yr286_e1
theorem yq_yr286 : (y_cd yr286).all (y_okE ztb znw zcls (ytb yw00) yr286) = true := z_seg0 yq_yr286_e0
theorem yo_yr286 : y_okM ztb zcls yr286 := y_okM_i (z_codeIn (ch := 10) (i := 87) (l := tables_1_10) rfl rfl) (z_w_ok (n := 1012) (by decide +kernel)) (by decide +kernel) ⟨by decide +kernel, by decide +kernel⟩ (z_w_ok (n := 10086) (by decide +kernel)) (z_w_ok (n := 88) (by decide +kernel)) rfl rfl (by decide)
theorem yq_yr287_0 : (((y_cd yr287).drop 0).take 40).all (y_okE ztb znw zcls (ytb yw00) yr287) = true := by decide +kernel
theorem yq_yr287_1 : (((y_cd yr287).drop 40).take 40).all (y_okE ztb znw zcls (ytb yw00) yr287) = true := by decide +kernel
theorem yq_yr287_e2 : ((y_cd yr287).drop 80).all (y_okE ztb znw zcls (ytb yw00) yr287) = true := z_seg_end (by decide +kernel)
theorem yq_yr287_e1 : ((y_cd yr287).drop 40).all (y_okE ztb znw zcls (ytb yw00) yr287) = true := z_seg (a := 40) (k := 40) yq_yr287_1 yq_yr287_e2
theorem yq_yr287_e0 : ((y_cd yr287).drop 0).all (y_okE ztb znw zcls (ytb yw00) yr287) = true := z_seg (a := 0) (k := 40) yq_yr287_0 yq_yr287_e1
theorem yq_yr287 : (y_cd yr287).all (y_okE ztb znw zcls (ytb yw00) yr287) = true := z_seg0 yq_yr287_e0
theorem yo_yr287 : y_okM ztb zcls yr287 := y_okM_i (z_codeIn (ch := 10) (i := 87) (l := tables_1_10) rfl rfl) (z_w_ok (n := 1012) (by decide +kernel)) (by decide +kernel) ⟨by decide +kernel, by decide +kernel⟩ (z_w_ok (n := 10086) (by decide +kernel)) (z_w_ok (n := 88) (by decide +kernel)) rfl rfl (by decide)
theorem yq_yr288_0 : (((y_cd yr288).drop 0).take 40).all (y_okE ztb znw zcls (ytb yw00) yr288) = true := by decide +kernel
theorem yq_yr288_1 : (((y_cd yr288).drop 40).take 40).all (y_okE ztb znw zcls (ytb yw00) yr288) = true := by decide +kernel
theorem yq_yr288_e2 : ((y_cd yr288).drop 80).all (y_okE ztb znw zcls (ytb yw00) yr288) = true := z_seg_end (by decide +kernel)
theorem yq_yr288_e1 : ((y_cd yr288).drop 40).all (y_okE ztb znw zcls (ytb yw00) yr288) = true := z_seg (a := 40) (k := 40) yq_yr288_1 yq_yr288_e2
theorem yq_yr288_e0 : ((y_cd yr288).drop 0).all (y_okE ztb znw zcls (ytb yw00) yr288) = true := z_seg (a := 0) (k := 40) yq_yr288_0 yq_yr288_e1
theorem yq_yr288 : (y_cd yr288).all (y_okE ztb znw zcls (ytb yw00) yr288) = true := z_seg0 yq_yr288_e0
theorem yo_yr288 : y_okM ztb zcls yr288 := y_okM_i (z_codeIn (ch := 10) (i := 87) (l := tables_1_10) rfl rfl) (z_w_ok (n := 1012) (by decide +kernel)) (by decide +kernel) ⟨by decide +kernel, by decide +kernel⟩ (z_w_ok (n := 10086) (by decide +kernel)) (z_w_ok (n := 88) (by decide +kernel)) rfl rfl (by decide)
theorem yq_yr289_0 : (((y_cd yr289).drop 0).take 40).all (y_okE ztb znw zcls (ytb yw00) yr289) = true := by decide +kernel
theorem yq_yr289_1 : (((y_cd yr289).drop 40).take 40).all (y_okE ztb znw zcls (ytb yw00) yr289) = true := by decide +kernel
theorem yq_yr289_e2 : ((y_cd yr289).drop 80).all (y_okE ztb znw zcls (ytb yw00) yr289) = true := z_seg_end (by decide +kernel)
theorem yq_yr289_e1 : ((y_cd yr289).drop 40).all (y_okE ztb znw zcls (ytb yw00) yr289) = true := z_seg (a := 40) (k := 40) yq_yr289_1 yq_yr289_e2
theorem yq_yr289_e0 : ((y_cd yr289).drop 0).all (y_okE ztb znw zcls (ytb yw00) yr289) = true := z_seg (a := 0) (k := 40) yq_yr289_0 yq_yr289_e1
theorem yq_yr289 : (y_cd yr289).all (y_okE ztb znw zcls (ytb yw00) yr289) = true := z_seg0 yq_yr289_e0
theorem yo_yr289 : y_okM ztb zcls yr289 := y_okM_i (z_codeIn (ch := 10) (i := 87) (l := tables_1_10) rfl rfl) (z_w_ok (n := 1012) (by decide +kernel)) (by decide +kernel) ⟨by decide +kernel, by decide +kernel⟩ (z_w_ok (n := 10086) (by decide +kernel)) (z_w_ok (n := 88) (by decide +kernel)) rfl rfl (by decide)
theorem yq_yr290_0 : (((y_cd yr290).drop 0).take 40).all (y_okE ztb znw zcls (ytb yw00) yr290) = true := by decide +kernel
theorem yq_yr290_1 : (((y_cd yr290).drop 40).take 40).all (y_okE ztb znw zcls (ytb yw00) yr290) = true := by decide +kernel
theorem yq_yr290_e2 : ((y_cd yr290).drop 80).all (y_okE ztb znw zcls (ytb yw00) yr290) = true := z_seg_end (by decide +kernel)
theorem yq_yr290_e1 : ((y_cd yr290).drop 40).all (y_okE ztb znw zcls (ytb yw00) yr290) = true := z_seg (a := 40) (k := 40) yq_yr290_1 yq_yr290_e2
theorem yq_yr290_e0 : ((y_cd yr290).drop 0).all (y_okE ztb znw zcls (ytb yw00) yr290) = true := z_seg (a := 0) (k := 40) yq_yr290_0 yq_yr290_e1
theorem yq_yr290 : (y_cd yr290).all (y_okE ztb znw zcls (ytb yw00) yr290) = true := z_seg0 yq_yr290_e0
theorem yo_yr290 : y_okM ztb zcls yr290 := y_okM_i (z_codeIn (ch := 10) (i := 87) (l := tables_1_10) rfl rfl) (z_w_ok (n := 1012) (by decide +kernel)) (by decide +kernel) ⟨by decide +kernel, by decide +kernel⟩ (z_w_ok (n := 10086) (by decide +kernel)) (z_w_ok (n := 88) (by decide +kernel)) rfl rfl (by decide)
theorem yq_yr291_0 : (((y_cd yr291).drop 0).take 40).all (y_okE ztb znw zcls (ytb yw00) yr291) = true := by decide +kernel
theorem yq_yr291_1 : (((y_cd yr291).drop 40).take 40).all (y_okE ztb znw zcls (ytb yw00) yr291) = true := by decide +kernel
theorem yq_yr291_e2 : ((y_cd yr291).drop 80).all (y_okE ztb znw zcls (ytb yw00) yr291) = true := z_seg_end (by decide +kernel)
theorem yq_yr291_e1 : ((y_cd yr291).drop 40).all (y_okE ztb znw zcls (ytb yw00) yr291) = true := z_seg (a := 40) (k := 40) yq_yr291_1 yq_yr291_e2
theorem yq_yr291_e0 : ((y_cd yr291).drop 0).all (y_okE ztb znw zcls (ytb yw00) yr291) = true := z_seg (a := 0) (k := 40) yq_yr291_0 yq_yr291_e1
theorem yq_yr291 : (y_cd yr291).all (y_okE ztb znw zcls (ytb yw00) yr291) = true := z_seg0 yq_yr291_e0
theorem yo_yr291 : y_okM ztb zcls yr291 := y_okM_i (z_codeIn (ch := 10) (i := 87) (l := tables_1_10) rfl rfl) (z_w_ok (n := 1012) (by decide +kernel)) (by decide +kernel) ⟨by decide +kernel, by decide +kernel⟩ (z_w_ok (n := 10086) (by decide +kernel)) (z_w_ok (n := 88) (by decide +kernel)) rfl rfl (by decide)
theorem yq_yr292_0 : (((y_cd yr292).drop 0).take 40).all (y_okE ztb znw zcls (ytb yw00) yr292) = true := by decide +kernel
theorem yq_yr292_1 : (((y_cd yr292).drop 40).take 40).all (y_okE ztb znw zcls (ytb yw00) yr292) = true := by decide +kernel
theorem yq_yr292_e2 : ((y_cd yr292).drop 80).all (y_okE ztb znw zcls (ytb yw00) yr292) = true := z_seg_end (by decide +kernel)
theorem yq_yr292_e1 : ((y_cd yr292).drop 40).all (y_okE ztb znw zcls (ytb yw00) yr292) = true := z_seg (a := 40) (k := 40) yq_yr292_1 yq_yr292_e2
theorem yq_yr292_e0 : ((y_cd yr292).drop 0).all (y_okE ztb znw zcls (ytb yw00) yr292) = true := z_seg (a := 0) (k := 40) yq_yr292_0 yq_yr292_e1
theorem yq_yr292 : (y_cd yr292).all (y_okE ztb znw zcls (ytb yw00) yr292) = true := z_seg0 yq_yr292_e0
theorem yo_yr292 : y_okM ztb zcls yr292 := y_okM_i (z_codeIn (ch := 10) (i := 87) (l := tables_1_10) rfl rfl) (z_w_ok (n := 1012) (by decide +kernel)) (by decide +kernel) ⟨by decide +kernel, by decide +kernel⟩ (z_w_ok (n := 10086) (by decide +kernel)) (z_w_ok (n := 88) (by decide +kernel)) rfl rfl (by decide)
theorem yq_yr293_0 : (((y_cd yr293).drop 0).take 40).all (y_okE ztb znw zcls (ytb yw00) yr293) = true := by decide +kernel
theorem yq_yr293_1 : (((y_cd yr293).drop 40).take 40).all (y_okE ztb znw zcls (ytb yw00) yr293) = true := by decide +kernel
theorem yq_yr293_e2 : ((y_cd yr293).drop 80).all (y_okE ztb znw zcls (ytb yw00) yr293) = true := z_seg_end (by decide +kernel)
theorem yq_yr293_e1 : ((y_cd yr293).drop 40).all (y_okE ztb znw zcls (ytb yw00) yr293) = true := z_seg (a := 40) (k := 40) yq_yr293_1 yq_yr293_e2
theorem yq_yr293_e0 : ((y_cd yr293).drop 0).all (y_okE ztb znw zcls (ytb yw00) yr293) = true := z_seg (a := 0) (k := 40) yq_yr293_0 yq_yr293_e1
theorem yq_yr293 : (y_cd yr293).all (y_okE ztb znw zcls (ytb yw00) yr293) = true := z_seg0 yq_yr293_e0
theorem yo_yr293 : y_okM ztb zcls yr293 := y_okM_i (z_codeIn (ch := 10) (i := 87) (l := tables_1_10) rfl rfl) (z_w_ok (n := 1012) (by decide +kernel)) (by decide +kernel) ⟨by decide +kernel, by decide +kernel⟩ (z_w_ok (n := 10086) (by decide +kernel)) (z_w_ok (n := 88) (by decide +kernel)) rfl rfl (by decide)
theorem yq_yr294_0 : (((y_cd yr294).drop 0).take 40).all (y_okE ztb znw zcls (ytb yw00) yr294) = true := by decide +kernel
theorem yq_yr294_1 : (((y_cd yr294).drop 40).take 40).all (y_okE ztb znw zcls (ytb yw00) yr294) = true := by decide +kernel
theorem yq_yr294_e2 : ((y_cd yr294).drop 80).all (y_okE ztb znw zcls (ytb yw00) yr294) = true := z_seg_end (by decide +kernel)
theorem yq_yr294_e1 : ((y_cd yr294).drop 40).all (y_okE ztb znw zcls (ytb yw00) yr294) = true := z_seg (a := 40) (k := 40) yq_yr294_1 yq_yr294_e2
theorem yq_yr294_e0 : ((y_cd yr294).drop 0).all (y_okE ztb znw zcls (ytb yw00) yr294) = true := z_seg (a := 0) (k := 40) yq_yr294_0 yq_yr294_e1
theorem yq_yr294 : (y_cd yr294).all (y_okE ztb znw zcls (ytb yw00) yr294) = true := z_seg0 yq_yr294_e0
theorem yo_yr294 : y_okM ztb zcls yr294 := y_okM_i (z_codeIn (ch := 10) (i := 87) (l := tables_1_10) rfl rfl) (z_w_ok (n := 1012) (by decide +kernel)) (by decide +kernel) ⟨by decide +kernel, by decide +kernel⟩ (z_w_ok (n := 10086) (by decide +kernel)) (z_w_ok (n := 88) (by decide +kernel)) rfl rfl (by decide)
theorem yq_yr295_0 : (((y_cd yr295).drop 0).take 40).all (y_okE ztb znw zcls (ytb yw00) yr295) = true := by decide +kernel
theorem yq_yr295_1 : (((y_cd yr295).drop 40).take 40).all (y_okE ztb znw zcls (ytb yw00) yr295) = true := by decide +kernel
theorem yq_yr295_e2 : ((y_cd yr295).drop 80).all (y_okE ztb znw zcls (ytb yw00) yr295) = true := z_seg_end (by decide +kernel)
theorem yq_yr295_e1 : ((y_cd yr295).drop 40).all (y_okE ztb znw zcls (ytb yw00) yr295) = true := z_seg (a := 40) (k := 40) yq_yr295_1 yq_yr295_e2
theorem yq_yr295_e0 : ((y_cd yr295).drop 0).all (y_okE ztb znw zcls (ytb yw00) yr295) = true := z_seg (a := 0) (k := 40) yq_yr295_0 yq_yr295_e1
theorem yq_yr295 : (y_cd yr295).all (y_okE ztb znw zcls (ytb yw00) yr295) = true := z_seg0 yq_yr295_e0
theorem yo_yr295 : y_okM ztb zcls yr295 := y_okM_i (z_codeIn (ch := 10) (i := 87) (l := tables_1_10) rfl rfl) (z_w_ok (n := 1012) (by decide +kernel)) (by decide +kernel) ⟨by decide +kernel, by decide +kernel⟩ (z_w_ok (n := 10086) (by decide +kernel)) (z_w_ok (n := 88) (by decide +kernel)) rfl rfl (by decide)
theorem yq_yr296_0 : (((y_cd yr296).drop 0).take 40).all (y_okE ztb znw zcls (ytb yw00) yr296) = true := by decide +kernel
theorem yq_yr296_1 : (((y_cd yr296).drop 40).take 40).all (y_okE ztb znw zcls (ytb yw00) yr296) = true := by decide +kernel
theorem yq_yr296_2 : (((y_cd yr296).drop 80).take 40).all (y_okE ztb znw zcls (ytb yw00) yr296) = true := by decide +kernel
theorem yq_yr296_e3 : ((y_cd yr296).drop 120).all (y_okE ztb znw zcls (ytb yw00) yr296) = true := z_seg_end (by decide +kernel)
theorem yq_yr296_e2 : ((y_cd yr296).drop 80).all (y_okE ztb znw zcls (ytb yw00) yr296) = true := z_seg (a := 80) (k := 40) yq_yr296_2 yq_yr296_e3
theorem yq_yr296_e1 : ((y_cd yr296).drop 40).all (y_okE ztb znw zcls (ytb yw00) yr296) = true := z_seg (a := 40) (k := 40) yq_yr296_1 yq_yr296_e2
theorem yq_yr296_e0 : ((y_cd yr296).drop 0).all (y_okE ztb znw zcls (ytb yw00) yr296) = true := z_seg (a := 0) (k := 40) yq_yr296_0 yq_yr296_e1
theorem yq_yr296 : (y_cd yr296).all (y_okE ztb znw zcls (ytb yw00) yr296) = true := z_seg0 yq_yr296_e0
theorem yo_yr296 : y_okM ztb zcls yr296 := y_okM_i (z_codeIn (ch := 10) (i := 119) (l := tables_1_10) rfl rfl) (z_w_ok (n := 1012) (by decide +kernel)) (by decide +kernel) ⟨by decide +kernel, by decide +kernel⟩ (z_w_ok (n := 10118) (by decide +kernel)) (z_w_ok (n := 94) (by decide +kernel)) rfl rfl (by decide)
theorem yq_yr297_0 : (((y_cd yr297).drop 0).take 40).all (y_okE ztb znw zcls (ytb yw00) yr297) = true := by decide +kernel
theorem yq_yr297_1 : (((y_cd yr297).drop 40).take 40).all (y_okE ztb znw zcls (ytb yw00) yr297) = true := by decide +kernel
theorem yq_yr297_e2 : ((y_cd yr297).drop 80).all (y_okE ztb znw zcls (ytb yw00) yr297) = true := z_seg_end (by decide +kernel)
theorem yq_yr297_e1 : ((y_cd yr297).drop 40).all (y_okE ztb znw zcls (ytb yw00) yr297) = true := z_seg (a := 40) (k := 40) yq_yr297_1 yq_yr297_e2
theorem yq_yr297_e0 : ((y_cd yr297).drop 0).all (y_okE ztb znw zcls (ytb yw00) yr297) = true := z_seg (a := 0) (k := 40) yq_yr297_0 yq_yr297_e1
theorem yq_yr297 : (y_cd yr297).all (y_okE ztb znw zcls (ytb yw00) yr297) = true := z_seg0 yq_yr297_e0
theorem yo_yr297 : y_okM ztb zcls yr297 := y_okM_i (z_codeIn (ch := 10) (i := 146) (l := tables_1_10) rfl rfl) (z_w_ok (n := 1012) (by decide +kernel)) (by decide +kernel) ⟨by decide +kernel, by decide +kernel⟩ (z_w_ok (n := 10145) (by decide +kernel)) (z_w_ok (n := 99) (by decide +kernel)) rfl rfl (by decide)
