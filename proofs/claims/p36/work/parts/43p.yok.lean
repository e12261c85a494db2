theorem yq_yr348_0 : (((y_cd yr348).drop 0).take 40).all (y_okE ztb znw zcls (ytb yw00) yr348) = true := by decide +kernel
theorem yq_yr348_1 : (((y_cd yr348).drop 40).take 40).all (y_okE ztb znw zcls (ytb yw00) yr348) = true := by decide +kernel
theorem yq_yr348_2 : (((y_cd yr348).drop 80).take 40).all (y_okE ztb znw zcls (ytb yw00) yr348) = true := by decide +kernel
theorem yq_yr348_3 : (((y_cd yr348).drop 120).take 40).all (y_okE ztb znw zcls (ytb yw00) yr348) = true := by decide +kernel
theorem yq_yr348_e4 : ((y_cd yr348).drop 160).all (y_okE ztb znw zcls (ytb yw00) yr348) = true := z_seg_end (by decide +kernel)
theorem yq_yr348_e3 : ((y_cd yr348).drop 120).all (y_okE ztb znw zcls (ytb yw00) yr348) = true := z_seg (a := 120) (k := 40) yq_yr348_3 yq_yr348_e4
theorem yq_yr348_e2 : ((y_cd yr348).drop 80).all (y_okE ztb znw zcls (ytb yw00) yr348) = true := z_seg (a := 80) (k := 40) yq_yr348_2 yq_yr348_e3
theorem yq_yr348_e1 : ((y_cd yr348).drop 40).all (y_okE ztb znw zcls (ytb yw00) yr348) = true := z_seg (a := 40) (k := 40) yq_yr348_1 yq_yr348_e2
theorem yq_yr348_e0 : ((y_cd yr348).drop 0).all (y_okE ztb znw zcls (ytb yw00) yr348) = true := z_seg (a := 0) (k := 40) yq_yr348_0 yq_yr348_e1
theorem yq_yr348 : (y_cd yr348).all (y_okE ztb znw zcls (ytb yw00) yr348) = true := z_seg0 yq_yr348_e0
theorem yo_yr348 : y_okM ztb zcls yr348 := y_okM_i (z_codeIn (ch := 10) (i := 159) (l := tables_1_10) rfl rfl) (z_w_ok (n := 1012) (by decide +kernel)) (by decide +kernel) ⟨by decide +kernel, by decide +kernel⟩ (z_w_ok (n := 10158) (by decide +kernel)) (z_w_ok (n := 102) (by decide +kernel)) rfl rfl (by decide)
theorem yq_yr349_0 : (((y_cd yr349).drop 0).take 40).all (y_okE ztb znw zcls (ytb yw00) yr349) = true := by decide +kernel
theorem yq_yr349_1 : (((y_cd yr349).drop 40).take 40).all (y_okE ztb znw zcls (ytb yw00) yr349) = true := by decide +kernel
theorem yq_yr349_2 : (((y_cd yr349).drop 80).take 40).all (y_okE ztb znw zcls (ytb yw00) yr349) = true := by decide +kernel
theorem yq_yr349_3 : (((y_cd yr349).drop 120).take 40).all (y_okE ztb znw zcls (ytb yw00) yr349) = true := by decide +kernel
theorem yq_yr349_e4 : ((y_cd yr349).drop 160).all (y_okE ztb znw zcls (ytb yw00) yr349) = true := z_seg_end (by decide +kernel)
theorem yq_yr349_e3 : ((y_cd yr349).drop 120).all (y_okE ztb znw zcls (ytb yw00) yr349) = true := z_seg (a := 120) (k := 40) yq_yr349_3 yq_yr349_e4
theorem yq_yr349_e2 : ((y_cd yr349).drop 80).all (y_okE ztb znw zcls (ytb yw00) yr349) = true := z_seg (a := 80) (k := 40) yq_yr349_2 yq_yr349_e3
theorem yq_yr349_e1 : ((y_cd yr349).drop 40).all (y_okE ztb znw zcls (ytb yw00) yr349) = true := z_seg (a := 40) (k := 40) yq_yr349_1 yq_yr349_e2
theorem yq_yr349_e0 : ((y_cd yr349).drop 0).all (y_okE ztb znw zcls (ytb yw00) yr349) = true := z_seg (a := 0) (k := 40) yq_yr349_0 yq_yr349_e1
theorem yq_yr349 : (y_cd yr349).all (y_okE ztb znw zcls (ytb yw00) yr349) = true := z_seg0 yq_yr349_e0
theorem yo_yr349 : y_okM ztb zcls yr349 := y_okM_i (z_codeIn (ch := 10) (i := 159) (l := tables_1_10) rfl rfl) (z_w_ok (n := 1012) (by decide +kernel)) (by decide +kernel) ⟨by decide +kernel, by decide +kernel⟩ (z_w_ok (n := 10158) (by decide +kernel)) (z_w_ok (n := 102) (by decide +kernel)) rfl rfl (by decide)
theorem yq_yr350_0 : (((y_cd yr350).drop 0).take 40).all (y_okE ztb znw zcls (ytb yw00) yr350) = true := by decide +kernel
theorem yq_yr350_1 : (((y_cd yr350).drop 40).take 40).all (y_okE ztb znw zcls (ytb yw00) yr350) = true := by decide +kernel
theorem yq_yr350_2 : (((y_cd yr350).drop 80).take 40).all (y_okE ztb znw zcls (ytb yw00) yr350) = true := by decide +kernel
theorem yq_yr350_3 : (((y_cd yr350).drop 120).take 40).all (y_okE ztb znw zcls (ytb yw00) yr350) = true := by decide +kernel
theorem yq_yr350_e4 : ((y_cd yr350).drop 160).all (y_okE ztb znw zcls (ytb yw00) yr350) = true := z_seg_end (by decide +kernel)
theorem yq_yr350_e3 : ((y_cd yr350).drop 120).all (y_okE ztb znw zcls (ytb yw00) yr350) = true := z_seg (a := 120) (k := 40) yq_yr350_3 yq_yr350_e4
theorem yq_yr350_e2 : ((y_cd yr350).drop 80).all (y_okE ztb znw zcls (ytb yw00) yr350) = true := z_seg (a := 80) (k := 40) yq_yr350_2 yq_yr350_e3
theorem yq_yr350_e1 : ((y_cd yr350).drop 40).all (y_okE ztb znw zcls (ytb yw00) yr350) = true := z_seg (a := 40) (k := 40) yq_yr350_1 yq_yr350_e2
theorem yq_yr350_e0 : ((y_cd yr350).drop 0).all (y_okE ztb znw zcls (ytb yw00) yr350) = true := z_seg (a := 0) (k := 40) yq_yr350_0 yq_yr350_e1
theorem yq_yr350 : (y_cd yr350).all (y_okE ztb znw zcls (ytb yw00) yr350) = true := z_seg0 yq_yr350_e0
theorem yo_yr350 : y_okM ztb zcls yr350 := y_okM_i (z_codeIn (ch := 10) (i := 159) (l := tables_1_10) rfl rfl) (z_w_ok (n := 1012) (by decide +kernel)) (by decide +kernel) ⟨by decide +kernel, by decide +kernel⟩ (z_w_ok (n := 10158) (by decide +kernel)) (z_w_ok (n := 102) (by decide +kernel)) rfl rfl (by decide)
theorem yq_yr351_0 : (((y_cd yr351).drop 0).take 40).all (y_okE ztb znw zcls (ytb yw00) yr351) = true := by decide +kernel
theorem yq_yr351_1 : (((y_cd yr351).drop 40).take 40).all (y_okE ztb znw zcls (ytb yw00) yr351) = true := by decide +kernel
theorem yq_yr351_2 : (((y_cd yr351).drop 80).take 40).all (y_okE ztb znw zcls (ytb yw00) yr351) = true := by decide +kernel
theorem yq_yr351_3 : (((y_cd yr351).drop 120).take 40).all (y_okE ztb znw zcls (ytb yw00) yr351) = true := by decide +kernel
theorem yq_yr351_e4 : ((y_cd yr351).drop 160).all (y_okE ztb znw zcls (ytb yw00) yr351) = true := z_seg_end (by decide +kernel)
theorem yq_yr351_e3 : ((y_cd yr351).drop 120).all (y_okE ztb znw zcls (ytb yw00) yr351) = true := z_seg (a := 120) (k := 40) yq_yr351_3 yq_yr351_e4
theorem yq_yr351_e2 : ((y_cd yr351).drop 80).all (y_okE ztb znw zcls (ytb yw00) yr351) = true := z_seg (a := 80) (k := 40) yq_yr351_2 yq_yr351_e3
theorem yq_yr351_e1 : ((y_cd yr351).drop 40).all (y_okE ztb znw zcls (ytb yw00) yr351) = true := z_seg (a := 40) (k := 40) yq_yr351_1 yq_yr351_e2
theorem yq_yr351_e0 : ((y_cd yr351).drop 0).all (y_okE ztb znw zcls (ytb yw00) yr351) = true := z_seg (a := 0) (k := 40) yq_yr351_0 yq_yr351_e1
theorem yq_yr351 : (y_cd yr351).all (y_okE ztb znw zcls (ytb yw00) yr351) = true := z_seg0 yq_yr351_e0
theorem yo_yr351 : y_okM ztb zcls yr351 := y_okM_i (z_codeIn (ch := 10) (i := 159) (l := tables_1_10) rfl rfl) (z_w_ok (n := 1012) (by decide +kernel)) (by decide +kernel) ⟨by decide +kernel, by decide +kernel⟩ (z_w_ok (n := 10158) (by decide +kernel)) (z_w_ok (n := 102) (by decide +kernel)) rfl rfl (by decide)
theorem yq_yr352_0 : (((y_cd yr352).drop 0).take 40).all (y_okE ztb znw zcls (ytb yw00) yr352) = true := by decide +kernel
theorem yq_yr352_1 : (((y_cd yr352).drop 40).take 40).all (y_okE ztb znw zcls (ytb yw00) yr352) = true := by decide +kernel
theorem yq_yr352_2 : (((y_cd yr352).drop 80).take 40).all (y_okE ztb znw zcls (ytb yw00) yr352) = true := by decide +kernel
theorem yq_yr352_3 : (((y_cd yr352).drop 120).take 40).all (y_okE ztb znw zcls (ytb yw00) yr352) = true := by decide +kernel
theorem yq_yr352_e4 : ((y_cd yr352).drop 160).all (y_okE ztb znw zcls (ytb yw00) yr352) = true := z_seg_end (by decide +kernel)
theorem yq_yr352_e3 : ((y_cd yr352).drop 120).all (y_okE ztb znw zcls (ytb yw00) yr352) = true := z_seg (a := 120) (k := 40) yq_yr352_3 yq_yr352_e4
theorem yq_yr352_e2 : ((y_cd yr352).drop 80).all (y_okE ztb znw zcls (ytb yw00) yr352) = true := z_seg (a := 80) (k := 40) yq_yr352_2 yq_yr352_e3
theorem yq_yr352_e1 : ((y_cd yr352).drop 40).all (y_okE ztb znw zcls (ytb yw00) yr352) = true := z_seg (a := 40) (k := 40) yq_yr352_1 yq_yr352_e2
theorem yq_yr352_e0 : ((y_cd yr352).drop 0).all (y_okE ztb znw zcls (ytb yw00) yr352) = true := z_seg (a := 0) (k := 40) yq_yr352_0 yq_yr352_e1
theorem yq_yr352 : (y_cd yr352).all (y_okE ztb znw zcls (ytb yw00) yr352) = true := z_seg0 yq_yr352_e0
theorem yo_yr352 : y_okM ztb zcls yr352 := y_okM_i (z_codeIn (ch := 10) (i := 159) (l := tables_1_10) rfl rfl) (z_w_ok (n := 1012) (by decide +kernel)) (by decide +kernel) ⟨by decide +kernel, by decide +kernel⟩ (z_w_ok (n := 10158) (by decide +kernel)) (z_w_ok (n := 102) (by decide +kernel)) rfl rfl (by decide)
theorem yq_yr353_0 : (((y_cd yr353).drop 0).take 40).all (y_okE ztb znw zcls (ytb yw00) yr353) = true := by decide +kernel
theorem yq_yr353_1 : (((y_cd yr353).drop 40).take 40).all (y_okE ztb znw zcls (ytb yw00) yr353) = true := by decide +kernel
theorem yq_yr353_2 : (((y_cd yr353).drop 80).take 40).all (y_okE ztb znw zcls (ytb yw00) yr353) = true := by decide +kernel
theorem yq_yr353_3 : (((y_cd yr353).drop 120).take 40).all (y_okE ztb znw zcls (ytb yw00) yr353) = true := by decide +kernel
theorem yq_yr353_e4 : ((y_cd yr353).drop 160).all (y_okE ztb znw zcls (ytb yw00) yr353) = true := z_seg_end (by decide +kernel)
theorem yq_yr353_e3 : ((y_cd yr353).drop 120).all (y_okE ztb znw zcls (ytb yw00) yr353) = true := z_seg (a := 120) (k := 40) yq_yr353_3 yq_yr353_e4
theorem yq_yr353_e2 : ((y_cd yr353).drop 80).all (y_okE ztb znw zcls (ytb yw00) yr353) = true := z_seg (a := 80) (k := 40) yq_yr353_2 yq_yr353_e3
theorem yq_yr353_e1 : ((y_cd yr353).drop 40).all (y_okE ztb znw zcls (ytb yw00) yr353) = true := z_seg (a := 40) (k := 40) yq_yr353_1 yq_yr353_e2
theorem yq_yr353_e0 : ((y_cd yr353).drop 0).all (y_okE ztb znw zcls (ytb yw00) yr353) = true := z_seg (a := 0) (k := 40) yq_yr353_0 yq_yr353_e1
theorem yq_yr353 : (y_cd yr353).all (y_okE ztb znw zcls (ytb yw00) yr353) = true := z_seg0 yq_yr353_e0
theorem yo_yr353 : y_okM ztb zcls yr353 := y_okM_i (z_codeIn (ch := 10) (i := 159) (l := tables_1_10) rfl rfl) (z_w_ok (n := 1012) (by decide +kernel)) (by decide +kernel) ⟨by decide +kernel, by decide +kernel⟩ (z_w_ok (n := 10158) (by decide +kernel)) (z_w_ok (n := 102) (by decide +kernel)) rfl rfl (by decide)
theorem yq_yr354_0 : (((y_cd yr354).drop 0).take 40).all (y_okE ztb znw zcls (ytb yw00) yr354) = true := by decide +kernel
theorem yq_yr354_1 : (((y_cd yr354).drop 40).take 40).all (y_okE ztb znw zcls (ytb yw00) yr354) = true := by decide +kernel
theorem yq_yr354_2 : (((y_cd yr354).drop 80).take 40).all (y_okE ztb znw zcls (ytb yw00) yr354) = true := by decide +kernel
theorem yq_yr354_3 : (((y_cd yr354).drop 120).take 40).all (y_okE ztb znw zcls (ytb yw00) yr354) = true := by decide +kernel
theorem yq_yr354_e4 : ((y_cd yr354).drop 160).all (y_okE ztb znw zcls (ytb yw00) yr354) = true := z_seg_end (by decide +kernel)
theorem yq_yr354_e3 : ((y_cd yr354).drop 120).all (y_okE ztb znw zcls (ytb yw00) yr354) = true := z_seg (a := 120) (k := 40) yq_yr354_3 yq_yr354_e4
theorem yq_yr354_e2 : ((y_cd yr354).drop 80).all (y_okE ztb znw zcls (ytb yw00) yr354) = true := z_seg (a := 80) (k := 40) yq_yr354_2 yq_yr354_e3
theorem yq_yr354_e1 : ((y_cd yr354).drop 40).all (y_okE ztb znw zcls (ytb yw00) yr354) = true := z_seg (a := 40) (k := 40) yq_yr354_1 yq_yr354_e2
theorem yq_yr354_e0 : ((y_cd yr354).drop 0).all (y_okE ztb znw zcls (ytb yw00) yr354) = true := z_seg (a := 0) (k := 40) yq_yr354_0 yq_yr354_e1
theorem yq_yr354 : (y_cd yr354).all (y_okE ztb znw zcls (ytb yw00) yr354) = true := z_seg0 yq_yr354_e0
theorem yo_yr354 : y_okM ztb zcls yr354 := y_okM_i (z_codeIn (ch := 10) (i := 159) (l := tables_1_10) rfl rfl) (z_w_ok (n := 1012) (by decide +kernel)) (by decide +kernel) ⟨by decide +kernel, by decide +kernel⟩ (z_w_ok (n := 10158) (by decide +kernel)) (z_w_ok (n := 102) (by decide +kernel)) rfl rfl (by decide)
theorem yq_yr355_0 : (((y_cd yr355).drop 0).take 40).all (y_okE ztb znw zcls (ytb yw00) yr355) = true := by decide +kernel
theorem yq_yr355_1 : (((y_cd yr355).drop 40).take 40).all (y_okE ztb znw zcls (ytb yw00) yr355) = true := by decide +kernel
theorem yq_yr355_2 : (((y_cd yr355).drop 80).take 40).all (y_okE ztb znw zcls (ytb yw00) yr355) = true := by decide +kernel
theorem yq_yr355_3 : (((y_cd yr355).drop 120).take 40).all (y_okE ztb znw zcls (ytb yw00) yr355) = true := by decide +kernel
theorem yq_yr355_e4 : ((y_cd yr355).drop 160).all (y_okE ztb znw zcls (ytb yw00) yr355) = true := z_seg_end (by decide +kernel)
theorem yq_yr355_e3 : ((y_cd yr355).drop 120).all (y_okE ztb znw zcls (ytb yw00) yr355) = true := z_seg (a := 120) (k := 40) yq_yr355_3 yq_yr355_e4
theorem yq_yr355_e2 : ((y_cd yr355).drop 80).all (y_okE ztb znw zcls (ytb yw00) yr355) = true := z_seg (a := 80) (k := 40) yq_yr355_2 yq_yr355_e3
theorem yq_yr355_e1 : ((y_cd yr355).drop 40).all (y_okE ztb znw zcls (ytb yw00) yr355) = true := z_seg (a := 40) (k := 40) yq_yr355_1 yq_yr355_e2
theorem yq_yr355_e0 : ((y_cd yr355).drop 0).all (y_okE ztb znw zcls (ytb yw00) yr355) = true := z_seg (a := 0) (k := 40) yq_yr355_0 yq_yr355_e1
theorem yq_yr355 : (y_cd yr355).all (y_okE ztb znw zcls (ytb yw00) yr355) = true := z_seg0 yq_yr355_e0
theorem yo_yr355 : y_okM ztb zcls yr355 := y_okM_i (z_codeIn (ch := 10) (i := 159) (l := tables_1_10) rfl rfl) (z_w_ok (n := 1012) (by decide +kernel)) (by decide +kernel) ⟨by decide +kernel, by decide +kernel⟩ (z_w_ok (n := 10158) (by decide +kernel)) (z_w_ok (n := 102) (by decide +kernel)) rfl rfl (by decide)
theorem yq_yr356_0 : (((y_cd yr356).drop 0).take 40).all (y_okE ztb znw zcls (ytb yw00) yr356) = true := by decide +kernel
theorem yq_yr356_1 : (((y_cd yr356).drop 40).take 40).all (y_okE ztb znw zcls (ytb yw00) yr356) = true := by decide +kernel
theorem yq_yr356_2 : (((y_cd yr356).drop 80).take 40).all (y_okE ztb znw zcls (ytb yw00) yr356) = true := by decide +kernel
theorem yq_yr356_3 : (((y_cd yr356).drop 120).take 40).all (y_okE ztb znw zcls (ytb yw00) yr356) = true := by decide +kernel
theorem yq_yr356_e4 : ((y_cd yr356).drop 160).all (y_okE ztb znw zcls (ytb yw00) yr356) = true := z_seg_end (by decide +kernel)
theorem yq_yr356_e3 : ((y_cd yr356).drop 120).all (y_okE ztb znw zcls (ytb yw00) yr356) = true := z_seg (a := 120) (k := 40) yq_yr356_3 yq_yr356_e4
theorem yq_yr356_e2 : ((y_cd yr356).drop 80).all (y_okE ztb znw zcls (ytb yw00) yr356) = true := z_seg (a := 80) (k := 40) yq_yr356_2 yq_yr356_e3
theorem yq_yr356_e1 : ((y_cd yr356).drop 40).all (y_okE ztb znw zcls (ytb yw00) yr356) = true := z_seg (a := 40) (k := 40) yq_yr356_1 yq_yr356_e2
theorem yq_yr356_e0 : ((y_cd yr356).drop 0).all (y_okE ztb znw zcls (ytb yw00) yr356) = true := z_seg (a := 0) (k := 40) yq_yr356_0 yq_yr356_e1
theorem yq_yr356 : (y_cd yr356).all (y_okE ztb znw zcls (ytb yw00) yr356) = true := z_seg0 yq_yr356_e0
theorem yo_yr356 : y_okM ztb zcls yr356 := y_okM_i (z_codeIn (ch := 10) (i := 159) (l := tables_1_10) rfl rfl) (z_w_ok (n := 1012) (by decide +kernel)) (by decide +kernel) ⟨by decide +kernel, by decide +kernel⟩ (z_w_ok (n := 10158) (by decide +kernel)) (z_w_ok (n := 102) (by decide +kernel)) rfl rfl (by decide)
theorem yq_yr357 : (y_cd yr357).all (y_okE ztb znw zcls (ytb yw00) yr357) = true := by decide +kernel
theorem yo_yr357 : y_okM ztb zcls yr357 := y_okM_i (z_codeIn (ch := 10) (i := 127) (l := tables_1_10) rfl rfl) (z_w_ok (n := 1012) (by decide +kernel)) (by decide +kernel) ⟨by decide +kernel, by decide +kernel⟩ (z_w_ok (n := 10126) (by decide +kernel)) (z_w_ok (n := 96) (by decide +kernel)) rfl rfl (by decide)
theorem yq_yr358 : (y_cd yr358).all (y_okE ztb znw zcls (ytb yw00) yr358) = true := by decide +kernel
theorem yo_yr358 : y_okM ztb zcls yr358 := y_okM_i (z_codeIn (ch := 11) (i := 228) (l := tables_1_11) rfl rfl) (z_w_ok (n := 1012) (by decide +kernel)) (by decide +kernel) ⟨by decide +kernel, by decide +kernel⟩ (z_w_ok (n := 11226) (by decide +kernel)) (z_w_ok (n := 11227) (by decide +kernel)) rfl rfl (by decide)
theorem yq_yr359 : (y_cd yr359).all (y_okE ztb znw zcls (ytb yw00) yr359) = true := by decide +kernel
theorem yo_yr359 : y_okM ztb zcls yr359 := y_okM_i (z_codeIn (ch := 12) (i := 4) (l := tables_1_12) rfl rfl) (z_w_ok (n := 1012) (by decide +kernel)) (by decide +kernel) ⟨by decide +kernel, by decide +kernel⟩ (z_w_ok (n := 12003) (by decide +kernel)) (z_w_ok (n := 158) (by decide +kernel)) rfl rfl (by decide)
theorem yq_yr360_0 : (((y_cd yr360).drop 0).take 40).all (y_okE ztb znw zcls (ytb yw00) yr360) = true := by decide +kernel
theorem yq_yr360_1 : (((y_cd yr360).drop 40).take 40).all (y_okE ztb znw zcls (ytb yw00) yr360) = true := by decide +kernel
theorem yq_yr360_e2 : ((y_cd yr360).drop 80).all (y_okE ztb znw zcls (ytb yw00) yr360) = true := z_seg_end (by decide +kernel)
theorem yq_yr360_e1 : ((y_cd yr360).drop 40).all (y_okE ztb znw zcls (ytb yw00) yr360) = true := z_seg (a := 40) (k := 40) yq_yr360_1 yq_yr360_e2
theorem yq_yr360_e0 : ((y_cd yr360).drop 0).all (y_okE ztb znw zcls (ytb yw00) yr360) = true := z_seg (a := 0) (k := 40) yq_yr360_0 yq_yr360_e1
theorem yq_yr360 : (y_cd yr360).all (y_okE ztb znw zcls (ytb yw00) yr360) = true := z_seg0 yq_yr360_e0
theorem yo_yr360 : y_okM ztb zcls yr360 := y_okM_i (z_codeIn (ch := 11) (i := 200) (l := tables_1_11) rfl rfl) (z_w_ok (n := 1012) (by decide +kernel)) (by decide +kernel) ⟨by decide +kernel, by decide +kernel⟩ (z_w_ok (n := 11198) (by decide +kernel)) (z_w_ok (n := 11199) (by decide +kernel)) rfl rfl (by decide)
theorem yq_yr361 : (y_cd yr361).all (y_okE ztb znw zcls (ytb yw00) yr361) = true := by decide +kernel
theorem yo_yr361 : y_okM ztb zcls yr361 := y_okM_i (z_codeIn (ch := 11) (i := 224) (l := tables_1_11) rfl rfl) (z_w_ok (n := 1012) (by decide +kernel)) (by decide +kernel) ⟨by decide +kernel, by decide +kernel⟩ (z_w_ok (n := 11222) (by decide +kernel)) (z_w_ok (n := 11223) (by decide +kernel)) rfl rfl (by decide)
theorem yq_yr362 : (y_cd yr362).all (y_okE ztb znw zcls (ytb yw00) yr362) = true := by decide +kernel
theorem yo_yr362 : y_okM ztb zcls yr362 := y_okM_i (z_codeIn (ch := 13) (i := 2) (l := tables_1_13) rfl rfl) (z_w_ok (n := 1012) (by decide +kernel)) (by decide +kernel) ⟨by decide +kernel, by decide +kernel⟩ (z_w_ok (n := 13000) (by decide +kernel)) (z_w_ok (n := 13001) (by decide +kernel)) rfl rfl (by decide)
theorem yq_yr363 : (y_cd yr363).all (y_okE ztb znw zcls (ytb yw00) yr363) = true := by decide +kernel
theorem yo_yr363 : y_okM ztb zcls yr363 := y_okM_i (z_codeIn (ch := 11) (i := 7) (l := tables_1_11) rfl rfl) (z_w_ok (n := 1012) (by decide +kernel)) (by decide +kernel) ⟨by decide +kernel, by decide +kernel⟩ (z_w_ok (n := 11005) (by decide +kernel)) (z_w_ok (n := 11006) (by decide +kernel)) rfl rfl (by decide)
theorem yq_yr364_0 : (((y_cd yr364).drop 0).take 40).all (y_okE ztb znw zcls (ytb yw00) yr364) = true := by decide +kernel
theorem yq_yr364_1 : (((y_cd yr364).drop 40).take 40).all (y_okE ztb znw zcls (ytb yw00) yr364) = true := by decide +kernel
theorem yq_yr364_2 : (((y_cd yr364).drop 80).take 40).all (y_okE ztb znw zcls (ytb yw00) yr364) = true := by decide +kernel
theorem yq_yr364_3 : (((y_cd yr364).drop 120).take 40).all (y_okE ztb znw zcls (ytb yw00) yr364) = true := by decide +kernel
theorem yq_yr364_e4 : ((y_cd yr364).drop 160).all (y_okE ztb znw zcls (ytb yw00) yr364) = true := z_seg_end (by decide +kernel)
theorem yq_yr364_e3 : ((y_cd yr364).drop 120).all (y_okE ztb znw zcls (ytb yw00) yr364) = true := z_seg (a := 120) (k := 40) yq_yr364_3 yq_yr364_e4
theorem yq_yr364_e2 : ((y_cd yr364).drop 80).all (y_okE ztb znw zcls (ytb yw00) yr364) = true := z_seg (a := 80) (k := 40) yq_yr364_2 yq_yr364_e3
theorem yq_yr364_e1 : ((y_cd yr364).drop 40).all (y_okE ztb znw zcls (ytb yw00) yr364) = true := z_seg (a := 40) (k := 40) yq_yr364_1 yq_yr364_e2
theorem yq_yr364_e0 : ((y_cd yr364).drop 0).all (y_okE ztb znw zcls (ytb yw00) yr364) = true := z_seg (a := 0) (k := 40) yq_yr364_0 yq_yr364_e1
theorem yq_yr364 : (y_cd yr364).all (y_okE ztb znw zcls (ytb yw00) yr364) = true := z_seg0 yq_yr364_e0
theorem yo_yr364 : y_okM ztb zcls yr364 := y_okM_i (z_codeIn (ch := 12) (i := 60) (l := tables_1_12) rfl rfl) (z_w_ok (n := 1012) (by decide +kernel)) (by decide +kernel) ⟨by decide +kernel, by decide +kernel⟩ (z_w_ok (n := 12059) (by decide +kernel)) (z_w_ok (n := 172) (by decide +kernel)) rfl rfl (by decide)
