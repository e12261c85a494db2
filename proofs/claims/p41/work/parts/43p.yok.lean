theorem yq_yr349_0 : (((y_cd yr349).drop 0).take 40).all (y_okE ztb znw zcls (ytb yw00) yr349) = true := by decide +kernel
theorem yq_yr349_1 : (((y_cd yr349).drop 40).take 40).all (y_okE ztb znw zcls (ytb yw00) yr349) = true := by decide +kernel
theorem yq_yr349_2 : (((y_cd yr349).drop 80).take 40).all (y_okE ztb znw zcls (ytb yw00) yr349) = true := by decide +kernel
theorem yq_yr349_3 : (((y_cd yr349).drop 120).take 40).all (y_okE ztb znw zcls (ytb yw00) yr349) = true := by decide +kernel
theorem yq_yr349_e4 : ((y_cd yr349).drop 160).all (y_okE ztb znw zcls (ytb yw00) yr349) = true := z_seg_end (by decide +kernel)
theorem yq_yr349_e3 : ((y_cd yr349).drop 120).all (y_okE ztb znw zcls (ytb yw00) yr349) = true := z_seg (a := 120) (k := 40) yq_yr349_3 yq_yr349_e4
theorem yq_yr349_e2 : ((y_cd yr349).drop 80).all (y_okE ztb znw zcls (ytb yw00) yr349) = true := z_seg (a := 80) (k := 40) yq_yr349_2 yq_yr349_e3
theorem yq_yr349_e1 : ((y_cd yr349).drop 40).all (y_okE ztb znw zcls (ytb yw00) yr349) = true := z_seg (a := 40) (k := 40) yq_yr349_1 yq_yr349_e2
theorem yq_yr349_e0 : ((y_cd yr349).drop 0).all (y_okE ztb znw zcls (ytb yw00) yr349) = true := z_seg (a := 0) (k := 40) yq_yr349_0 yq_yr349_e1
theorem yq_yr349 : (y_cd yr349).all (y_okE ztb znw zcls (ytb yw00) yr349) = true := z_seg0 yq_yr349_e0
theorem yo_yr349 : y_okM ztb zcls yr349 := y_okM_i (z_codeIn (ch := 10) (i := 159) (l := tables_1_10) rfl rfl) (z_w_ok (n := 1012) (by decide +kernel)) (by decide +kernel) ⟨by decide +kernel, by decide +kernel⟩ (z_w_ok (n := 10158) (by decide +kernel)) (z_w_ok (n := 102) (by decide +kernel)) rfl rfl (by decide)
theorem yq_yr350_0 : (((y_cd yr350).drop 0).take 40).all (y_okE ztb znw zcls (ytb yw00) yr350) = true := by decide +kernel
theorem yq_yr350_1 : (((y_cd yr350).drop 40).take 40).all (y_okE ztb znw zcls (ytb yw00) yr350) = true := by decide +kernel
theorem yq_yr350_2 : (((y_cd yr350).drop 80).take 40).all (y_okE ztb znw zcls (ytb yw00) yr350) = true := by decide +kernel
theorem yq_yr350_3 : (((y_cd yr350).drop 120).take 40).all (y_okE ztb znw zcls (ytb yw00) yr350) = true := by decide +kernel
theorem yq_yr350_e4 : ((y_cd yr350).drop 160).all (y_okE ztb znw zcls (ytb yw00) yr350) = true := z_seg_end (by decide +kernel)
theorem yq_yr350_e3 : ((y_cd yr350).drop 120).all (y_okE ztb znw zcls (ytb yw00) yr350) = true := z_seg (a := 120) (k := 40) yq_yr350_3 yq_yr350_e4
theorem yq_yr350_e2 : ((y_cd yr350).drop 80).all (y_okE ztb znw zcls (ytb yw00) yr350) = true := z_seg (a := 80) (k := 40) yq_yr350_2 yq_yr350_e3
theorem yq_yr350_e1 : ((y_cd yr350).drop 40).all (y_okE ztb znw zcls (ytb yw00) yr350) = true := z_seg (a := 40) (k := 40) yq_yr350_1 yq_yr350_e2
theorem yq_yr350_e0 : ((y_cd yr350).drop 0).all (y_okE ztb znw zcls (ytb yw00) yr350) = true := z_seg (a := 0) (k := 40) yq_yr350_0 yq_yr350_e1
theorem yq_yr350 : (y_cd yr350).all (y_okE ztb znw zcls (ytb yw00) yr350) = true := z_seg0 yq_yr350_e0
theorem yo_yr350 : y_okM ztb zcls yr350 := y_okM_i (z_codeIn (ch := 10) (i := 159) (l := tables_1_10) rfl rfl) (z_w_ok (n := 1012) (by decide +kernel)) (by decide +kernel) ⟨by decide +kernel, by decide +kernel⟩ (z_w_ok (n := 10158) (by decide +kernel)) (z_w_ok (n := 102) (by decide +kernel)) rfl rfl (by decide)
theorem yq_yr351_0 : (((y_cd yr351).drop 0).take 40).all (y_okE ztb znw zcls (ytb yw00) yr351) = true := by decide +kernel
theorem yq_yr351_1 : (((y_cd yr351).drop 40).take 40).all (y_okE ztb znw zcls (ytb yw00) yr351) = true := by decide +kernel
theorem yq_yr351_2 : (((y_cd yr351).drop 80).take 40).all (y_okE ztb znw zcls (ytb yw00) yr351) = true := by decide +kernel
theorem yq_yr351_3 : (((y_cd yr351).drop 120).take 40).all (y_okE ztb znw zcls (ytb yw00) yr351) = true := by decide +kernel
theorem yq_yr351_e4 : ((y_cd yr351).drop 160).all (y_okE ztb znw zcls (ytb yw00) yr351) = true := z_seg_end (by decide +kernel)
theorem yq_yr351_e3 : ((y_cd yr351).drop 120).all (y_okE ztb znw zcls (ytb yw00) yr351) = true := z_seg (a := 120) (k := 40) yq_yr351_3 yq_yr351_e4
theorem yq_yr351_e2 : ((y_cd yr351).drop 80).all (y_okE ztb znw zcls (ytb yw00) yr351) = true := z_seg (a := 80) (k := 40) yq_yr351_2 yq_yr351_e3
theorem yq_yr351_e1 : ((y_cd yr351).drop 40).all (y_okE ztb znw zcls (ytb yw00) yr351) = true := z_seg (a := 40) (k := 40) yq_yr351_1 yq_yr351_e2
theorem yq_yr351_e0 : ((y_cd yr351).drop 0).all (y_okE ztb znw zcls (ytb yw00) yr351) = true := z_seg (a := 0) (k := 40) yq_yr351_0 yq_yr351_e1
theorem yq_yr351 : (y_cd yr351).all (y_okE ztb znw zcls (ytb yw00) yr351) = true := z_seg0 yq_yr351_e0
theorem yo_yr351 : y_okM ztb zcls yr351 := y_okM_i (z_codeIn (ch := 10) (i := 159) (l := tables_1_10) rfl rfl) (z_w_ok (n := 1012) (by decide +kernel)) (by decide +kernel) ⟨by decide +kernel, by decide +kernel⟩ (z_w_ok (n := 10158) (by decide +kernel)) (z_w_ok (n := 102) (by decide +kernel)) rfl rfl (by decide)
theorem yq_yr352_0 : (((y_cd yr352).drop 0).take 40).all (y_okE ztb znw zcls (ytb yw00) yr352) = true := by decide +kernel
theorem yq_yr352_1 : (((y_cd yr352).drop 40).take 40).all (y_okE ztb znw zcls (ytb yw00) yr352) = true := by decide +kernel
theorem yq_yr352_2 : (((y_cd yr352).drop 80).take 40).all (y_okE ztb znw zcls (ytb yw00) yr352) = true := by decide +kernel
theorem yq_yr352_3 : (((y_cd yr352).drop 120).take 40).all (y_okE ztb znw zcls (ytb yw00) yr352) = true := by decide +kernel
theorem yq_yr352_e4 : ((y_cd yr352).drop 160).all (y_okE ztb znw zcls (ytb yw00) yr352) = true := z_seg_end (by decide +kernel)
theorem yq_yr352_e3 : ((y_cd yr352).drop 120).all (y_okE ztb znw zcls (ytb yw00) yr352) = true := z_seg (a := 120) (k := 40) yq_yr352_3 yq_yr352_e4
theorem yq_yr352_e2 : ((y_cd yr352).drop 80).all (y_okE ztb znw zcls (ytb yw00) yr352) = true := z_seg (a := 80) (k := 40) yq_yr352_2 yq_yr352_e3
theorem yq_yr352_e1 : ((y_cd yr352).drop 40).all (y_okE ztb znw zcls (ytb yw00) yr352) = true := z_seg (a := 40) (k := 40) yq_yr352_1 yq_yr352_e2
theorem yq_yr352_e0 : ((y_cd yr352).drop 0).all (y_okE ztb znw zcls (ytb yw00) yr352) = true := z_seg (a := 0) (k := 40) yq_yr352_0 yq_yr352_e1
theorem yq_yr352 : (y_cd yr352).all (y_okE ztb znw zcls (ytb yw00) yr352) = true := z_seg0 yq_yr352_e0
theorem yo_yr352 : y_okM ztb zcls yr352 := y_okM_i (z_codeIn (ch := 10) (i := 159) (l := tables_1_10) rfl rfl) (z_w_ok (n := 1012) (by decide +kernel)) (by decide +kernel) ⟨by decide +kernel, by decide +kernel⟩ (z_w_ok (n := 10158) (by decide +kernel)) (z_w_ok (n := 102) (by decide +kernel)) rfl rfl (by decide)
theorem yq_yr353_0 : (((y_cd yr353).drop 0).take 40).all (y_okE ztb znw zcls (ytb yw00) yr353) = true := by decide +kernel
theorem yq_yr353_1 : (((y_cd yr353).drop 40).take 40).all (y_okE ztb znw zcls (ytb yw00) yr353) = true := by decide +kernel
theorem yq_yr353_2 : (((y_cd yr353).drop 80).take 40).all (y_okE ztb znw zcls (ytb yw00) yr353) = true := by decide +kernel
theorem yq_yr353_3 : (((y_cd yr353).drop 120).take 40).all (y_okE ztb znw zcls (ytb yw00) yr353) = true := by decide +kernel
theorem yq_yr353_e4 : ((y_cd yr353).drop 160).all (y_okE ztb znw zcls (ytb yw00) yr353) = true := z_seg_end (by decide +kernel)
theorem yq_yr353_e3 : ((y_cd yr353).drop 120).all (y_okE ztb znw zcls (ytb yw00) yr353) = true := z_seg (a := 120) (k := 40) yq_yr353_3 yq_yr353_e4
theorem yq_yr353_e2 : ((y_cd yr353).drop 80).all (y_okE ztb znw zcls (ytb yw00) yr353) = true := z_seg (a := 80) (k := 40) yq_yr353_2 yq_yr353_e3
theorem yq_yr353_e1 : ((y_cd yr353).drop 40).all (y_okE ztb znw zcls (ytb yw00) yr353) = true := z_seg (a := 40) (k := 40) yq_yr353_1 yq_yr353_e2
theorem yq_yr353_e0 : ((y_cd yr353).drop 0).all (y_okE ztb znw zcls (ytb yw00) yr353) = true := z_seg (a := 0) (k := 40) yq_yr353_0 yq_yr353_e1
theorem yq_yr353 : (y_cd yr353).all (y_okE ztb znw zcls (ytb yw00) yr353) = true := z_seg0 yq_yr353_e0
theorem yo_yr353 : y_okM ztb zcls yr353 := y_okM_i (z_codeIn (ch := 10) (i := 159) (l := tables_1_10) rfl rfl) (z_w_ok (n := 1012) (by decide +kernel)) (by decide +kernel) ⟨by decide +kernel, by decide +kernel⟩ (z_w_ok (n := 10158) (by decide +kernel)) (z_w_ok (n := 102) (by decide +kernel)) rfl rfl (by decide)
theorem yq_yr354_0 : (((y_cd yr354).drop 0).take 40).all (y_okE ztb znw zcls (ytb yw00) yr354) = true := by decide +kernel
theorem yq_yr354_1 : (((y_cd yr354).drop 40).take 40).all (y_okE ztb znw zcls (ytb yw00) yr354) = true := by decide +kernel
theorem yq_yr354_2 : (((y_cd yr354).drop 80).take 40).all (y_okE ztb znw zcls (ytb yw00) yr354) = true := by decide +kernel
theorem yq_yr354_3 : (((y_cd yr354).drop 120).take 40).all (y_okE ztb znw zcls (ytb yw00) yr354) = true := by decide +kernel
theorem yq_yr354_e4 : ((y_cd yr354).drop 160).all (y_okE ztb znw zcls (ytb yw00) yr354) = true := z_seg_end (by decide +kernel)
theorem yq_yr354_e3 : ((y_cd yr354).drop 120).all (y_okE ztb znw zcls (ytb yw00) yr354) = true := z_seg (a := 120) (k := 40) yq_yr354_3 yq_yr354_e4
theorem yq_yr354_e2 : ((y_cd yr354).drop 80).all (y_okE ztb znw zcls (ytb yw00) yr354) = true := z_seg (a := 80) (k := 40) yq_yr354_2 yq_yr354_e3
theorem yq_yr354_e1 : ((y_cd yr354).drop 40).all (y_okE ztb znw zcls (ytb yw00) yr354) = true := z_seg (a := 40) (k := 40) yq_yr354_1 yq_yr354_e2
theorem yq_yr354_e0 : ((y_cd yr354).drop 0).all (y_okE ztb znw zcls (ytb yw00) yr354) = true := z_seg (a := 0) (k := 40) yq_yr354_0 yq_yr354_e1
theorem yq_yr354 : (y_cd yr354).all (y_okE ztb znw zcls (ytb yw00) yr354) = true := z_seg0 yq_yr354_e0
theorem yo_yr354 : y_okM ztb zcls yr354 := y_okM_i (z_codeIn (ch := 10) (i := 159) (l := tables_1_10) rfl rfl) (z_w_ok (n := 1012) (by decide +kernel)) (by decide +kernel) ⟨by decide +kernel, by decide +kernel⟩ (z_w_ok (n := 10158) (by decide +kernel)) (z_w_ok (n := 102) (by decide +kernel)) rfl rfl (by decide)
theorem yq_yr355_0 : (((y_cd yr355).drop 0).take 40).all (y_okE ztb znw zcls (ytb yw00) yr355) = true := by decide +kernel
theorem yq_yr355_1 : (((y_cd yr355).drop 40).take 40).all (y_okE ztb znw zcls (ytb yw00) yr355) = true := by decide +kernel
theorem yq_yr355_2 : (((y_cd yr355).drop 80).take 40).all (y_okE ztb znw zcls (ytb yw00) yr355) = true := by decide +kernel
theorem yq_yr355_3 : (((y_cd yr355).drop 120).take 40).all (y_okE ztb znw zcls (ytb yw00) yr355) = true := by decide +kernel
theorem yq_yr355_e4 : ((y_cd yr355).drop 160).all (y_okE ztb znw zcls (ytb yw00) yr355) = true := z_seg_end (by decide +kernel)
theorem yq_yr355_e3 : ((y_cd yr355).drop 120).all (y_okE ztb znw zcls (ytb yw00) yr355) = true := z_seg (a := 120) (k := 40) yq_yr355_3 yq_yr355_e4
theorem yq_yr355_e2 : ((y_cd yr355).drop 80).all (y_okE ztb znw zcls (ytb yw00) yr355) = true := z_seg (a := 80) (k := 40) yq_yr355_2 yq_yr355_e3
theorem yq_yr355_e1 : ((y_cd yr355).drop 40).all (y_okE ztb znw zcls (ytb yw00) yr355) = true := z_seg (a := 40) (k := 40) yq_yr355_1 yq_yr355_e2
theorem yq_yr355_e0 : ((y_cd yr355).drop 0).all (y_okE ztb znw zcls (ytb yw00) yr355) = true := z_seg (a := 0) (k := 40) yq_yr355_0 yq_yr355_e1
theorem yq_yr355 : (y_cd yr355).all (y_okE ztb znw zcls (ytb yw00) yr355) = true := z_seg0 yq_yr355_e0
theorem yo_yr355 : y_okM ztb zcls yr355 := y_okM_i (z_codeIn (ch := 10) (i := 159) (l := tables_1_10) rfl rfl) (z_w_ok (n := 1012) (by decide +kernel)) (by decide +kernel) ⟨by decide +kernel, by decide +kernel⟩ (z_w_ok (n := 10158) (by decide +kernel)) (z_w_ok (n := 102) (by decide +kernel)) rfl rfl (by decide)
theorem yq_yr356_0 : (((y_cd yr356).drop 0).take 40).all (y_okE ztb znw zcls (ytb yw00) yr356) = true := by decide +kernel
theorem yq_yr356_1 : (((y_cd yr356).drop 40).take 40).all (y_okE ztb znw zcls (ytb yw00) yr356) = true := by decide +kernel
theorem yq_yr356_2 : (((y_cd yr356).drop 80).take 40).all (y_okE ztb znw zcls (ytb yw00) yr356) = true := by decide +kernel
theorem yq_yr356_3 : (((y_cd yr356).drop 120).take 40).all (y_okE ztb znw zcls (ytb yw00) yr356) = true := by decide +kernel
theorem yq_yr356_e4 : ((y_cd yr356).drop 160).all (y_okE ztb znw zcls (ytb yw00) yr356) = true := z_seg_end (by decide +kernel)
theorem yq_yr356_e3 : ((y_cd yr356).drop 120).all (y_okE ztb znw zcls (ytb yw00) yr356) = true := z_seg (a := 120) (k := 40) yq_yr356_3 yq_yr356_e4
theorem yq_yr356_e2 : ((y_cd yr356).drop 80).all (y_okE ztb znw zcls (ytb yw00) yr356) = true := z_seg (a := 80) (k := 40) yq_yr356_2 yq_yr356_e3
theorem yq_yr356_e1 : ((y_cd yr356).drop 40).all (y_okE ztb znw zcls (ytb yw00) yr356) = true := z_seg (a := 40) (k := 40) yq_yr356_1 yq_yr356_e2
theorem yq_yr356_e0 : ((y_cd yr356).drop 0).all (y_okE ztb znw zcls (ytb yw00) yr356) = true := z_seg (a := 0) (k := 40) yq_yr356_0 yq_yr356_e1
theorem yq_yr356 : (y_cd yr356).all (y_okE ztb znw zcls (ytb yw00) yr356) = true := z_seg0 yq_yr356_e0
theorem yo_yr356 : y_okM ztb zcls yr356 := y_okM_i (z_codeIn (ch := 10) (i := 159) (l := tables_1_10) rfl rfl) (z_w_ok (n := 1012) (by decide +kernel)) (by decide +kernel) ⟨by decide +kernel, by decide +kernel⟩ (z_w_ok (n := 10158) (by decide +kernel)) (z_w_ok (n := 102) (by decide +kernel)) rfl rfl (by decide)
theorem yq_yr357_0 : (((y_cd yr357).drop 0).take 40).all (y_okE ztb znw zcls (ytb yw00) yr357) = true := by decide +kernel
theorem yq_yr357_1 : (((y_cd yr357).drop 40).take 40).all (y_okE ztb znw zcls (ytb yw00) yr357) = true := by decide +kernel
theorem yq_yr357_2 : (((y_cd yr357).drop 80).take 40).all (y_okE ztb znw zcls (ytb yw00) yr357) = true := by decide +kernel
theorem yq_yr357_3 : (((y_cd yr357).drop 120).take 40).all (y_okE ztb znw zcls (ytb yw00) yr357) = true := by decide +kernel
theorem yq_yr357_e4 : ((y_cd yr357).drop 160).all (y_okE ztb znw zcls (ytb yw00) yr357) = true := z_seg_end (by decide +kernel)
theorem yq_yr357_e3 : ((y_cd yr357).drop 120).all (y_okE ztb znw zcls (ytb yw00) yr357) = true := z_seg (a := 120) (k := 40) yq_yr357_3 yq_yr357_e4
theorem yq_yr357_e2 : ((y_cd yr357).drop 80).all (y_okE ztb znw zcls (ytb yw00) yr357) = true := z_seg (a := 80) (k := 40) yq_yr357_2 yq_yr357_e3
theorem yq_yr357_e1 : ((y_cd yr357).drop 40).all (y_okE ztb znw zcls (ytb yw00) yr357) = true := z_seg (a := 40) (k := 40) yq_yr357_1 yq_yr357_e2
theorem yq_yr357_e0 : ((y_cd yr357).drop 0).all (y_okE ztb znw zcls (ytb yw00) yr357) = true := z_seg (a := 0) (k := 40) yq_yr357_0 yq_yr357_e1
theorem yq_yr357 : (y_cd yr357).all (y_okE ztb znw zcls (ytb yw00) yr357) = true := z_seg0 yq_yr357_e0
theorem yo_yr357 : y_okM ztb zcls yr357 := y_okM_i (z_codeIn (ch := 10) (i := 159) (l := tables_1_10) rfl rfl) (z_w_ok (n := 1012) (by decide +kernel)) (by decide +kernel) ⟨by decide +kernel, by decide +kernel⟩ (z_w_ok (n := 10158) (by decide +kernel)) (z_w_ok (n := 102) (by decide +kernel)) rfl rfl (by decide)
theorem yq_yr358_0 : (((y_cd yr358).drop 0).take 40).all (y_okE ztb znw zcls (ytb yw00) yr358) = true := by decide +kernel
theorem yq_yr358_1 : (((y_cd yr358).drop 40).take 40).all (y_okE ztb znw zcls (ytb yw00) yr358) = true := by decide +kernel
theorem yq_yr358_2 : (((y_cd yr358).drop 80).take 40).all (y_okE ztb znw zcls (ytb yw00) yr358) = true := by decide +kernel
theorem yq_yr358_3 : (((y_cd yr358).drop 120).take 40).all (y_okE ztb znw zcls (ytb yw00) yr358) = true := by decide +kernel
theorem yq_yr358_e4 : ((y_cd yr358).drop 160).all (y_okE ztb znw zcls (ytb yw00) yr358) = true := z_seg_end (by decide +kernel)
theorem yq_yr358_e3 : ((y_cd yr358).drop 120).all (y_okE ztb znw zcls (ytb yw00) yr358) = true := z_seg (a := 120) (k := 40) yq_yr358_3 yq_yr358_e4
theorem yq_yr358_e2 : ((y_cd yr358).drop 80).all (y_okE ztb znw zcls (ytb yw00) yr358) = true := z_seg (a := 80) (k := 40) yq_yr358_2 yq_yr358_e3
theorem yq_yr358_e1 : ((y_cd yr358).drop 40).all (y_okE ztb znw zcls (ytb yw00) yr358) = true := z_seg (a := 40) (k := 40) yq_yr358_1 yq_yr358_e2
theorem yq_yr358_e0 : ((y_cd yr358).drop 0).all (y_okE ztb znw zcls (ytb yw00) yr358) = true := z_seg (a := 0) (k := 40) yq_yr358_0 yq_yr358_e1
theorem yq_yr358 : (y_cd yr358).all (y_okE ztb znw zcls (ytb yw00) yr358) = true := z_seg0 yq_yr358_e0
theorem yo_yr358 : y_okM ztb zcls yr358 := y_okM_i (z_codeIn (ch := 10) (i := 159) (l := tables_1_10) rfl rfl) (z_w_ok (n := 1012) (by decide +kernel)) (by decide +kernel) ⟨by decide +kernel, by decide +kernel⟩ (z_w_ok (n := 10158) (by decide +kernel)) (z_w_ok (n := 102) (by decide +kernel)) rfl rfl (by decide)
theorem yq_yr359_0 : (((y_cd yr359).drop 0).take 40).all (y_okE ztb znw zcls (ytb yw00) yr359) = true := by decide +kernel
theorem yq_yr359_1 : (((y_cd yr359).drop 40).take 40).all (y_okE ztb znw zcls (ytb yw00) yr359) = true := by decide +kernel
theorem yq_yr359_2 : (((y_cd yr359).drop 80).take 40).all (y_okE ztb znw zcls (ytb yw00) yr359) = true := by decide +kernel
theorem yq_yr359_3 : (((y_cd yr359).drop 120).take 40).all (y_okE ztb znw zcls (ytb yw00) yr359) = true := by decide +kernel
theorem yq_yr359_e4 : ((y_cd yr359).drop 160).all (y_okE ztb znw zcls (ytb yw00) yr359) = true := z_seg_end (by decide +kernel)
theorem yq_yr359_e3 : ((y_cd yr359).drop 120).all (y_okE ztb znw zcls (ytb yw00) yr359) = true := z_seg (a := 120) (k := 40) yq_yr359_3 yq_yr359_e4
theorem yq_yr359_e2 : ((y_cd yr359).drop 80).all (y_okE ztb znw zcls (ytb yw00) yr359) = true := z_seg (a := 80) (k := 40) yq_yr359_2 yq_yr359_e3
theorem yq_yr359_e1 : ((y_cd yr359).drop 40).all (y_okE ztb znw zcls (ytb yw00) yr359) = true := z_seg (a := 40) (k := 40) yq_yr359_1 yq_yr359_e2
theorem yq_yr359_e0 : ((y_cd yr359).drop 0).all (y_okE ztb znw zcls (ytb yw00) yr359) = true := z_seg (a := 0) (k := 40) yq_yr359_0 yq_yr359_e1
theorem yq_yr359 : (y_cd yr359).all (y_okE ztb znw zcls (ytb yw00) yr359) = true := z_seg0 yq_yr359_e0
theorem yo_yr359 : y_okM ztb zcls yr359 := y_okM_i (z_codeIn (ch := 10) (i := 159) (l := tables_1_10) rfl rfl) (z_w_ok (n := 1012) (by decide +kernel)) (by decide +kernel) ⟨by decide +kernel, by decide +kernel⟩ (z_w_ok (n := 10158) (by decide +kernel)) (z_w_ok (n := 102) (by decide +kernel)) rfl rfl (by decide)
theorem yq_yr360_0 : (((y_cd yr360).drop 0).take 40).all (y_okE ztb znw zcls (ytb yw00) yr360) = true := by decide +kernel
theorem yq_yr360_1 : (((y_cd yr360).drop 40).take 40).all (y_okE ztb znw zcls (ytb yw00) yr360) = true := by decide +kernel
theorem yq_yr360_2 : (((y_cd yr360).drop 80).take 40).all (y_okE ztb znw zcls (ytb yw00) yr360) = true := by decide +kernel
theorem yq_yr360_3 : (((y_cd yr360).drop 120).take 40).all (y_okE ztb znw zcls (ytb yw00) yr360) = true := by decide +kernel
theorem yq_yr360_e4 : ((y_cd yr360).drop 160).all (y_okE ztb znw zcls (ytb yw00) yr360) = true := z_seg_end (by decide +kernel)
theorem yq_yr360_e3 : ((y_cd yr360).drop 120).all (y_okE ztb znw zcls (ytb yw00) yr360) = true := z_seg (a := 120) (k := 40) yq_yr360_3 yq_yr360_e4
theorem yq_yr360_e2 : ((y_cd yr360).drop 80).all (y_okE ztb znw zcls (ytb yw00) yr360) = true := z_seg (a := 80) (k := 40) yq_yr360_2 yq_yr360_e3
theorem yq_yr360_e1 : ((y_cd yr360).drop 40).all (y_okE ztb znw zcls (ytb yw00) yr360) = true := z_seg (a := 40) (k := 40) yq_yr360_1 yq_yr360_e2
theorem yq_yr360_e0 : ((y_cd yr360).drop 0).all (y_okE ztb znw zcls (ytb yw00) yr360) = true := z_seg (a := 0) (k := 40) yq_yr360_0 yq_yr360_e1
theorem yq_yr360 : (y_cd yr360).all (y_okE ztb znw zcls (ytb yw00) yr360) = true := z_seg0 yq_yr360_e0
theorem yo_yr360 : y_okM ztb zcls yr360 := y_okM_i (z_codeIn (ch := 10) (i := 159) (l := tables_1_10) rfl rfl) (z_w_ok (n := 1012) (by decide +kernel)) (by decide +kernel) ⟨by decide +kernel, by decide +kernel⟩ (z_w_ok (n := 10158) (by decide +kernel)) (z_w_ok (n := 102) (by decide +kernel)) rfl rfl (by decide)
