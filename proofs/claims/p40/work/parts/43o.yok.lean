theorem yq_yr337_0 : (((y_cd yr337).drop 0).take 40).all (y_okE ztb znw zcls (ytb yw00) yr337) = true := by decide +kernel
theorem yq_yr337_1 : (((y_cd yr337).drop 40).take 40).all (y_okE ztb znw zcls (ytb yw00) yr337) = true := by decide +kernel
theorem yq_yr337_2 : (((y_cd yr337).drop 80).take 40).all (y_okE ztb znw zcls (ytb yw00) yr337) = true := by decide +kernel
theorem yq_yr337_3 : (((y_cd yr337).drop 120).take 40).all (y_okE ztb znw zcls (ytb yw00) yr337) = true := by decide +kernel
theorem yq_yr337_e4 : ((y_cd yr337).drop 160).all (y_okE ztb znw zcls (ytb yw00) yr337) = true := z_seg_end (by decide +kernel)
theorem yq_yr337_e3 : ((y_cd yr337).drop 120).all (y_okE ztb znw zcls (ytb yw00) yr337) = true := z_seg (a := 120) (k := 40) yq_yr337_3 yq_yr337_e4
theorem yq_yr337_e2 : ((y_cd yr337).drop 80).all (y_okE ztb znw zcls (ytb yw00) yr337) = true := z_seg (a := 80) (k := 40) yq_yr337_2 yq_yr337_e3
theorem yq_yr337_e1 : ((y_cd yr337).drop 40).all (y_okE ztb znw zcls (ytb yw00) yr337) = true := z_seg (a := 40) (k := 40) yq_yr337_1 yq_yr337_e2
theorem yq_yr337_e0 : ((y_cd yr337).drop 0).all (y_okE ztb znw zcls (ytb yw00) yr337) = true := z_seg (a := 0) (k := 40) yq_yr337_0 yq_yr337_e1
theorem yq_yr337 : (y_cd yr337).all (y_okE ztb znw zcls (ytb yw00) yr337) = true := z_seg0 yq_yr337_e0
theorem yo_yr337 : y_okM ztb zcls yr337 := y_okM_i (z_codeIn (ch := 10) (i := 159) (l := tables_1_10) rfl rfl) (z_w_ok (n := 1012) (by decide +kernel)) (by decide +kernel) ⟨by decide +kernel, by decide +kernel⟩ (z_w_ok (n := 10158) (by decide +kernel)) (z_w_ok (n := 102) (by decide +kernel)) rfl rfl (by decide)
theorem yq_yr338_0 : (((y_cd yr338).drop 0).take 40).all (y_okE ztb znw zcls (ytb yw00) yr338) = true := by decide +kernel
theorem yq_yr338_1 : (((y_cd yr338).drop 40).take 40).all (y_okE ztb znw zcls (ytb yw00) yr338) = true := by decide +kernel
theorem yq_yr338_2 : (((y_cd yr338).drop 80).take 40).all (y_okE ztb znw zcls (ytb yw00) yr338) = true := by decide +kernel
theorem yq_yr338_3 : (((y_cd yr338).drop 120).take 40).all (y_okE ztb znw zcls (ytb yw00) yr338) = true := by decide +kernel
theorem yq_yr338_e4 : ((y_cd yr338).drop 160).all (y_okE ztb znw zcls (ytb yw00) yr338) = true := z_seg_end (by decide +kernel)
theorem yq_yr338_e3 : ((y_cd yr338).drop 120).all (y_okE ztb znw zcls (ytb yw00) yr338) = true := z_seg (a := 120) (k := 40) yq_yr338_3 yq_yr338_e4
theorem yq_yr338_e2 : ((y_cd yr338).drop 80).all (y_okE ztb znw zcls (ytb yw00) yr338) = true := z_seg (a := 80) (k := 40) yq_yr338_2 yq_yr338_e3
theorem yq_yr338_e1 : ((y_cd yr338).drop 40).all (y_okE ztb znw zcls (ytb yw00) yr338) = true := z_seg (a := 40) (k := 40) yq_yr338_1 yq_yr338_e2
theorem yq_yr338_e0 : ((y_cd yr338).drop 0).all (y_okE ztb znw zcls (ytb yw00) yr338) = true := z_seg (a := 0) (k := 40) yq_yr338_0 yq_yr338_e1
theorem yq_yr338 : (y_cd yr338).all (y_okE ztb znw zcls (ytb yw00) yr338) = true := z_seg0 yq_yr338_e0
theorem yo_yr338 : y_okM ztb zcls yr338 := y_okM_i (z_codeIn (ch := 10) (i := 159) (l := tables_1_10) rfl rfl) (z_w_ok (n := 1012) (by decide +kernel)) (by decide +kernel) ⟨by decide +kernel, by decide +kernel⟩ (z_w_ok (n := 10158) (by decide +kernel)) (z_w_ok (n := 102) (by decide +kernel)) rfl rfl (by decide)
theorem yq_yr339_0 : (((y_cd yr339).drop 0).take 40).all (y_okE ztb znw zcls (ytb yw00) yr339) = true := by decide +kernel
theorem yq_yr339_1 : (((y_cd yr339).drop 40).take 40).all (y_okE ztb znw zcls (ytb yw00) yr339) = true := by decide +kernel
theorem yq_yr339_2 : (((y_cd yr339).drop 80).take 40).all (y_okE ztb znw zcls (ytb yw00) yr339) = true := by decide +kernel
theorem yq_yr339_3 : (((y_cd yr339).drop 120).take 40).all (y_okE ztb znw zcls (ytb yw00) yr339) = true := by decide +kernel
theorem yq_yr339_e4 : ((y_cd yr339).drop 160).all (y_okE ztb znw zcls (ytb yw00) yr339) = true := z_seg_end (by decide +kernel)
theorem yq_yr339_e3 : ((y_cd yr339).drop 120).all (y_okE ztb znw zcls (ytb yw00) yr339) = true := z_seg (a := 120) (k := 40) yq_yr339_3 yq_yr339_e4
theorem yq_yr339_e2 : ((y_cd yr339).drop 80).all (y_okE ztb znw zcls (ytb yw00) yr339) = true := z_seg (a := 80) (k := 40) yq_yr339_2 yq_yr339_e3
theorem yq_yr339_e1 : ((y_cd yr339).drop 40).all (y_okE ztb znw zcls (ytb yw00) yr339) = true := z_seg (a := 40) (k := 40) yq_yr339_1 yq_yr339_e2
theorem yq_yr339_e0 : ((y_cd yr339).drop 0).all (y_okE ztb znw zcls (ytb yw00) yr339) = true := z_seg (a := 0) (k := 40) yq_yr339_0 yq_yr339_e1
theorem yq_yr339 : (y_cd yr339).all (y_okE ztb znw zcls (ytb yw00) yr339) = true := z_seg0 yq_yr339_e0
theorem yo_yr339 : y_okM ztb zcls yr339 := y_okM_i (z_codeIn (ch := 10) (i := 159) (l := tables_1_10) rfl rfl) (z_w_ok (n := 1012) (by decide +kernel)) (by decide +kernel) ⟨by decide +kernel, by decide +kernel⟩ (z_w_ok (n := 10158) (by decide +kernel)) (z_w_ok (n := 102) (by decide +kernel)) rfl rfl (by decide)
theorem yq_yr340_0 : (((y_cd yr340).drop 0).take 40).all (y_okE ztb znw zcls (ytb yw00) yr340) = true := by decide +kernel
theorem yq_yr340_1 : (((y_cd yr340).drop 40).take 40).all (y_okE ztb znw zcls (ytb yw00) yr340) = true := by decide +kernel
theorem yq_yr340_2 : (((y_cd yr340).drop 80).take 40).all (y_okE ztb znw zcls (ytb yw00) yr340) = true := by decide +kernel
theorem yq_yr340_3 : (((y_cd yr340).drop 120).take 40).all (y_okE ztb znw zcls (ytb yw00) yr340) = true := by decide +kernel
theorem yq_yr340_e4 : ((y_cd yr340).drop 160).all (y_okE ztb znw zcls (ytb yw00) yr340) = true := z_seg_end (by decide +kernel)
theorem yq_yr340_e3 : ((y_cd yr340).drop 120).all (y_okE ztb znw zcls (ytb yw00) yr340) = true := z_seg (a := 120) (k := 40) yq_yr340_3 yq_yr340_e4
theorem yq_yr340_e2 : ((y_cd yr340).drop 80).all (y_okE ztb znw zcls (ytb yw00) yr340) = true := z_seg (a := 80) (k := 40) yq_yr340_2 yq_yr340_e3
theorem yq_yr340_e1 : ((y_cd yr340).drop 40).all (y_okE ztb znw zcls (ytb yw00) yr340) = true := z_seg (a := 40) (k := 40) yq_yr340_1 yq_yr340_e2
theorem yq_yr340_e0 : ((y_cd yr340).drop 0).all (y_okE ztb znw zcls (ytb yw00) yr340) = true := z_seg (a := 0) (k := 40) yq_yr340_0 yq_yr340_e1
theorem yq_yr340 : (y_cd yr340).all (y_okE ztb znw zcls (ytb yw00) yr340) = true := z_seg0 yq_yr340_e0
theorem yo_yr340 : y_okM ztb zcls yr340 := y_okM_i (z_codeIn (ch := 10) (i := 159) (l := tables_1_10) rfl rfl) (z_w_ok (n := 1012) (by decide +kernel)) (by decide +kernel) ⟨by decide +kernel, by decide +kernel⟩ (z_w_ok (n := 10158) (by decide +kernel)) (z_w_ok (n := 102) (by decide +kernel)) rfl rfl (by decide)
theorem yq_yr341_0 : (((y_cd yr341).drop 0).take 40).all (y_okE ztb znw zcls (ytb yw00) yr341) = true := by decide +kernel
theorem yq_yr341_1 : (((y_cd yr341).drop 40).take 40).all (y_okE ztb znw zcls (ytb yw00) yr341) = true := by decide +kernel
theorem yq_yr341_2 : (((y_cd yr341).drop 80).take 40).all (y_okE ztb znw zcls (ytb yw00) yr341) = true := by decide +kernel
theorem yq_yr341_3 : (((y_cd yr341).drop 120).take 40).all (y_okE ztb znw zcls (ytb yw00) yr341) = true := by decide +kernel
theorem yq_yr341_e4 : ((y_cd yr341).drop 160).all (y_okE ztb znw zcls (ytb yw00) yr341) = true := z_seg_end (by decide +kernel)
theorem yq_yr341_e3 : ((y_cd yr341).drop 120).all (y_okE ztb znw zcls (ytb yw00) yr341) = true := z_seg (a := 120) (k := 40) yq_yr341_3 yq_yr341_e4
theorem yq_yr341_e2 : ((y_cd yr341).drop 80).all (y_okE ztb znw zcls (ytb yw00) yr341) = true := z_seg (a := 80) (k := 40) yq_yr341_2 yq_yr341_e3
theorem yq_yr341_e1 : ((y_cd yr341).drop 40).all (y_okE ztb znw zcls (ytb yw00) yr341) = true := z_seg (a := 40) (k := 40) yq_yr341_1 yq_yr341_e2
theorem yq_yr341_e0 : ((y_cd yr341).drop 0).all (y_okE ztb znw zcls (ytb yw00) yr341) = true := z_seg (a := 0) (k := 40) yq_yr341_0 yq_yr341_e1
theorem yq_yr341 : (y_cd yr341).all (y_okE ztb znw zcls (ytb yw00) yr341) = true := z_seg0 yq_yr341_e0
theorem yo_yr341 : y_okM ztb zcls yr341 := y_okM_i (z_codeIn (ch := 10) (i := 159) (l := tables_1_10) rfl rfl) (z_w_ok (n := 1012) (by decide +kernel)) (by decide +kernel) ⟨by decide +kernel, by decide +kernel⟩ (z_w_ok (n := 10158) (by decide +kernel)) (z_w_ok (n := 102) (by decide +kernel)) rfl rfl (by decide)
theorem yq_yr342_0 : (((y_cd yr342).drop 0).take 40).all (y_okE ztb znw zcls (ytb yw00) yr342) = true := by decide +kernel
theorem yq_yr342_1 : (((y_cd yr342).drop 40).take 40).all (y_okE ztb znw zcls (ytb yw00) yr342) = true := by decide +kernel
theorem yq_yr342_2 : (((y_cd yr342).drop 80).take 40).all (y_okE ztb znw zcls (ytb yw00) yr342) = true := by decide +kernel
theorem yq_yr342_3 : (((y_cd yr342).drop 120).take 40).all (y_okE ztb znw zcls (ytb yw00) yr342) = true := by decide +kernel
theorem yq_yr342_e4 : ((y_cd yr342).drop 160).all (y_okE ztb znw zcls (ytb yw00) yr342) = true := z_seg_end (by decide +kernel)
theorem yq_yr342_e3 : ((y_cd yr342).drop 120).all (y_okE ztb znw zcls (ytb yw00) yr342) = true := z_seg (a := 120) (k := 40) yq_yr342_3 yq_yr342_e4
theorem yq_yr342_e2 : ((y_cd yr342).drop 80).all (y_okE ztb znw zcls (ytb yw00) yr342) = true := z_seg (a := 80) (k := 40) yq_yr342_2 yq_yr342_e3
theorem yq_yr342_e1 : ((y_cd yr342).drop 40).all (y_okE ztb znw zcls (ytb yw00) yr342) = true := z_seg (a := 40) (k := 40) yq_yr342_1 yq_yr342_e2
theorem yq_yr342_e0 : ((y_cd yr342).drop 0).all (y_okE ztb znw zcls (ytb yw00) yr342) = true := z_seg (a := 0) (k := 40) yq_yr342_0 yq_yr342_e1
theorem yq_yr342 : (y_cd yr342).all (y_okE ztb znw zcls (ytb yw00) yr342) = true := z_seg0 yq_yr342_e0
theorem yo_yr342 : y_okM ztb zcls yr342 := y_okM_i (z_codeIn (ch := 10) (i := 159) (l := tables_1_10) rfl rfl) (z_w_ok (n := 1012) (by decide +kernel)) (by decide +kernel) ⟨by decide +kernel, by decide +kernel⟩ (z_w_ok (n := 10158) (by decide +kernel)) (z_w_ok (n := 102) (by decide +kernel)) rfl rfl (by decide)
theorem yq_yr343_0 : (((y_cd yr343).drop 0).take 40).all (y_okE ztb znw zcls (ytb yw00) yr343) = true := by decide +kernel
theorem yq_yr343_1 : (((y_cd yr343).drop 40).take 40).all (y_okE ztb znw zcls (ytb yw00) yr343) = true := by decide +kernel
theorem yq_yr343_2 : (((y_cd yr343).drop 80).take 40).all (y_okE ztb znw zcls (ytb yw00) yr343) = true := by decide +kernel
theorem yq_yr343_3 : (((y_cd yr343).drop 120).take 40).all (y_okE ztb znw zcls (ytb yw00) yr343) = true := by decide +kernel
theorem yq_yr343_e4 : ((y_cd yr343).drop 160).all (y_okE ztb znw zcls (ytb yw00) yr343) = true := z_seg_end (by decide +kernel)
theorem yq_yr343_e3 : ((y_cd yr343).drop 120).all (y_okE ztb znw zcls (ytb yw00) yr343) = true := z_seg (a := 120) (k := 40) yq_yr343_3 yq_yr343_e4
theorem yq_yr343_e2 : ((y_cd yr343).drop 80).all (y_okE ztb znw zcls (ytb yw00) yr343) = true := z_seg (a := 80) (k := 40) yq_yr343_2 yq_yr343_e3
theorem yq_yr343_e1 : ((y_cd yr343).drop 40).all (y_okE ztb znw zcls (ytb yw00) yr343) = true := z_seg (a := 40) (k := 40) yq_yr343_1 yq_yr343_e2
theorem yq_yr343_e0 : ((y_cd yr343).drop 0).all (y_okE ztb znw zcls (ytb yw00) yr343) = true := z_seg (a := 0) (k := 40) yq_yr343_0 yq_yr343_e1
theorem yq_yr343 : (y_cd yr343).all (y_okE ztb znw zcls (ytb yw00) yr343) = true := z_seg0 yq_yr343_e0
theorem yo_yr343 : y_okM ztb zcls yr343 := y_okM_i (z_codeIn (ch := 10) (i := 159) (l := tables_1_10) rfl rfl) (z_w_ok (n := 1012) (by decide +kernel)) (by decide +kernel) ⟨by decide +kernel, by decide +kernel⟩ (z_w_ok (n := 10158) (by decide +kernel)) (z_w_ok (n := 102) (by decide +kernel)) rfl rfl (by decide)
theorem yq_yr344_0 : (((y_cd yr344).drop 0).take 40).all (y_okE ztb znw zcls (ytb yw00) yr344) = true := by decide +kernel
theorem yq_yr344_1 : (((y_cd yr344).drop 40).take 40).all (y_okE ztb znw zcls (ytb yw00) yr344) = true := by decide +kernel
theorem yq_yr344_2 : (((y_cd yr344).drop 80).take 40).all (y_okE ztb znw zcls (ytb yw00) yr344) = true := by decide +kernel
theorem yq_yr344_3 : (((y_cd yr344).drop 120).take 40).all (y_okE ztb znw zcls (ytb yw00) yr344) = true := by decide +kernel
theorem yq_yr344_e4 : ((y_cd yr344).drop 160).all (y_okE ztb znw zcls (ytb yw00) yr344) = true := z_seg_end (by decide +kernel)
theorem yq_yr344_e3 : ((y_cd yr344).drop 120).all (y_okE ztb znw zcls (ytb yw00) yr344) = true := z_seg (a := 120) (k := 40) yq_yr344_3 yq_yr344_e4
theorem yq_yr344_e2 : ((y_cd yr344).drop 80).all (y_okE ztb znw zcls (ytb yw00) yr344) = true := z_seg (a := 80) (k := 40) yq_yr344_2 yq_yr344_e3
theorem yq_yr344_e1 : ((y_cd yr344).drop 40).all (y_okE ztb znw zcls (ytb yw00) yr344) = true := z_seg (a := 40) (k := 40) yq_yr344_1 yq_yr344_e2
theorem yq_yr344_e0 : ((y_cd yr344).drop 0).all (y_okE ztb znw zcls (ytb yw00) yr344) = true := z_seg (a := 0) (k := 40) yq_yr344_0 yq_yr344_e1
theorem yq_yr344 : (y_cd yr344).all (y_okE ztb znw zcls (ytb yw00) yr344) = true := z_seg0 yq_yr344_e0
theorem yo_yr344 : y_okM ztb zcls yr344 := y_okM_i (z_codeIn (ch := 10) (i := 159) (l := tables_1_10) rfl rfl) (z_w_ok (n := 1012) (by decide +kernel)) (by decide +kernel) ⟨by decide +kernel, by decide +kernel⟩ (z_w_ok (n := 10158) (by decide +kernel)) (z_w_ok (n := 102) (by decide +kernel)) rfl rfl (by decide)
theorem yq_yr345_0 : (((y_cd yr345).drop 0).take 40).all (y_okE ztb znw zcls (ytb yw00) yr345) = true := by decide +kernel
theorem yq_yr345_1 : (((y_cd yr345).drop 40).take 40).all (y_okE ztb znw zcls (ytb yw00) yr345) = true := by decide +kernel
theorem yq_yr345_2 : (((y_cd yr345).drop 80).take 40).all (y_okE ztb znw zcls (ytb yw00) yr345) = true := by decide +kernel
theorem yq_yr345_3 : (((y_cd yr345).drop 120).take 40).all (y_okE ztb znw zcls (ytb yw00) yr345) = true := by decide +kernel
theorem yq_yr345_e4 : ((y_cd yr345).drop 160).all (y_okE ztb znw zcls (ytb yw00) yr345) = true := z_seg_end (by decide +kernel)
theorem yq_yr345_e3 : ((y_cd yr345).drop 120).all (y_okE ztb znw zcls (ytb yw00) yr345) = true := z_seg (a := 120) (k := 40) yq_yr345_3 yq_yr345_e4
theorem yq_yr345_e2 : ((y_cd yr345).drop 80).all (y_okE ztb znw zcls (ytb yw00) yr345) = true := z_seg (a := 80) (k := 40) yq_yr345_2 yq_yr345_e3
theorem yq_yr345_e1 : ((y_cd yr345).drop 40).all (y_okE ztb znw zcls (ytb yw00) yr345) = true := z_seg (a := 40) (k := 40) yq_yr345_1 yq_yr345_e2
theorem yq_yr345_e0 : ((y_cd yr345).drop 0).all (y_okE ztb znw zcls (ytb yw00) yr345) = true := z_seg (a := 0) (k := 40) yq_yr345_0 yq_yr345_e1
theorem yq_yr345 : (y_cd yr345).all (y_okE ztb znw zcls (ytb yw00) yr345) = true := z_seg0 yq_yr345_e0
theorem yo_yr345 : y_okM ztb zcls yr345 := y_okM_i (z_codeIn (ch := 10) (i := 159) (l := tables_1_10) rfl rfl) (z_w_ok (n := 1012) (by decide +kernel)) (by decide +kernel) ⟨by decide +kernel, by decide +kernel⟩ (z_w_ok (n := 10158) (by decide +kernel)) (z_w_ok (n := 102) (by decide +kernel)) rfl rfl (by decide)
theorem yq_yr346_0 : (((y_cd yr346).drop 0).take 40).all (y_okE ztb znw zcls (ytb yw00) yr346) = true := by decide +kernel
theorem yq_yr346_1 : (((y_cd yr346).drop 40).take 40).all (y_okE ztb znw zcls (ytb yw00) yr346) = true := by decide +kernel
theorem yq_yr346_2 : (((y_cd yr346).drop 80).take 40).all (y_okE ztb znw zcls (ytb yw00) yr346) = true := by decide +kernel
theorem yq_yr346_3 : (((y_cd yr346).drop 120).take 40).all (y_okE ztb znw zcls (ytb yw00) yr346) = true := by decide +kernel
theorem yq_yr346_e4 : ((y_cd yr346).drop 160).all (y_okE ztb znw zcls (ytb yw00) yr346) = true := z_seg_end (by decide +kernel)
theorem yq_yr346_e3 : ((y_cd yr346).drop 120).all (y_okE ztb znw zcls (ytb yw00) yr346) = true := z_seg (a := 120) (k := 40) yq_yr346_3 yq_yr346_e4
theorem yq_yr346_e2 : ((y_cd yr346).drop 80).all (y_okE ztb znw zcls (ytb yw00) yr346) = true := z_seg (a := 80) (k := 40) yq_yr346_2 yq_yr346_e3
theorem yq_yr346_e1 : ((y_cd yr346).drop 40).all (y_okE ztb znw zcls (ytb yw00) yr346) = true := z_seg (a := 40) (k := 40) yq_yr346_1 yq_yr346_e2
theorem yq_yr346_e0 : ((y_cd yr346).drop 0).all (y_okE ztb znw zcls (ytb yw00) yr346) = true := z_seg (a := 0) (k := 40) yq_yr346_0 yq_yr346_e1
theorem yq_yr346 : (y_cd yr346).all (y_okE ztb znw zcls (ytb yw00) yr346) = true := z_seg0 yq_yr346_e0
theorem yo_yr346 : y_okM ztb zcls yr346 := y_okM_i (z_codeIn (ch := 10) (i := 159) (l := tables_1_10) rfl rfl) (z_w_ok (n := 1012) (by decide +kernel)) (by decide +kernel) ⟨by decide +kernel, by decide +kernel⟩ (z_w_ok (n := 10158) (by decide +kernel)) (z_w_ok (n := 102) (by decide +kernel)) rfl rfl (by decide)
theorem yq_yr347_0 : (((y_cd yr347).drop 0).take 40).all (y_okE ztb znw zcls (ytb yw00) yr347) = true := by decide +kernel
theorem yq_yr347_1 : (((y_cd yr347).drop 40).take 40).all (y_okE ztb znw zcls (ytb yw00) yr347) = true := by decide +kernel
theorem yq_yr347_2 : (((y_cd yr347).drop 80).take 40).all (y_okE ztb znw zcls (ytb yw00) yr347) = true := by decide +kernel
theorem yq_yr347_3 : (((y_cd yr347).drop 120).take 40).all (y_okE ztb znw zcls (ytb yw00) yr347) = true := by decide +kernel
theorem yq_yr347_e4 : ((y_cd yr347).drop 160).all (y_okE ztb znw zcls (ytb yw00) yr347) = true := z_seg_end (by decide +kernel)
theorem yq_yr347_e3 : ((y_cd yr347).drop 120).all (y_okE ztb znw zcls (ytb yw00) yr347) = true := z_seg (a := 120) (k := 40) yq_yr347_3 yq_yr347_e4
theorem yq_yr347_e2 : ((y_cd yr347).drop 80).all (y_okE ztb znw zcls (ytb yw00) yr347) = true := z_seg (a := 80) (k := 40) yq_yr347_2 yq_yr347_e3
theorem yq_yr347_e1 : ((y_cd yr347).drop 40).all (y_okE ztb znw zcls (ytb yw00) yr347) = true := z_seg (a := 40) (k := 40) yq_yr347_1 yq_yr347_e2
theorem yq_yr347_e0 : ((y_cd yr347).drop 0).all (y_okE ztb znw zcls (ytb yw00) yr347) = true := z_seg (a := 0) (k := 40) yq_yr347_0 yq_yr347_e1
theorem yq_yr347 : (y_cd yr347).all (y_okE ztb znw zcls (ytb yw00) yr347) = true := z_seg0 yq_yr347_e0
theorem yo_yr347 : y_okM ztb zcls yr347 := y_okM_i (z_codeIn (ch := 10) (i := 159) (l := tables_1_10) rfl rfl) (z_w_ok (n := 1012) (by decide +kernel)) (by decide +kernel) ⟨by decide +kernel, by decide +kernel⟩ (z_w_ok (n := 10158) (by decide +kernel)) (z_w_ok (n := 102) (by decide +kernel)) rfl rfl (by decide)
theorem yq_yr348_0 : (((y_cd yr348).drop 0).take 40).all (y_okE ztb znw zcls (ytb yw00) yr348) = true := by decide +kernel
theorem yq_yr348_1 : (((y_cd yr348).drop 40).take 40).all (y_okE ztb znw zcls (ytb yw00) yr348) = true := by decide +kernel
theorem yq_yr348_2 : (((y_cd yr348).drop 80).take 40).all (y_okE ztb znw zcls (ytb yw00) yr348) = true := by decide +kernel
theorem yq_yr348_3 : (((y_cd yr348).drop 120).take 40).all (y_okE ztb znw zcls (ytb yw00) yr348) = true := by decide +kernel
theorem yq_yr348_e4 : ((y_cd yr348).drop 160).all (y_okE ztb znw zcls (ytb yw00) yr348) = true := z_seg_end (by decide +kernel)
theorem yq_yr348_e3 : ((y_cd yr348).drop 120).all (y_okE ztb znw zcls (ytb yw00) yr348) = true := z_seg (a := 120) (k := 40) yq_yr348_3 yq_yr348_e4
theorem yq_yr348_e2 : ((y_cd yr348).drop 80).all (y_okE ztb znw zcls (ytb yw00) yr348) = true := z_seg (a := 80) (k := 40) yq_yr348_2 yq_yr348_e3
theorem yq_yr348_e1 : ((y_cd yr348).drop 40).all (y_okE ztb znw zcls (ytb yw00) yr348) = true := z_seg (a := 40) (k := 40) yq_yr348_1 yq_yr348_e2
theorem yq_yr348_e0 : ((y_cd yr348).drop 0).all (y_okE ztb znw zcls (ytb yw00) yr348) = true := z_seg (a := 0) (k := 40) yq_yr348_0 yq_yr348_e1
theorem yq_yr348 : (y_cd yr348).all (y_okE ztb znw zcls (ytb yw00) yr348) = true := z_seg0 yq_yr348_e0
theorem yo_yr348 : y_okM ztb zcls yr348 := y_okM_i (z_codeIn (ch := 10) (i := 159) (l := tables_1_10) rfl rfl) (z_w_ok (n := 1012) (by decide +kernel)) (by decide +kernel) ⟨by decide +kernel, by decide +kernel⟩ (z_w_ok (n := 10158) (by decide +kernel)) (z_w_ok (n := 102) (by decide +kernel)) rfl rfl (by decide)
