theorem yq_yr325_0 : (((y_cd yr325).drop 0).take 40).all (y_okE ztb znw zcls (ytb yw00) yr325) = true := by decide +kernel
theorem yq_yr325_1 : (((y_cd yr325).drop 40).take 40).all (y_okE ztb znw zcls (ytb yw00) yr325) = true := by decide +kernel
theorem yq_yr325_2 : (((y_cd yr325).drop 80).take 40).all (y_okE ztb znw zcls (ytb yw00) yr325) = true := by decide +kernel
theorem yq_yr325_3 : (((y_cd yr325).drop 120).take 40).all (y_okE ztb znw zcls (ytb yw00) yr325) = true := by decide +kernel
theorem yq_yr325_e4 : ((y_cd yr325).drop 160).all (y_okE ztb znw zcls (ytb yw00) yr325) = true := z_seg_end (by decide +kernel)
theorem yq_yr325_e3 : ((y_cd yr325).drop 120).all (y_okE ztb znw zcls (ytb yw00) yr325) = true := z_seg (a := 120) (k := 40) yq_yr325_3 yq_yr325_e4
theorem yq_yr325_e2 : ((y_cd yr325).drop 80).all (y_okE ztb znw zcls (ytb yw00) yr325) = true := z_seg (a := 80) (k := 40) yq_yr325_2 yq_yr325_e3
theorem yq_yr325_e1 : ((y_cd yr325).drop 40).all (y_okE ztb znw zcls (ytb yw00) yr325) = true := z_seg (a := 40) (k := 40) yq_yr325_1 yq_yr325_e2
theorem yq_yr325_e0 : ((y_cd yr325).drop 0).all (y_okE ztb znw zcls (ytb yw00) yr325) = true := z_seg (a := 0) (k := 40) yq_yr325_0 yq_yr325_e1
theorem yq_yr325 : (y_cd yr325).all (y_okE ztb znw zcls (ytb yw00) yr325) = true := z_seg0 yq_yr325_e0
theorem yo_yr325 : y_okM ztb zcls yr325 := y_okM_i (z_codeIn (ch := 10) (i := 159) (l := tables_1_10) rfl rfl) (z_w_ok (n := 1012) (by decide +kernel)) (by decide +kernel) ⟨by decide +kernel, by decide +kernel⟩ (z_w_ok (n := 10158) (by decide +kernel)) (z_w_ok (n := 102) (by decide +kernel)) rfl rfl (by decide)
theorem yq_yr326_0 : (((y_cd yr326).drop 0).take 40).all (y_okE ztb znw zcls (ytb yw00) yr326) = true := by decide +kernel
theorem yq_yr326_1 : (((y_cd yr326).drop 40).take 40).all (y_okE ztb znw zcls (ytb yw00) yr326) = true := by decide +kernel
theorem yq_yr326_2 : (((y_cd yr326).drop 80).take 40).all (y_okE ztb znw zcls (ytb yw00) yr326) = true := by decide +kernel
theorem yq_yr326_3 : (((y_cd yr326).drop 120).take 40).all (y_okE ztb znw zcls (ytb yw00) yr326) = true := by decide +kernel
theorem yq_yr326_e4 : ((y_cd yr326).drop 160).all (y_okE ztb znw zcls (ytb yw00) yr326) = true := z_seg_end (by decide +kernel)
theorem yq_yr326_e3 : ((y_cd yr326).drop 120).all (y_okE ztb znw zcls (ytb yw00) yr326) = true := z_seg (a := 120) (k := 40) yq_yr326_3 yq_yr326_e4
theorem yq_yr326_e2 : ((y_cd yr326).drop 80).all (y_okE ztb znw zcls (ytb yw00) yr326) = true := z_seg (a := 80) (k := 40) yq_yr326_2 yq_yr326_e3
theorem yq_yr326_e1 : ((y_cd yr326).drop 40).all (y_okE ztb znw zcls (ytb yw00) yr326) = true := z_seg (a := 40) (k := 40) yq_yr326_1 yq_yr326_e2
theorem yq_yr326_e0 : ((y_cd yr326).drop 0).all (y_okE ztb znw zcls (ytb yw00) yr326) = true := z_seg (a := 0) (k := 40) yq_yr326_0 yq_yr326_e1
theorem yq_yr326 : (y_cd yr326).all (y_okE ztb znw zcls (ytb yw00) yr326) = true := z_seg0 yq_yr326_e0
theorem yo_yr326 : y_okM ztb zcls yr326 := y_okM_i (z_codeIn (ch := 10) (i := 159) (l := tables_1_10) rfl rfl) (z_w_ok (n := 1012) (by decide +kernel)) (by decide +kernel) ⟨by decide +kernel, by decide +kernel⟩ (z_w_ok (n := 10158) (by decide +kernel)) (z_w_ok (n := 102) (by decide +kernel)) rfl rfl (by decide)
theorem yq_yr327_0 : (((y_cd yr327).drop 0).take 40).all (y_okE ztb znw zcls (ytb yw00) yr327) = true := by decide +kernel
theorem yq_yr327_1 : (((y_cd yr327).drop 40).take 40).all (y_okE ztb znw zcls (ytb yw00) yr327) = true := by decide +kernel
theorem yq_yr327_2 : (((y_cd yr327).drop 80).take 40).all (y_okE ztb znw zcls (ytb yw00) yr327) = true := by decide +kernel
theorem yq_yr327_3 : (((y_cd yr327).drop 120).take 40).all (y_okE ztb znw zcls (ytb yw00) yr327) = true := by decide +kernel
theorem yq_yr327_e4 : ((y_cd yr327).drop 160).all (y_okE ztb znw zcls (ytb yw00) yr327) = true := z_seg_end (by decide +kernel)
theorem yq_yr327_e3 : ((y_cd yr327).drop 120).all (y_okE ztb znw zcls (ytb yw00) yr327) = true := z_seg (a := 120) (k := 40) yq_yr327_3 yq_yr327_e4
theorem yq_yr327_e2 : ((y_cd yr327).drop 80).all (y_okE ztb znw zcls (ytb yw00) yr327) = true := z_seg (a := 80) (k := 40) yq_yr327_2 yq_yr327_e3
theorem yq_yr327_e1 : ((y_cd yr327).drop 40).all (y_okE ztb znw zcls (ytb yw00) yr327) = true := z_seg (a := 40) (k := 40) yq_yr327_1 yq_yr327_e2
theorem yq_yr327_e0 : ((y_cd yr327).drop 0).all (y_okE ztb znw zcls (ytb yw00) yr327) = true := z_seg (a := 0) (k := 40) yq_yr327_0 yq_yr327_e1
theorem yq_yr327 : (y_cd yr327).all (y_okE ztb znw zcls (ytb yw00) yr327) = true := z_seg0 yq_yr327_e0
theorem yo_yr327 : y_okM ztb zcls yr327 := y_okM_i (z_codeIn (ch := 10) (i := 159) (l := tables_1_10) rfl rfl) (z_w_ok (n := 1012) (by decide +kernel)) (by decide +kernel) ⟨by decide +kernel, by decide +kernel⟩ (z_w_ok (n := 10158) (by decide +kernel)) (z_w_ok (n := 102) (by decide +kernel)) rfl rfl (by decide)
theorem yq_yr328_0 : (((y_cd yr328).drop 0).take 40).all (y_okE ztb znw zcls (ytb yw00) yr328) = true := by decide +kernel
theorem yq_yr328_1 : (((y_cd yr328).drop 40).take 40).all (y_okE ztb znw zcls (ytb yw00) yr328) = true := by decide +kernel
theorem yq_yr328_2 : (((y_cd yr328).drop 80).take 40).all (y_okE ztb znw zcls (ytb yw00) yr328) = true := by decide +kernel
theorem yq_yr328_3 : (((y_cd yr328).drop 120).take 40).all (y_okE ztb znw zcls (ytb yw00) yr328) = true := by decide +kernel
theorem yq_yr328_e4 : ((y_cd yr328).drop 160).all (y_okE ztb znw zcls (ytb yw00) yr328) = true := z_seg_end (by decide +kernel)
theorem yq_yr328_e3 : ((y_cd yr328).drop 120).all (y_okE ztb znw zcls (ytb yw00) yr328) = true := z_seg (a := 120) (k := 40) yq_yr328_3 yq_yr328_e4
theorem yq_yr328_e2 : ((y_cd yr328).drop 80).all (y_okE ztb znw zcls (ytb yw00) yr328) = true := z_seg (a := 80) (k := 40) yq_yr328_2 yq_yr328_e3
theorem yq_yr328_e1 : ((y_cd yr328).drop 40).all (y_okE ztb znw zcls (ytb yw00) yr328) = true := z_seg (a := 40) (k := 40) yq_yr328_1 yq_yr328_e2
theorem yq_yr328_e0 : ((y_cd yr328).drop 0).all (y_okE ztb znw zcls (ytb yw00) yr328) = true := z_seg (a := 0) (k := 40) yq_yr328_0 yq_yr328_e1
theorem yq_yr328 : (y_cd yr328).all (y_okE ztb znw zcls (ytb yw00) yr328) = true := z_seg0 yq_yr328_e0
theorem yo_yr328 : y_okM ztb zcls yr328 := y_okM_i (z_codeIn (ch := 10) (i := 159) (l := tables_1_10) rfl rfl) (z_w_ok (n := 1012) (by decide +kernel)) (by decide +kernel) ⟨by decide +kernel, by decide +kernel⟩ (z_w_ok (n := 10158) (by decide +kernel)) (z_w_ok (n := 102) (by decide +kernel)) rfl rfl (by decide)
theorem yq_yr329_0 : (((y_cd yr329).drop 0).take 40).all (y_okE ztb znw zcls (ytb yw00) yr329) = true := by decide +kernel
theorem yq_yr329_1 : (((y_cd yr329).drop 40).take 40).all (y_okE ztb znw zcls (ytb yw00) yr329) = true := by decide +kernel
theorem yq_yr329_2 : (((y_cd yr329).drop 80).take 40).all (y_okE ztb znw zcls (ytb yw00) yr329) = true := by decide +kernel
theorem yq_yr329_3 : (((y_cd yr329).drop 120).take 40).all (y_okE ztb znw zcls (ytb yw00) yr329) = true := by decide +kernel
theorem yq_yr329_e4 : ((y_cd yr329).drop 160).all (y_okE ztb znw zcls (ytb yw00) yr329) = true := z_seg_end (by decide +kernel)
theorem yq_yr329_e3 : ((y_cd yr329).drop 120).all (y_okE ztb znw zcls (ytb yw00) yr329) = true := z_seg (a := 120) (k := 40) yq_yr329_3 yq_yr329_e4
theorem yq_yr329_e2 : ((y_cd yr329).drop 80).all (y_okE ztb znw zcls (ytb yw00) yr329) = true := z_seg (a := 80) (k := 40) yq_yr329_2 yq_yr329_e3
theorem yq_yr329_e1 : ((y_cd yr329).drop 40).all (y_okE ztb znw zcls (ytb yw00) yr329) = true := z_seg (a := 40) (k := 40) yq_yr329_1 yq_yr329_e2
theorem yq_yr329_e0 : ((y_cd yr329).drop 0).all (y_okE ztb znw zcls (ytb yw00) yr329) = true := z_seg (a := 0) (k := 40) yq_yr329_0 yq_yr329_e1
theorem yq_yr329 : (y_cd yr329).all (y_okE ztb znw zcls (ytb yw00) yr329) = true := z_seg0 yq_yr329_e0
theorem yo_yr329 : y_okM ztb zcls yr329 := y_okM_i (z_codeIn (ch := 10) (i := 159) (l := tables_1_10) rfl rfl) (z_w_ok (n := 1012) (by decide +kernel)) (by decide +kernel) ⟨by decide +kernel, by decide +kernel⟩ (z_w_ok (n := 10158) (by decide +kernel)) (z_w_ok (n := 102) (by decide +kernel)) rfl rfl (by decide)
theorem yq_yr330_0 : (((y_cd yr330).drop 0).take 40).all (y_okE ztb znw zcls (ytb yw00) yr330) = true := by decide +kernel
theorem yq_yr330_1 : (((y_cd yr330).drop 40).take 40).all (y_okE ztb znw zcls (ytb yw00) yr330) = true := by decide +kernel
theorem yq_yr330_2 : (((y_cd yr330).drop 80).take 40).all (y_okE ztb znw zcls (ytb yw00) yr330) = true := by decide +kernel
theorem yq_yr330_3 : (((y_cd yr330).drop 120).take 40).all (y_okE ztb znw zcls (ytb yw00) yr330) = true := by decide +kernel
theorem yq_yr330_e4 : ((y_cd yr330).drop 160).all (y_okE ztb znw zcls (ytb yw00) yr330) = true := z_seg_end (by decide +kernel)
theorem yq_yr330_e3 : ((y_cd yr330).drop 120).all (y_okE ztb znw zcls (ytb yw00) yr330) = true := z_seg (a := 120) (k := 40) yq_yr330_3 yq_yr330_e4
theorem yq_yr330_e2 : ((y_cd yr330).drop 80).all (y_okE ztb znw zcls (ytb yw00) yr330) = true := z_seg (a := 80) (k := 40) yq_yr330_2 yq_yr330_e3
theorem yq_yr330_e1 : ((y_cd yr330).drop 40).all (y_okE ztb znw zcls (ytb yw00) yr330) = true := z_seg (a := 40) (k := 40) yq_yr330_1 yq_yr330_e2
theorem yq_yr330_e0 : ((y_cd yr330).drop 0).all (y_okE ztb znw zcls (ytb yw00) yr330) = true := z_seg (a := 0) (k := 40) yq_yr330_0 yq_yr330_e1
theorem yq_yr330 : (y_cd yr330).all (y_okE ztb znw zcls (ytb yw00) yr330) = true := z_seg0 yq_yr330_e0
theorem yo_yr330 : y_okM ztb zcls yr330 := y_okM_i (z_codeIn (ch := 10) (i := 159) (l := tables_1_10) rfl rfl) (z_w_ok (n := 1012) (by decide +kernel)) (by decide +kernel) ⟨by decide +kernel, by decide +kernel⟩ (z_w_ok (n := 10158) (by decide +kernel)) (z_w_ok (n := 102) (by decide +kernel)) rfl rfl (by decide)
theorem yq_yr331_0 : (((y_cd yr331).drop 0).take 40).all (y_okE ztb znw zcls (ytb yw00) yr331) = true := by decide +kernel
theorem yq_yr331_1 : (((y_cd yr331).drop 40).take 40).all (y_okE ztb znw zcls (ytb yw00) yr331) = true := by decide +kernel
theorem yq_yr331_2 : (((y_cd yr331).drop 80).take 40).all (y_okE ztb znw zcls (ytb yw00) yr331) = true := by decide +kernel
theorem yq_yr331_3 : (((y_cd yr331).drop 120).take 40).all (y_okE ztb znw zcls (ytb yw00) yr331) = true := by decide +kernel
theorem yq_yr331_e4 : ((y_cd yr331).drop 160).all (y_okE ztb znw zcls (ytb yw00) yr331) = true := z_seg_end (by decide +kernel)
theorem yq_yr331_e3 : ((y_cd yr331).drop 120).all (y_okE ztb znw zcls (ytb yw00) yr331) = true := z_seg (a := 120) (k := 40) yq_yr331_3 yq_yr331_e4
theorem yq_yr331_e2 : ((y_cd yr331).drop 80).all (y_okE ztb znw zcls (ytb yw00) yr331) = true := z_seg (a := 80) (k := 40) yq_yr331_2 yq_yr331_e3
theorem yq_yr331_e1 : ((y_cd yr331).drop 40).all (y_okE ztb znw zcls (ytb yw00) yr331) = true := z_seg (a := 40) (k := 40) yq_yr331_1 yq_yr331_e2
theorem yq_yr331_e0 : ((y_cd yr331).drop 0).all (y_okE ztb znw zcls (ytb yw00) yr331) = true := z_seg (a := 0) (k := 40) yq_yr331_0 yq_yr331_e1
theorem yq_yr331 : (y_cd yr331).all (y_okE ztb znw zcls (ytb yw00) yr331) = true := z_seg0 yq_yr331_e0
theorem yo_yr331 : y_okM ztb zcls yr331 := y_okM_i (z_codeIn (ch := 10) (i := 159) (l := tables_1_10) rfl rfl) (z_w_ok (n := 1012) (by decide +kernel)) (by decide +kernel) ⟨by decide +kernel, by decide +kernel⟩ (z_w_ok (n := 10158) (by decide +kernel)) (z_w_ok (n := 102) (by decide +kernel)) rfl rfl (by decide)
theorem yq_yr332_0 : (((y_cd yr332).drop 0).take 40).all (y_okE ztb znw zcls (ytb yw00) yr332) = true := by decide +kernel
theorem yq_yr332_1 : (((y_cd yr332).drop 40).take 40).all (y_okE ztb znw zcls (ytb yw00) yr332) = true := by decide +kernel
theorem yq_yr332_2 : (((y_cd yr332).drop 80).take 40).all (y_okE ztb znw zcls (ytb yw00) yr332) = true := by decide +kernel
theorem yq_yr332_3 : (((y_cd yr332).drop 120).take 40).all (y_okE ztb znw zcls (ytb yw00) yr332) = true := by decide +kernel
theorem yq_yr332_e4 : ((y_cd yr332).drop 160).all (y_okE ztb znw zcls (ytb yw00) yr332) = true := z_seg_end (by decide +kernel)
theorem yq_yr332_e3 : ((y_cd yr332).drop 120).all (y_okE ztb znw zcls (ytb yw00) yr332) = true := z_seg (a := 120) (k := 40) yq_yr332_3 yq_yr332_e4
theorem yq_yr332_e2 : ((y_cd yr332).drop 80).all (y_okE ztb znw zcls (ytb yw00) yr332) = true := z_seg (a := 80) (k := 40) yq_yr332_2 yq_yr332_e3
theorem yq_yr332_e1 : ((y_cd yr332).drop 40).all (y_okE ztb znw zcls (ytb yw00) yr332) = true := z_seg (a := 40) (k := 40) yq_yr332_1 yq_yr332_e2
theorem yq_yr332_e0 : ((y_cd yr332).drop 0).all (y_okE ztb znw zcls (ytb yw00) yr332) = true := z_seg (a := 0) (k := 40) yq_yr332_0 yq_yr332_e1
theorem yq_yr332 : (y_cd yr332).all (y_okE ztb znw zcls (ytb yw00) yr332) = true := z_seg0 yq_yr332_e0
theorem yo_yr332 : y_okM ztb zcls yr332 := y_okM_i (z_codeIn (ch := 10) (i := 159) (l := tables_1_10) rfl rfl) (z_w_ok (n := 1012) (by decide +kernel)) (by decide +kernel) ⟨by decide +kernel, by decide +kernel⟩ (z_w_ok (n := 10158) (by decide +kernel)) (z_w_ok (n := 102) (by decide +kernel)) rfl rfl (by decide)
theorem yq_yr333_0 : (((y_cd yr333).drop 0).take 40).all (y_okE ztb znw zcls (ytb yw00) yr333) = true := by decide +kernel
theorem yq_yr333_1 : (((y_cd yr333).drop 40).take 40).all (y_okE ztb znw zcls (ytb yw00) yr333) = true := by decide +kernel
theorem yq_yr333_2 : (((y_cd yr333).drop 80).take 40).all (y_okE ztb znw zcls (ytb yw00) yr333) = true := by decide +kernel
theorem yq_yr333_3 : (((y_cd yr333).drop 120).take 40).all (y_okE ztb znw zcls (ytb yw00) yr333) = true := by decide +kernel
theorem yq_yr333_e4 : ((y_cd yr333).drop 160).all (y_okE ztb znw zcls (ytb yw00) yr333) = true := z_seg_end (by decide +kernel)
theorem yq_yr333_e3 : ((y_cd yr333).drop 120).all (y_okE ztb znw zcls (ytb yw00) yr333) = true := z_seg (a := 120) (k := 40) yq_yr333_3 yq_yr333_e4
theorem yq_yr333_e2 : ((y_cd yr333).drop 80).all (y_okE ztb znw zcls (ytb yw00) yr333) = true := z_seg (a := 80) (k := 40) yq_yr333_2 yq_yr333_e3
theorem yq_yr333_e1 : ((y_cd yr333).drop 40).all (y_okE ztb znw zcls (ytb yw00) yr333) = true := z_seg (a := 40) (k := 40) yq_yr333_1 yq_yr333_e2
theorem yq_yr333_e0 : ((y_cd yr333).drop 0).all (y_okE ztb znw zcls (ytb yw00) yr333) = true := z_seg (a := 0) (k := 40) yq_yr333_0 yq_yr333_e1
theorem yq_yr333 : (y_cd yr333).all (y_okE ztb znw zcls (ytb yw00) yr333) = true := z_seg0 yq_yr333_e0
theorem yo_yr333 : y_okM ztb zcls yr333 := y_okM_i (z_codeIn (ch := 10) (i := 159) (l := tables_1_10) rfl rfl) (z_w_ok (n := 1012) (by decide +kernel)) (by decide +kernel) ⟨by decide +kernel, by decide +kernel⟩ (z_w_ok (n := 10158) (by decide +kernel)) (z_w_ok (n := 102) (by decide +kernel)) rfl rfl (by decide)
theorem yq_yr334_0 : (((y_cd yr334).drop 0).take 40).all (y_okE ztb znw zcls (ytb yw00) yr334) = true := by decide +kernel
theorem yq_yr334_1 : (((y_cd yr334).drop 40).take 40).all (y_okE ztb znw zcls (ytb yw00) yr334) = true := by decide +kernel
theorem yq_yr334_2 : (((y_cd yr334).drop 80).take 40).all (y_okE ztb znw zcls (ytb yw00) yr334) = true := by decide +kernel
theorem yq_yr334_3 : (((y_cd yr334).drop 120).take 40).all (y_okE ztb znw zcls (ytb yw00) yr334) = true := by decide +kernel
theorem yq_yr334_e4 : ((y_cd yr334).drop 160).all (y_okE ztb znw zcls (ytb yw00) yr334) = true := z_seg_end (by decide +kernel)
theorem yq_yr334_e3 : ((y_cd yr334).drop 120).all (y_okE ztb znw zcls (ytb yw00) yr334) = true := z_seg (a := 120) (k := 40) yq_yr334_3 yq_yr334_e4
theorem yq_yr334_e2 : ((y_cd yr334).drop 80).all (y_okE ztb znw zcls (ytb yw00) yr334) = true := z_seg (a := 80) (k := 40) yq_yr334_2 yq_yr334_e3
theorem yq_yr334_e1 : ((y_cd yr334).drop 40).all (y_okE ztb znw zcls (ytb yw00) yr334) = true := z_seg (a := 40) (k := 40) yq_yr334_1 yq_yr334_e2
theorem yq_yr334_e0 : ((y_cd yr334).drop 0).all (y_okE ztb znw zcls (ytb yw00) yr334) = true := z_seg (a := 0) (k := 40) yq_yr334_0 yq_yr334_e1
theorem yq_yr334 : (y_cd yr334).all (y_okE ztb znw zcls (ytb yw00) yr334) = true := z_seg0 yq_yr334_e0
theorem yo_yr334 : y_okM ztb zcls yr334 := y_okM_i (z_codeIn (ch := 10) (i := 159) (l := tables_1_10) rfl rfl) (z_w_ok (n := 1012) (by decide +kernel)) (by decide +kernel) ⟨by decide +kernel, by decide +kernel⟩ (z_w_ok (n := 10158) (by decide +kernel)) (z_w_ok (n := 102) (by decide +kernel)) rfl rfl (by decide)
theorem yq_yr335_0 : (((y_cd yr335).drop 0).take 40).all (y_okE ztb znw zcls (ytb yw00) yr335) = true := by decide +kernel
theorem yq_yr335_1 : (((y_cd yr335).drop 40).take 40).all (y_okE ztb znw zcls (ytb yw00) yr335) = true := by decide +kernel
theorem yq_yr335_2 : (((y_cd yr335).drop 80).take 40).all (y_okE ztb znw zcls (ytb yw00) yr335) = true := by decide +kernel
theorem yq_yr335_3 : (((y_cd yr335).drop 120).take 40).all (y_okE ztb znw zcls (ytb yw00) yr335) = true := by decide +kernel
theorem yq_yr335_e4 : ((y_cd yr335).drop 160).all (y_okE ztb znw zcls (ytb yw00) yr335) = true := z_seg_end (by decide +kernel)
theorem yq_yr335_e3 : ((y_cd yr335).drop 120).all (y_okE ztb znw zcls (ytb yw00) yr335) = true := z_seg (a := 120) (k := 40) yq_yr335_3 yq_yr335_e4
theorem yq_yr335_e2 : ((y_cd yr335).drop 80).all (y_okE ztb znw zcls (ytb yw00) yr335) = true := z_seg (a := 80) (k := 40) yq_yr335_2 yq_yr335_e3
theorem yq_yr335_e1 : ((y_cd yr335).drop 40).all (y_okE ztb znw zcls (ytb yw00) yr335) = true := z_seg (a := 40) (k := 40) yq_yr335_1 yq_yr335_e2
theorem yq_yr335_e0 : ((y_cd yr335).drop 0).all (y_okE ztb znw zcls (ytb yw00) yr335) = true := z_seg (a := 0) (k := 40) yq_yr335_0 yq_yr335_e1
theorem yq_yr335 : (y_cd yr335).all (y_okE ztb znw zcls (ytb yw00) yr335) = true := z_seg0 yq_yr335_e0
theorem yo_yr335 : y_okM ztb zcls yr335 := y_okM_i (z_codeIn (ch := 10) (i := 159) (l := tables_1_10) rfl rfl) (z_w_ok (n := 1012) (by decide +kernel)) (by decide +kernel) ⟨by decide +kernel, by decide +kernel⟩ (z_w_ok (n := 10158) (by decide +kernel)) (z_w_ok (n := 102) (by decide +kernel)) rfl rfl (by decide)
theorem yq_yr336_0 : (((y_cd yr336).drop 0).take 40).all (y_okE ztb znw zcls (ytb yw00) yr336) = true := by decide +kernel
theorem yq_yr336_1 : (((y_cd yr336).drop 40).take 40).all (y_okE ztb znw zcls (ytb yw00) yr336) = true := by decide +kernel
theorem yq_yr336_2 : (((y_cd yr336).drop 80).take 40).all (y_okE ztb znw zcls (ytb yw00) yr336) = true := by decide +kernel
theorem yq_yr336_3 : (((y_cd yr336).drop 120).take 40).all (y_okE ztb znw zcls (ytb yw00) yr336) = true := by decide +kernel
theorem yq_yr336_e4 : ((y_cd yr336).drop 160).all (y_okE ztb znw zcls (ytb yw00) yr336) = true := z_seg_end (by decide +kernel)
theorem yq_yr336_e3 : ((y_cd yr336).drop 120).all (y_okE ztb znw zcls (ytb yw00) yr336) = true := z_seg (a := 120) (k := 40) yq_yr336_3 yq_yr336_e4
theorem yq_yr336_e2 : ((y_cd yr336).drop 80).all (y_okE ztb znw zcls (ytb yw00) yr336) = true := z_seg (a := 80) (k := 40) yq_yr336_2 yq_yr336_e3
theorem yq_yr336_e1 : ((y_cd yr336).drop 40).all (y_okE ztb znw zcls (ytb yw00) yr336) = true := z_seg (a := 40) (k := 40) yq_yr336_1 yq_yr336_e2
theorem yq_yr336_e0 : ((y_cd yr336).drop 0).all (y_okE ztb znw zcls (ytb yw00) yr336) = true := z_seg (a := 0) (k := 40) yq_yr336_0 yq_yr336_e1
theorem yq_yr336 : (y_cd yr336).all (y_okE ztb znw zcls (ytb yw00) yr336) = true := z_seg0 yq_yr336_e0
theorem yo_yr336 : y_okM ztb zcls yr336 := y_okM_i (z_codeIn (ch := 10) (i := 159) (l := tables_1_10) rfl rfl) (z_w_ok (n := 1012) (by decide +kernel)) (by decide +kernel) ⟨by decide +kernel, by decide +kernel⟩ (z_w_ok (n := 10158) (by decide +kernel)) (z_w_ok (n := 102) (by decide +kernel)) rfl rfl (by decide)
