theorem yq_yr29_0 : (((y_cd yr29).drop 0).take 40).all (y_okE ztb znw zcls (ytb yw00) yr29) = true := by decide +kernel
theorem yq_yr29_1 : (((y_cd yr29).drop 40).take 40).all (y_okE ztb znw zcls (ytb yw00) yr29) = true := by decide +kernel
theorem yq_yr29_e2 : ((y_cd yr29).drop 80).all (y_okE ztb znw zcls (ytb yw00) yr29) = true := z_seg_end (by decide +kernel)
theorem yq_yr29_e1 : ((y_cd yr29).drop 40).all (y_okE ztb znw zcls (ytb yw00) yr29) = true := z_seg (a := 40) (k := 40) yq_yr29_1 yq_yr29_e2
theorem yq_yr29_e0 : ((y_cd yr29).drop 0).all (y_okE ztb znw zcls (ytb yw00) yr29) = true := z_seg (a := 0) (k := 40) yq_yr29_0 yq_yr29_e1
theorem yq_yr29 : (y_cd yr29).all (y_okE ztb znw zcls (ytb yw00) yr29) = true := z_seg0 yq_yr29_e0
theorem yo_yr29 : y_okM ztb zcls yr29 := y_okM_i (z_codeIn (ch := 8) (i := 36) (l := tables_1_8) rfl rfl) (z_w_ok (n := 1011) (by decide +kernel)) (by decide +kernel) ⟨by decide +kernel, by decide +kernel⟩ (z_w_ok (n := 8035) (by decide +kernel)) (z_w_ok (n := 77) (by decide +kernel)) rfl rfl (by decide)
theorem yq_yr30_0 : (((y_cd yr30).drop 0).take 40).all (y_okE ztb znw zcls (ytb yw00) yr30) = true := by decide +kernel
theorem yq_yr30_1 : (((y_cd yr30).drop 40).take 40).all (y_okE ztb znw zcls (ytb yw00) yr30) = true := by decide +kernel
theorem yq_yr30_e2 : ((y_cd yr30).drop 80).all (y_okE ztb znw zcls (ytb yw00) yr30) = true := z_seg_end (by decide +kernel)
theorem yq_yr30_e1 : ((y_cd yr30).drop 40).all (y_okE ztb znw zcls (ytb yw00) yr30) = true := z_seg (a := 40) (k := 40) yq_yr30_1 yq_yr30_e2
theorem yq_yr30_e0 : ((y_cd yr30).drop 0).all (y_okE ztb znw zcls (ytb yw00) yr30) = true := z_seg (a := 0) (k := 40) yq_yr30_0 yq_yr30_e1
theorem yq_yr30 : (y_cd yr30).all (y_okE ztb znw zcls (ytb yw00) yr30) = true := z_seg0 yq_yr30_e0
theorem yo_yr30 : y_okM ztb zcls yr30 := y_okM_i (z_codeIn (ch := 8) (i := 36) (l := tables_1_8) rfl rfl) (z_w_ok (n := 1011) (by decide +kernel)) (by decide +kernel) ⟨by decide +kernel, by decide +kernel⟩ (z_w_ok (n := 8035) (by decide +kernel)) (z_w_ok (n := 77) (by decide +kernel)) rfl rfl (by decide)
theorem yq_yr31_0 : (((y_cd yr31).drop 0).take 40).all (y_okE ztb znw zcls (ytb yw00) yr31) = true := by decide +kernel
theorem yq_yr31_1 : (((y_cd yr31).drop 40).take 40).all (y_okE ztb znw zcls (ytb yw00) yr31) = true := by decide +kernel
theorem yq_yr31_e2 : ((y_cd yr31).drop 80).all (y_okE ztb znw zcls (ytb yw00) yr31) = true := z_seg_end (by decide +kernel)
theorem yq_yr31_e1 : ((y_cd yr31).drop 40).all (y_okE ztb znw zcls (ytb yw00) yr31) = true := z_seg (a := 40) (k := 40) yq_yr31_1 yq_yr31_e2
theorem yq_yr31_e0 : ((y_cd yr31).drop 0).all (y_okE ztb znw zcls (ytb yw00) yr31) = true := z_seg (a := 0) (k := 40) yq_yr31_0 yq_yr31_e1
theorem yq_yr31 : (y_cd yr31).all (y_okE ztb znw zcls (ytb yw00) yr31) = true := z_seg0 yq_yr31_e0
theorem yo_yr31 : y_okM ztb zcls yr31 := y_okM_i (z_codeIn (ch := 8) (i := 36) (l := tables_1_8) rfl rfl) (z_w_ok (n := 1011) (by decide +kernel)) (by decide +kernel) ⟨by decide +kernel, by decide +kernel⟩ (z_w_ok (n := 8035) (by decide +kernel)) (z_w_ok (n := 77) (by decide +kernel)) rfl rfl (by decide)
theorem yq_yr32_0 : (((y_cd yr32).drop 0).take 40).all (y_okE ztb znw zcls (ytb yw00) yr32) = true := by decide +kernel
theorem yq_yr32_1 : (((y_cd yr32).drop 40).take 40).all (y_okE ztb znw zcls (ytb yw00) yr32) = true := by decide +kernel
theorem yq_yr32_e2 : ((y_cd yr32).drop 80).all (y_okE ztb znw zcls (ytb yw00) yr32) = true := z_seg_end (by decide +kernel)
theorem yq_yr32_e1 : ((y_cd yr32).drop 40).all (y_okE ztb znw zcls (ytb yw00) yr32) = true := z_seg (a := 40) (k := 40) yq_yr32_1 yq_yr32_e2
theorem yq_yr32_e0 : ((y_cd yr32).drop 0).all (y_okE ztb znw zcls (ytb yw00) yr32) = true := z_seg (a := 0) (k := 40) yq_yr32_0 yq_yr32_e1
theorem yq_yr32 : (y_cd yr32).all (y_okE ztb znw zcls (ytb yw00) yr32) = true := z_seg0 yq_yr32_e0
theorem yo_yr32 : y_okM ztb zcls yr32 := y_okM_i (z_codeIn (ch := 8) (i := 36) (l := tables_1_8) rfl rfl) (z_w_ok (n := 1011) (by decide +kernel)) (by decide +kernel) ⟨by decide +kernel, by decide +kernel⟩ (z_w_ok (n := 8035) (by decide +kernel)) (z_w_ok (n := 77) (by decide +kernel)) rfl rfl (by decide)
theorem yq_yr33_0 : (((y_cd yr33).drop 0).take 40).all (y_okE ztb znw zcls (ytb yw00) yr33) = true := by decide +kernel
theorem yq_yr33_1 : (((y_cd yr33).drop 40).take 40).all (y_okE ztb znw zcls (ytb yw00) yr33) = true := by decide +kernel
theorem yq_yr33_e2 : ((y_cd yr33).drop 80).all (y_okE ztb znw zcls (ytb yw00) yr33) = true := z_seg_end (by decide +kernel)
theorem yq_yr33_e1 : ((y_cd yr33).drop 40).all (y_okE ztb znw zcls (ytb yw00) yr33) = true := z_seg (a := 40) (k := 40) yq_yr33_1 yq_yr33_e2
theorem yq_yr33_e0 : ((y_cd yr33).drop 0).all (y_okE ztb znw zcls (ytb yw00) yr33) = true := z_seg (a := 0) (k := 40) yq_yr33_0 yq_yr33_e1
theorem yq_yr33 : (y_cd yr33).all (y_okE ztb znw zcls (ytb yw00) yr33) = true := z_seg0 yq_yr33_e0
theorem yo_yr33 : y_okM ztb zcls yr33 := y_okM_i (z_codeIn (ch := 8) (i := 36) (l := tables_1_8) rfl rfl) (z_w_ok (n := 1011) (by decide +kernel)) (by decide +kernel) ⟨by decide +kernel, by decide +kernel⟩ (z_w_ok (n := 8035) (by decide +kernel)) (z_w_ok (n := 77) (by decide +kernel)) rfl rfl (by decide)
theorem yq_yr34_0 : (((y_cd yr34).drop 0).take 40).all (y_okE ztb znw zcls (ytb yw00) yr34) = true := by decide +kernel
theorem yq_yr34_1 : (((y_cd yr34).drop 40).take 40).all (y_okE ztb znw zcls (ytb yw00) yr34) = true := by decide +kernel
theorem yq_yr34_e2 : ((y_cd yr34).drop 80).all (y_okE ztb znw zcls (ytb yw00) yr34) = true := z_seg_end (by decide +kernel)
theorem yq_yr34_e1 : ((y_cd yr34).drop 40).all (y_okE ztb znw zcls (ytb yw00) yr34) = true := z_seg (a := 40) (k := 40) yq_yr34_1 yq_yr34_e2
theorem yq_yr34_e0 : ((y_cd yr34).drop 0).all (y_okE ztb znw zcls (ytb yw00) yr34) = true := z_seg (a := 0) (k := 40) yq_yr34_0 yq_yr34_e1
theorem yq_yr34 : (y_cd yr34).all (y_okE ztb znw zcls (ytb yw00) yr34) = true := z_seg0 yq_yr34_e0
theorem yo_yr34 : y_okM ztb zcls yr34 := y_okM_i (z_codeIn (ch := 8) (i := 36) (l := tables_1_8) rfl rfl) (z_w_ok (n := 1011) (by decide +kernel)) (by decide +kernel) ⟨by decide +kernel, by decide +kernel⟩ (z_w_ok (n := 8035) (by decide +kernel)) (z_w_ok (n := 77) (by decide +kernel)) rfl rfl (by decide)
theorem yq_yr35_0 : (((y_cd yr35).drop 0).take 40).all (y_okE ztb znw zcls (ytb yw00) yr35) = true := by decide +kernel
theorem yq_yr35_1 : (((y_cd yr35).drop 40).take 40).all (y_okE ztb znw zcls (ytb yw00) yr35) = true := by decide +kernel
theorem yq_yr35_e2 : ((y_cd yr35).drop 80).all (y_okE ztb znw zcls (ytb yw00) yr35) = true := z_seg_end (by decide +kernel)
theorem yq_yr35_e1 : ((y_cd yr35).drop 40).all (y_okE ztb znw zcls (ytb yw00) yr35) = true := z_seg (a := 40) (k := 40) yq_yr35_1 yq_yr35_e2
theorem yq_yr35_e0 : ((y_cd yr35).drop 0).all (y_okE ztb znw zcls (ytb yw00) yr35) = true := z_seg (a := 0) (k := 40) yq_yr35_0 yq_yr35_e1
theorem yq_yr35 : (y_cd yr35).all (y_okE ztb znw zcls (ytb yw00) yr35) = true := z_seg0 yq_yr35_e0
theorem yo_yr35 : y_okM ztb zcls yr35 := y_okM_i (z_codeIn (ch := 8) (i := 36) (l := tables_1_8) rfl rfl) (z_w_ok (n := 1011) (by decide +kernel)) (by decide +kernel) ⟨by decide +kernel, by decide +kernel⟩ (z_w_ok (n := 8035) (by decide +kernel)) (z_w_ok (n := 77) (by decide +kernel)) rfl rfl (by decide)
theorem yq_yr36 : (y_cd yr36).all (y_okE ztb znw zcls (ytb yw00) yr36) = true := by decide +kernel
theorem yo_yr36 : y_okM ztb zcls yr36 := y_okM_i (z_codeIn (ch := 8) (i := 36) (l := tables_1_8) rfl rfl) (z_w_ok (n := 1011) (by decide +kernel)) (by decide +kernel) ⟨by decide +kernel, by decide +kernel⟩ (z_w_ok (n := 8035) (by decide +kernel)) (z_w_ok (n := 77) (by decide +kernel)) rfl rfl (by decide)
theorem yq_yr37 : (y_cd yr37).all (y_okE ztb znw zcls (ytb yw00) yr37) = true := by decide +kernel
theorem yo_yr37 : y_okM ztb zcls yr37 := y_okM_i (z_codeIn (ch := 3) (i := 223) (l := tables_1_3) rfl rfl) (z_w_ok (n := 1002) (by decide +kernel)) (by decide +kernel) ⟨by decide +kernel, by decide +kernel⟩ (z_w_ok (n := 3222) (by decide +kernel)) (z_w_ok (n := 8) (by decide +kernel)) rfl rfl (by decide)
theorem yq_yr38_0 : (((y_cd yr38).drop 0).take 40).all (y_okE ztb znw zcls (ytb yw00) yr38) = true := by decide +kernel
theorem yq_yr38_1 : (((y_cd yr38).drop 40).take 40).all (y_okE ztb znw zcls (ytb yw00) yr38) = true := by decide +kernel
theorem yq_yr38_e2 : ((y_cd yr38).drop 80).all (y_okE ztb znw zcls (ytb yw00) yr38) = true := z_seg_end (by decide +kernel)
theorem yq_yr38_e1 : ((y_cd yr38).drop 40).all (y_okE ztb znw zcls (ytb yw00) yr38) = true := z_seg (a := 40) (k := 40) yq_yr38_1 yq_yr38_e2
theorem yq_yr38_e0 : ((y_cd yr38).drop 0).all (y_okE ztb znw zcls (ytb yw00) yr38) = true := z_seg (a := 0) (k := 40) yq_yr38_0 yq_yr38_e1
theorem yq_yr38 : (y_cd yr38).all (y_okE ztb znw zcls (ytb yw00) yr38) = true := z_seg0 yq_yr38_e0
theorem yo_yr38 : y_okM ztb zcls yr38 := y_okM_i (z_codeIn (ch := 3) (i := 193) (l := tables_1_3) rfl rfl) (z_w_ok (n := 1002) (by decide +kernel)) (by decide +kernel) ⟨by decide +kernel, by decide +kernel⟩ (z_w_ok (n := 3191) (by decide +kernel)) (z_w_ok (n := 3192) (by decide +kernel)) rfl rfl (by decide)
theorem yq_yr39_0 : (((y_cd yr39).drop 0).take 40).all (y_okE ztb znw zcls (ytb yw00) yr39) = true := by decide +kernel
theorem yq_yr39_1 : (((y_cd yr39).drop 40).take 40).all (y_okE ztb znw zcls (ytb yw00) yr39) = true := by decide +kernel
theorem yq_yr39_e2 : ((y_cd yr39).drop 80).all (y_okE ztb znw zcls (ytb yw00) yr39) = true := z_seg_end (by decide +kernel)
theorem yq_yr39_e1 : ((y_cd yr39).drop 40).all (y_okE ztb znw zcls (ytb yw00) yr39) = true := z_seg (a := 40) (k := 40) yq_yr39_1 yq_yr39_e2
theorem yq_yr39_e0 : ((y_cd yr39).drop 0).all (y_okE ztb znw zcls (ytb yw00) yr39) = true := z_seg (a := 0) (k := 40) yq_yr39_0 yq_yr39_e1
theorem yq_yr39 : (y_cd yr39).all (y_okE ztb znw zcls (ytb yw00) yr39) = true := z_seg0 yq_yr39_e0
theorem yo_yr39 : y_okM ztb zcls yr39 := y_okM_i (z_codeIn (ch := 4) (i := 66) (l := tables_1_4) rfl rfl) (z_w_ok (n := 1002) (by decide +kernel)) (by decide +kernel) ⟨by decide +kernel, by decide +kernel⟩ (z_w_ok (n := 4065) (by decide +kernel)) (z_w_ok (n := 15) (by decide +kernel)) rfl rfl (by decide)
theorem yq_yr40_0 : (((y_cd yr40).drop 0).take 40).all (y_okE ztb znw zcls (ytb yw00) yr40) = true := by decide +kernel
theorem yq_yr40_1 : (((y_cd yr40).drop 40).take 40).all (y_okE ztb znw zcls (ytb yw00) yr40) = true := by decide +kernel
theorem yq_yr40_e2 : ((y_cd yr40).drop 80).all (y_okE ztb znw zcls (ytb yw00) yr40) = true := z_seg_end (by decide +kernel)
theorem yq_yr40_e1 : ((y_cd yr40).drop 40).all (y_okE ztb znw zcls (ytb yw00) yr40) = true := z_seg (a := 40) (k := 40) yq_yr40_1 yq_yr40_e2
theorem yq_yr40_e0 : ((y_cd yr40).drop 0).all (y_okE ztb znw zcls (ytb yw00) yr40) = true := z_seg (a := 0) (k := 40) yq_yr40_0 yq_yr40_e1
theorem yq_yr40 : (y_cd yr40).all (y_okE ztb znw zcls (ytb yw00) yr40) = true := z_seg0 yq_yr40_e0
theorem yo_yr40 : y_okM ztb zcls yr40 := y_okM_i (z_codeIn (ch := 4) (i := 62) (l := tables_1_4) rfl rfl) (z_w_ok (n := 1002) (by decide +kernel)) (by decide +kernel) ⟨by decide +kernel, by decide +kernel⟩ (z_w_ok (n := 4061) (by decide +kernel)) (z_w_ok (n := 14) (by decide +kernel)) rfl rfl (by decide)
theorem yq_yr41 : (y_cd yr41).all (y_okE ztb znw zcls (ytb yw00) yr41) = true := by decide +kernel
theorem yo_yr41 : y_okM ztb zcls yr41 := y_okM_i (z_codeIn (ch := 4) (i := 48) (l := tables_1_4) rfl rfl) (z_w_ok (n := 1002) (by decide +kernel)) (by decide +kernel) ⟨by decide +kernel, by decide +kernel⟩ (z_w_ok (n := 4047) (by decide +kernel)) (z_w_ok (n := 12) (by decide +kernel)) rfl rfl (by decide)
theorem yq_yr42 : (y_cd yr42).all (y_okE ztb znw zcls (ytb yw00) yr42) = true := by decide +kernel
theorem yo_yr42 : y_okM ztb zcls yr42 := y_okM_i (z_codeIn (ch := 4) (i := 48) (l := tables_1_4) rfl rfl) (z_w_ok (n := 1002) (by decide +kernel)) (by decide +kernel) ⟨by decide +kernel, by decide +kernel⟩ (z_w_ok (n := 4047) (by decide +kernel)) (z_w_ok (n := 12) (by decide +kernel)) rfl rfl (by decide)
theorem yq_yr43 : (y_cd yr43).all (y_okE ztb znw zcls (ytb yw00) yr43) = true := by decide +kernel
theorem yo_yr43 : y_okM ztb zcls yr43 := y_okM_i (z_codeIn (ch := 4) (i := 48) (l := tables_1_4) rfl rfl) (z_w_ok (n := 1002) (by decide +kernel)) (by decide +kernel) ⟨by decide +kernel, by decide +kernel⟩ (z_w_ok (n := 4047) (by decide +kernel)) (z_w_ok (n := 12) (by decide +kernel)) rfl rfl (by decide)
theorem yq_yr44 : (y_cd yr44).all (y_okE ztb znw zcls (ytb yw00) yr44) = true := by decide +kernel
theorem yo_yr44 : y_okM ztb zcls yr44 := y_okM_i (z_codeIn (ch := 4) (i := 48) (l := tables_1_4) rfl rfl) (z_w_ok (n := 1002) (by decide +kernel)) (by decide +kernel) ⟨by decide +kernel, by decide +kernel⟩ (z_w_ok (n := 4047) (by decide +kernel)) (z_w_ok (n := 12) (by decide +kernel)) rfl rfl (by decide)
theorem yq_yr45 : (y_cd yr45).all (y_okE ztb znw zcls (ytb yw00) yr45) = true := by decide +kernel
theorem yo_yr45 : y_okM ztb zcls yr45 := y_okM_i (z_codeIn (ch := 4) (i := 48) (l := tables_1_4) rfl rfl) (z_w_ok (n := 1002) (by decide +kernel)) (by decide +kernel) ⟨by decide +kernel, by decide +kernel⟩ (z_w_ok (n := 4047) (by decide +kernel)) (z_w_ok (n := 12) (by decide +kernel)) rfl rfl (by decide)
theorem yq_yr46 : (y_cd yr46).all (y_okE ztb znw zcls (ytb yw00) yr46) = true := by decide +kernel
theorem yo_yr46 : y_okM ztb zcls yr46 := y_okM_i (z_codeIn (ch := 4) (i := 44) (l := tables_1_4) rfl rfl) (z_w_ok (n := 1002) (by decide +kernel)) (by decide +kernel) ⟨by decide +kernel, by decide +kernel⟩ (z_w_ok (n := 4043) (by decide +kernel)) (z_w_ok (n := 11) (by decide +kernel)) rfl rfl (by decide)
theorem yq_yr47_0 : (((y_cd yr47).drop 0).take 40).all (y_okE ztb znw zcls (ytb yw00) yr47) = true := by decide +kernel
theorem yq_yr47_1 : (((y_cd yr47).drop 40).take 40).all (y_okE ztb znw zcls (ytb yw00) yr47) = true := by decide +kernel
theorem yq_yr47_e2 : ((y_cd yr47).drop 80).all (y_okE ztb znw zcls (ytb yw00) yr47) = true := z_seg_end (by decide +kernel)
theorem yq_yr47_e1 : ((y_cd yr47).drop 40).all (y_okE ztb znw zcls (ytb yw00) yr47) = true := z_seg (a := 40) (k := 40) yq_yr47_1 yq_yr47_e2
theorem yq_yr47_e0 : ((y_cd yr47).drop 0).all (y_okE ztb znw zcls (ytb yw00) yr47) = true := z_seg (a := 0) (k := 40) yq_yr47_0 yq_yr47_e1
theorem yq_yr47 : (y_cd yr47).all (y_okE ztb znw zcls (ytb yw00) yr47) = true := z_seg0 yq_yr47_e0
theorem yo_yr47 : y_okM ztb zcls yr47 := y_okM_i (z_codeIn (ch := 4) (i := 140) (l := tables_1_4) rfl rfl) (z_w_ok (n := 1002) (by decide +kernel)) (by decide +kernel) ⟨by decide +kernel, by decide +kernel⟩ (z_w_ok (n := 4139) (by decide +kernel)) (z_w_ok (n := 16) (by decide +kernel)) rfl rfl (by decide)
theorem yq_yr48_0 : (((y_cd yr48).drop 0).take 40).all (y_okE ztb znw zcls (ytb yw00) yr48) = true := by decide +kernel
theorem yq_yr48_1 : (((y_cd yr48).drop 40).take 40).all (y_okE ztb znw zcls (ytb yw00) yr48) = true := by decide +kernel
theorem yq_yr48_e2 : ((y_cd yr48).drop 80).all (y_okE ztb znw zcls (ytb yw00) yr48) = true := z_seg_end (by decide +kernel)
theorem yq_yr48_e1 : ((y_cd yr48).drop 40).all (y_okE ztb znw zcls (ytb yw00) yr48) = true := z_seg (a := 40) (k := 40) yq_yr48_1 yq_yr48_e2
theorem yq_yr48_e0 : ((y_cd yr48).drop 0).all (y_okE ztb znw zcls (ytb yw00) yr48) = true := z_seg (a := 0) (k := 40) yq_yr48_0 yq_yr48_e1
theorem yq_yr48 : (y_cd yr48).all (y_okE ztb znw zcls (ytb yw00) yr48) = true := z_seg0 yq_yr48_e0
theorem yo_yr48 : y_okM ztb zcls yr48 := y_okM_i (z_codeIn (ch := 3) (i := 227) (l := tables_1_3) rfl rfl) (z_w_ok (n := 1002) (by decide +kernel)) (by decide +kernel) ⟨by decide +kernel, by decide +kernel⟩ (z_w_ok (n := 3226) (by decide +kernel)) (z_w_ok (n := 9) (by decide +kernel)) rfl rfl (by decide)
theorem yq_yr49_0 : (((y_cd yr49).drop 0).take 40).all (y_okE ztb znw zcls (ytb yw00) yr49) = true := by decide +kernel
theorem yq_yr49_1 : (((y_cd yr49).drop 40).take 40).all (y_okE ztb znw zcls (ytb yw00) yr49) = true := by decide +kernel
theorem yq_yr49_e2 : ((y_cd yr49).drop 80).all (y_okE ztb znw zcls (ytb yw00) yr49) = true := z_seg_end (by decide +kernel)
theorem yq_yr49_e1 : ((y_cd yr49).drop 40).all (y_okE ztb znw zcls (ytb yw00) yr49) = true := z_seg (a := 40) (k := 40) yq_yr49_1 yq_yr49_e2
theorem yq_yr49_e0 : ((y_cd yr49).drop 0).all (y_okE ztb znw zcls (ytb yw00) yr49) = true := z_seg (a := 0) (k := 40) yq_yr49_0 yq_yr49_e1
theorem yq_yr49 : (y_cd yr49).all (y_okE ztb znw zcls (ytb yw00) yr49) = true := z_seg0 yq_yr49_e0
theorem yo_yr49 : y_okM ztb zcls yr49 := y_okM_i (z_codeIn (ch := 4) (i := 149) (l := tables_1_4) rfl rfl) (z_w_ok (n := 1002) (by decide +kernel)) (by decide +kernel) ⟨by decide +kernel, by decide +kernel⟩ (z_w_ok (n := 4148) (by decide +kernel)) (z_w_ok (n := 17) (by decide +kernel)) rfl rfl (by decide)
theorem yq_yr50_0 : (((y_cd yr50).drop 0).take 40).all (y_okE ztb znw zcls (ytb yw00) yr50) = true := by decide +kernel
theorem yq_yr50_1 : (((y_cd yr50).drop 40).take 40).all (y_okE ztb znw zcls (ytb yw00) yr50) = true := by decide +kernel
theorem yq_yr50_e2 : ((y_cd yr50).drop 80).all (y_okE ztb znw zcls (ytb yw00) yr50) = true := z_seg_end (by decide +kernel)
theorem yq_yr50_e1 : ((y_cd yr50).drop 40).all (y_okE ztb znw zcls (ytb yw00) yr50) = true := z_seg (a := 40) (k := 40) yq_yr50_1 yq_yr50_e2
theorem yq_yr50_e0 : ((y_cd yr50).drop 0).all (y_okE ztb znw zcls (ytb yw00) yr50) = true := z_seg (a := 0) (k := 40) yq_yr50_0 yq_yr50_e1
theorem yq_yr50 : (y_cd yr50).all (y_okE ztb znw zcls (ytb yw00) yr50) = true := z_seg0 yq_yr50_e0
theorem yo_yr50 : y_okM ztb zcls yr50 := y_okM_i (z_codeIn (ch := 3) (i := 201) (l := tables_1_3) rfl rfl) (z_w_ok (n := 1002) (by decide +kernel)) (by decide +kernel) ⟨by decide +kernel, by decide +kernel⟩ (z_w_ok (n := 3200) (by decide +kernel)) (z_w_ok (n := 4) (by decide +kernel)) rfl rfl (by decide)
theorem yq_yr51_0 : (((y_cd yr51).drop 0).take 40).all (y_okE ztb znw zcls (ytb yw00) yr51) = true := by decide +kernel
theorem yq_yr51_1 : (((y_cd yr51).drop 40).take 40).all (y_okE ztb znw zcls (ytb yw00) yr51) = true := by decide +kernel
theorem yq_yr51_e2 : ((y_cd yr51).drop 80).all (y_okE ztb znw zcls (ytb yw00) yr51) = true := z_seg_end (by decide +kernel)
theorem yq_yr51_e1 : ((y_cd yr51).drop 40).all (y_okE ztb znw zcls (ytb yw00) yr51) = true := z_seg (a := 40) (k := 40) yq_yr51_1 yq_yr51_e2
theorem yq_yr51_e0 : ((y_cd yr51).drop 0).all (y_okE ztb znw zcls (ytb yw00) yr51) = true := z_seg (a := 0) (k := 40) yq_yr51_0 yq_yr51_e1
theorem yq_yr51 : (y_cd yr51).all (y_okE ztb znw zcls (ytb yw00) yr51) = true := z_seg0 yq_yr51_e0
theorem yo_yr51 : y_okM ztb zcls yr51 := y_okM_i (z_codeIn (ch := 3) (i := 208) (l := tables_1_3) rfl rfl) (z_w_ok (n := 1002) (by decide +kernel)) (by decide +kernel) ⟨by decide +kernel, by decide +kernel⟩ (z_w_ok (n := 3207) (by decide +kernel)) (z_w_ok (n := 5) (by decide +kernel)) rfl rfl (by decide)
theorem yq_yr52 : (y_cd yr52).all (y_okE ztb znw zcls (ytb yw00) yr52) = true := by decide +kernel
theorem yo_yr52 : y_okM ztb zcls yr52 := y_okM_i (z_codeIn (ch := 3) (i := 219) (l := tables_1_3) rfl rfl) (z_w_ok (n := 1002) (by decide +kernel)) (by decide +kernel) ⟨by decide +kernel, by decide +kernel⟩ (z_w_ok (n := 3218) (by decide +kernel)) (z_w_ok (n := 7) (by decide +kernel)) rfl rfl (by decide)
theorem yq_yr53_0 : (((y_cd yr53).drop 0).take 40).all (y_okE ztb znw zcls (ytb yw00) yr53) = true := by decide +kernel
theorem yq_yr53_1 : (((y_cd yr53).drop 40).take 40).all (y_okE ztb znw zcls (ytb yw00) yr53) = true := by decide +kernel
theorem yq_yr53_2 : (((y_cd yr53).drop 80).take 40).all (y_okE ztb znw zcls (ytb yw00) yr53) = true := by decide +kernel
theorem yq_yr53_e3 : ((y_cd yr53).drop 120).all (y_okE ztb znw zcls (ytb yw00) yr53) = true := z_seg_end (by decide +kernel)
theorem yq_yr53_e2 : ((y_cd yr53).drop 80).all (y_okE ztb znw zcls (ytb yw00) yr53) = true := z_seg (a := 80) (k := 40) yq_yr53_2 yq_yr53_e3
theorem yq_yr53_e1 : ((y_cd yr53).drop 40).all (y_okE ztb znw zcls (ytb yw00) yr53) = true := z_seg (a := 40) (k := 40) yq_yr53_1 yq_yr53_e2
theorem yq_yr53_e0 : ((y_cd yr53).drop 0).all (y_okE ztb znw zcls (ytb yw00) yr53) = true := z_seg (a := 0) (k := 40) yq_yr53_0 yq_yr53_e1
theorem yq_yr53 : (y_cd yr53).all (y_okE ztb znw zcls (ytb yw00) yr53) = true := z_seg0 yq_yr53_e0
theorem yo_yr53 : y_okM ztb zcls yr53 := y_okM_i (z_codeIn (ch := 6) (i := 198) (l := tables_1_6) rfl rfl) (z_w_ok (n := 1005) (by decide +kernel)) (by decide +kernel) ⟨by decide +kernel, by decide +kernel⟩ (z_w_ok (n := 6196) (by decide +kernel)) (z_w_ok (n := 6197) (by decide +kernel)) rfl rfl (by decide)
theorem yq_yr54 : (y_cd yr54).all (y_okE ztb znw zcls (ytb yw00) yr54) = true := by decide +kernel
theorem yo_yr54 : y_okM ztb zcls yr54 := y_okM_i (z_codeIn (ch := 3) (i := 95) (l := tables_1_3) rfl rfl) (z_w_ok (n := 1005) (by decide +kernel)) (by decide +kernel) ⟨by decide +kernel, by decide +kernel⟩ (z_w_ok (n := 3093) (by decide +kernel)) (z_w_ok (n := 3094) (by decide +kernel)) rfl rfl (by decide)
theorem yq_yr55 : (y_cd yr55).all (y_okE ztb znw zcls (ytb yw00) yr55) = true := by decide +kernel
theorem yo_yr55 : y_okM ztb zcls yr55 := y_okM_i (z_codeIn (ch := 3) (i := 99) (l := tables_1_3) rfl rfl) (z_w_ok (n := 1005) (by decide +kernel)) (by decide +kernel) ⟨by decide +kernel, by decide +kernel⟩ (z_w_ok (n := 3097) (by decide +kernel)) (z_w_ok (n := 3098) (by decide +kernel)) rfl rfl (by decide)
theorem yq_yr56 : (y_cd yr56).all (y_okE ztb znw zcls (ytb yw00) yr56) = true := by decide +kernel
theorem yo_yr56 : y_okM ztb zcls yr56 := y_okM_i (z_codeIn (ch := 2) (i := 173) (l := tables_1_2) rfl rfl) (z_w_ok (n := 1009) (by decide +kernel)) (by decide +kernel) ⟨by decide +kernel, by decide +kernel⟩ (z_w_ok (n := 2171) (by decide +kernel)) (z_w_ok (n := 2172) (by decide +kernel)) rfl rfl (by decide)
theorem yq_yr57 : (y_cd yr57).all (y_okE ztb znw zcls (ytb yw00) yr57) = true := by decide +kernel
theorem yo_yr57 : y_okM ztb zcls yr57 := y_okM_i (z_codeIn (ch := 7) (i := 50) (l := tables_1_7) rfl rfl) (z_w_ok (n := 1009) (by decide +kernel)) (by decide +kernel) ⟨by decide +kernel, by decide +kernel⟩ (z_w_ok (n := 7048) (by decide +kernel)) (z_w_ok (n := 7049) (by decide +kernel)) rfl rfl (by decide)
theorem yq_yr58_0 : (((y_cd yr58).drop 0).take 40).all (y_okE ztb znw zcls (ytb yw00) yr58) = true := by decide +kernel
theorem yq_yr58_1 : (((y_cd yr58).drop 40).take 40).all (y_okE ztb znw zcls (ytb yw00) yr58) = true := by decide +kernel
theorem yq_yr58_e2 : ((y_cd yr58).drop 80).all (y_okE ztb znw zcls (ytb yw00) yr58) = true := z_seg_end (by decide +kernel)
theorem yq_yr58_e1 : ((y_cd yr58).drop 40).all (y_okE ztb znw zcls (ytb yw00) yr58) = true := z_seg (a := 40) (k := 40) yq_yr58_1 yq_yr58_e2
theorem yq_yr58_e0 : ((y_cd yr58).drop 0).all (y_okE ztb znw zcls (ytb yw00) yr58) = true := z_seg (a := 0) (k := 40) yq_yr58_0 yq_yr58_e1
theorem yq_yr58 : (y_cd yr58).all (y_okE ztb znw zcls (ytb yw00) yr58) = true := z_seg0 yq_yr58_e0
theorem yo_yr58 : y_okM ztb zcls yr58 := y_okM_i (z_codeIn (ch := 7) (i := 229) (l := tables_1_7) rfl rfl) (z_w_ok (n := 1009) (by decide +kernel)) (by decide +kernel) ⟨by decide +kernel, by decide +kernel⟩ (z_w_ok (n := 7227) (by decide +kernel)) (z_w_ok (n := 7228) (by decide +kernel)) rfl rfl (by decide)
theorem yq_yr59 : (y_cd yr59).all (y_okE ztb znw zcls (ytb yw00) yr59) = true := by decide +kernel
theorem yo_yr59 : y_okM ztb zcls yr59 := y_okM_i (z_codeIn (ch := 6) (i := 7) (l := tables_1_6) rfl rfl) (z_w_ok (n := 1020) (by decide +kernel)) (by decide +kernel) ⟨by decide +kernel, by decide +kernel⟩ (z_w_ok (n := 6005) (by decide +kernel)) (z_w_ok (n := 6006) (by decide +kernel)) rfl rfl (by decide)
