theorem yq_yr74_0 : (((y_cd yr74).drop 0).take 40).all (y_okE ztb znw zcls (ytb yw00) yr74) = true := by decide +kernel
theorem yq_yr74_1 : (((y_cd yr74).drop 40).take 40).all (y_okE ztb znw zcls (ytb yw00) yr74) = true := by decide +kernel
theorem yq_yr74_e2 : ((y_cd yr74).drop 80).all (y_okE ztb znw zcls (ytb yw00) yr74) = true := z_seg_end (by decide +kernel)
theorem yq_yr74_e1 : ((y_cd yr74).drop 40).all (y_okE ztb znw zcls (ytb yw00) yr74) = true := z_seg (a := 40) (k := 40) yq_yr74_1 yq_yr74_e2
theorem yq_yr74_e0 : ((y_cd yr74).drop 0).all (y_okE ztb znw zcls (ytb yw00) yr74) = true := z_seg (a := 0) (k := 40) yq_yr74_0 yq_yr74_e1
theorem yq_yr74 : (y_cd yr74).all (y_okE ztb znw zcls (ytb yw00) yr74) = true := z_seg0 yq_yr74_e0
theorem yo_yr74 : y_okM ztb zcls yr74 := y_okM_i (z_codeIn (ch := 4) (i := 164) (l := tables_1_4) rfl rfl) (z_w_ok (n := 1004) (by decide +kernel)) (by decide +kernel) ⟨by decide +kernel, by decide +kernel⟩ (z_w_ok (n := 4163) (by decide +kernel)) (z_w_ok (n := 18) (by decide +kernel)) rfl rfl (by decide)
theorem yq_yr75_0 : (((y_cd yr75).drop 0).take 40).all (y_okE ztb znw zcls (ytb yw00) yr75) = true := by decide +kernel
theorem yq_yr75_1 : (((y_cd yr75).drop 40).take 40).all (y_okE ztb znw zcls (ytb yw00) yr75) = true := by decide +kernel
theorem yq_yr75_e2 : ((y_cd yr75).drop 80).all (y_okE ztb znw zcls (ytb yw00) yr75) = true := z_seg_end (by decide +kernel)
theorem yq_yr75_e1 : ((y_cd yr75).drop 40).all (y_okE ztb znw zcls (ytb yw00) yr75) = true := z_seg (a := 40) (k := 40) yq_yr75_1 yq_yr75_e2
theorem yq_yr75_e0 : ((y_cd yr75).drop 0).all (y_okE ztb znw zcls (ytb yw00) yr75) = true := z_seg (a := 0) (k := 40) yq_yr75_0 yq_yr75_e1
theorem yq_yr75 : (y_cd yr75).all (y_okE ztb znw zcls (ytb yw00) yr75) = true := z_seg0 yq_yr75_e0
theorem yo_yr75 : y_okM ztb zcls yr75 := y_okM_i (z_codeIn (ch := 4) (i := 164) (l := tables_1_4) rfl rfl) (z_w_ok (n := 1004) (by decide +kernel)) (by decide +kernel) ⟨by decide +kernel, by decide +kernel⟩ (z_w_ok (n := 4163) (by decide +kernel)) (z_w_ok (n := 18) (by decide +kernel)) rfl rfl (by decide)
theorem yq_yr76_0 : (((y_cd yr76).drop 0).take 40).all (y_okE ztb znw zcls (ytb yw00) yr76) = true := by decide +kernel
theorem yq_yr76_1 : (((y_cd yr76).drop 40).take 40).all (y_okE ztb znw zcls (ytb yw00) yr76) = true := by decide +kernel
theorem yq_yr76_e2 : ((y_cd yr76).drop 80).all (y_okE ztb znw zcls (ytb yw00) yr76) = true := z_seg_end (by decide +kernel)
theorem yq_yr76_e1 : ((y_cd yr76).drop 40).all (y_okE ztb znw zcls (ytb yw00) yr76) = true := z_seg (a := 40) (k := 40) yq_yr76_1 yq_yr76_e2
theorem yq_yr76_e0 : ((y_cd yr76).drop 0).all (y_okE ztb znw zcls (ytb yw00) yr76) = true := z_seg (a := 0) (k := 40) yq_yr76_0 yq_yr76_e1
theorem yq_yr76 : (y_cd yr76).all (y_okE ztb znw zcls (ytb yw00) yr76) = true := z_seg0 yq_yr76_e0
theorem yo_yr76 : y_okM ztb zcls yr76 := y_okM_i (z_codeIn (ch := 4) (i := 164) (l := tables_1_4) rfl rfl) (z_w_ok (n := 1004) (by decide +kernel)) (by decide +kernel) ⟨by decide +kernel, by decide +kernel⟩ (z_w_ok (n := 4163) (by decide +kernel)) (z_w_ok (n := 18) (by decide +kernel)) rfl rfl (by decide)
theorem yq_yr77 : (y_cd yr77).all (y_okE ztb znw zcls (ytb yw00) yr77) = true := by decide +kernel
theorem yo_yr77 : y_okM ztb zcls yr77 := y_okM_i (z_codeIn (ch := 4) (i := 164) (l := tables_1_4) rfl rfl) (z_w_ok (n := 1004) (by decide +kernel)) (by decide +kernel) ⟨by decide +kernel, by decide +kernel⟩ (z_w_ok (n := 4163) (by decide +kernel)) (z_w_ok (n := 18) (by decide +kernel)) rfl rfl (by decide)
theorem yq_yr78_0 : (((y_cd yr78).drop 0).take 40).all (y_okE ztb znw zcls (ytb yw00) yr78) = true := by decide +kernel
theorem yq_yr78_1 : (((y_cd yr78).drop 40).take 40).all (y_okE ztb znw zcls (ytb yw00) yr78) = true := by decide +kernel
theorem yq_yr78_e2 : ((y_cd yr78).drop 80).all (y_okE ztb znw zcls (ytb yw00) yr78) = true := z_seg_end (by decide +kernel)
theorem yq_yr78_e1 : ((y_cd yr78).drop 40).all (y_okE ztb znw zcls (ytb yw00) yr78) = true := z_seg (a := 40) (k := 40) yq_yr78_1 yq_yr78_e2
theorem yq_yr78_e0 : ((y_cd yr78).drop 0).all (y_okE ztb znw zcls (ytb yw00) yr78) = true := z_seg (a := 0) (k := 40) yq_yr78_0 yq_yr78_e1
theorem yq_yr78 : (y_cd yr78).all (y_okE ztb znw zcls (ytb yw00) yr78) = true := z_seg0 yq_yr78_e0
theorem yo_yr78 : y_okM ztb zcls yr78 := y_okM_i (z_codeIn (ch := 5) (i := 25) (l := tables_1_5) rfl rfl) (z_w_ok (n := 1004) (by decide +kernel)) (by decide +kernel) ⟨by decide +kernel, by decide +kernel⟩ (z_w_ok (n := 5023) (by decide +kernel)) (z_w_ok (n := 5024) (by decide +kernel)) rfl rfl (by decide)
theorem yq_yr79 : (y_cd yr79).all (y_okE ztb znw zcls (ytb yw00) yr79) = true := by decide +kernel
theorem yo_yr79 : y_okM ztb zcls yr79 := y_okM_i (z_codeIn (ch := 4) (i := 160) (l := tables_1_4) rfl rfl) (z_w_ok (n := 1004) (by decide +kernel)) (by decide +kernel) ⟨by decide +kernel, by decide +kernel⟩ (z_w_ok (n := 4158) (by decide +kernel)) (z_w_ok (n := 4159) (by decide +kernel)) rfl rfl (by decide)
theorem yq_yr80_0 : (((y_cd yr80).drop 0).take 40).all (y_okE ztb znw zcls (ytb yw00) yr80) = true := by decide +kernel
theorem yq_yr80_1 : (((y_cd yr80).drop 40).take 40).all (y_okE ztb znw zcls (ytb yw00) yr80) = true := by decide +kernel
theorem yq_yr80_2 : (((y_cd yr80).drop 80).take 40).all (y_okE ztb znw zcls (ytb yw00) yr80) = true := by decide +kernel
theorem yq_yr80_e3 : ((y_cd yr80).drop 120).all (y_okE ztb znw zcls (ytb yw00) yr80) = true := z_seg_end (by decide +kernel)
theorem yq_yr80_e2 : ((y_cd yr80).drop 80).all (y_okE ztb znw zcls (ytb yw00) yr80) = true := z_seg (a := 80) (k := 40) yq_yr80_2 yq_yr80_e3
theorem yq_yr80_e1 : ((y_cd yr80).drop 40).all (y_okE ztb znw zcls (ytb yw00) yr80) = true := z_seg (a := 40) (k := 40) yq_yr80_1 yq_yr80_e2
theorem yq_yr80_e0 : ((y_cd yr80).drop 0).all (y_okE ztb znw zcls (ytb yw00) yr80) = true := z_seg (a := 0) (k := 40) yq_yr80_0 yq_yr80_e1
theorem yq_yr80 : (y_cd yr80).all (y_okE ztb znw zcls (ytb yw00) yr80) = true := z_seg0 yq_yr80_e0
theorem yo_yr80 : y_okM ztb zcls yr80 := y_okM_i (z_codeIn (ch := 4) (i := 185) (l := tables_1_4) rfl rfl) (z_w_ok (n := 1004) (by decide +kernel)) (by decide +kernel) ⟨by decide +kernel, by decide +kernel⟩ (z_w_ok (n := 4184) (by decide +kernel)) (z_w_ok (n := 23) (by decide +kernel)) rfl rfl (by decide)
theorem yq_yr81_0 : (((y_cd yr81).drop 0).take 40).all (y_okE ztb znw zcls (ytb yw00) yr81) = true := by decide +kernel
theorem yq_yr81_1 : (((y_cd yr81).drop 40).take 40).all (y_okE ztb znw zcls (ytb yw00) yr81) = true := by decide +kernel
theorem yq_yr81_2 : (((y_cd yr81).drop 80).take 40).all (y_okE ztb znw zcls (ytb yw00) yr81) = true := by decide +kernel
theorem yq_yr81_e3 : ((y_cd yr81).drop 120).all (y_okE ztb znw zcls (ytb yw00) yr81) = true := z_seg_end (by decide +kernel)
theorem yq_yr81_e2 : ((y_cd yr81).drop 80).all (y_okE ztb znw zcls (ytb yw00) yr81) = true := z_seg (a := 80) (k := 40) yq_yr81_2 yq_yr81_e3
theorem yq_yr81_e1 : ((y_cd yr81).drop 40).all (y_okE ztb znw zcls (ytb yw00) yr81) = true := z_seg (a := 40) (k := 40) yq_yr81_1 yq_yr81_e2
theorem yq_yr81_e0 : ((y_cd yr81).drop 0).all (y_okE ztb znw zcls (ytb yw00) yr81) = true := z_seg (a := 0) (k := 40) yq_yr81_0 yq_yr81_e1
theorem yq_yr81 : (y_cd yr81).all (y_okE ztb znw zcls (ytb yw00) yr81) = true := z_seg0 yq_yr81_e0
theorem yo_yr81 : y_okM ztb zcls yr81 := y_okM_i (z_codeIn (ch := 4) (i := 185) (l := tables_1_4) rfl rfl) (z_w_ok (n := 1004) (by decide +kernel)) (by decide +kernel) ⟨by decide +kernel, by decide +kernel⟩ (z_w_ok (n := 4184) (by decide +kernel)) (z_w_ok (n := 23) (by decide +kernel)) rfl rfl (by decide)
theorem yq_yr82_0 : (((y_cd yr82).drop 0).take 40).all (y_okE ztb znw zcls (ytb yw00) yr82) = true := by decide +kernel
theorem yq_yr82_1 : (((y_cd yr82).drop 40).take 40).all (y_okE ztb znw zcls (ytb yw00) yr82) = true := by decide +kernel
theorem yq_yr82_2 : (((y_cd yr82).drop 80).take 40).all (y_okE ztb znw zcls (ytb yw00) yr82) = true := by decide +kernel
theorem yq_yr82_e3 : ((y_cd yr82).drop 120).all (y_okE ztb znw zcls (ytb yw00) yr82) = true := z_seg_end (by decide +kernel)
theorem yq_yr82_e2 : ((y_cd yr82).drop 80).all (y_okE ztb znw zcls (ytb yw00) yr82) = true := z_seg (a := 80) (k := 40) yq_yr82_2 yq_yr82_e3
theorem yq_yr82_e1 : ((y_cd yr82).drop 40).all (y_okE ztb znw zcls (ytb yw00) yr82) = true := z_seg (a := 40) (k := 40) yq_yr82_1 yq_yr82_e2
theorem yq_yr82_e0 : ((y_cd yr82).drop 0).all (y_okE ztb znw zcls (ytb yw00) yr82) = true := z_seg (a := 0) (k := 40) yq_yr82_0 yq_yr82_e1
theorem yq_yr82 : (y_cd yr82).all (y_okE ztb znw zcls (ytb yw00) yr82) = true := z_seg0 yq_yr82_e0
theorem yo_yr82 : y_okM ztb zcls yr82 := y_okM_i (z_codeIn (ch := 4) (i := 185) (l := tables_1_4) rfl rfl) (z_w_ok (n := 1004) (by decide +kernel)) (by decide +kernel) ⟨by decide +kernel, by decide +kernel⟩ (z_w_ok (n := 4184) (by decide +kernel)) (z_w_ok (n := 23) (by decide +kernel)) rfl rfl (by decide)
theorem yq_yr83_0 : (((y_cd yr83).drop 0).take 40).all (y_okE ztb znw zcls (ytb yw00) yr83) = true := by decide +kernel
theorem yq_yr83_1 : (((y_cd yr83).drop 40).take 40).all (y_okE ztb znw zcls (ytb yw00) yr83) = true := by decide +kernel
theorem yq_yr83_2 : (((y_cd yr83).drop 80).take 40).all (y_okE ztb znw zcls (ytb yw00) yr83) = true := by decide +kernel
theorem yq_yr83_e3 : ((y_cd yr83).drop 120).all (y_okE ztb znw zcls (ytb yw00) yr83) = true := z_seg_end (by decide +kernel)
theorem yq_yr83_e2 : ((y_cd yr83).drop 80).all (y_okE ztb znw zcls (ytb yw00) yr83) = true := z_seg (a := 80) (k := 40) yq_yr83_2 yq_yr83_e3
theorem yq_yr83_e1 : ((y_cd yr83).drop 40).all (y_okE ztb znw zcls (ytb yw00) yr83) = true := z_seg (a := 40) (k := 40) yq_yr83_1 yq_yr83_e2
theorem yq_yr83_e0 : ((y_cd yr83).drop 0).all (y_okE ztb znw zcls (ytb yw00) yr83) = true := z_seg (a := 0) (k := 40) yq_yr83_0 yq_yr83_e1
theorem yq_yr83 : (y_cd yr83).all (y_okE ztb znw zcls (ytb yw00) yr83) = true := z_seg0 yq_yr83_e0
theorem yo_yr83 : y_okM ztb zcls yr83 := y_okM_i (z_codeIn (ch := 4) (i := 185) (l := tables_1_4) rfl rfl) (z_w_ok (n := 1004) (by decide +kernel)) (by decide +kernel) ⟨by decide +kernel, by decide +kernel⟩ (z_w_ok (n := 4184) (by decide +kernel)) (z_w_ok (n := 23) (by decide +kernel)) rfl rfl (by decide)
theorem yq_yr84_0 : (((y_cd yr84).drop 0).take 40).all (y_okE ztb znw zcls (ytb yw00) yr84) = true := by decide +kernel
theorem yq_yr84_1 : (((y_cd yr84).drop 40).take 40).all (y_okE ztb znw zcls (ytb yw00) yr84) = true := by decide +kernel
theorem yq_yr84_2 : (((y_cd yr84).drop 80).take 40).all (y_okE ztb znw zcls (ytb yw00) yr84) = true := by decide +kernel
theorem yq_yr84_e3 : ((y_cd yr84).drop 120).all (y_okE ztb znw zcls (ytb yw00) yr84) = true := z_seg_end (by decide +kernel)
theorem yq_yr84_e2 : ((y_cd yr84).drop 80).all (y_okE ztb znw zcls (ytb yw00) yr84) = true := z_seg (a := 80) (k := 40) yq_yr84_2 yq_yr84_e3
theorem yq_yr84_e1 : ((y_cd yr84).drop 40).all (y_okE ztb znw zcls (ytb yw00) yr84) = true := z_seg (a := 40) (k := 40) yq_yr84_1 yq_yr84_e2
theorem yq_yr84_e0 : ((y_cd yr84).drop 0).all (y_okE ztb znw zcls (ytb yw00) yr84) = true := z_seg (a := 0) (k := 40) yq_yr84_0 yq_yr84_e1
theorem yq_yr84 : (y_cd yr84).all (y_okE ztb znw zcls (ytb yw00) yr84) = true := z_seg0 yq_yr84_e0
theorem yo_yr84 : y_okM ztb zcls yr84 := y_okM_i (z_codeIn (ch := 4) (i := 185) (l := tables_1_4) rfl rfl) (z_w_ok (n := 1004) (by decide +kernel)) (by decide +kernel) ⟨by decide +kernel, by decide +kernel⟩ (z_w_ok (n := 4184) (by decide +kernel)) (z_w_ok (n := 23) (by decide +kernel)) rfl rfl (by decide)
theorem yq_yr85_0 : (((y_cd yr85).drop 0).take 40).all (y_okE ztb znw zcls (ytb yw00) yr85) = true := by decide +kernel
theorem yq_yr85_1 : (((y_cd yr85).drop 40).take 40).all (y_okE ztb znw zcls (ytb yw00) yr85) = true := by decide +kernel
theorem yq_yr85_2 : (((y_cd yr85).drop 80).take 40).all (y_okE ztb znw zcls (ytb yw00) yr85) = true := by decide +kernel
theorem yq_yr85_e3 : ((y_cd yr85).drop 120).all (y_okE ztb znw zcls (ytb yw00) yr85) = true := z_seg_end (by decide +kernel)
theorem yq_yr85_e2 : ((y_cd yr85).drop 80).all (y_okE ztb znw zcls (ytb yw00) yr85) = true := z_seg (a := 80) (k := 40) yq_yr85_2 yq_yr85_e3
theorem yq_yr85_e1 : ((y_cd yr85).drop 40).all (y_okE ztb znw zcls (ytb yw00) yr85) = true := z_seg (a := 40) (k := 40) yq_yr85_1 yq_yr85_e2
theorem yq_yr85_e0 : ((y_cd yr85).drop 0).all (y_okE ztb znw zcls (ytb yw00) yr85) = true := z_seg (a := 0) (k := 40) yq_yr85_0 yq_yr85_e1
theorem yq_yr85 : (y_cd yr85).all (y_okE ztb znw zcls (ytb yw00) yr85) = true := z_seg0 yq_yr85_e0
theorem yo_yr85 : y_okM ztb zcls yr85 := y_okM_i (z_codeIn (ch := 4) (i := 185) (l := tables_1_4) rfl rfl) (z_w_ok (n := 1004) (by decide +kernel)) (by decide +kernel) ⟨by decide +kernel, by decide +kernel⟩ (z_w_ok (n := 4184) (by decide +kernel)) (z_w_ok (n := 23) (by decide +kernel)) rfl rfl (by decide)
theorem yq_yr86_0 : (((y_cd yr86).drop 0).take 40).all (y_okE ztb znw zcls (ytb yw00) yr86) = true := by decide +kernel
theorem yq_yr86_1 : (((y_cd yr86).drop 40).take 40).all (y_okE ztb znw zcls (ytb yw00) yr86) = true := by decide +kernel
theorem yq_yr86_2 : (((y_cd yr86).drop 80).take 40).all (y_okE ztb znw zcls (ytb yw00) yr86) = true := by decide +kernel
theorem yq_yr86_e3 : ((y_cd yr86).drop 120).all (y_okE ztb znw zcls (ytb yw00) yr86) = true := z_seg_end (by decide +kernel)
theorem yq_yr86_e2 : ((y_cd yr86).drop 80).all (y_okE ztb znw zcls (ytb yw00) yr86) = true := z_seg (a := 80) (k := 40) yq_yr86_2 yq_yr86_e3
theorem yq_yr86_e1 : ((y_cd yr86).drop 40).all (y_okE ztb znw zcls (ytb yw00) yr86) = true := z_seg (a := 40) (k := 40) yq_yr86_1 yq_yr86_e2
theorem yq_yr86_e0 : ((y_cd yr86).drop 0).all (y_okE ztb znw zcls (ytb yw00) yr86) = true := z_seg (a := 0) (k := 40) yq_yr86_0 yq_yr86_e1
theorem yq_yr86 : (y_cd yr86).all (y_okE ztb znw zcls (ytb yw00) yr86) = true := z_seg0 yq_yr86_e0
theorem yo_yr86 : y_okM ztb zcls yr86 := y_okM_i (z_codeIn (ch := 4) (i := 185) (l := tables_1_4) rfl rfl) (z_w_ok (n := 1004) (by decide +kernel)) (by decide +kernel) ⟨by decide +kernel, by decide +kernel⟩ (z_w_ok (n := 4184) (by decide +kernel)) (z_w_ok (n := 23) (by decide +kernel)) rfl rfl (by decide)
theorem yq_yr87_0 : (((y_cd yr87).drop 0).take 40).all (y_okE ztb znw zcls (ytb yw00) yr87) = true := by decide +kernel
theorem yq_yr87_1 : (((y_cd yr87).drop 40).take 40).all (y_okE ztb znw zcls (ytb yw00) yr87) = true := by decide +kernel
theorem yq_yr87_2 : (((y_cd yr87).drop 80).take 40).all (y_okE ztb znw zcls (ytb yw00) yr87) = true := by decide +kernel
theorem yq_yr87_e3 : ((y_cd yr87).drop 120).all (y_okE ztb znw zcls (ytb yw00) yr87) = true := z_seg_end (by decide +kernel)
theorem yq_yr87_e2 : ((y_cd yr87).drop 80).all (y_okE ztb znw zcls (ytb yw00) yr87) = true := z_seg (a := 80) (k := 40) yq_yr87_2 yq_yr87_e3
theorem yq_yr87_e1 : ((y_cd yr87).drop 40).all (y_okE ztb znw zcls (ytb yw00) yr87) = true := z_seg (a := 40) (k := 40) yq_yr87_1 yq_yr87_e2
theorem yq_yr87_e0 : ((y_cd yr87).drop 0).all (y_okE ztb znw zcls (ytb yw00) yr87) = true := z_seg (a := 0) (k := 40) yq_yr87_0 yq_yr87_e1
theorem yq_yr87 : (y_cd yr87).all (y_okE ztb znw zcls (ytb yw00) yr87) = true := z_seg0 yq_yr87_e0
theorem yo_yr87 : y_okM ztb zcls yr87 := y_okM_i (z_codeIn (ch := 4) (i := 185) (l := tables_1_4) rfl rfl) (z_w_ok (n := 1004) (by decide +kernel)) (by decide +kernel) ⟨by decide +kernel, by decide +kernel⟩ (z_w_ok (n := 4184) (by decide +kernel)) (z_w_ok (n := 23) (by decide +kernel)) rfl rfl (by decide)
theorem yq_yr88_0 : (((y_cd yr88).drop 0).take 40).all (y_okE ztb znw zcls (ytb yw00) yr88) = true := by decide +kernel
theorem yq_yr88_1 : (((y_cd yr88).drop 40).take 40).all (y_okE ztb znw zcls (ytb yw00) yr88) = true := by decide +kernel
theorem yq_yr88_2 : (((y_cd yr88).drop 80).take 40).all (y_okE ztb znw zcls (ytb yw00) yr88) = true := by decide +kernel
theorem yq_yr88_3 : (((y_cd yr88).drop 120).take 40).all (y_okE ztb znw zcls (ytb yw00) yr88) = true := by decide +kernel
theorem yq_yr88_e4 : ((y_cd yr88).drop 160).all (y_okE ztb znw zcls (ytb yw00) yr88) = true := z_seg_end (by decide +kernel)
theorem yq_yr88_e3 : ((y_cd yr88).drop 120).all (y_okE ztb znw zcls (ytb yw00) yr88) = true := z_seg (a := 120) (k := 40) yq_yr88_3 yq_yr88_e4
theorem yq_yr88_e2 : ((y_cd yr88).drop 80).all (y_okE ztb znw zcls (ytb yw00) yr88) = true := z_seg (a := 80) (k := 40) yq_yr88_2 yq_yr88_e3
theorem yq_yr88_e1 : ((y_cd yr88).drop 40).all (y_okE ztb znw zcls (ytb yw00) yr88) = true := z_seg (a := 40) (k := 40) yq_yr88_1 yq_yr88_e2
theorem yq_yr88_e0 : ((y_cd yr88).drop 0).all (y_okE ztb znw zcls (ytb yw00) yr88) = true := z_seg (a := 0) (k := 40) yq_yr88_0 yq_yr88_e1
theorem yq_yr88 : (y_cd yr88).all (y_okE ztb znw zcls (ytb yw00) yr88) = true := z_seg0 yq_yr88_e0
theorem yo_yr88 : y_okM ztb zcls yr88 := y_okM_i (z_codeIn (ch := 4) (i := 181) (l := tables_1_4) rfl rfl) (z_w_ok (n := 1004) (by decide +kernel)) (by decide +kernel) ⟨by decide +kernel, by decide +kernel⟩ (z_w_ok (n := 4180) (by decide +kernel)) (z_w_ok (n := 22) (by decide +kernel)) rfl rfl (by decide)
theorem yq_yr89_0 : (((y_cd yr89).drop 0).take 40).all (y_okE ztb znw zcls (ytb yw00) yr89) = true := by decide +kernel
theorem yq_yr89_1 : (((y_cd yr89).drop 40).take 40).all (y_okE ztb znw zcls (ytb yw00) yr89) = true := by decide +kernel
theorem yq_yr89_2 : (((y_cd yr89).drop 80).take 40).all (y_okE ztb znw zcls (ytb yw00) yr89) = true := by decide +kernel
theorem yq_yr89_3 : (((y_cd yr89).drop 120).take 40).all (y_okE ztb znw zcls (ytb yw00) yr89) = true := by decide +kernel
theorem yq_yr89_e4 : ((y_cd yr89).drop 160).all (y_okE ztb znw zcls (ytb yw00) yr89) = true := z_seg_end (by decide +kernel)
theorem yq_yr89_e3 : ((y_cd yr89).drop 120).all (y_okE ztb znw zcls (ytb yw00) yr89) = true := z_seg (a := 120) (k := 40) yq_yr89_3 yq_yr89_e4
theorem yq_yr89_e2 : ((y_cd yr89).drop 80).all (y_okE ztb znw zcls (ytb yw00) yr89) = true := z_seg (a := 80) (k := 40) yq_yr89_2 yq_yr89_e3
theorem yq_yr89_e1 : ((y_cd yr89).drop 40).all (y_okE ztb znw zcls (ytb yw00) yr89) = true := z_seg (a := 40) (k := 40) yq_yr89_1 yq_yr89_e2
theorem yq_yr89_e0 : ((y_cd yr89).drop 0).all (y_okE ztb znw zcls (ytb yw00) yr89) = true := z_seg (a := 0) (k := 40) yq_yr89_0 yq_yr89_e1
theorem yq_yr89 : (y_cd yr89).all (y_okE ztb znw zcls (ytb yw00) yr89) = true := z_seg0 yq_yr89_e0
theorem yo_yr89 : y_okM ztb zcls yr89 := y_okM_i (z_codeIn (ch := 4) (i := 181) (l := tables_1_4) rfl rfl) (z_w_ok (n := 1004) (by decide +kernel)) (by decide +kernel) ⟨by decide +kernel, by decide +kernel⟩ (z_w_ok (n := 4180) (by decide +kernel)) (z_w_ok (n := 22) (by decide +kernel)) rfl rfl (by decide)
theorem yq_yr90_0 : (((y_cd yr90).drop 0).take 40).all (y_okE ztb znw zcls (ytb yw00) yr90) = true := by decide +kernel
theorem yq_yr90_1 : (((y_cd yr90).drop 40).take 40).all (y_okE ztb znw zcls (ytb yw00) yr90) = true := by decide +kernel
theorem yq_yr90_2 : (((y_cd yr90).drop 80).take 40).all (y_okE ztb znw zcls (ytb yw00) yr90) = true := by decide +kernel
theorem yq_yr90_3 : (((y_cd yr90).drop 120).take 40).all (y_okE ztb znw zcls (ytb yw00) yr90) = true := by decide +kernel
theorem yq_yr90_e4 : ((y_cd yr90).drop 160).all (y_okE ztb znw zcls (ytb yw00) yr90) = true := z_seg_end (by decide +kernel)
theorem yq_yr90_e3 : ((y_cd yr90).drop 120).all (y_okE ztb znw zcls (ytb yw00) yr90) = true := z_seg (a := 120) (k := 40) yq_yr90_3 yq_yr90_e4
theorem yq_yr90_e2 : ((y_cd yr90).drop 80).all (y_okE ztb znw zcls (ytb yw00) yr90) = true := z_seg (a := 80) (k := 40) yq_yr90_2 yq_yr90_e3
theorem yq_yr90_e1 : ((y_cd yr90).drop 40).all (y_okE ztb znw zcls (ytb yw00) yr90) = true := z_seg (a := 40) (k := 40) yq_yr90_1 yq_yr90_e2
theorem yq_yr90_e0 : ((y_cd yr90).drop 0).all (y_okE ztb znw zcls (ytb yw00) yr90) = true := z_seg (a := 0) (k := 40) yq_yr90_0 yq_yr90_e1
theorem yq_yr90 : (y_cd yr90).all (y_okE ztb znw zcls (ytb yw00) yr90) = true := z_seg0 yq_yr90_e0
theorem yo_yr90 : y_okM ztb zcls yr90 := y_okM_i (z_codeIn (ch := 4) (i := 181) (l := tables_1_4) rfl rfl) (z_w_ok (n := 1004) (by decide +kernel)) (by decide +kernel) ⟨by decide +kernel, by decide +kernel⟩ (z_w_ok (n := 4180) (by decide +kernel)) (z_w_ok (n := 22) (by decide +kernel)) rfl rfl (by decide)
theorem yq_yr91_0 : (((y_cd yr91).drop 0).take 40).all (y_okE ztb znw zcls (ytb yw00) yr91) = true := by decide +kernel
theorem yq_yr91_1 : (((y_cd yr91).drop 40).take 40).all (y_okE ztb znw zcls (ytb yw00) yr91) = true := by decide +kernel
theorem yq_yr91_2 : (((y_cd yr91).drop 80).take 40).all (y_okE ztb znw zcls (ytb yw00) yr91) = true := by decide +kernel
theorem yq_yr91_3 : (((y_cd yr91).drop 120).take 40).all (y_okE ztb znw zcls (ytb yw00) yr91) = true := by decide +kernel
theorem yq_yr91_e4 : ((y_cd yr91).drop 160).all (y_okE ztb znw zcls (ytb yw00) yr91) = true := z_seg_end (by decide +kernel)
theorem yq_yr91_e3 : ((y_cd yr91).drop 120).all (y_okE ztb znw zcls (ytb yw00) yr91) = true := z_seg (a := 120) (k := 40) yq_yr91_3 yq_yr91_e4
theorem yq_yr91_e2 : ((y_cd yr91).drop 80).all (y_okE ztb znw zcls (ytb yw00) yr91) = true := z_seg (a := 80) (k := 40) yq_yr91_2 yq_yr91_e3
theorem yq_yr91_e1 : ((y_cd yr91).drop 40).all (y_okE ztb znw zcls (ytb yw00) yr91) = true := z_seg (a := 40) (k := 40) yq_yr91_1 yq_yr91_e2
theorem yq_yr91_e0 : ((y_cd yr91).drop 0).all (y_okE ztb znw zcls (ytb yw00) yr91) = true := z_seg (a := 0) (k := 40) yq_yr91_0 yq_yr91_e1
theorem yq_yr91 : (y_cd yr91).all (y_okE ztb znw zcls (ytb yw00) yr91) = true := z_seg0 yq_yr91_e0
theorem yo_yr91 : y_okM ztb zcls yr91 := y_okM_i (z_codeIn (ch := 4) (i := 181) (l := tables_1_4) rfl rfl) (z_w_ok (n := 1004) (by decide +kernel)) (by decide +kernel) ⟨by decide +kernel, by decide +kernel⟩ (z_w_ok (n := 4180) (by decide +kernel)) (z_w_ok (n := 22) (by decide +kernel)) rfl rfl (by decide)
theorem yq_yr92_0 : (((y_cd yr92).drop 0).take 40).all (y_okE ztb znw zcls (ytb yw00) yr92) = true := by decide +kernel
theorem yq_yr92_1 : (((y_cd yr92).drop 40).take 40).all (y_okE ztb znw zcls (ytb yw00) yr92) = true := by decide +kernel
theorem yq_yr92_2 : (((y_cd yr92).drop 80).take 40).all (y_okE ztb znw zcls (ytb yw00) yr92) = true := by decide +kernel
theorem yq_yr92_3 : (((y_cd yr92).drop 120).take 40).all (y_okE ztb znw zcls (ytb yw00) yr92) = true := by decide +kernel
theorem yq_yr92_e4 : ((y_cd yr92).drop 160).all (y_okE ztb znw zcls (ytb yw00) yr92) = true := z_seg_end (by decide +kernel)
theorem yq_yr92_e3 : ((y_cd yr92).drop 120).all (y_okE ztb znw zcls (ytb yw00) yr92) = true := z_seg (a := 120) (k := 40) yq_yr92_3 yq_yr92_e4
theorem yq_yr92_e2 : ((y_cd yr92).drop 80).all (y_okE ztb znw zcls (ytb yw00) yr92) = true := z_seg (a := 80) (k := 40) yq_yr92_2 yq_yr92_e3
theorem yq_yr92_e1 : ((y_cd yr92).drop 40).all (y_okE ztb znw zcls (ytb yw00) yr92) = true := z_seg (a := 40) (k := 40) yq_yr92_1 yq_yr92_e2
theorem yq_yr92_e0 : ((y_cd yr92).drop 0).all (y_okE ztb znw zcls (ytb yw00) yr92) = true := z_seg (a := 0) (k := 40) yq_yr92_0 yq_yr92_e1
theorem yq_yr92 : (y_cd yr92).all (y_okE ztb znw zcls (ytb yw00) yr92) = true := z_seg0 yq_yr92_e0
theorem yo_yr92 : y_okM ztb zcls yr92 := y_okM_i (z_codeIn (ch := 4) (i := 181) (l := tables_1_4) rfl rfl) (z_w_ok (n := 1004) (by decide +kernel)) (by decide +kernel) ⟨by decide +kernel, by decide +kernel⟩ (z_w_ok (n := 4180) (by decide +kernel)) (z_w_ok (n := 22) (by decide +kernel)) rfl rfl (by decide)
