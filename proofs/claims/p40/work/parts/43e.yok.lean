theorem yq_yr60_0 : (((y_cd yr60).drop 0).take 40).all (y_okE ztb znw zcls (ytb yw00) yr60) = true := by decide +kernel
theorem yq_yr60_1 : (((y_cd yr60).drop 40).take 40).all (y_okE ztb znw zcls (ytb yw00) yr60) = true := by decide +kernel
theorem yq_yr60_e2 : ((y_cd yr60).drop 80).all (y_okE ztb znw zcls (ytb yw00) yr60) = true := z_seg_end (by decide +kernel)
theorem yq_yr60_e1 : ((y_cd yr60).drop 40).all (y_okE ztb znw zcls (ytb yw00) yr60) = true := z_seg (a := 40) (k := 40) yq_yr60_1 yq_yr60_e2
theorem yq_yr60_e0 : ((y_cd yr60).drop 0).all (y_okE ztb znw zcls (ytb yw00) yr60) = true := z_seg (a := 0) (k := 40) yq_yr60_0 yq_yr60_e1
theorem yq_yr60 : (y_cd yr60).all (y_okE ztb znw zcls (ytb yw00) yr60) = true := z_seg0 yq_yr60_e0
theorem yo_yr60 : y_okM ztb zcls yr60 := y_okM_i (z_codeIn (ch := 6) (i := 107) (l := tables_1_6) rfl rfl) (z_w_ok (n := 1020) (by decide +kernel)) (by decide +kernel) ⟨by decide +kernel, by decide +kernel⟩ (z_w_ok (n := 6105) (by decide +kernel)) (z_w_ok (n := 6106) (by decide +kernel)) rfl rfl (by decide)
theorem yq_yr61_0 : (((y_cd yr61).drop 0).take 40).all (y_okE ztb znw zcls (ytb yw00) yr61) = true := by decide +kernel
theorem yq_yr61_1 : (((y_cd yr61).drop 40).take 40).all (y_okE ztb znw zcls (ytb yw00) yr61) = true := by decide +kernel
theorem yq_yr61_e2 : ((y_cd yr61).drop 80).all (y_okE ztb znw zcls (ytb yw00) yr61) = true := z_seg_end (by decide +kernel)
theorem yq_yr61_e1 : ((y_cd yr61).drop 40).all (y_okE ztb znw zcls (ytb yw00) yr61) = true := z_seg (a := 40) (k := 40) yq_yr61_1 yq_yr61_e2
theorem yq_yr61_e0 : ((y_cd yr61).drop 0).all (y_okE ztb znw zcls (ytb yw00) yr61) = true := z_seg (a := 0) (k := 40) yq_yr61_0 yq_yr61_e1
theorem yq_yr61 : (y_cd yr61).all (y_okE ztb znw zcls (ytb yw00) yr61) = true := z_seg0 yq_yr61_e0
theorem yo_yr61 : y_okM ztb zcls yr61 := y_okM_i (z_codeIn (ch := 6) (i := 193) (l := tables_1_6) rfl rfl) (z_w_ok (n := 1020) (by decide +kernel)) (by decide +kernel) ⟨by decide +kernel, by decide +kernel⟩ (z_w_ok (n := 6191) (by decide +kernel)) (z_w_ok (n := 6192) (by decide +kernel)) rfl rfl (by decide)
theorem yq_yr62 : (y_cd yr62).all (y_okE ztb znw zcls (ytb yw00) yr62) = true := by decide +kernel
theorem yo_yr62 : y_okM ztb zcls yr62 := y_okM_i (z_codeIn (ch := 3) (i := 103) (l := tables_1_3) rfl rfl) (z_w_ok (n := 1006) (by decide +kernel)) (by decide +kernel) ⟨by decide +kernel, by decide +kernel⟩ (z_w_ok (n := 3101) (by decide +kernel)) (z_w_ok (n := 3102) (by decide +kernel)) rfl rfl (by decide)
theorem yq_yr63 : (y_cd yr63).all (y_okE ztb znw zcls (ytb yw00) yr63) = true := by decide +kernel
theorem yo_yr63 : y_okM ztb zcls yr63 := y_okM_i (z_codeIn (ch := 3) (i := 107) (l := tables_1_3) rfl rfl) (z_w_ok (n := 1006) (by decide +kernel)) (by decide +kernel) ⟨by decide +kernel, by decide +kernel⟩ (z_w_ok (n := 3106) (by decide +kernel)) (z_w_ok (n := 1) (by decide +kernel)) rfl rfl (by decide)
theorem yq_yr64_0 : (((y_cd yr64).drop 0).take 40).all (y_okE ztb znw zcls (ytb yw00) yr64) = true := by decide +kernel
theorem yq_yr64_1 : (((y_cd yr64).drop 40).take 40).all (y_okE ztb znw zcls (ytb yw00) yr64) = true := by decide +kernel
theorem yq_yr64_e2 : ((y_cd yr64).drop 80).all (y_okE ztb znw zcls (ytb yw00) yr64) = true := z_seg_end (by decide +kernel)
theorem yq_yr64_e1 : ((y_cd yr64).drop 40).all (y_okE ztb znw zcls (ytb yw00) yr64) = true := z_seg (a := 40) (k := 40) yq_yr64_1 yq_yr64_e2
theorem yq_yr64_e0 : ((y_cd yr64).drop 0).all (y_okE ztb znw zcls (ytb yw00) yr64) = true := z_seg (a := 0) (k := 40) yq_yr64_0 yq_yr64_e1
theorem yq_yr64 : (y_cd yr64).all (y_okE ztb znw zcls (ytb yw00) yr64) = true := z_seg0 yq_yr64_e0
theorem yo_yr64 : y_okM ztb zcls yr64 := y_okM_i (z_codeIn (ch := 7) (i := 66) (l := tables_1_7) rfl rfl) (z_w_ok (n := 1006) (by decide +kernel)) (by decide +kernel) ⟨by decide +kernel, by decide +kernel⟩ (z_w_ok (n := 7064) (by decide +kernel)) (z_w_ok (n := 7065) (by decide +kernel)) rfl rfl (by decide)
theorem yq_yr65 : (y_cd yr65).all (y_okE ztb znw zcls (ytb yw00) yr65) = true := by decide +kernel
theorem yo_yr65 : y_okM ztb zcls yr65 := y_okM_i (z_codeIn (ch := 5) (i := 115) (l := tables_1_5) rfl rfl) (z_w_ok (n := 1006) (by decide +kernel)) (by decide +kernel) ⟨by decide +kernel, by decide +kernel⟩ (z_w_ok (n := 5114) (by decide +kernel)) (z_w_ok (n := 39) (by decide +kernel)) rfl rfl (by decide)
theorem yq_yr66_0 : (((y_cd yr66).drop 0).take 40).all (y_okE ztb znw zcls (ytb yw00) yr66) = true := by decide +kernel
theorem yq_yr66_1 : (((y_cd yr66).drop 40).take 40).all (y_okE ztb znw zcls (ytb yw00) yr66) = true := by decide +kernel
theorem yq_yr66_e2 : ((y_cd yr66).drop 80).all (y_okE ztb znw zcls (ytb yw00) yr66) = true := z_seg_end (by decide +kernel)
theorem yq_yr66_e1 : ((y_cd yr66).drop 40).all (y_okE ztb znw zcls (ytb yw00) yr66) = true := z_seg (a := 40) (k := 40) yq_yr66_1 yq_yr66_e2
theorem yq_yr66_e0 : ((y_cd yr66).drop 0).all (y_okE ztb znw zcls (ytb yw00) yr66) = true := z_seg (a := 0) (k := 40) yq_yr66_0 yq_yr66_e1
theorem yq_yr66 : (y_cd yr66).all (y_okE ztb znw zcls (ytb yw00) yr66) = true := z_seg0 yq_yr66_e0
theorem yo_yr66 : y_okM ztb zcls yr66 := y_okM_i (z_codeIn (ch := 7) (i := 79) (l := tables_1_7) rfl rfl) (z_w_ok (n := 1006) (by decide +kernel)) (by decide +kernel) ⟨by decide +kernel, by decide +kernel⟩ (z_w_ok (n := 7078) (by decide +kernel)) (z_w_ok (n := 68) (by decide +kernel)) rfl rfl (by decide)
theorem yq_yr67 : (y_cd yr67).all (y_okE ztb znw zcls (ytb yw00) yr67) = true := by decide +kernel
theorem yo_yr67 : y_okM ztb zcls yr67 := y_okM_i (z_codeIn (ch := 7) (i := 70) (l := tables_1_7) rfl rfl) (z_w_ok (n := 1006) (by decide +kernel)) (by decide +kernel) ⟨by decide +kernel, by decide +kernel⟩ (z_w_ok (n := 7069) (by decide +kernel)) (z_w_ok (n := 67) (by decide +kernel)) rfl rfl (by decide)
theorem yq_yr68_0 : (((y_cd yr68).drop 0).take 40).all (y_okE ztb znw zcls (ytb yw00) yr68) = true := by decide +kernel
theorem yq_yr68_1 : (((y_cd yr68).drop 40).take 40).all (y_okE ztb znw zcls (ytb yw00) yr68) = true := by decide +kernel
theorem yq_yr68_2 : (((y_cd yr68).drop 80).take 40).all (y_okE ztb znw zcls (ytb yw00) yr68) = true := by decide +kernel
theorem yq_yr68_e3 : ((y_cd yr68).drop 120).all (y_okE ztb znw zcls (ytb yw00) yr68) = true := z_seg_end (by decide +kernel)
theorem yq_yr68_e2 : ((y_cd yr68).drop 80).all (y_okE ztb znw zcls (ytb yw00) yr68) = true := z_seg (a := 80) (k := 40) yq_yr68_2 yq_yr68_e3
theorem yq_yr68_e1 : ((y_cd yr68).drop 40).all (y_okE ztb znw zcls (ytb yw00) yr68) = true := z_seg (a := 40) (k := 40) yq_yr68_1 yq_yr68_e2
theorem yq_yr68_e0 : ((y_cd yr68).drop 0).all (y_okE ztb znw zcls (ytb yw00) yr68) = true := z_seg (a := 0) (k := 40) yq_yr68_0 yq_yr68_e1
theorem yq_yr68 : (y_cd yr68).all (y_okE ztb znw zcls (ytb yw00) yr68) = true := z_seg0 yq_yr68_e0
theorem yo_yr68 : y_okM ztb zcls yr68 := y_okM_i (z_codeIn (ch := 5) (i := 41) (l := tables_1_5) rfl rfl) (z_w_ok (n := 1006) (by decide +kernel)) (by decide +kernel) ⟨by decide +kernel, by decide +kernel⟩ (z_w_ok (n := 5039) (by decide +kernel)) (z_w_ok (n := 5040) (by decide +kernel)) rfl rfl (by decide)
theorem yq_yr69 : (y_cd yr69).all (y_okE ztb znw zcls (ytb yw00) yr69) = true := by decide +kernel
theorem yo_yr69 : y_okM ztb zcls yr69 := y_okM_i (z_codeIn (ch := 6) (i := 210) (l := tables_1_6) rfl rfl) (z_w_ok (n := 1006) (by decide +kernel)) (by decide +kernel) ⟨by decide +kernel, by decide +kernel⟩ (z_w_ok (n := 6208) (by decide +kernel)) (z_w_ok (n := 6209) (by decide +kernel)) rfl rfl (by decide)
theorem yq_yr70_0 : (((y_cd yr70).drop 0).take 40).all (y_okE ztb znw zcls (ytb yw00) yr70) = true := by decide +kernel
theorem yq_yr70_1 : (((y_cd yr70).drop 40).take 40).all (y_okE ztb znw zcls (ytb yw00) yr70) = true := by decide +kernel
theorem yq_yr70_e2 : ((y_cd yr70).drop 80).all (y_okE ztb znw zcls (ytb yw00) yr70) = true := z_seg_end (by decide +kernel)
theorem yq_yr70_e1 : ((y_cd yr70).drop 40).all (y_okE ztb znw zcls (ytb yw00) yr70) = true := z_seg (a := 40) (k := 40) yq_yr70_1 yq_yr70_e2
theorem yq_yr70_e0 : ((y_cd yr70).drop 0).all (y_okE ztb znw zcls (ytb yw00) yr70) = true := z_seg (a := 0) (k := 40) yq_yr70_0 yq_yr70_e1
theorem yq_yr70 : (y_cd yr70).all (y_okE ztb znw zcls (ytb yw00) yr70) = true := z_seg0 yq_yr70_e0
theorem yo_yr70 : y_okM ztb zcls yr70 := y_okM_i (z_codeIn (ch := 5) (i := 211) (l := tables_1_5) rfl rfl) (z_w_ok (n := 1006) (by decide +kernel)) (by decide +kernel) ⟨by decide +kernel, by decide +kernel⟩ (z_w_ok (n := 5209) (by decide +kernel)) (z_w_ok (n := 5210) (by decide +kernel)) rfl rfl (by decide)
theorem yq_yr71 : (y_cd yr71).all (y_okE ztb znw zcls (ytb yw00) yr71) = true := by decide +kernel
theorem yo_yr71 : y_okM ztb zcls yr71 := y_okM_i (z_codeIn (ch := 7) (i := 112) (l := tables_1_7) rfl rfl) (z_w_ok (n := 1006) (by decide +kernel)) (by decide +kernel) ⟨by decide +kernel, by decide +kernel⟩ (z_w_ok (n := 7110) (by decide +kernel)) (z_w_ok (n := 7111) (by decide +kernel)) rfl rfl (by decide)
theorem yq_yr72_0 : (((y_cd yr72).drop 0).take 40).all (y_okE ztb znw zcls (ytb yw00) yr72) = true := by decide +kernel
theorem yq_yr72_1 : (((y_cd yr72).drop 40).take 40).all (y_okE ztb znw zcls (ytb yw00) yr72) = true := by decide +kernel
theorem yq_yr72_2 : (((y_cd yr72).drop 80).take 40).all (y_okE ztb znw zcls (ytb yw00) yr72) = true := by decide +kernel
theorem yq_yr72_e3 : ((y_cd yr72).drop 120).all (y_okE ztb znw zcls (ytb yw00) yr72) = true := z_seg_end (by decide +kernel)
theorem yq_yr72_e2 : ((y_cd yr72).drop 80).all (y_okE ztb znw zcls (ytb yw00) yr72) = true := z_seg (a := 80) (k := 40) yq_yr72_2 yq_yr72_e3
theorem yq_yr72_e1 : ((y_cd yr72).drop 40).all (y_okE ztb znw zcls (ytb yw00) yr72) = true := z_seg (a := 40) (k := 40) yq_yr72_1 yq_yr72_e2
theorem yq_yr72_e0 : ((y_cd yr72).drop 0).all (y_okE ztb znw zcls (ytb yw00) yr72) = true := z_seg (a := 0) (k := 40) yq_yr72_0 yq_yr72_e1
theorem yq_yr72 : (y_cd yr72).all (y_okE ztb znw zcls (ytb yw00) yr72) = true := z_seg0 yq_yr72_e0
theorem yo_yr72 : y_okM ztb zcls yr72 := y_okM_i (z_codeIn (ch := 7) (i := 18) (l := tables_1_7) rfl rfl) (z_w_ok (n := 1006) (by decide +kernel)) (by decide +kernel) ⟨by decide +kernel, by decide +kernel⟩ (z_w_ok (n := 7017) (by decide +kernel)) (z_w_ok (n := 63) (by decide +kernel)) rfl rfl (by decide)
theorem yq_yr73 : (y_cd yr73).all (y_okE ztb znw zcls (ytb yw00) yr73) = true := by decide +kernel
theorem yo_yr73 : y_okM ztb zcls yr73 := y_okM_i (z_codeIn (ch := 5) (i := 111) (l := tables_1_5) rfl rfl) (z_w_ok (n := 1006) (by decide +kernel)) (by decide +kernel) ⟨by decide +kernel, by decide +kernel⟩ (z_w_ok (n := 5110) (by decide +kernel)) (z_w_ok (n := 38) (by decide +kernel)) rfl rfl (by decide)
theorem yq_yr74 : (y_cd yr74).all (y_okE ztb znw zcls (ytb yw00) yr74) = true := by decide +kernel
theorem yo_yr74 : y_okM ztb zcls yr74 := y_okM_i (z_codeIn (ch := 7) (i := 95) (l := tables_1_7) rfl rfl) (z_w_ok (n := 1006) (by decide +kernel)) (by decide +kernel) ⟨by decide +kernel, by decide +kernel⟩ (z_w_ok (n := 7093) (by decide +kernel)) (z_w_ok (n := 7094) (by decide +kernel)) rfl rfl (by decide)
theorem yq_yr75_0 : (((y_cd yr75).drop 0).take 40).all (y_okE ztb znw zcls (ytb yw00) yr75) = true := by decide +kernel
theorem yq_yr75_1 : (((y_cd yr75).drop 40).take 40).all (y_okE ztb znw zcls (ytb yw00) yr75) = true := by decide +kernel
theorem yq_yr75_e2 : ((y_cd yr75).drop 80).all (y_okE ztb znw zcls (ytb yw00) yr75) = true := z_seg_end (by decide +kernel)
theorem yq_yr75_e1 : ((y_cd yr75).drop 40).all (y_okE ztb znw zcls (ytb yw00) yr75) = true := z_seg (a := 40) (k := 40) yq_yr75_1 yq_yr75_e2
theorem yq_yr75_e0 : ((y_cd yr75).drop 0).all (y_okE ztb znw zcls (ytb yw00) yr75) = true := z_seg (a := 0) (k := 40) yq_yr75_0 yq_yr75_e1
theorem yq_yr75 : (y_cd yr75).all (y_okE ztb znw zcls (ytb yw00) yr75) = true := z_seg0 yq_yr75_e0
theorem yo_yr75 : y_okM ztb zcls yr75 := y_okM_i (z_codeIn (ch := 4) (i := 164) (l := tables_1_4) rfl rfl) (z_w_ok (n := 1004) (by decide +kernel)) (by decide +kernel) ⟨by decide +kernel, by decide +kernel⟩ (z_w_ok (n := 4163) (by decide +kernel)) (z_w_ok (n := 18) (by decide +kernel)) rfl rfl (by decide)
theorem yq_yr76_0 : (((y_cd yr76).drop 0).take 40).all (y_okE ztb znw zcls (ytb yw00) yr76) = true := by decide +kernel
theorem yq_yr76_1 : (((y_cd yr76).drop 40).take 40).all (y_okE ztb znw zcls (ytb yw00) yr76) = true := by decide +kernel
theorem yq_yr76_e2 : ((y_cd yr76).drop 80).all (y_okE ztb znw zcls (ytb yw00) yr76) = true := z_seg_end (by decide +kernel)
theorem yq_yr76_e1 : ((y_cd yr76).drop 40).all (y_okE ztb znw zcls (ytb yw00) yr76) = true := z_seg (a := 40) (k := 40) yq_yr76_1 yq_yr76_e2
theorem yq_yr76_e0 : ((y_cd yr76).drop 0).all (y_okE ztb znw zcls (ytb yw00) yr76) = true := z_seg (a := 0) (k := 40) yq_yr76_0 yq_yr76_e1
theorem yq_yr76 : (y_cd yr76).all (y_okE ztb znw zcls (ytb yw00) yr76) = true := z_seg0 yq_yr76_e0
theorem yo_yr76 : y_okM ztb zcls yr76 := y_okM_i (z_codeIn (ch := 4) (i := 164) (l := tables_1_4) rfl rfl) (z_w_ok (n := 1004) (by decide +kernel)) (by decide +kernel) ⟨by decide +kernel, by decide +kernel⟩ (z_w_ok (n := 4163) (by decide +kernel)) (z_w_ok (n := 18) (by decide +kernel)) rfl rfl (by decide)
theorem yq_yr77_0 : (((y_cd yr77).drop 0).take 40).all (y_okE ztb znw zcls (ytb yw00) yr77) = true := by decide +kernel
theorem yq_yr77_1 : (((y_cd yr77).drop 40).take 40).all (y_okE ztb znw zcls (ytb yw00) yr77) = true := by decide +kernel
theorem yq_yr77_e2 : ((y_cd yr77).drop 80).all (y_okE ztb znw zcls (ytb yw00) yr77) = true := z_seg_end (by decide +kernel)
theorem yq_yr77_e1 : ((y_cd yr77).drop 40).all (y_okE ztb znw zcls (ytb yw00) yr77) = true := z_seg (a := 40) (k := 40) yq_yr77_1 yq_yr77_e2
theorem yq_yr77_e0 : ((y_cd yr77).drop 0).all (y_okE ztb znw zcls (ytb yw00) yr77) = true := z_seg (a := 0) (k := 40) yq_yr77_0 yq_yr77_e1
theorem yq_yr77 : (y_cd yr77).all (y_okE ztb znw zcls (ytb yw00) yr77) = true := z_seg0 yq_yr77_e0
theorem yo_yr77 : y_okM ztb zcls yr77 := y_okM_i (z_codeIn (ch := 4) (i := 164) (l := tables_1_4) rfl rfl) (z_w_ok (n := 1004) (by decide +kernel)) (by decide +kernel) ⟨by decide +kernel, by decide +kernel⟩ (z_w_ok (n := 4163) (by decide +kernel)) (z_w_ok (n := 18) (by decide +kernel)) rfl rfl (by decide)
theorem yq_yr78_0 : (((y_cd yr78).drop 0).take 40).all (y_okE ztb znw zcls (ytb yw00) yr78) = true := by decide +kernel
theorem yq_yr78_1 : (((y_cd yr78).drop 40).take 40).all (y_okE ztb znw zcls (ytb yw00) yr78) = true := by decide +kernel
theorem yq_yr78_e2 : ((y_cd yr78).drop 80).all (y_okE ztb znw zcls (ytb yw00) yr78) = true := z_seg_end (by decide +kernel)
theorem yq_yr78_e1 : ((y_cd yr78).drop 40).all (y_okE ztb znw zcls (ytb yw00) yr78) = true := z_seg (a := 40) (k := 40) yq_yr78_1 yq_yr78_e2
theorem yq_yr78_e0 : ((y_cd yr78).drop 0).all (y_okE ztb znw zcls (ytb yw00) yr78) = true := z_seg (a := 0) (k := 40) yq_yr78_0 yq_yr78_e1
theorem yq_yr78 : (y_cd yr78).all (y_okE ztb znw zcls (ytb yw00) yr78) = true := z_seg0 yq_yr78_e0
theorem yo_yr78 : y_okM ztb zcls yr78 := y_okM_i (z_codeIn (ch := 4) (i := 164) (l := tables_1_4) rfl rfl) (z_w_ok (n := 1004) (by decide +kernel)) (by decide +kernel) ⟨by decide +kernel, by decide +kernel⟩ (z_w_ok (n := 4163) (by decide +kernel)) (z_w_ok (n := 18) (by decide +kernel)) rfl rfl (by decide)
theorem yq_yr79_0 : (((y_cd yr79).drop 0).take 40).all (y_okE ztb znw zcls (ytb yw00) yr79) = true := by decide +kernel
theorem yq_yr79_1 : (((y_cd yr79).drop 40).take 40).all (y_okE ztb znw zcls (ytb yw00) yr79) = true := by decide +kernel
theorem yq_yr79_e2 : ((y_cd yr79).drop 80).all (y_okE ztb znw zcls (ytb yw00) yr79) = true := z_seg_end (by decide +kernel)
theorem yq_yr79_e1 : ((y_cd yr79).drop 40).all (y_okE ztb znw zcls (ytb yw00) yr79) = true := z_seg (a := 40) (k := 40) yq_yr79_1 yq_yr79_e2
theorem yq_yr79_e0 : ((y_cd yr79).drop 0).all (y_okE ztb znw zcls (ytb yw00) yr79) = true := z_seg (a := 0) (k := 40) yq_yr79_0 yq_yr79_e1
theorem yq_yr79 : (y_cd yr79).all (y_okE ztb znw zcls (ytb yw00) yr79) = true := z_seg0 yq_yr79_e0
theorem yo_yr79 : y_okM ztb zcls yr79 := y_okM_i (z_codeIn (ch := 4) (i := 164) (l := tables_1_4) rfl rfl) (z_w_ok (n := 1004) (by decide +kernel)) (by decide +kernel) ⟨by decide +kernel, by decide +kernel⟩ (z_w_ok (n := 4163) (by decide +kernel)) (z_w_ok (n := 18) (by decide +kernel)) rfl rfl (by decide)
theorem yq_yr80_0 : (((y_cd yr80).drop 0).take 40).all (y_okE ztb znw zcls (ytb yw00) yr80) = true := by decide +kernel
theorem yq_yr80_1 : (((y_cd yr80).drop 40).take 40).all (y_okE ztb znw zcls (ytb yw00) yr80) = true := by decide +kernel
theorem yq_yr80_e2 : ((y_cd yr80).drop 80).all (y_okE ztb znw zcls (ytb yw00) yr80) = true := z_seg_end (by decide +kernel)
theorem yq_yr80_e1 : ((y_cd yr80).drop 40).all (y_okE ztb znw zcls (ytb yw00) yr80) = true := z_seg (a := 40) (k := 40) yq_yr80_1 yq_yr80_e2
theorem yq_yr80_e0 : ((y_cd yr80).drop 0).all (y_okE ztb znw zcls (ytb yw00) yr80) = true := z_seg (a := 0) (k := 40) yq_yr80_0 yq_yr80_e1
theorem yq_yr80 : (y_cd yr80).all (y_okE ztb znw zcls (ytb yw00) yr80) = true := z_seg0 yq_yr80_e0
theorem yo_yr80 : y_okM ztb zcls yr80 := y_okM_i (z_codeIn (ch := 4) (i := 164) (l := tables_1_4) rfl rfl) (z_w_ok (n := 1004) (by decide +kernel)) (by decide +kernel) ⟨by decide +kernel, by decide +kernel⟩ (z_w_ok (n := 4163) (by decide +kernel)) (z_w_ok (n := 18) (by decide +kernel)) rfl rfl (by decide)
theorem yq_yr81_0 : (((y_cd yr81).drop 0).take 40).all (y_okE ztb znw zcls (ytb yw00) yr81) = true := by decide +kernel
theorem yq_yr81_1 : (((y_cd yr81).drop 40).take 40).all (y_okE ztb znw zcls (ytb yw00) yr81) = true := by decide +kernel
theorem yq_yr81_e2 : ((y_cd yr81).drop 80).all (y_okE ztb znw zcls (ytb yw00) yr81) = true := z_seg_end (by decide +kernel)
theorem yq_yr81_e1 : ((y_cd yr81).drop 40).all (y_okE ztb znw zcls (ytb yw00) yr81) = true := z_seg (a := 40) (k := 40) yq_yr81_1 yq_yr81_e2
theorem yq_yr81_e0 : ((y_cd yr81).drop 0).all (y_okE ztb znw zcls (ytb yw00) yr81) = true := z_seg (a := 0) (k := 40) yq_yr81_0 yq_yr81_e1
theorem yq_yr81 : (y_cd yr81).all (y_okE ztb znw zcls (ytb yw00) yr81) = true := z_seg0 yq_yr81_e0
theorem yo_yr81 : y_okM ztb zcls yr81 := y_okM_i (z_codeIn (ch := 4) (i := 164) (l := tables_1_4) rfl rfl) (z_w_ok (n := 1004) (by decide +kernel)) (by decide +kernel) ⟨by decide +kernel, by decide +kernel⟩ (z_w_ok (n := 4163) (by decide +kernel)) (z_w_ok (n := 18) (by decide +kernel)) rfl rfl (by decide)
theorem yq_yr82_0 : (((y_cd yr82).drop 0).take 40).all (y_okE ztb znw zcls (ytb yw00) yr82) = true := by decide +kernel
theorem yq_yr82_1 : (((y_cd yr82).drop 40).take 40).all (y_okE ztb znw zcls (ytb yw00) yr82) = true := by decide +kernel
theorem yq_yr82_e2 : ((y_cd yr82).drop 80).all (y_okE ztb znw zcls (ytb yw00) yr82) = true := z_seg_end (by decide +kernel)
theorem yq_yr82_e1 : ((y_cd yr82).drop 40).all (y_okE ztb znw zcls (ytb yw00) yr82) = true := z_seg (a := 40) (k := 40) yq_yr82_1 yq_yr82_e2
theorem yq_yr82_e0 : ((y_cd yr82).drop 0).all (y_okE ztb znw zcls (ytb yw00) yr82) = true := z_seg (a := 0) (k := 40) yq_yr82_0 yq_yr82_e1
theorem yq_yr82 : (y_cd yr82).all (y_okE ztb znw zcls (ytb yw00) yr82) = true := z_seg0 yq_yr82_e0
theorem yo_yr82 : y_okM ztb zcls yr82 := y_okM_i (z_codeIn (ch := 4) (i := 164) (l := tables_1_4) rfl rfl) (z_w_ok (n := 1004) (by decide +kernel)) (by decide +kernel) ⟨by decide +kernel, by decide +kernel⟩ (z_w_ok (n := 4163) (by decide +kernel)) (z_w_ok (n := 18) (by decide +kernel)) rfl rfl (by decide)
theorem yq_yr83 : (y_cd yr83).all (y_okE ztb znw zcls (ytb yw00) yr83) = true := by decide +kernel
theorem yo_yr83 : y_okM ztb zcls yr83 := y_okM_i (z_codeIn (ch := 4) (i := 164) (l := tables_1_4) rfl rfl) (z_w_ok (n := 1004) (by decide +kernel)) (by decide +kernel) ⟨by decide +kernel, by decide +kernel⟩ (z_w_ok (n := 4163) (by decide +kernel)) (z_w_ok (n := 18) (by decide +kernel)) rfl rfl (by decide)
theorem yq_yr84_0 : (((y_cd yr84).drop 0).take 40).all (y_okE ztb znw zcls (ytb yw00) yr84) = true := by decide +kernel
theorem yq_yr84_1 : (((y_cd yr84).drop 40).take 40).all (y_okE ztb znw zcls (ytb yw00) yr84) = true := by decide +kernel
theorem yq_yr84_e2 : ((y_cd yr84).drop 80).all (y_okE ztb znw zcls (ytb yw00) yr84) = true := z_seg_end (by decide +kernel)
theorem yq_yr84_e1 : ((y_cd yr84).drop 40).all (y_okE ztb znw zcls (ytb yw00) yr84) = true := z_seg (a := 40) (k := 40) yq_yr84_1 yq_yr84_e2
theorem yq_yr84_e0 : ((y_cd yr84).drop 0).all (y_okE ztb znw zcls (ytb yw00) yr84) = true := z_seg (a := 0) (k := 40) yq_yr84_0 yq_yr84_e1
theorem yq_yr84 : (y_cd yr84).all (y_okE ztb znw zcls (ytb yw00) yr84) = true := z_seg0 yq_yr84_e0
theorem yo_yr84 : y_okM ztb zcls yr84 := y_okM_i (z_codeIn (ch := 5) (i := 25) (l := tables_1_5) rfl rfl) (z_w_ok (n := 1004) (by decide +kernel)) (by decide +kernel) ⟨by decide +kernel, by decide +kernel⟩ (z_w_ok (n := 5023) (by decide +kernel)) (z_w_ok (n := 5024) (by decide +kernel)) rfl rfl (by decide)
theorem yq_yr85 : (y_cd yr85).all (y_okE ztb znw zcls (ytb yw00) yr85) = true := by decide +kernel
theorem yo_yr85 : y_okM ztb zcls yr85 := y_okM_i (z_codeIn (ch := 4) (i := 160) (l := tables_1_4) rfl rfl) (z_w_ok (n := 1004) (by decide +kernel)) (by decide +kernel) ⟨by decide +kernel, by decide +kernel⟩ (z_w_ok (n := 4158) (by decide +kernel)) (z_w_ok (n := 4159) (by decide +kernel)) rfl rfl (by decide)
theorem yq_yr86_0 : (((y_cd yr86).drop 0).take 40).all (y_okE ztb znw zcls (ytb yw00) yr86) = true := by decide +kernel
theorem yq_yr86_1 : (((y_cd yr86).drop 40).take 40).all (y_okE ztb znw zcls (ytb yw00) yr86) = true := by decide +kernel
theorem yq_yr86_2 : (((y_cd yr86).drop 80).take 40).all (y_okE ztb znw zcls (ytb yw00) yr86) = true := by decide +kernel
theorem yq_yr86_e3 : ((y_cd yr86).drop 120).all (y_okE ztb znw zcls (ytb yw00) yr86) = true := z_seg_end (by decide +kernel)
theorem yq_yr86_e2 : ((y_cd yr86).drop 80).all (y_okE ztb znw zcls (ytb yw00) yr86) = true := z_seg (a := 80) (k := 40) yq_yr86_2 yq_yr86_e3
theorem yq_yr86_e1 : ((y_cd yr86).drop 40).all (y_okE ztb znw zcls (ytb yw00) yr86) = true := z_seg (a := 40) (k := 40) yq_yr86_1 yq_yr86_e2
theorem yq_yr86_e0 : ((y_cd yr86).drop 0).all (y_okE ztb znw zcls (ytb yw00) yr86) = true := z_seg (a := 0) (k := 40) yq_yr86_0 yq_yr86_e1
theorem yq_yr86 : (y_cd yr86).all (y_okE ztb znw zcls (ytb yw00) yr86) = true := z_seg0 yq_yr86_e0
theorem yo_yr86 : y_okM ztb zcls yr86 := y_okM_i (z_codeIn (ch := 4) (i := 185) (l := tables_1_4) rfl rfl) (z_w_ok (n := 1004) (by decide +kernel)) (by decide +kernel) ⟨by decide +kernel, by decide +kernel⟩ (z_w_ok (n := 4184) (by decide +kernel)) (z_w_ok (n := 23) (by decide +kernel)) rfl rfl (by decide)
theorem yq_yr87_0 : (((y_cd yr87).drop 0).take 40).all (y_okE ztb znw zcls (ytb yw00) yr87) = true := by decide +kernel
theorem yq_yr87_1 : (((y_cd yr87).drop 40).take 40).all (y_okE ztb znw zcls (ytb yw00) yr87) = true := by decide +kernel
theorem yq_yr87_2 : (((y_cd yr87).drop 80).take 40).all (y_okE ztb znw zcls (ytb yw00) yr87) = true := by decide +kernel
theorem yq_yr87_e3 : ((y_cd yr87).drop 120).all (y_okE ztb znw zcls (ytb yw00) yr87) = true := z_seg_end (by decide +kernel)
theorem yq_yr87_e2 : ((y_cd yr87).drop 80).all (y_okE ztb znw zcls (ytb yw00) yr87) = true := z_seg (a := 80) (k := 40) yq_yr87_2 yq_yr87_e3
theorem yq_yr87_e1 : ((y_cd yr87).drop 40).all (y_okE ztb znw zcls (ytb yw00) yr87) = true := z_seg (a := 40) (k := 40) yq_yr87_1 yq_yr87_e2
theorem yq_yr87_e0 : ((y_cd yr87).drop 0).all (y_okE ztb znw zcls (ytb yw00) yr87) = true := z_seg (a := 0) (k := 40) yq_yr87_0 yq_yr87_e1
theorem yq_yr87 : (y_cd yr87).all (y_okE ztb znw zcls (ytb yw00) yr87) = true := z_seg0 yq_yr87_e0
theorem yo_yr87 : y_okM ztb zcls yr87 := y_okM_i (z_codeIn (ch := 4) (i := 185) (l := tables_1_4) rfl rfl) (z_w_ok (n := 1004) (by decide +kernel)) (by decide +kernel) ⟨by decide +kernel, by decide +kernel⟩ (z_w_ok (n := 4184) (by decide +kernel)) (z_w_ok (n := 23) (by decide +kernel)) rfl rfl (by decide)
theorem yq_yr88_0 : (((y_cd yr88).drop 0).take 40).all (y_okE ztb znw zcls (ytb yw00) yr88) = true := by decide +kernel
theorem yq_yr88_1 : (((y_cd yr88).drop 40).take 40).all (y_okE ztb znw zcls (ytb yw00) yr88) = true := by decide +kernel
theorem yq_yr88_2 : (((y_cd yr88).drop 80).take 40).all (y_okE ztb znw zcls (ytb yw00) yr88) = true := by decide +kernel
theorem yq_yr88_e3 : ((y_cd yr88).drop 120).all (y_okE ztb znw zcls (ytb yw00) yr88) = true := z_seg_end (by decide +kernel)
theorem yq_yr88_e2 : ((y_cd yr88).drop 80).all (y_okE ztb znw zcls (ytb yw00) yr88) = true := z_seg (a := 80) (k := 40) yq_yr88_2 yq_yr88_e3
theorem yq_yr88_e1 : ((y_cd yr88).drop 40).all (y_okE ztb znw zcls (ytb yw00) yr88) = true := z_seg (a := 40) (k := 40) yq_yr88_1 yq_yr88_e2
theorem yq_yr88_e0 : ((y_cd yr88).drop 0).all (y_okE ztb znw zcls (ytb yw00) yr88) = true := z_seg (a := 0) (k := 40) yq_yr88_0 yq_yr88_e1
theorem yq_yr88 : (y_cd yr88).all (y_okE ztb znw zcls (ytb yw00) yr88) = true := z_seg0 yq_yr88_e0
theorem yo_yr88 : y_okM ztb zcls yr88 := y_okM_i (z_codeIn (ch := 4) (i := 185) (l := tables_1_4) rfl rfl) (z_w_ok (n := 1004) (by decide +kernel)) (by decide +kernel) ⟨by decide +kernel, by decide +kernel⟩ (z_w_ok (n := 4184) (by decide +kernel)) (z_w_ok (n := 23) (by decide +kernel)) rfl rfl (by decide)
