theorem yq_yme0_0 : (((y_cd yme0).drop 0).take 40).all (y_okE ztb znw zcls (ytbE yw00) yme0) = true := by decide +kernel
theorem yq_yme0_1 : (((y_cd yme0).drop 40).take 40).all (y_okE ztb znw zcls (ytbE yw00) yme0) = true := by decide +kernel
theorem yq_yme0_e2 : ((y_cd yme0).drop 80).all (y_okE ztb znw zcls (ytbE yw00) yme0) = true := z_seg_end (by decide +kernel)
theorem yq_yme0_e1 : ((y_cd yme0).drop 40).all (y_okE ztb znw zcls (ytbE yw00) yme0) = true := z_seg (a := 40) (k := 40) yq_yme0_1 yq_yme0_e2
theorem yq_yme0_e0 : ((y_cd yme0).drop 0).all (y_okE ztb znw zcls (ytbE yw00) yme0) = true := z_seg (a := 0) (k := 40) yq_yme0_0 yq_yme0_e1
theorem yq_yme0 : (y_cd yme0).all (y_okE ztb znw zcls (ytbE yw00) yme0) = true := z_seg0 yq_yme0_e0
theorem yo_yme0 : y_okM ztb zcls yme0 := y_okM_i (z_codeIn (ch := 5) (i := 234) (l := tables_1_5) rfl rfl) (z_w_ok (n := 1003) (by decide +kernel)) (by decide +kernel) ⟨by decide +kernel, by decide +kernel⟩ (z_w_ok (n := 5232) (by decide +kernel)) (z_w_ok (n := 5233) (by decide +kernel)) rfl rfl (by decide)
theorem yq_yme1 : (y_cd yme1).all (y_okE ztb znw zcls (ytbE yw00) yme1) = true := by decide +kernel
theorem yo_yme1 : y_okM ztb zcls yme1 := y_okM_i (z_codeIn (ch := 6) (i := 90) (l := tables_1_6) rfl rfl) (z_w_ok (n := 1003) (by decide +kernel)) (by decide +kernel) ⟨by decide +kernel, by decide +kernel⟩ (z_w_ok (n := 6088) (by decide +kernel)) (z_w_ok (n := 6089) (by decide +kernel)) rfl rfl (by decide)
theorem yq_yme2_0 : (((y_cd yme2).drop 0).take 40).all (y_okE ztb znw zcls (ytbE yw00) yme2) = true := by decide +kernel
theorem yq_yme2_1 : (((y_cd yme2).drop 40).take 40).all (y_okE ztb znw zcls (ytbE yw00) yme2) = true := by decide +kernel
theorem yq_yme2_e2 : ((y_cd yme2).drop 80).all (y_okE ztb znw zcls (ytbE yw00) yme2) = true := z_seg_end (by decide +kernel)
theorem yq_yme2_e1 : ((y_cd yme2).drop 40).all (y_okE ztb znw zcls (ytbE yw00) yme2) = true := z_seg (a := 40) (k := 40) yq_yme2_1 yq_yme2_e2
theorem yq_yme2_e0 : ((y_cd yme2).drop 0).all (y_okE ztb znw zcls (ytbE yw00) yme2) = true := z_seg (a := 0) (k := 40) yq_yme2_0 yq_yme2_e1
theorem yq_yme2 : (y_cd yme2).all (y_okE ztb znw zcls (ytbE yw00) yme2) = true := z_seg0 yq_yme2_e0
theorem yo_yme2 : y_okM ztb zcls yme2 := y_okM_i (z_codeIn (ch := 4) (i := 214) (l := tables_1_4) rfl rfl) (z_w_ok (n := 1003) (by decide +kernel)) (by decide +kernel) ⟨by decide +kernel, by decide +kernel⟩ (z_w_ok (n := 4212) (by decide +kernel)) (z_w_ok (n := 4213) (by decide +kernel)) rfl rfl (by decide)
theorem yq_yme3 : (y_cd yme3).all (y_okE ztb znw zcls (ytbE yw00) yme3) = true := by decide +kernel
theorem yo_yme3 : y_okM ztb zcls yme3 := y_okM_i (z_codeIn (ch := 6) (i := 81) (l := tables_1_6) rfl rfl) (z_w_ok (n := 1020) (by decide +kernel)) (by decide +kernel) ⟨by decide +kernel, by decide +kernel⟩ (z_w_ok (n := 6079) (by decide +kernel)) (z_w_ok (n := 6080) (by decide +kernel)) rfl rfl (by decide)
theorem yq_yme4 : (y_cd yme4).all (y_okE ztb znw zcls (ytbE yw00) yme4) = true := by decide +kernel
theorem yo_yme4 : y_okM ztb zcls yme4 := y_okM_i (z_codeIn (ch := 6) (i := 12) (l := tables_1_6) rfl rfl) (z_w_ok (n := 1008) (by decide +kernel)) (by decide +kernel) ⟨by decide +kernel, by decide +kernel⟩ (z_w_ok (n := 6010) (by decide +kernel)) (z_w_ok (n := 6011) (by decide +kernel)) rfl rfl (by decide)
theorem yq_yrBI_0 : (((y_cd yrBI).drop 0).take 40).all (y_okE ztb znw zcls (ytbE yw00) yrBI) = true := by decide +kernel
theorem yq_yrBI_1 : (((y_cd yrBI).drop 40).take 40).all (y_okE ztb znw zcls (ytbE yw00) yrBI) = true := by decide +kernel
theorem yq_yrBI_e2 : ((y_cd yrBI).drop 80).all (y_okE ztb znw zcls (ytbE yw00) yrBI) = true := z_seg_end (by decide +kernel)
theorem yq_yrBI_e1 : ((y_cd yrBI).drop 40).all (y_okE ztb znw zcls (ytbE yw00) yrBI) = true := z_seg (a := 40) (k := 40) yq_yrBI_1 yq_yrBI_e2
theorem yq_yrBI_e0 : ((y_cd yrBI).drop 0).all (y_okE ztb znw zcls (ytbE yw00) yrBI) = true := z_seg (a := 0) (k := 40) yq_yrBI_0 yq_yrBI_e1
theorem yq_yrBI : (y_cd yrBI).all (y_okE ztb znw zcls (ytbE yw00) yrBI) = true := z_seg0 yq_yrBI_e0
theorem yo_yrBI : y_okM ztb zcls yrBI := y_okM_i (z_codeIn (ch := 6) (i := 16) (l := tables_1_6) rfl rfl) (z_w_ok (n := 1008) (by decide +kernel)) (by decide +kernel) ⟨by decide +kernel, by decide +kernel⟩ (z_w_ok (n := 6014) (by decide +kernel)) (z_w_ok (n := 6015) (by decide +kernel)) rfl rfl (by decide)
theorem yq_yrEN_0 : (((y_cd yrEN).drop 0).take 40).all (y_okE ztb znw zcls (ytbE yw00) yrEN) = true := by decide +kernel
theorem yq_yrEN_1 : (((y_cd yrEN).drop 40).take 40).all (y_okE ztb znw zcls (ytbE yw00) yrEN) = true := by decide +kernel
theorem yq_yrEN_e2 : ((y_cd yrEN).drop 80).all (y_okE ztb znw zcls (ytbE yw00) yrEN) = true := z_seg_end (by decide +kernel)
theorem yq_yrEN_e1 : ((y_cd yrEN).drop 40).all (y_okE ztb znw zcls (ytbE yw00) yrEN) = true := z_seg (a := 40) (k := 40) yq_yrEN_1 yq_yrEN_e2
theorem yq_yrEN_e0 : ((y_cd yrEN).drop 0).all (y_okE ztb znw zcls (ytbE yw00) yrEN) = true := z_seg (a := 0) (k := 40) yq_yrEN_0 yq_yrEN_e1
theorem yq_yrEN : (y_cd yrEN).all (y_okE ztb znw zcls (ytbE yw00) yrEN) = true := z_seg0 yq_yrEN_e0
theorem yo_yrEN : y_okM ztb zcls yrEN := y_okM_i (z_codeIn (ch := 5) (i := 230) (l := tables_1_5) rfl rfl) (z_w_ok (n := 1001) (by decide +kernel)) (by decide +kernel) ⟨by decide +kernel, by decide +kernel⟩ (z_w_ok (n := 5228) (by decide +kernel)) (z_w_ok (n := 5229) (by decide +kernel)) rfl rfl (by decide)
