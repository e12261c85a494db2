theorem yq_yr365_0 : (((y_cd yr365).drop 0).take 40).all (y_okE ztb znw zcls (ytb yw00) yr365) = true := by decide +kernel
theorem yq_yr365_1 : (((y_cd yr365).drop 40).take 40).all (y_okE ztb znw zcls (ytb yw00) yr365) = true := by decide +kernel
theorem yq_yr365_e2 : ((y_cd yr365).drop 80).all (y_okE ztb znw zcls (ytb yw00) yr365) = true := z_seg_end (by decide +kernel)
theorem yq_yr365_e1 : ((y_cd yr365).drop 40).all (y_okE ztb znw zcls (ytb yw00) yr365) = true := z_seg (a := 40) (k := 40) yq_yr365_1 yq_yr365_e2
theorem yq_yr365_e0 : ((y_cd yr365).drop 0).all (y_okE ztb znw zcls (ytb yw00) yr365) = true := z_seg (a := 0) (k := 40) yq_yr365_0 yq_yr365_e1
theorem yq_yr365 : (y_cd yr365).all (y_okE ztb znw zcls (ytb yw00) yr365) = true := z_seg0 yq_yr365_e0
theorem yo_yr365 : y_okM ztb zcls yr365 := y_okM_i (z_codeIn (ch := 11) (i := 99) (l := tables_1_11) rfl rfl) (z_w_ok (n := 1012) (by decide +kernel)) (by decide +kernel) ⟨by decide +kernel, by decide +kernel⟩ (z_w_ok (n := 11098) (by decide +kernel)) (z_w_ok (n := 137) (by decide +kernel)) rfl rfl (by decide)
theorem yq_yr366 : (y_cd yr366).all (y_okE ztb znw zcls (ytb yw00) yr366) = true := by decide +kernel
theorem yo_yr366 : y_okM ztb zcls yr366 := y_okM_i (z_codeIn (ch := 12) (i := 85) (l := tables_1_12) rfl rfl) (z_w_ok (n := 1012) (by decide +kernel)) (by decide +kernel) ⟨by decide +kernel, by decide +kernel⟩ (z_w_ok (n := 12084) (by decide +kernel)) (z_w_ok (n := 176) (by decide +kernel)) rfl rfl (by decide)
