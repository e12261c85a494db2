theorem yq_yr361_0 : (((y_cd yr361).drop 0).take 40).all (y_okE ztb znw zcls (ytb yw00) yr361) = true := by decide +kernel
theorem yq_yr361_1 : (((y_cd yr361).drop 40).take 40).all (y_okE ztb znw zcls (ytb yw00) yr361) = true := by decide +kernel
theorem yq_yr361_2 : (((y_cd yr361).drop 80).take 40).all (y_okE ztb znw zcls (ytb yw00) yr361) = true := by decide +kernel
theorem yq_yr361_3 : (((y_cd yr361).drop 120).take 40).all (y_okE ztb znw zcls (ytb yw00) yr361) = true := by decide +kernel
theorem yq_yr361_e4 : ((y_cd yr361).drop 160).all (y_okE ztb znw zcls (ytb yw00) yr361) = true := z_seg_end (by decide +kernel)
theorem yq_yr361_e3 : ((y_cd yr361).drop 120).all (y_okE ztb znw zcls (ytb yw00) yr361) = true := z_seg (a := 120) (k := 40) yq_yr361_3 yq_yr361_e4
theorem yq_yr361_e2 : ((y_cd yr361).drop 80).all (y_okE ztb znw zcls (ytb yw00) yr361) = true := z_seg (a := 80) (k := 40) yq_yr361_2 yq_yr361_e3
theorem yq_yr361_e1 : ((y_cd yr361).drop 40).all (y_okE ztb znw zcls (ytb yw00) yr361) = true := z_seg (a := 40) (k := 40) yq_yr361_1 yq_yr361_e2
theorem yq_yr361_e0 : ((y_cd yr361).drop 0).all (y_okE ztb znw zcls (ytb yw00) yr361) = true := z_seg (a := 0) (k := 40) yq_yr361_0 yq_yr361_e1
theorem yq_yr361 : (y_cd yr361).all (y_okE ztb znw zcls (ytb yw00) yr361) = true := z_seg0 yq_yr361_e0
theorem yo_yr361 : y_okM ztb zcls yr361 := y_okM_i (z_codeIn (ch := 10) (i := 159) (l := tables_1_10) rfl rfl) (z_w_ok (n := 1012) (by decide +kernel)) (by decide +kernel) ⟨by decide +kernel, by decide +kernel⟩ (z_w_ok (n := 10158) (by decide +kernel)) (z_w_ok (n := 102) (by decide +kernel)) rfl rfl (by decide)
theorem yq_yr362 : (y_cd yr362).all (y_okE ztb znw zcls (ytb yw00) yr362) = true := by decide +kernel
theorem yo_yr362 : y_okM ztb zcls yr362 := y_okM_i (z_codeIn (ch := 10) (i := 127) (l := tables_1_10) rfl rfl) (z_w_ok (n := 1012) (by decide +kernel)) (by decide +kernel) ⟨by decide +kernel, by decide +kernel⟩ (z_w_ok (n := 10126) (by decide +kernel)) (z_w_ok (n := 96) (by decide +kernel)) rfl rfl (by decide)
theorem yq_yr363 : (y_cd yr363).all (y_okE ztb znw zcls (ytb yw00) yr363) = true := by decide +kernel
theorem yo_yr363 : y_okM ztb zcls yr363 := y_okM_i (z_codeIn (ch := 11) (i := 228) (l := tables_1_11) rfl rfl) (z_w_ok (n := 1012) (by decide +kernel)) (by decide +kernel) ⟨by decide +kernel, by decide +kernel⟩ (z_w_ok (n := 11226) (by decide +kernel)) (z_w_ok (n := 11227) (by decide +kernel)) rfl rfl (by decide)
theorem yq_yr364 : (y_cd yr364).all (y_okE ztb znw zcls (ytb yw00) yr364) = true := by decide +kernel
theorem yo_yr364 : y_okM ztb zcls yr364 := y_okM_i (z_codeIn (ch := 12) (i := 4) (l := tables_1_12) rfl rfl) (z_w_ok (n := 1012) (by decide +kernel)) (by decide +kernel) ⟨by decide +kernel, by decide +kernel⟩ (z_w_ok (n := 12003) (by decide +kernel)) (z_w_ok (n := 158) (by decide +kernel)) rfl rfl (by decide)
theorem yq_yr365_0 : (((y_cd yr365).drop 0).take 40).all (y_okE ztb znw zcls (ytb yw00) yr365) = true := by decide +kernel
theorem yq_yr365_1 : (((y_cd yr365).drop 40).take 40).all (y_okE ztb znw zcls (ytb yw00) yr365) = true := by decide +kernel
theorem yq_yr365_e2 : ((y_cd yr365).drop 80).all (y_okE ztb znw zcls (ytb yw00) yr365) = true := z_seg_end (by decide +kernel)
theorem yq_yr365_e1 : ((y_cd yr365).drop 40).all (y_okE ztb znw zcls (ytb yw00) yr365) = true := z_seg (a := 40) (k := 40) yq_yr365_1 yq_yr365_e2
theorem yq_yr365_e0 : ((y_cd yr365).drop 0).all (y_okE ztb znw zcls (ytb yw00) yr365) = true := z_seg (a := 0) (k := 40) yq_yr365_0 yq_yr365_e1
theorem yq_yr365 : (y_cd yr365).all (y_okE ztb znw zcls (ytb yw00) yr365) = true := z_seg0 yq_yr365_e0
theorem yo_yr365 : y_okM ztb zcls yr365 := y_okM_i (z_codeIn (ch := 11) (i := 200) (l := tables_1_11) rfl rfl) (z_w_ok (n := 1012) (by decide +kernel)) (by decide +kernel) ⟨by decide +kernel, by decide +kernel⟩ (z_w_ok (n := 11198) (by decide +kernel)) (z_w_ok (n := 11199) (by decide +kernel)) rfl rfl (by decide)
theorem yq_yr366 : (y_cd yr366).all (y_okE ztb znw zcls (ytb yw00) yr366) = true := by decide +kernel
theorem yo_yr366 : y_okM ztb zcls yr366 := y_okM_i (z_codeIn (ch := 11) (i := 224) (l := tables_1_11) rfl rfl) (z_w_ok (n := 1012) (by decide +kernel)) (by decide +kernel) ⟨by decide +kernel, by decide +kernel⟩ (z_w_ok (n := 11222) (by decide +kernel)) (z_w_ok (n := 11223) (by decide +kernel)) rfl rfl (by decide)
theorem yq_yr367 : (y_cd yr367).all (y_okE ztb znw zcls (ytb yw00) yr367) = true := by decide +kernel
theorem yo_yr367 : y_okM ztb zcls yr367 := y_okM_i (z_codeIn (ch := 13) (i := 2) (l := tables_1_13) rfl rfl) (z_w_ok (n := 1012) (by decide +kernel)) (by decide +kernel) ⟨by decide +kernel, by decide +kernel⟩ (z_w_ok (n := 13000) (by decide +kernel)) (z_w_ok (n := 13001) (by decide +kernel)) rfl rfl (by decide)
theorem yq_yr368 : (y_cd yr368).all (y_okE ztb znw zcls (ytb yw00) yr368) = true := by decide +kernel
theorem yo_yr368 : y_okM ztb zcls yr368 := y_okM_i (z_codeIn (ch := 11) (i := 7) (l := tables_1_11) rfl rfl) (z_w_ok (n := 1012) (by decide +kernel)) (by decide +kernel) ⟨by decide +kernel, by decide +kernel⟩ (z_w_ok (n := 11005) (by decide +kernel)) (z_w_ok (n := 11006) (by decide +kernel)) rfl rfl (by decide)
theorem yq_yr369_0 : (((y_cd yr369).drop 0).take 40).all (y_okE ztb znw zcls (ytb yw00) yr369) = true := by decide +kernel
theorem yq_yr369_1 : (((y_cd yr369).drop 40).take 40).all (y_okE ztb znw zcls (ytb yw00) yr369) = true := by decide +kernel
theorem yq_yr369_2 : (((y_cd yr369).drop 80).take 40).all (y_okE ztb znw zcls (ytb yw00) yr369) = true := by decide +kernel
theorem yq_yr369_3 : (((y_cd yr369).drop 120).take 40).all (y_okE ztb znw zcls (ytb yw00) yr369) = true := by decide +kernel
theorem yq_yr369_e4 : ((y_cd yr369).drop 160).all (y_okE ztb znw zcls (ytb yw00) yr369) = true := z_seg_end (by decide +kernel)
theorem yq_yr369_e3 : ((y_cd yr369).drop 120).all (y_okE ztb znw zcls (ytb yw00) yr369) = true := z_seg (a := 120) (k := 40) yq_yr369_3 yq_yr369_e4
theorem yq_yr369_e2 : ((y_cd yr369).drop 80).all (y_okE ztb znw zcls (ytb yw00) yr369) = true := z_seg (a := 80) (k := 40) yq_yr369_2 yq_yr369_e3
theorem yq_yr369_e1 : ((y_cd yr369).drop 40).all (y_okE ztb znw zcls (ytb yw00) yr369) = true := z_seg (a := 40) (k := 40) yq_yr369_1 yq_yr369_e2
theorem yq_yr369_e0 : ((y_cd yr369).drop 0).all (y_okE ztb znw zcls (ytb yw00) yr369) = true := z_seg (a := 0) (k := 40) yq_yr369_0 yq_yr369_e1
theorem yq_yr369 : (y_cd yr369).all (y_okE ztb znw zcls (ytb yw00) yr369) = true := z_seg0 yq_yr369_e0
theorem yo_yr369 : y_okM ztb zcls yr369 := y_okM_i (z_codeIn (ch := 12) (i := 60) (l := tables_1_12) rfl rfl) (z_w_ok (n := 1012) (by decide +kernel)) (by decide +kernel) ⟨by decide +kernel, by decide +kernel⟩ (z_w_ok (n := 12059) (by decide +kernel)) (z_w_ok (n := 172) (by decide +kernel)) rfl rfl (by decide)
theorem yq_yr370_0 : (((y_cd yr370).drop 0).take 40).all (y_okE ztb znw zcls (ytb yw00) yr370) = true := by decide +kernel
theorem yq_yr370_1 : (((y_cd yr370).drop 40).take 40).all (y_okE ztb znw zcls (ytb yw00) yr370) = true := by decide +kernel
theorem yq_yr370_e2 : ((y_cd yr370).drop 80).all (y_okE ztb znw zcls (ytb yw00) yr370) = true := z_seg_end (by decide +kernel)
theorem yq_yr370_e1 : ((y_cd yr370).drop 40).all (y_okE ztb znw zcls (ytb yw00) yr370) = true := z_seg (a := 40) (k := 40) yq_yr370_1 yq_yr370_e2
theorem yq_yr370_e0 : ((y_cd yr370).drop 0).all (y_okE ztb znw zcls (ytb yw00) yr370) = true := z_seg (a := 0) (k := 40) yq_yr370_0 yq_yr370_e1
theorem yq_yr370 : (y_cd yr370).all (y_okE ztb znw zcls (ytb yw00) yr370) = true := z_seg0 yq_yr370_e0
theorem yo_yr370 : y_okM ztb zcls yr370 := y_okM_i (z_codeIn (ch := 11) (i := 99) (l := tables_1_11) rfl rfl) (z_w_ok (n := 1012) (by decide +kernel)) (by decide +kernel) ⟨by decide +kernel, by decide +kernel⟩ (z_w_ok (n := 11098) (by decide +kernel)) (z_w_ok (n := 137) (by decide +kernel)) rfl rfl (by decide)
theorem yq_yr371 : (y_cd yr371).all (y_okE ztb znw zcls (ytb yw00) yr371) = true := by decide +kernel
theorem yo_yr371 : y_okM ztb zcls yr371 := y_okM_i (z_codeIn (ch := 12) (i := 85) (l := tables_1_12) rfl rfl) (z_w_ok (n := 1012) (by decide +kernel)) (by decide +kernel) ⟨by decide +kernel, by decide +kernel⟩ (z_w_ok (n := 12084) (by decide +kernel)) (z_w_ok (n := 176) (by decide +kernel)) rfl rfl (by decide)
