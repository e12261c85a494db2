theorem yq_yr246 : (y_cd yr246).all (y_okE ztb znw zcls (ytb yw00) yr246) = true := by decide +kernel
theorem yo_yr246 : y_okM ztb zcls yr246 := y_okM_i (z_codeIn (ch := 11) (i := 208) (l := tables_1_11) rfl rfl) (z_w_ok (n := 1012) (by decide +kernel)) (by decide +kernel) ⟨by decide +kernel, by decide +kernel⟩ (z_w_ok (n := 11206) (by decide +kernel)) (z_w_ok (n := 11207) (by decide +kernel)) rfl rfl (by decide)
theorem yq_yr247_0 : (((y_cd yr247).drop 0).take 40).all (y_okE ztb znw zcls (ytb yw00) yr247) = true := by decide +kernel
theorem yq_yr247_1 : (((y_cd yr247).drop 40).take 40).all (y_okE ztb znw zcls (ytb yw00) yr247) = true := by decide +kernel
theorem yq_yr247_2 : (((y_cd yr247).drop 80).take 40).all (y_okE ztb znw zcls (ytb yw00) yr247) = true := by decide +kernel
theorem yq_yr247_e3 : ((y_cd yr247).drop 120).all (y_okE ztb znw zcls (ytb yw00) yr247) = true := z_seg_end (by decide +kernel)
theorem yq_yr247_e2 : ((y_cd yr247).drop 80).all (y_okE ztb znw zcls (ytb yw00) yr247) = true := z_seg (a := 80) (k := 40) yq_yr247_2 yq_yr247_e3
theorem yq_yr247_e1 : ((y_cd yr247).drop 40).all (y_okE ztb znw zcls (ytb yw00) yr247) = true := z_seg (a := 40) (k := 40) yq_yr247_1 yq_yr247_e2
theorem yq_yr247_e0 : ((y_cd yr247).drop 0).all (y_okE ztb znw zcls (ytb yw00) yr247) = true := z_seg (a := 0) (k := 40) yq_yr247_0 yq_yr247_e1
theorem yq_yr247 : (y_cd yr247).all (y_okE ztb znw zcls (ytb yw00) yr247) = true := z_seg0 yq_yr247_e0
theorem yo_yr247 : y_okM ztb zcls yr247 := y_okM_i (z_codeIn (ch := 11) (i := 212) (l := tables_1_11) rfl rfl) (z_w_ok (n := 1012) (by decide +kernel)) (by decide +kernel) ⟨by decide +kernel, by decide +kernel⟩ (z_w_ok (n := 11211) (by decide +kernel)) (z_w_ok (n := 152) (by decide +kernel)) rfl rfl (by decide)
theorem yq_yr248_0 : (((y_cd yr248).drop 0).take 40).all (y_okE ztb znw zcls (ytb yw00) yr248) = true := by decide +kernel
theorem yq_yr248_1 : (((y_cd yr248).drop 40).take 40).all (y_okE ztb znw zcls (ytb yw00) yr248) = true := by decide +kernel
theorem yq_yr248_e2 : ((y_cd yr248).drop 80).all (y_okE ztb znw zcls (ytb yw00) yr248) = true := z_seg_end (by decide +kernel)
theorem yq_yr248_e1 : ((y_cd yr248).drop 40).all (y_okE ztb znw zcls (ytb yw00) yr248) = true := z_seg (a := 40) (k := 40) yq_yr248_1 yq_yr248_e2
theorem yq_yr248_e0 : ((y_cd yr248).drop 0).all (y_okE ztb znw zcls (ytb yw00) yr248) = true := z_seg (a := 0) (k := 40) yq_yr248_0 yq_yr248_e1
theorem yq_yr248 : (y_cd yr248).all (y_okE ztb znw zcls (ytb yw00) yr248) = true := z_seg0 yq_yr248_e0
theorem yo_yr248 : y_okM ztb zcls yr248 := y_okM_i (z_codeIn (ch := 12) (i := 189) (l := tables_1_12) rfl rfl) (z_w_ok (n := 1012) (by decide +kernel)) (by decide +kernel) ⟨by decide +kernel, by decide +kernel⟩ (z_w_ok (n := 12187) (by decide +kernel)) (z_w_ok (n := 12188) (by decide +kernel)) rfl rfl (by decide)
theorem yq_yr249 : (y_cd yr249).all (y_okE ztb znw zcls (ytb yw00) yr249) = true := by decide +kernel
theorem yo_yr249 : y_okM ztb zcls yr249 := y_okM_i (z_codeIn (ch := 11) (i := 151) (l := tables_1_11) rfl rfl) (z_w_ok (n := 1012) (by decide +kernel)) (by decide +kernel) ⟨by decide +kernel, by decide +kernel⟩ (z_w_ok (n := 11149) (by decide +kernel)) (z_w_ok (n := 11150) (by decide +kernel)) rfl rfl (by decide)
theorem yq_yr250 : (y_cd yr250).all (y_okE ztb znw zcls (ytb yw00) yr250) = true := by decide +kernel
theorem yo_yr250 : y_okM ztb zcls yr250 := y_okM_i (z_codeIn (ch := 12) (i := 93) (l := tables_1_12) rfl rfl) (z_w_ok (n := 1012) (by decide +kernel)) (by decide +kernel) ⟨by decide +kernel, by decide +kernel⟩ (z_w_ok (n := 12092) (by decide +kernel)) (z_w_ok (n := 178) (by decide +kernel)) rfl rfl (by decide)
theorem yq_yr251_0 : (((y_cd yr251).drop 0).take 40).all (y_okE ztb znw zcls (ytb yw00) yr251) = true := by decide +kernel
theorem yq_yr251_1 : (((y_cd yr251).drop 40).take 40).all (y_okE ztb znw zcls (ytb yw00) yr251) = true := by decide +kernel
theorem yq_yr251_2 : (((y_cd yr251).drop 80).take 40).all (y_okE ztb znw zcls (ytb yw00) yr251) = true := by decide +kernel
theorem yq_yr251_e3 : ((y_cd yr251).drop 120).all (y_okE ztb znw zcls (ytb yw00) yr251) = true := z_seg_end (by decide +kernel)
theorem yq_yr251_e2 : ((y_cd yr251).drop 80).all (y_okE ztb znw zcls (ytb yw00) yr251) = true := z_seg (a := 80) (k := 40) yq_yr251_2 yq_yr251_e3
theorem yq_yr251_e1 : ((y_cd yr251).drop 40).all (y_okE ztb znw zcls (ytb yw00) yr251) = true := z_seg (a := 40) (k := 40) yq_yr251_1 yq_yr251_e2
theorem yq_yr251_e0 : ((y_cd yr251).drop 0).all (y_okE ztb znw zcls (ytb yw00) yr251) = true := z_seg (a := 0) (k := 40) yq_yr251_0 yq_yr251_e1
theorem yq_yr251 : (y_cd yr251).all (y_okE ztb znw zcls (ytb yw00) yr251) = true := z_seg0 yq_yr251_e0
theorem yo_yr251 : y_okM ztb zcls yr251 := y_okM_i (z_codeIn (ch := 12) (i := 20) (l := tables_1_12) rfl rfl) (z_w_ok (n := 1012) (by decide +kernel)) (by decide +kernel) ⟨by decide +kernel, by decide +kernel⟩ (z_w_ok (n := 12019) (by decide +kernel)) (z_w_ok (n := 162) (by decide +kernel)) rfl rfl (by decide)
theorem yq_yr252_0 : (((y_cd yr252).drop 0).take 40).all (y_okE ztb znw zcls (ytb yw00) yr252) = true := by decide +kernel
theorem yq_yr252_1 : (((y_cd yr252).drop 40).take 40).all (y_okE ztb znw zcls (ytb yw00) yr252) = true := by decide +kernel
theorem yq_yr252_e2 : ((y_cd yr252).drop 80).all (y_okE ztb znw zcls (ytb yw00) yr252) = true := z_seg_end (by decide +kernel)
theorem yq_yr252_e1 : ((y_cd yr252).drop 40).all (y_okE ztb znw zcls (ytb yw00) yr252) = true := z_seg (a := 40) (k := 40) yq_yr252_1 yq_yr252_e2
theorem yq_yr252_e0 : ((y_cd yr252).drop 0).all (y_okE ztb znw zcls (ytb yw00) yr252) = true := z_seg (a := 0) (k := 40) yq_yr252_0 yq_yr252_e1
theorem yq_yr252 : (y_cd yr252).all (y_okE ztb znw zcls (ytb yw00) yr252) = true := z_seg0 yq_yr252_e0
theorem yo_yr252 : y_okM ztb zcls yr252 := y_okM_i (z_codeIn (ch := 12) (i := 24) (l := tables_1_12) rfl rfl) (z_w_ok (n := 1012) (by decide +kernel)) (by decide +kernel) ⟨by decide +kernel, by decide +kernel⟩ (z_w_ok (n := 12023) (by decide +kernel)) (z_w_ok (n := 163) (by decide +kernel)) rfl rfl (by decide)
theorem yq_yr253_0 : (((y_cd yr253).drop 0).take 40).all (y_okE ztb znw zcls (ytb yw00) yr253) = true := by decide +kernel
theorem yq_yr253_1 : (((y_cd yr253).drop 40).take 40).all (y_okE ztb znw zcls (ytb yw00) yr253) = true := by decide +kernel
theorem yq_yr253_e2 : ((y_cd yr253).drop 80).all (y_okE ztb znw zcls (ytb yw00) yr253) = true := z_seg_end (by decide +kernel)
theorem yq_yr253_e1 : ((y_cd yr253).drop 40).all (y_okE ztb znw zcls (ytb yw00) yr253) = true := z_seg (a := 40) (k := 40) yq_yr253_1 yq_yr253_e2
theorem yq_yr253_e0 : ((y_cd yr253).drop 0).all (y_okE ztb znw zcls (ytb yw00) yr253) = true := z_seg (a := 0) (k := 40) yq_yr253_0 yq_yr253_e1
theorem yq_yr253 : (y_cd yr253).all (y_okE ztb znw zcls (ytb yw00) yr253) = true := z_seg0 yq_yr253_e0
theorem yo_yr253 : y_okM ztb zcls yr253 := y_okM_i (z_codeIn (ch := 12) (i := 219) (l := tables_1_12) rfl rfl) (z_w_ok (n := 1012) (by decide +kernel)) (by decide +kernel) ⟨by decide +kernel, by decide +kernel⟩ (z_w_ok (n := 12217) (by decide +kernel)) (z_w_ok (n := 12218) (by decide +kernel)) rfl rfl (by decide)
theorem yq_yr254_0 : (((y_cd yr254).drop 0).take 40).all (y_okE ztb znw zcls (ytb yw00) yr254) = true := by decide +kernel
theorem yq_yr254_1 : (((y_cd yr254).drop 40).take 40).all (y_okE ztb znw zcls (ytb yw00) yr254) = true := by decide +kernel
theorem yq_yr254_e2 : ((y_cd yr254).drop 80).all (y_okE ztb znw zcls (ytb yw00) yr254) = true := z_seg_end (by decide +kernel)
theorem yq_yr254_e1 : ((y_cd yr254).drop 40).all (y_okE ztb znw zcls (ytb yw00) yr254) = true := z_seg (a := 40) (k := 40) yq_yr254_1 yq_yr254_e2
theorem yq_yr254_e0 : ((y_cd yr254).drop 0).all (y_okE ztb znw zcls (ytb yw00) yr254) = true := z_seg (a := 0) (k := 40) yq_yr254_0 yq_yr254_e1
theorem yq_yr254 : (y_cd yr254).all (y_okE ztb znw zcls (ytb yw00) yr254) = true := z_seg0 yq_yr254_e0
theorem yo_yr254 : y_okM ztb zcls yr254 := y_okM_i (z_codeIn (ch := 11) (i := 179) (l := tables_1_11) rfl rfl) (z_w_ok (n := 1012) (by decide +kernel)) (by decide +kernel) ⟨by decide +kernel, by decide +kernel⟩ (z_w_ok (n := 11178) (by decide +kernel)) (z_w_ok (n := 147) (by decide +kernel)) rfl rfl (by decide)
theorem yq_yr255_0 : (((y_cd yr255).drop 0).take 40).all (y_okE ztb znw zcls (ytb yw00) yr255) = true := by decide +kernel
theorem yq_yr255_1 : (((y_cd yr255).drop 40).take 40).all (y_okE ztb znw zcls (ytb yw00) yr255) = true := by decide +kernel
theorem yq_yr255_e2 : ((y_cd yr255).drop 80).all (y_okE ztb znw zcls (ytb yw00) yr255) = true := z_seg_end (by decide +kernel)
theorem yq_yr255_e1 : ((y_cd yr255).drop 40).all (y_okE ztb znw zcls (ytb yw00) yr255) = true := z_seg (a := 40) (k := 40) yq_yr255_1 yq_yr255_e2
theorem yq_yr255_e0 : ((y_cd yr255).drop 0).all (y_okE ztb znw zcls (ytb yw00) yr255) = true := z_seg (a := 0) (k := 40) yq_yr255_0 yq_yr255_e1
theorem yq_yr255 : (y_cd yr255).all (y_okE ztb znw zcls (ytb yw00) yr255) = true := z_seg0 yq_yr255_e0
theorem yo_yr255 : y_okM ztb zcls yr255 := y_okM_i (z_codeIn (ch := 11) (i := 67) (l := tables_1_11) rfl rfl) (z_w_ok (n := 1012) (by decide +kernel)) (by decide +kernel) ⟨by decide +kernel, by decide +kernel⟩ (z_w_ok (n := 11066) (by decide +kernel)) (z_w_ok (n := 129) (by decide +kernel)) rfl rfl (by decide)
theorem yq_yr256_0 : (((y_cd yr256).drop 0).take 40).all (y_okE ztb znw zcls (ytb yw00) yr256) = true := by decide +kernel
theorem yq_yr256_1 : (((y_cd yr256).drop 40).take 40).all (y_okE ztb znw zcls (ytb yw00) yr256) = true := by decide +kernel
theorem yq_yr256_2 : (((y_cd yr256).drop 80).take 40).all (y_okE ztb znw zcls (ytb yw00) yr256) = true := by decide +kernel
theorem yq_yr256_e3 : ((y_cd yr256).drop 120).all (y_okE ztb znw zcls (ytb yw00) yr256) = true := z_seg_end (by decide +kernel)
theorem yq_yr256_e2 : ((y_cd yr256).drop 80).all (y_okE ztb znw zcls (ytb yw00) yr256) = true := z_seg (a := 80) (k := 40) yq_yr256_2 yq_yr256_e3
theorem yq_yr256_e1 : ((y_cd yr256).drop 40).all (y_okE ztb znw zcls (ytb yw00) yr256) = true := z_seg (a := 40) (k := 40) yq_yr256_1 yq_yr256_e2
theorem yq_yr256_e0 : ((y_cd yr256).drop 0).all (y_okE ztb znw zcls (ytb yw00) yr256) = true := z_seg (a := 0) (k := 40) yq_yr256_0 yq_yr256_e1
theorem yq_yr256 : (y_cd yr256).all (y_okE ztb znw zcls (ytb yw00) yr256) = true := z_seg0 yq_yr256_e0
theorem yo_yr256 : y_okM ztb zcls yr256 := y_okM_i (z_codeIn (ch := 11) (i := 35) (l := tables_1_11) rfl rfl) (z_w_ok (n := 1012) (by decide +kernel)) (by decide +kernel) ⟨by decide +kernel, by decide +kernel⟩ (z_w_ok (n := 11034) (by decide +kernel)) (z_w_ok (n := 121) (by decide +kernel)) rfl rfl (by decide)
theorem yq_yr257 : (y_cd yr257).all (y_okE ztb znw zcls (ytb yw00) yr257) = true := by decide +kernel
theorem yo_yr257 : y_okM ztb zcls yr257 := y_okM_i (z_codeIn (ch := 11) (i := 123) (l := tables_1_11) rfl rfl) (z_w_ok (n := 1012) (by decide +kernel)) (by decide +kernel) ⟨by decide +kernel, by decide +kernel⟩ (z_w_ok (n := 11121) (by decide +kernel)) (z_w_ok (n := 11122) (by decide +kernel)) rfl rfl (by decide)
theorem yq_yr258_0 : (((y_cd yr258).drop 0).take 40).all (y_okE ztb znw zcls (ytb yw00) yr258) = true := by decide +kernel
theorem yq_yr258_1 : (((y_cd yr258).drop 40).take 40).all (y_okE ztb znw zcls (ytb yw00) yr258) = true := by decide +kernel
theorem yq_yr258_e2 : ((y_cd yr258).drop 80).all (y_okE ztb znw zcls (ytb yw00) yr258) = true := z_seg_end (by decide +kernel)
theorem yq_yr258_e1 : ((y_cd yr258).drop 40).all (y_okE ztb znw zcls (ytb yw00) yr258) = true := z_seg (a := 40) (k := 40) yq_yr258_1 yq_yr258_e2
theorem yq_yr258_e0 : ((y_cd yr258).drop 0).all (y_okE ztb znw zcls (ytb yw00) yr258) = true := z_seg (a := 0) (k := 40) yq_yr258_0 yq_yr258_e1
theorem yq_yr258 : (y_cd yr258).all (y_okE ztb znw zcls (ytb yw00) yr258) = true := z_seg0 yq_yr258_e0
theorem yo_yr258 : y_okM ztb zcls yr258 := y_okM_i (z_codeIn (ch := 12) (i := 73) (l := tables_1_12) rfl rfl) (z_w_ok (n := 1012) (by decide +kernel)) (by decide +kernel) ⟨by decide +kernel, by decide +kernel⟩ (z_w_ok (n := 12072) (by decide +kernel)) (z_w_ok (n := 175) (by decide +kernel)) rfl rfl (by decide)
theorem yq_yr259_0 : (((y_cd yr259).drop 0).take 40).all (y_okE ztb znw zcls (ytb yw00) yr259) = true := by decide +kernel
theorem yq_yr259_1 : (((y_cd yr259).drop 40).take 40).all (y_okE ztb znw zcls (ytb yw00) yr259) = true := by decide +kernel
theorem yq_yr259_e2 : ((y_cd yr259).drop 80).all (y_okE ztb znw zcls (ytb yw00) yr259) = true := z_seg_end (by decide +kernel)
theorem yq_yr259_e1 : ((y_cd yr259).drop 40).all (y_okE ztb znw zcls (ytb yw00) yr259) = true := z_seg (a := 40) (k := 40) yq_yr259_1 yq_yr259_e2
theorem yq_yr259_e0 : ((y_cd yr259).drop 0).all (y_okE ztb znw zcls (ytb yw00) yr259) = true := z_seg (a := 0) (k := 40) yq_yr259_0 yq_yr259_e1
theorem yq_yr259 : (y_cd yr259).all (y_okE ztb znw zcls (ytb yw00) yr259) = true := z_seg0 yq_yr259_e0
theorem yo_yr259 : y_okM ztb zcls yr259 := y_okM_i (z_codeIn (ch := 12) (i := 0) (l := tables_1_12) rfl rfl) (z_w_ok (n := 1012) (by decide +kernel)) (by decide +kernel) ⟨by decide +kernel, by decide +kernel⟩ (z_w_ok (n := 11239) (by decide +kernel)) (z_w_ok (n := 157) (by decide +kernel)) rfl rfl (by decide)
theorem yq_yr260_0 : (((y_cd yr260).drop 0).take 40).all (y_okE ztb znw zcls (ytb yw00) yr260) = true := by decide +kernel
theorem yq_yr260_1 : (((y_cd yr260).drop 40).take 40).all (y_okE ztb znw zcls (ytb yw00) yr260) = true := by decide +kernel
theorem yq_yr260_e2 : ((y_cd yr260).drop 80).all (y_okE ztb znw zcls (ytb yw00) yr260) = true := z_seg_end (by decide +kernel)
theorem yq_yr260_e1 : ((y_cd yr260).drop 40).all (y_okE ztb znw zcls (ytb yw00) yr260) = true := z_seg (a := 40) (k := 40) yq_yr260_1 yq_yr260_e2
theorem yq_yr260_e0 : ((y_cd yr260).drop 0).all (y_okE ztb znw zcls (ytb yw00) yr260) = true := z_seg (a := 0) (k := 40) yq_yr260_0 yq_yr260_e1
theorem yq_yr260 : (y_cd yr260).all (y_okE ztb znw zcls (ytb yw00) yr260) = true := z_seg0 yq_yr260_e0
theorem yo_yr260 : y_okM ztb zcls yr260 := y_okM_i (z_codeIn (ch := 10) (i := 179) (l := tables_1_10) rfl rfl) (z_w_ok (n := 1012) (by decide +kernel)) (by decide +kernel) ⟨by decide +kernel, by decide +kernel⟩ (z_w_ok (n := 10178) (by decide +kernel)) (z_w_ok (n := 107) (by decide +kernel)) rfl rfl (by decide)
theorem yq_yr261_0 : (((y_cd yr261).drop 0).take 40).all (y_okE ztb znw zcls (ytb yw00) yr261) = true := by decide +kernel
theorem yq_yr261_1 : (((y_cd yr261).drop 40).take 40).all (y_okE ztb znw zcls (ytb yw00) yr261) = true := by decide +kernel
theorem yq_yr261_e2 : ((y_cd yr261).drop 80).all (y_okE ztb znw zcls (ytb yw00) yr261) = true := z_seg_end (by decide +kernel)
theorem yq_yr261_e1 : ((y_cd yr261).drop 40).all (y_okE ztb znw zcls (ytb yw00) yr261) = true := z_seg (a := 40) (k := 40) yq_yr261_1 yq_yr261_e2
theorem yq_yr261_e0 : ((y_cd yr261).drop 0).all (y_okE ztb znw zcls (ytb yw00) yr261) = true := z_seg (a := 0) (k := 40) yq_yr261_0 yq_yr261_e1
theorem yq_yr261 : (y_cd yr261).all (y_okE ztb znw zcls (ytb yw00) yr261) = true := z_seg0 yq_yr261_e0
theorem yo_yr261 : y_okM ztb zcls yr261 := y_okM_i (z_codeIn (ch := 10) (i := 239) (l := tables_1_10) rfl rfl) (z_w_ok (n := 1012) (by decide +kernel)) (by decide +kernel) ⟨by decide +kernel, by decide +kernel⟩ (z_w_ok (n := 10238) (by decide +kernel)) (z_w_ok (n := 115) (by decide +kernel)) rfl rfl (by decide)
theorem yq_yr262_0 : (((y_cd yr262).drop 0).take 40).all (y_okE ztb znw zcls (ytb yw00) yr262) = true := by decide +kernel
theorem yq_yr262_1 : (((y_cd yr262).drop 40).take 40).all (y_okE ztb znw zcls (ytb yw00) yr262) = true := by decide +kernel
theorem yq_yr262_2 : (((y_cd yr262).drop 80).take 40).all (y_okE ztb znw zcls (ytb yw00) yr262) = true := by decide +kernel
theorem yq_yr262_3 : (((y_cd yr262).drop 120).take 40).all (y_okE ztb znw zcls (ytb yw00) yr262) = true := by decide +kernel
theorem yq_yr262_4 : (((y_cd yr262).drop 160).take 40).all (y_okE ztb znw zcls (ytb yw00) yr262) = true := by decide +kernel
theorem yq_yr262_e5 : ((y_cd yr262).drop 200).all (y_okE ztb znw zcls (ytb yw00) yr262) = true := z_seg_end (by decide +kernel)
theorem yq_yr262_e4 : ((y_cd yr262).drop 160).all (y_okE ztb znw zcls (ytb yw00) yr262) = true := z_seg (a := 160) (k := 40) yq_yr262_4 yq_yr262_e5
theorem yq_yr262_e3 : ((y_cd yr262).drop 120).all (y_okE ztb znw zcls (ytb yw00) yr262) = true := z_seg (a := 120) (k := 40) yq_yr262_3 yq_yr262_e4
theorem yq_yr262_e2 : ((y_cd yr262).drop 80).all (y_okE ztb znw zcls (ytb yw00) yr262) = true := z_seg (a := 80) (k := 40) yq_yr262_2 yq_yr262_e3
theorem yq_yr262_e1 : ((y_cd yr262).drop 40).all (y_okE ztb znw zcls (ytb yw00) yr262) = true := z_seg (a := 40) (k := 40) yq_yr262_1 yq_yr262_e2
theorem yq_yr262_e0 : ((y_cd yr262).drop 0).all (y_okE ztb znw zcls (ytb yw00) yr262) = true := z_seg (a := 0) (k := 40) yq_yr262_0 yq_yr262_e1
theorem yq_yr262 : (y_cd yr262).all (y_okE ztb znw zcls (ytb yw00) yr262) = true := z_seg0 yq_yr262_e0
theorem yo_yr262 : y_okM ztb zcls yr262 := y_okM_i (z_codeIn (ch := 10) (i := 91) (l := tables_1_10) rfl rfl) (z_w_ok (n := 1012) (by decide +kernel)) (by decide +kernel) ⟨by decide +kernel, by decide +kernel⟩ (z_w_ok (n := 10090) (by decide +kernel)) (z_w_ok (n := 89) (by decide +kernel)) rfl rfl (by decide)
theorem yq_yr263 : (y_cd yr263).all (y_okE ztb znw zcls (ytb yw00) yr263) = true := by decide +kernel
theorem yo_yr263 : y_okM ztb zcls yr263 := y_okM_i (z_codeIn (ch := 8) (i := 109) (l := tables_1_8) rfl rfl) (z_w_ok (n := 1012) (by decide +kernel)) (by decide +kernel) ⟨by decide +kernel, by decide +kernel⟩ (z_w_ok (n := 8108) (by decide +kernel)) (z_w_ok (n := 87) (by decide +kernel)) rfl rfl (by decide)
theorem yq_yr264_0 : (((y_cd yr264).drop 0).take 40).all (y_okE ztb znw zcls (ytb yw00) yr264) = true := by decide +kernel
theorem yq_yr264_1 : (((y_cd yr264).drop 40).take 40).all (y_okE ztb znw zcls (ytb yw00) yr264) = true := by decide +kernel
theorem yq_yr264_e2 : ((y_cd yr264).drop 80).all (y_okE ztb znw zcls (ytb yw00) yr264) = true := z_seg_end (by decide +kernel)
theorem yq_yr264_e1 : ((y_cd yr264).drop 40).all (y_okE ztb znw zcls (ytb yw00) yr264) = true := z_seg (a := 40) (k := 40) yq_yr264_1 yq_yr264_e2
theorem yq_yr264_e0 : ((y_cd yr264).drop 0).all (y_okE ztb znw zcls (ytb yw00) yr264) = true := z_seg (a := 0) (k := 40) yq_yr264_0 yq_yr264_e1
theorem yq_yr264 : (y_cd yr264).all (y_okE ztb znw zcls (ytb yw00) yr264) = true := z_seg0 yq_yr264_e0
theorem yo_yr264 : y_okM ztb zcls yr264 := y_okM_i (z_codeIn (ch := 12) (i := 173) (l := tables_1_12) rfl rfl) (z_w_ok (n := 1012) (by decide +kernel)) (by decide +kernel) ⟨by decide +kernel, by decide +kernel⟩ (z_w_ok (n := 12172) (by decide +kernel)) (z_w_ok (n := 190) (by decide +kernel)) rfl rfl (by decide)
theorem yq_yr265_0 : (((y_cd yr265).drop 0).take 40).all (y_okE ztb znw zcls (ytb yw00) yr265) = true := by decide +kernel
theorem yq_yr265_1 : (((y_cd yr265).drop 40).take 40).all (y_okE ztb znw zcls (ytb yw00) yr265) = true := by decide +kernel
theorem yq_yr265_e2 : ((y_cd yr265).drop 80).all (y_okE ztb znw zcls (ytb yw00) yr265) = true := z_seg_end (by decide +kernel)
theorem yq_yr265_e1 : ((y_cd yr265).drop 40).all (y_okE ztb znw zcls (ytb yw00) yr265) = true := z_seg (a := 40) (k := 40) yq_yr265_1 yq_yr265_e2
theorem yq_yr265_e0 : ((y_cd yr265).drop 0).all (y_okE ztb znw zcls (ytb yw00) yr265) = true := z_seg (a := 0) (k := 40) yq_yr265_0 yq_yr265_e1
theorem yq_yr265 : (y_cd yr265).all (y_okE ztb znw zcls (ytb yw00) yr265) = true := z_seg0 yq_yr265_e0
theorem yo_yr265 : y_okM ztb zcls yr265 := y_okM_i (z_codeIn (ch := 11) (i := 232) (l := tables_1_11) rfl rfl) (z_w_ok (n := 1012) (by decide +kernel)) (by decide +kernel) ⟨by decide +kernel, by decide +kernel⟩ (z_w_ok (n := 11231) (by decide +kernel)) (z_w_ok (n := 155) (by decide +kernel)) rfl rfl (by decide)
theorem yq_yr266 : (y_cd yr266).all (y_okE ztb znw zcls (ytb yw00) yr266) = true := by decide +kernel
theorem yo_yr266 : y_okM ztb zcls yr266 := y_okM_i (z_codeIn (ch := 12) (i := 185) (l := tables_1_12) rfl rfl) (z_w_ok (n := 1012) (by decide +kernel)) (by decide +kernel) ⟨by decide +kernel, by decide +kernel⟩ (z_w_ok (n := 12183) (by decide +kernel)) (z_w_ok (n := 12184) (by decide +kernel)) rfl rfl (by decide)
theorem yq_yr267_0 : (((y_cd yr267).drop 0).take 40).all (y_okE ztb znw zcls (ytb yw00) yr267) = true := by decide +kernel
theorem yq_yr267_1 : (((y_cd yr267).drop 40).take 40).all (y_okE ztb znw zcls (ytb yw00) yr267) = true := by decide +kernel
theorem yq_yr267_e2 : ((y_cd yr267).drop 80).all (y_okE ztb znw zcls (ytb yw00) yr267) = true := z_seg_end (by decide +kernel)
theorem yq_yr267_e1 : ((y_cd yr267).drop 40).all (y_okE ztb znw zcls (ytb yw00) yr267) = true := z_seg (a := 40) (k := 40) yq_yr267_1 yq_yr267_e2
theorem yq_yr267_e0 : ((y_cd yr267).drop 0).all (y_okE ztb znw zcls (ytb yw00) yr267) = true := z_seg (a := 0) (k := 40) yq_yr267_0 yq_yr267_e1
theorem yq_yr267 : (y_cd yr267).all (y_okE ztb znw zcls (ytb yw00) yr267) = true := z_seg0 yq_yr267_e0
theorem yo_yr267 : y_okM ztb zcls yr267 := y_okM_i (z_codeIn (ch := 11) (i := 23) (l := tables_1_11) rfl rfl) (z_w_ok (n := 1012) (by decide +kernel)) (by decide +kernel) ⟨by decide +kernel, by decide +kernel⟩ (z_w_ok (n := 11022) (by decide +kernel)) (z_w_ok (n := 118) (by decide +kernel)) rfl rfl (by decide)
theorem yq_yr268_0 : (((y_cd yr268).drop 0).take 40).all (y_okE ztb znw zcls (ytb yw00) yr268) = true := by decide +kernel
theorem yq_yr268_1 : (((y_cd yr268).drop 40).take 40).all (y_okE ztb znw zcls (ytb yw00) yr268) = true := by decide +kernel
theorem yq_yr268_e2 : ((y_cd yr268).drop 80).all (y_okE ztb znw zcls (ytb yw00) yr268) = true := z_seg_end (by decide +kernel)
theorem yq_yr268_e1 : ((y_cd yr268).drop 40).all (y_okE ztb znw zcls (ytb yw00) yr268) = true := z_seg (a := 40) (k := 40) yq_yr268_1 yq_yr268_e2
theorem yq_yr268_e0 : ((y_cd yr268).drop 0).all (y_okE ztb znw zcls (ytb yw00) yr268) = true := z_seg (a := 0) (k := 40) yq_yr268_0 yq_yr268_e1
theorem yq_yr268 : (y_cd yr268).all (y_okE ztb znw zcls (ytb yw00) yr268) = true := z_seg0 yq_yr268_e0
theorem yo_yr268 : y_okM ztb zcls yr268 := y_okM_i (z_codeIn (ch := 11) (i := 23) (l := tables_1_11) rfl rfl) (z_w_ok (n := 1012) (by decide +kernel)) (by decide +kernel) ⟨by decide +kernel, by decide +kernel⟩ (z_w_ok (n := 11022) (by decide +kernel)) (z_w_ok (n := 118) (by decide +kernel)) rfl rfl (by decide)
theorem yq_yr269_0 : (((y_cd yr269).drop 0).take 40).all (y_okE ztb znw zcls (ytb yw00) yr269) = true := by decide +kernel
theorem yq_yr269_1 : (((y_cd yr269).drop 40).take 40).all (y_okE ztb znw zcls (ytb yw00) yr269) = true := by decide +kernel
theorem yq_yr269_e2 : ((y_cd yr269).drop 80).all (y_okE ztb znw zcls (ytb yw00) yr269) = true := z_seg_end (by decide +kernel)
theorem yq_yr269_e1 : ((y_cd yr269).drop 40).all (y_okE ztb znw zcls (ytb yw00) yr269) = true := z_seg (a := 40) (k := 40) yq_yr269_1 yq_yr269_e2
theorem yq_yr269_e0 : ((y_cd yr269).drop 0).all (y_okE ztb znw zcls (ytb yw00) yr269) = true := z_seg (a := 0) (k := 40) yq_yr269_0 yq_yr269_e1
theorem yq_yr269 : (y_cd yr269).all (y_okE ztb znw zcls (ytb yw00) yr269) = true := z_seg0 yq_yr269_e0
theorem yo_yr269 : y_okM ztb zcls yr269 := y_okM_i (z_codeIn (ch := 11) (i := 23) (l := tables_1_11) rfl rfl) (z_w_ok (n := 1012) (by decide +kernel)) (by decide +kernel) ⟨by decide +kernel, by decide +kernel⟩ (z_w_ok (n := 11022) (by decide +kernel)) (z_w_ok (n := 118) (by decide +kernel)) rfl rfl (by decide)
theorem yq_yr270_0 : (((y_cd yr270).drop 0).take 40).all (y_okE ztb znw zcls (ytb yw00) yr270) = true := by decide +kernel
theorem yq_yr270_1 : (((y_cd yr270).drop 40).take 40).all (y_okE ztb znw zcls (ytb yw00) yr270) = true := by decide +kernel
theorem yq_yr270_e2 : ((y_cd yr270).drop 80).all (y_okE ztb znw zcls (ytb yw00) yr270) = true := z_seg_end (by decide +kernel)
theorem yq_yr270_e1 : ((y_cd yr270).drop 40).all (y_okE ztb znw zcls (ytb yw00) yr270) = true := z_seg (a := 40) (k := 40) yq_yr270_1 yq_yr270_e2
theorem yq_yr270_e0 : ((y_cd yr270).drop 0).all (y_okE ztb znw zcls (ytb yw00) yr270) = true := z_seg (a := 0) (k := 40) yq_yr270_0 yq_yr270_e1
theorem yq_yr270 : (y_cd yr270).all (y_okE ztb znw zcls (ytb yw00) yr270) = true := z_seg0 yq_yr270_e0
theorem yo_yr270 : y_okM ztb zcls yr270 := y_okM_i (z_codeIn (ch := 11) (i := 23) (l := tables_1_11) rfl rfl) (z_w_ok (n := 1012) (by decide +kernel)) (by decide +kernel) ⟨by decide +kernel, by decide +kernel⟩ (z_w_ok (n := 11022) (by decide +kernel)) (z_w_ok (n := 118) (by decide +kernel)) rfl rfl (by decide)
