theorem yq_yr239_0 : (((y_cd yr239).drop 0).take 40).all (y_okE ztb znw zcls (ytb yw00) yr239) = true := by decide +kernel
theorem yq_yr239_1 : (((y_cd yr239).drop 40).take 40).all (y_okE ztb znw zcls (ytb yw00) yr239) = true := by decide +kernel
theorem yq_yr239_e2 : ((y_cd yr239).drop 80).all (y_okE ztb znw zcls (ytb yw00) yr239) = true := z_seg_end (by decide +kernel)
theorem yq_yr239_e1 : ((y_cd yr239).drop 40).all (y_okE ztb znw zcls (ytb yw00) yr239) = true := z_seg (a := 40) (k := 40) yq_yr239_1 yq_yr239_e2
theorem yq_yr239_e0 : ((y_cd yr239).drop 0).all (y_okE ztb znw zcls (ytb yw00) yr239) = true := z_seg (a := 0) (k := 40) yq_yr239_0 yq_yr239_e1
theorem yq_yr239 : (y_cd yr239).all (y_okE ztb znw zcls (ytb yw00) yr239) = true := z_seg0 yq_yr239_e0
theorem yo_yr239 : y_okM ztb zcls yr239 := y_okM_i (z_codeIn (ch := 11) (i := 23) (l := tables_1_11) rfl rfl) (z_w_ok (n := 1012) (by decide +kernel)) (by decide +kernel) ⟨by decide +kernel, by decide +kernel⟩ (z_w_ok (n := 11022) (by decide +kernel)) (z_w_ok (n := 118) (by decide +kernel)) rfl rfl (by decide)
theorem yq_yr240_0 : (((y_cd yr240).drop 0).take 40).all (y_okE ztb znw zcls (ytb yw00) yr240) = true := by decide +kernel
theorem yq_yr240_1 : (((y_cd yr240).drop 40).take 40).all (y_okE ztb znw zcls (ytb yw00) yr240) = true := by decide +kernel
theorem yq_yr240_e2 : ((y_cd yr240).drop 80).all (y_okE ztb znw zcls (ytb yw00) yr240) = true := z_seg_end (by decide +kernel)
theorem yq_yr240_e1 : ((y_cd yr240).drop 40).all (y_okE ztb znw zcls (ytb yw00) yr240) = true := z_seg (a := 40) (k := 40) yq_yr240_1 yq_yr240_e2
theorem yq_yr240_e0 : ((y_cd yr240).drop 0).all (y_okE ztb znw zcls (ytb yw00) yr240) = true := z_seg (a := 0) (k := 40) yq_yr240_0 yq_yr240_e1
theorem yq_yr240 : (y_cd yr240).all (y_okE ztb znw zcls (ytb yw00) yr240) = true := z_seg0 yq_yr240_e0
theorem yo_yr240 : y_okM ztb zcls yr240 := y_okM_i (z_codeIn (ch := 11) (i := 23) (l := tables_1_11) rfl rfl) (z_w_ok (n := 1012) (by decide +kernel)) (by decide +kernel) ⟨by decide +kernel, by decide +kernel⟩ (z_w_ok (n := 11022) (by decide +kernel)) (z_w_ok (n := 118) (by decide +kernel)) rfl rfl (by decide)
theorem yq_yr241_0 : (((y_cd yr241).drop 0).take 40).all (y_okE ztb znw zcls (ytb yw00) yr241) = true := by decide +kernel
theorem yq_yr241_1 : (((y_cd yr241).drop 40).take 40).all (y_okE ztb znw zcls (ytb yw00) yr241) = true := by decide +kernel
theorem yq_yr241_e2 : ((y_cd yr241).drop 80).all (y_okE ztb znw zcls (ytb yw00) yr241) = true := z_seg_end (by decide +kernel)
theorem yq_yr241_e1 : ((y_cd yr241).drop 40).all (y_okE ztb znw zcls (ytb yw00) yr241) = true := z_seg (a := 40) (k := 40) yq_yr241_1 yq_yr241_e2
theorem yq_yr241_e0 : ((y_cd yr241).drop 0).all (y_okE ztb znw zcls (ytb yw00) yr241) = true := z_seg (a := 0) (k := 40) yq_yr241_0 yq_yr241_e1
theorem yq_yr241 : (y_cd yr241).all (y_okE ztb znw zcls (ytb yw00) yr241) = true := z_seg0 yq_yr241_e0
theorem yo_yr241 : y_okM ztb zcls yr241 := y_okM_i (z_codeIn (ch := 11) (i := 23) (l := tables_1_11) rfl rfl) (z_w_ok (n := 1012) (by decide +kernel)) (by decide +kernel) ⟨by decide +kernel, by decide +kernel⟩ (z_w_ok (n := 11022) (by decide +kernel)) (z_w_ok (n := 118) (by decide +kernel)) rfl rfl (by decide)
theorem yq_yr242 : (y_cd yr242).all (y_okE ztb znw zcls (ytb yw00) yr242) = true := by decide +kernel
theorem yo_yr242 : y_okM ztb zcls yr242 := y_okM_i (z_codeIn (ch := 11) (i := 27) (l := tables_1_11) rfl rfl) (z_w_ok (n := 1012) (by decide +kernel)) (by decide +kernel) ⟨by decide +kernel, by decide +kernel⟩ (z_w_ok (n := 11026) (by decide +kernel)) (z_w_ok (n := 119) (by decide +kernel)) rfl rfl (by decide)
theorem yq_yr243 : (y_cd yr243).all (y_okE ztb znw zcls (ytb yw00) yr243) = true := by decide +kernel
theorem yo_yr243 : y_okM ztb zcls yr243 := y_okM_i (z_codeIn (ch := 11) (i := 27) (l := tables_1_11) rfl rfl) (z_w_ok (n := 1012) (by decide +kernel)) (by decide +kernel) ⟨by decide +kernel, by decide +kernel⟩ (z_w_ok (n := 11026) (by decide +kernel)) (z_w_ok (n := 119) (by decide +kernel)) rfl rfl (by decide)
theorem yq_yr244 : (y_cd yr244).all (y_okE ztb znw zcls (ytb yw00) yr244) = true := by decide +kernel
theorem yo_yr244 : y_okM ztb zcls yr244 := y_okM_i (z_codeIn (ch := 11) (i := 27) (l := tables_1_11) rfl rfl) (z_w_ok (n := 1012) (by decide +kernel)) (by decide +kernel) ⟨by decide +kernel, by decide +kernel⟩ (z_w_ok (n := 11026) (by decide +kernel)) (z_w_ok (n := 119) (by decide +kernel)) rfl rfl (by decide)
theorem yq_yr245 : (y_cd yr245).all (y_okE ztb znw zcls (ytb yw00) yr245) = true := by decide +kernel
theorem yo_yr245 : y_okM ztb zcls yr245 := y_okM_i (z_codeIn (ch := 11) (i := 27) (l := tables_1_11) rfl rfl) (z_w_ok (n := 1012) (by decide +kernel)) (by decide +kernel) ⟨by decide +kernel, by decide +kernel⟩ (z_w_ok (n := 11026) (by decide +kernel)) (z_w_ok (n := 119) (by decide +kernel)) rfl rfl (by decide)
theorem yq_yr246 : (y_cd yr246).all (y_okE ztb znw zcls (ytb yw00) yr246) = true := by decide +kernel
theorem yo_yr246 : y_okM ztb zcls yr246 := y_okM_i (z_codeIn (ch := 12) (i := 207) (l := tables_1_12) rfl rfl) (z_w_ok (n := 1012) (by decide +kernel)) (by decide +kernel) ⟨by decide +kernel, by decide +kernel⟩ (z_w_ok (n := 12205) (by decide +kernel)) (z_w_ok (n := 12206) (by decide +kernel)) rfl rfl (by decide)
theorem yq_yr247 : (y_cd yr247).all (y_okE ztb znw zcls (ytb yw00) yr247) = true := by decide +kernel
theorem yo_yr247 : y_okM ztb zcls yr247 := y_okM_i (z_codeIn (ch := 10) (i := 191) (l := tables_1_10) rfl rfl) (z_w_ok (n := 1012) (by decide +kernel)) (by decide +kernel) ⟨by decide +kernel, by decide +kernel⟩ (z_w_ok (n := 10189) (by decide +kernel)) (z_w_ok (n := 10190) (by decide +kernel)) rfl rfl (by decide)
theorem yq_yr248_0 : (((y_cd yr248).drop 0).take 40).all (y_okE ztb znw zcls (ytb yw00) yr248) = true := by decide +kernel
theorem yq_yr248_1 : (((y_cd yr248).drop 40).take 40).all (y_okE ztb znw zcls (ytb yw00) yr248) = true := by decide +kernel
theorem yq_yr248_2 : (((y_cd yr248).drop 80).take 40).all (y_okE ztb znw zcls (ytb yw00) yr248) = true := by decide +kernel
theorem yq_yr248_e3 : ((y_cd yr248).drop 120).all (y_okE ztb znw zcls (ytb yw00) yr248) = true := z_seg_end (by decide +kernel)
theorem yq_yr248_e2 : ((y_cd yr248).drop 80).all (y_okE ztb znw zcls (ytb yw00) yr248) = true := z_seg (a := 80) (k := 40) yq_yr248_2 yq_yr248_e3
theorem yq_yr248_e1 : ((y_cd yr248).drop 40).all (y_okE ztb znw zcls (ytb yw00) yr248) = true := z_seg (a := 40) (k := 40) yq_yr248_1 yq_yr248_e2
theorem yq_yr248_e0 : ((y_cd yr248).drop 0).all (y_okE ztb znw zcls (ytb yw00) yr248) = true := z_seg (a := 0) (k := 40) yq_yr248_0 yq_yr248_e1
theorem yq_yr248 : (y_cd yr248).all (y_okE ztb znw zcls (ytb yw00) yr248) = true := z_seg0 yq_yr248_e0
theorem yo_yr248 : y_okM ztb zcls yr248 := y_okM_i (z_codeIn (ch := 11) (i := 236) (l := tables_1_11) rfl rfl) (z_w_ok (n := 1012) (by decide +kernel)) (by decide +kernel) ⟨by decide +kernel, by decide +kernel⟩ (z_w_ok (n := 11235) (by decide +kernel)) (z_w_ok (n := 156) (by decide +kernel)) rfl rfl (by decide)
theorem yq_yr249 : (y_cd yr249).all (y_okE ztb znw zcls (ytb yw00) yr249) = true := by decide +kernel
theorem yo_yr249 : y_okM ztb zcls yr249 := y_okM_i (z_codeIn (ch := 12) (i := 121) (l := tables_1_12) rfl rfl) (z_w_ok (n := 1012) (by decide +kernel)) (by decide +kernel) ⟨by decide +kernel, by decide +kernel⟩ (z_w_ok (n := 12120) (by decide +kernel)) (z_w_ok (n := 181) (by decide +kernel)) rfl rfl (by decide)
theorem yq_yr250_0 : (((y_cd yr250).drop 0).take 40).all (y_okE ztb znw zcls (ytb yw00) yr250) = true := by decide +kernel
theorem yq_yr250_1 : (((y_cd yr250).drop 40).take 40).all (y_okE ztb znw zcls (ytb yw00) yr250) = true := by decide +kernel
theorem yq_yr250_e2 : ((y_cd yr250).drop 80).all (y_okE ztb znw zcls (ytb yw00) yr250) = true := z_seg_end (by decide +kernel)
theorem yq_yr250_e1 : ((y_cd yr250).drop 40).all (y_okE ztb znw zcls (ytb yw00) yr250) = true := z_seg (a := 40) (k := 40) yq_yr250_1 yq_yr250_e2
theorem yq_yr250_e0 : ((y_cd yr250).drop 0).all (y_okE ztb znw zcls (ytb yw00) yr250) = true := z_seg (a := 0) (k := 40) yq_yr250_0 yq_yr250_e1
theorem yq_yr250 : (y_cd yr250).all (y_okE ztb znw zcls (ytb yw00) yr250) = true := z_seg0 yq_yr250_e0
theorem yo_yr250 : y_okM ztb zcls yr250 := y_okM_i (z_codeIn (ch := 10) (i := 132) (l := tables_1_10) rfl rfl) (z_w_ok (n := 1012) (by decide +kernel)) (by decide +kernel) ⟨by decide +kernel, by decide +kernel⟩ (z_w_ok (n := 10131) (by decide +kernel)) (z_w_ok (n := 97) (by decide +kernel)) rfl rfl (by decide)
theorem yq_yr251_0 : (((y_cd yr251).drop 0).take 40).all (y_okE ztb znw zcls (ytb yw00) yr251) = true := by decide +kernel
theorem yq_yr251_1 : (((y_cd yr251).drop 40).take 40).all (y_okE ztb znw zcls (ytb yw00) yr251) = true := by decide +kernel
theorem yq_yr251_e2 : ((y_cd yr251).drop 80).all (y_okE ztb znw zcls (ytb yw00) yr251) = true := z_seg_end (by decide +kernel)
theorem yq_yr251_e1 : ((y_cd yr251).drop 40).all (y_okE ztb znw zcls (ytb yw00) yr251) = true := z_seg (a := 40) (k := 40) yq_yr251_1 yq_yr251_e2
theorem yq_yr251_e0 : ((y_cd yr251).drop 0).all (y_okE ztb znw zcls (ytb yw00) yr251) = true := z_seg (a := 0) (k := 40) yq_yr251_0 yq_yr251_e1
theorem yq_yr251 : (y_cd yr251).all (y_okE ztb znw zcls (ytb yw00) yr251) = true := z_seg0 yq_yr251_e0
theorem yo_yr251 : y_okM ztb zcls yr251 := y_okM_i (z_codeIn (ch := 10) (i := 87) (l := tables_1_10) rfl rfl) (z_w_ok (n := 1012) (by decide +kernel)) (by decide +kernel) ⟨by decide +kernel, by decide +kernel⟩ (z_w_ok (n := 10086) (by decide +kernel)) (z_w_ok (n := 88) (by decide +kernel)) rfl rfl (by decide)
theorem yq_yr252_0 : (((y_cd yr252).drop 0).take 40).all (y_okE ztb znw zcls (ytb yw00) yr252) = true := by decide +kernel
theorem yq_yr252_1 : (((y_cd yr252).drop 40).take 40).all (y_okE ztb znw zcls (ytb yw00) yr252) = true := by decide +kernel
theorem yq_yr252_2 : (((y_cd yr252).drop 80).take 40).all (y_okE ztb znw zcls (ytb yw00) yr252) = true := by decide +kernel
theorem yq_yr252_e3 : ((y_cd yr252).drop 120).all (y_okE ztb znw zcls (ytb yw00) yr252) = true := z_seg_end (by decide +kernel)
theorem yq_yr252_e2 : ((y_cd yr252).drop 80).all (y_okE ztb znw zcls (ytb yw00) yr252) = true := z_seg (a := 80) (k := 40) yq_yr252_2 yq_yr252_e3
theorem yq_yr252_e1 : ((y_cd yr252).drop 40).all (y_okE ztb znw zcls (ytb yw00) yr252) = true := z_seg (a := 40) (k := 40) yq_yr252_1 yq_yr252_e2
theorem yq_yr252_e0 : ((y_cd yr252).drop 0).all (y_okE ztb znw zcls (ytb yw00) yr252) = true := z_seg (a := 0) (k := 40) yq_yr252_0 yq_yr252_e1
theorem yq_yr252 : (y_cd yr252).all (y_okE ztb znw zcls (ytb yw00) yr252) = true := z_seg0 yq_yr252_e0
theorem yo_yr252 : y_okM ztb zcls yr252 := y_okM_i (z_codeIn (ch := 10) (i := 119) (l := tables_1_10) rfl rfl) (z_w_ok (n := 1012) (by decide +kernel)) (by decide +kernel) ⟨by decide +kernel, by decide +kernel⟩ (z_w_ok (n := 10118) (by decide +kernel)) (z_w_ok (n := 94) (by decide +kernel)) rfl rfl (by decide)
theorem yq_yr253_0 : (((y_cd yr253).drop 0).take 40).all (y_okE ztb znw zcls (ytb yw00) yr253) = true := by decide +kernel
theorem yq_yr253_1 : (((y_cd yr253).drop 40).take 40).all (y_okE ztb znw zcls (ytb yw00) yr253) = true := by decide +kernel
theorem yq_yr253_e2 : ((y_cd yr253).drop 80).all (y_okE ztb znw zcls (ytb yw00) yr253) = true := z_seg_end (by decide +kernel)
theorem yq_yr253_e1 : ((y_cd yr253).drop 40).all (y_okE ztb znw zcls (ytb yw00) yr253) = true := z_seg (a := 40) (k := 40) yq_yr253_1 yq_yr253_e2
theorem yq_yr253_e0 : ((y_cd yr253).drop 0).all (y_okE ztb znw zcls (ytb yw00) yr253) = true := z_seg (a := 0) (k := 40) yq_yr253_0 yq_yr253_e1
theorem yq_yr253 : (y_cd yr253).all (y_okE ztb znw zcls (ytb yw00) yr253) = true := z_seg0 yq_yr253_e0
theorem yo_yr253 : y_okM ztb zcls yr253 := y_okM_i (z_codeIn (ch := 10) (i := 146) (l := tables_1_10) rfl rfl) (z_w_ok (n := 1012) (by decide +kernel)) (by decide +kernel) ⟨by decide +kernel, by decide +kernel⟩ (z_w_ok (n := 10145) (by decide +kernel)) (z_w_ok (n := 99) (by decide +kernel)) rfl rfl (by decide)
theorem yq_yr254_0 : (((y_cd yr254).drop 0).take 40).all (y_okE ztb znw zcls (ytb yw00) yr254) = true := by decide +kernel
theorem yq_yr254_1 : (((y_cd yr254).drop 40).take 40).all (y_okE ztb znw zcls (ytb yw00) yr254) = true := by decide +kernel
theorem yq_yr254_e2 : ((y_cd yr254).drop 80).all (y_okE ztb znw zcls (ytb yw00) yr254) = true := z_seg_end (by decide +kernel)
theorem yq_yr254_e1 : ((y_cd yr254).drop 40).all (y_okE ztb znw zcls (ytb yw00) yr254) = true := z_seg (a := 40) (k := 40) yq_yr254_1 yq_yr254_e2
theorem yq_yr254_e0 : ((y_cd yr254).drop 0).all (y_okE ztb znw zcls (ytb yw00) yr254) = true := z_seg (a := 0) (k := 40) yq_yr254_0 yq_yr254_e1
theorem yq_yr254 : (y_cd yr254).all (y_okE ztb znw zcls (ytb yw00) yr254) = true := z_seg0 yq_yr254_e0
theorem yo_yr254 : y_okM ztb zcls yr254 := y_okM_i (z_codeIn (ch := 10) (i := 105) (l := tables_1_10) rfl rfl) (z_w_ok (n := 1012) (by decide +kernel)) (by decide +kernel) ⟨by decide +kernel, by decide +kernel⟩ (z_w_ok (n := 10104) (by decide +kernel)) (z_w_ok (n := 91) (by decide +kernel)) rfl rfl (by decide)
theorem yq_yr255 : (y_cd yr255).all (y_okE ztb znw zcls (ytb yw00) yr255) = true := by decide +kernel
theorem yo_yr255 : y_okM ztb zcls yr255 := y_okM_i (z_codeIn (ch := 10) (i := 155) (l := tables_1_10) rfl rfl) (z_w_ok (n := 1012) (by decide +kernel)) (by decide +kernel) ⟨by decide +kernel, by decide +kernel⟩ (z_w_ok (n := 10154) (by decide +kernel)) (z_w_ok (n := 101) (by decide +kernel)) rfl rfl (by decide)
theorem yq_yr256 : (y_cd yr256).all (y_okE ztb znw zcls (ytb yw00) yr256) = true := by decide +kernel
theorem yo_yr256 : y_okM ztb zcls yr256 := y_okM_i (z_codeIn (ch := 11) (i := 119) (l := tables_1_11) rfl rfl) (z_w_ok (n := 1012) (by decide +kernel)) (by decide +kernel) ⟨by decide +kernel, by decide +kernel⟩ (z_w_ok (n := 11117) (by decide +kernel)) (z_w_ok (n := 11118) (by decide +kernel)) rfl rfl (by decide)
theorem yq_yr257_0 : (((y_cd yr257).drop 0).take 40).all (y_okE ztb znw zcls (ytb yw00) yr257) = true := by decide +kernel
theorem yq_yr257_1 : (((y_cd yr257).drop 40).take 40).all (y_okE ztb znw zcls (ytb yw00) yr257) = true := by decide +kernel
theorem yq_yr257_2 : (((y_cd yr257).drop 80).take 40).all (y_okE ztb znw zcls (ytb yw00) yr257) = true := by decide +kernel
theorem yq_yr257_e3 : ((y_cd yr257).drop 120).all (y_okE ztb znw zcls (ytb yw00) yr257) = true := z_seg_end (by decide +kernel)
theorem yq_yr257_e2 : ((y_cd yr257).drop 80).all (y_okE ztb znw zcls (ytb yw00) yr257) = true := z_seg (a := 80) (k := 40) yq_yr257_2 yq_yr257_e3
theorem yq_yr257_e1 : ((y_cd yr257).drop 40).all (y_okE ztb znw zcls (ytb yw00) yr257) = true := z_seg (a := 40) (k := 40) yq_yr257_1 yq_yr257_e2
theorem yq_yr257_e0 : ((y_cd yr257).drop 0).all (y_okE ztb znw zcls (ytb yw00) yr257) = true := z_seg (a := 0) (k := 40) yq_yr257_0 yq_yr257_e1
theorem yq_yr257 : (y_cd yr257).all (y_okE ztb znw zcls (ytb yw00) yr257) = true := z_seg0 yq_yr257_e0
theorem yo_yr257 : y_okM ztb zcls yr257 := y_okM_i (z_codeIn (ch := 12) (i := 32) (l := tables_1_12) rfl rfl) (z_w_ok (n := 1012) (by decide +kernel)) (by decide +kernel) ⟨by decide +kernel, by decide +kernel⟩ (z_w_ok (n := 12031) (by decide +kernel)) (z_w_ok (n := 165) (by decide +kernel)) rfl rfl (by decide)
theorem yq_yr258_0 : (((y_cd yr258).drop 0).take 40).all (y_okE ztb znw zcls (ytb yw00) yr258) = true := by decide +kernel
theorem yq_yr258_1 : (((y_cd yr258).drop 40).take 40).all (y_okE ztb znw zcls (ytb yw00) yr258) = true := by decide +kernel
theorem yq_yr258_e2 : ((y_cd yr258).drop 80).all (y_okE ztb znw zcls (ytb yw00) yr258) = true := z_seg_end (by decide +kernel)
theorem yq_yr258_e1 : ((y_cd yr258).drop 40).all (y_okE ztb znw zcls (ytb yw00) yr258) = true := z_seg (a := 40) (k := 40) yq_yr258_1 yq_yr258_e2
theorem yq_yr258_e0 : ((y_cd yr258).drop 0).all (y_okE ztb znw zcls (ytb yw00) yr258) = true := z_seg (a := 0) (k := 40) yq_yr258_0 yq_yr258_e1
theorem yq_yr258 : (y_cd yr258).all (y_okE ztb znw zcls (ytb yw00) yr258) = true := z_seg0 yq_yr258_e0
theorem yo_yr258 : y_okM ztb zcls yr258 := y_okM_i (z_codeIn (ch := 12) (i := 81) (l := tables_1_12) rfl rfl) (z_w_ok (n := 1012) (by decide +kernel)) (by decide +kernel) ⟨by decide +kernel, by decide +kernel⟩ (z_w_ok (n := 12079) (by decide +kernel)) (z_w_ok (n := 12080) (by decide +kernel)) rfl rfl (by decide)
theorem yq_yr259 : (y_cd yr259).all (y_okE ztb znw zcls (ytb yw00) yr259) = true := by decide +kernel
theorem yo_yr259 : y_okM ztb zcls yr259 := y_okM_i (z_codeIn (ch := 10) (i := 211) (l := tables_1_10) rfl rfl) (z_w_ok (n := 1012) (by decide +kernel)) (by decide +kernel) ⟨by decide +kernel, by decide +kernel⟩ (z_w_ok (n := 10209) (by decide +kernel)) (z_w_ok (n := 10210) (by decide +kernel)) rfl rfl (by decide)
theorem yq_yr260_0 : (((y_cd yr260).drop 0).take 40).all (y_okE ztb znw zcls (ytb yw00) yr260) = true := by decide +kernel
theorem yq_yr260_1 : (((y_cd yr260).drop 40).take 40).all (y_okE ztb znw zcls (ytb yw00) yr260) = true := by decide +kernel
theorem yq_yr260_e2 : ((y_cd yr260).drop 80).all (y_okE ztb znw zcls (ytb yw00) yr260) = true := z_seg_end (by decide +kernel)
theorem yq_yr260_e1 : ((y_cd yr260).drop 40).all (y_okE ztb znw zcls (ytb yw00) yr260) = true := z_seg (a := 40) (k := 40) yq_yr260_1 yq_yr260_e2
theorem yq_yr260_e0 : ((y_cd yr260).drop 0).all (y_okE ztb znw zcls (ytb yw00) yr260) = true := z_seg (a := 0) (k := 40) yq_yr260_0 yq_yr260_e1
theorem yq_yr260 : (y_cd yr260).all (y_okE ztb znw zcls (ytb yw00) yr260) = true := z_seg0 yq_yr260_e0
theorem yo_yr260 : y_okM ztb zcls yr260 := y_okM_i (z_codeIn (ch := 11) (i := 131) (l := tables_1_11) rfl rfl) (z_w_ok (n := 1012) (by decide +kernel)) (by decide +kernel) ⟨by decide +kernel, by decide +kernel⟩ (z_w_ok (n := 11129) (by decide +kernel)) (z_w_ok (n := 11130) (by decide +kernel)) rfl rfl (by decide)
theorem yq_yr261 : (y_cd yr261).all (y_okE ztb znw zcls (ytb yw00) yr261) = true := by decide +kernel
theorem yo_yr261 : y_okM ztb zcls yr261 := y_okM_i (z_codeIn (ch := 10) (i := 223) (l := tables_1_10) rfl rfl) (z_w_ok (n := 1012) (by decide +kernel)) (by decide +kernel) ⟨by decide +kernel, by decide +kernel⟩ (z_w_ok (n := 10221) (by decide +kernel)) (z_w_ok (n := 10222) (by decide +kernel)) rfl rfl (by decide)
theorem yq_yr262_0 : (((y_cd yr262).drop 0).take 40).all (y_okE ztb znw zcls (ytb yw00) yr262) = true := by decide +kernel
theorem yq_yr262_1 : (((y_cd yr262).drop 40).take 40).all (y_okE ztb znw zcls (ytb yw00) yr262) = true := by decide +kernel
theorem yq_yr262_e2 : ((y_cd yr262).drop 80).all (y_okE ztb znw zcls (ytb yw00) yr262) = true := z_seg_end (by decide +kernel)
theorem yq_yr262_e1 : ((y_cd yr262).drop 40).all (y_okE ztb znw zcls (ytb yw00) yr262) = true := z_seg (a := 40) (k := 40) yq_yr262_1 yq_yr262_e2
theorem yq_yr262_e0 : ((y_cd yr262).drop 0).all (y_okE ztb znw zcls (ytb yw00) yr262) = true := z_seg (a := 0) (k := 40) yq_yr262_0 yq_yr262_e1
theorem yq_yr262 : (y_cd yr262).all (y_okE ztb znw zcls (ytb yw00) yr262) = true := z_seg0 yq_yr262_e0
theorem yo_yr262 : y_okM ztb zcls yr262 := y_okM_i (z_codeIn (ch := 8) (i := 105) (l := tables_1_8) rfl rfl) (z_w_ok (n := 1012) (by decide +kernel)) (by decide +kernel) ⟨by decide +kernel, by decide +kernel⟩ (z_w_ok (n := 8104) (by decide +kernel)) (z_w_ok (n := 86) (by decide +kernel)) rfl rfl (by decide)
theorem yq_yr263 : (y_cd yr263).all (y_okE ztb znw zcls (ytb yw00) yr263) = true := by decide +kernel
theorem yo_yr263 : y_okM ztb zcls yr263 := y_okM_i (z_codeIn (ch := 10) (i := 219) (l := tables_1_10) rfl rfl) (z_w_ok (n := 1012) (by decide +kernel)) (by decide +kernel) ⟨by decide +kernel, by decide +kernel⟩ (z_w_ok (n := 10217) (by decide +kernel)) (z_w_ok (n := 10218) (by decide +kernel)) rfl rfl (by decide)
theorem yq_yr264 : (y_cd yr264).all (y_okE ztb znw zcls (ytb yw00) yr264) = true := by decide +kernel
theorem yo_yr264 : y_okM ztb zcls yr264 := y_okM_i (z_codeIn (ch := 12) (i := 145) (l := tables_1_12) rfl rfl) (z_w_ok (n := 1012) (by decide +kernel)) (by decide +kernel) ⟨by decide +kernel, by decide +kernel⟩ (z_w_ok (n := 12143) (by decide +kernel)) (z_w_ok (n := 12144) (by decide +kernel)) rfl rfl (by decide)
theorem yq_yr265_0 : (((y_cd yr265).drop 0).take 40).all (y_okE ztb znw zcls (ytb yw00) yr265) = true := by decide +kernel
theorem yq_yr265_1 : (((y_cd yr265).drop 40).take 40).all (y_okE ztb znw zcls (ytb yw00) yr265) = true := by decide +kernel
theorem yq_yr265_e2 : ((y_cd yr265).drop 80).all (y_okE ztb znw zcls (ytb yw00) yr265) = true := z_seg_end (by decide +kernel)
theorem yq_yr265_e1 : ((y_cd yr265).drop 40).all (y_okE ztb znw zcls (ytb yw00) yr265) = true := z_seg (a := 40) (k := 40) yq_yr265_1 yq_yr265_e2
theorem yq_yr265_e0 : ((y_cd yr265).drop 0).all (y_okE ztb znw zcls (ytb yw00) yr265) = true := z_seg (a := 0) (k := 40) yq_yr265_0 yq_yr265_e1
theorem yq_yr265 : (y_cd yr265).all (y_okE ztb znw zcls (ytb yw00) yr265) = true := z_seg0 yq_yr265_e0
theorem yo_yr265 : y_okM ztb zcls yr265 := y_okM_i (z_codeIn (ch := 11) (i := 107) (l := tables_1_11) rfl rfl) (z_w_ok (n := 1012) (by decide +kernel)) (by decide +kernel) ⟨by decide +kernel, by decide +kernel⟩ (z_w_ok (n := 11106) (by decide +kernel)) (z_w_ok (n := 139) (by decide +kernel)) rfl rfl (by decide)
theorem yq_yr266_0 : (((y_cd yr266).drop 0).take 40).all (y_okE ztb znw zcls (ytb yw00) yr266) = true := by decide +kernel
theorem yq_yr266_1 : (((y_cd yr266).drop 40).take 40).all (y_okE ztb znw zcls (ytb yw00) yr266) = true := by decide +kernel
theorem yq_yr266_e2 : ((y_cd yr266).drop 80).all (y_okE ztb znw zcls (ytb yw00) yr266) = true := z_seg_end (by decide +kernel)
theorem yq_yr266_e1 : ((y_cd yr266).drop 40).all (y_okE ztb znw zcls (ytb yw00) yr266) = true := z_seg (a := 40) (k := 40) yq_yr266_1 yq_yr266_e2
theorem yq_yr266_e0 : ((y_cd yr266).drop 0).all (y_okE ztb znw zcls (ytb yw00) yr266) = true := z_seg (a := 0) (k := 40) yq_yr266_0 yq_yr266_e1
theorem yq_yr266 : (y_cd yr266).all (y_okE ztb znw zcls (ytb yw00) yr266) = true := z_seg0 yq_yr266_e0
theorem yo_yr266 : y_okM ztb zcls yr266 := y_okM_i (z_codeIn (ch := 10) (i := 195) (l := tables_1_10) rfl rfl) (z_w_ok (n := 1012) (by decide +kernel)) (by decide +kernel) ⟨by decide +kernel, by decide +kernel⟩ (z_w_ok (n := 10193) (by decide +kernel)) (z_w_ok (n := 10194) (by decide +kernel)) rfl rfl (by decide)
theorem yq_yr267 : (y_cd yr267).all (y_okE ztb znw zcls (ytb yw00) yr267) = true := by decide +kernel
theorem yo_yr267 : y_okM ztb zcls yr267 := y_okM_i (z_codeIn (ch := 11) (i := 19) (l := tables_1_11) rfl rfl) (z_w_ok (n := 1012) (by decide +kernel)) (by decide +kernel) ⟨by decide +kernel, by decide +kernel⟩ (z_w_ok (n := 11017) (by decide +kernel)) (z_w_ok (n := 11018) (by decide +kernel)) rfl rfl (by decide)
theorem yq_yr268 : (y_cd yr268).all (y_okE ztb znw zcls (ytb yw00) yr268) = true := by decide +kernel
theorem yo_yr268 : y_okM ztb zcls yr268 := y_okM_i (z_codeIn (ch := 10) (i := 235) (l := tables_1_10) rfl rfl) (z_w_ok (n := 1012) (by decide +kernel)) (by decide +kernel) ⟨by decide +kernel, by decide +kernel⟩ (z_w_ok (n := 10234) (by decide +kernel)) (z_w_ok (n := 114) (by decide +kernel)) rfl rfl (by decide)
theorem yq_yr269 : (y_cd yr269).all (y_okE ztb znw zcls (ytb yw00) yr269) = true := by decide +kernel
theorem yo_yr269 : y_okM ztb zcls yr269 := y_okM_i (z_codeIn (ch := 10) (i := 203) (l := tables_1_10) rfl rfl) (z_w_ok (n := 1012) (by decide +kernel)) (by decide +kernel) ⟨by decide +kernel, by decide +kernel⟩ (z_w_ok (n := 10201) (by decide +kernel)) (z_w_ok (n := 10202) (by decide +kernel)) rfl rfl (by decide)
theorem yq_yr270 : (y_cd yr270).all (y_okE ztb znw zcls (ytb yw00) yr270) = true := by decide +kernel
theorem yo_yr270 : y_okM ztb zcls yr270 := y_okM_i (z_codeIn (ch := 11) (i := 192) (l := tables_1_11) rfl rfl) (z_w_ok (n := 1012) (by decide +kernel)) (by decide +kernel) ⟨by decide +kernel, by decide +kernel⟩ (z_w_ok (n := 11190) (by decide +kernel)) (z_w_ok (n := 11191) (by decide +kernel)) rfl rfl (by decide)
theorem yq_yr271 : (y_cd yr271).all (y_okE ztb znw zcls (ytb yw00) yr271) = true := by decide +kernel
theorem yo_yr271 : y_okM ztb zcls yr271 := y_okM_i (z_codeIn (ch := 12) (i := 109) (l := tables_1_12) rfl rfl) (z_w_ok (n := 1012) (by decide +kernel)) (by decide +kernel) ⟨by decide +kernel, by decide +kernel⟩ (z_w_ok (n := 12107) (by decide +kernel)) (z_w_ok (n := 12108) (by decide +kernel)) rfl rfl (by decide)
theorem yq_yr272 : (y_cd yr272).all (y_okE ztb znw zcls (ytb yw00) yr272) = true := by decide +kernel
theorem yo_yr272 : y_okM ztb zcls yr272 := y_okM_i (z_codeIn (ch := 12) (i := 141) (l := tables_1_12) rfl rfl) (z_w_ok (n := 1012) (by decide +kernel)) (by decide +kernel) ⟨by decide +kernel, by decide +kernel⟩ (z_w_ok (n := 12139) (by decide +kernel)) (z_w_ok (n := 12140) (by decide +kernel)) rfl rfl (by decide)
