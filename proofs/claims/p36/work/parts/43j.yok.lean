theorem yq_yr219_0 : (((y_cd yr219).drop 0).take 40).all (y_okE ztb znw zcls (ytb yw00) yr219) = true := by decide +kernel
theorem yq_yr219_1 : (((y_cd yr219).drop 40).take 40).all (y_okE ztb znw zcls (ytb yw00) yr219) = true := by decide +kernel
theorem yq_yr219_2 : (((y_cd yr219).drop 80).take 40).all (y_okE ztb znw zcls (ytb yw00) yr219) = true := by decide +kernel
theorem yq_yr219_3 : (((y_cd yr219).drop 120).take 40).all (y_okE ztb znw zcls (ytb yw00) yr219) = true := by decide +kernel
theorem yq_yr219_4 : (((y_cd yr219).drop 160).take 40).all (y_okE ztb znw zcls (ytb yw00) yr219) = true := by decide +kernel
theorem yq_yr219_e5 : ((y_cd yr219).drop 200).all (y_okE ztb znw zcls (ytb yw00) yr219) = true := z_seg_end (by decide +kernel)
theorem yq_yr219_e4 : ((y_cd yr219).drop 160).all (y_okE ztb znw zcls (ytb yw00) yr219) = true := z_seg (a := 160) (k := 40) yq_yr219_4 yq_yr219_e5
theorem yq_yr219_e3 : ((y_cd yr219).drop 120).all (y_okE ztb znw zcls (ytb yw00) yr219) = true := z_seg (a := 120) (k := 40) yq_yr219_3 yq_yr219_e4
theorem yq_yr219_e2 : ((y_cd yr219).drop 80).all (y_okE ztb znw zcls (ytb yw00) yr219) = true := z_seg (a := 80) (k := 40) yq_yr219_2 yq_yr219_e3
theorem yq_yr219_e1 : ((y_cd yr219).drop 40).all (y_okE ztb znw zcls (ytb yw00) yr219) = true := z_seg (a := 40) (k := 40) yq_yr219_1 yq_yr219_e2
theorem yq_yr219_e0 : ((y_cd yr219).drop 0).all (y_okE ztb znw zcls (ytb yw00) yr219) = true := z_seg (a := 0) (k := 40) yq_yr219_0 yq_yr219_e1
theorem yq_yr219 : (y_cd yr219).all (y_okE ztb znw zcls (ytb yw00) yr219) = true := z_seg0 yq_yr219_e0
theorem yo_yr219 : y_okM ztb zcls yr219 := y_okM_i (z_codeIn (ch := 10) (i := 167) (l := tables_1_10) rfl rfl) (z_w_ok (n := 1012) (by decide +kernel)) (by decide +kernel) ⟨by decide +kernel, by decide +kernel⟩ (z_w_ok (n := 10166) (by decide +kernel)) (z_w_ok (n := 104) (by decide +kernel)) rfl rfl (by decide)
theorem yq_yr220 : (y_cd yr220).all (y_okE ztb znw zcls (ytb yw00) yr220) = true := by decide +kernel
theorem yo_yr220 : y_okM ztb zcls yr220 := y_okM_i (z_codeIn (ch := 10) (i := 231) (l := tables_1_10) rfl rfl) (z_w_ok (n := 1012) (by decide +kernel)) (by decide +kernel) ⟨by decide +kernel, by decide +kernel⟩ (z_w_ok (n := 10230) (by decide +kernel)) (z_w_ok (n := 113) (by decide +kernel)) rfl rfl (by decide)
theorem yq_yr221_0 : (((y_cd yr221).drop 0).take 40).all (y_okE ztb znw zcls (ytb yw00) yr221) = true := by decide +kernel
theorem yq_yr221_1 : (((y_cd yr221).drop 40).take 40).all (y_okE ztb znw zcls (ytb yw00) yr221) = true := by decide +kernel
theorem yq_yr221_2 : (((y_cd yr221).drop 80).take 40).all (y_okE ztb znw zcls (ytb yw00) yr221) = true := by decide +kernel
theorem yq_yr221_e3 : ((y_cd yr221).drop 120).all (y_okE ztb znw zcls (ytb yw00) yr221) = true := z_seg_end (by decide +kernel)
theorem yq_yr221_e2 : ((y_cd yr221).drop 80).all (y_okE ztb znw zcls (ytb yw00) yr221) = true := z_seg (a := 80) (k := 40) yq_yr221_2 yq_yr221_e3
theorem yq_yr221_e1 : ((y_cd yr221).drop 40).all (y_okE ztb znw zcls (ytb yw00) yr221) = true := z_seg (a := 40) (k := 40) yq_yr221_1 yq_yr221_e2
theorem yq_yr221_e0 : ((y_cd yr221).drop 0).all (y_okE ztb znw zcls (ytb yw00) yr221) = true := z_seg (a := 0) (k := 40) yq_yr221_0 yq_yr221_e1
theorem yq_yr221 : (y_cd yr221).all (y_okE ztb znw zcls (ytb yw00) yr221) = true := z_seg0 yq_yr221_e0
theorem yo_yr221 : y_okM ztb zcls yr221 := y_okM_i (z_codeIn (ch := 12) (i := 194) (l := tables_1_12) rfl rfl) (z_w_ok (n := 1012) (by decide +kernel)) (by decide +kernel) ⟨by decide +kernel, by decide +kernel⟩ (z_w_ok (n := 12192) (by decide +kernel)) (z_w_ok (n := 12193) (by decide +kernel)) rfl rfl (by decide)
theorem yq_yr222 : (y_cd yr222).all (y_okE ztb znw zcls (ytb yw00) yr222) = true := by decide +kernel
theorem yo_yr222 : y_okM ztb zcls yr222 := y_okM_i (z_codeIn (ch := 12) (i := 215) (l := tables_1_12) rfl rfl) (z_w_ok (n := 1012) (by decide +kernel)) (by decide +kernel) ⟨by decide +kernel, by decide +kernel⟩ (z_w_ok (n := 12213) (by decide +kernel)) (z_w_ok (n := 12214) (by decide +kernel)) rfl rfl (by decide)
theorem yq_yr223 : (y_cd yr223).all (y_okE ztb znw zcls (ytb yw00) yr223) = true := by decide +kernel
theorem yo_yr223 : y_okM ztb zcls yr223 := y_okM_i (z_codeIn (ch := 11) (i := 135) (l := tables_1_11) rfl rfl) (z_w_ok (n := 1012) (by decide +kernel)) (by decide +kernel) ⟨by decide +kernel, by decide +kernel⟩ (z_w_ok (n := 11133) (by decide +kernel)) (z_w_ok (n := 11134) (by decide +kernel)) rfl rfl (by decide)
theorem yq_yr224 : (y_cd yr224).all (y_okE ztb znw zcls (ytb yw00) yr224) = true := by decide +kernel
theorem yo_yr224 : y_okM ztb zcls yr224 := y_okM_i (z_codeIn (ch := 11) (i := 55) (l := tables_1_11) rfl rfl) (z_w_ok (n := 1012) (by decide +kernel)) (by decide +kernel) ⟨by decide +kernel, by decide +kernel⟩ (z_w_ok (n := 11054) (by decide +kernel)) (z_w_ok (n := 126) (by decide +kernel)) rfl rfl (by decide)
theorem yq_yr225 : (y_cd yr225).all (y_okE ztb znw zcls (ytb yw00) yr225) = true := by decide +kernel
theorem yo_yr225 : y_okM ztb zcls yr225 := y_okM_i (z_codeIn (ch := 11) (i := 59) (l := tables_1_11) rfl rfl) (z_w_ok (n := 1012) (by decide +kernel)) (by decide +kernel) ⟨by decide +kernel, by decide +kernel⟩ (z_w_ok (n := 11058) (by decide +kernel)) (z_w_ok (n := 127) (by decide +kernel)) rfl rfl (by decide)
theorem yq_yr226 : (y_cd yr226).all (y_okE ztb znw zcls (ytb yw00) yr226) = true := by decide +kernel
theorem yo_yr226 : y_okM ztb zcls yr226 := y_okM_i (z_codeIn (ch := 11) (i := 63) (l := tables_1_11) rfl rfl) (z_w_ok (n := 1012) (by decide +kernel)) (by decide +kernel) ⟨by decide +kernel, by decide +kernel⟩ (z_w_ok (n := 11062) (by decide +kernel)) (z_w_ok (n := 128) (by decide +kernel)) rfl rfl (by decide)
theorem yq_yr227 : (y_cd yr227).all (y_okE ztb znw zcls (ytb yw00) yr227) = true := by decide +kernel
theorem yo_yr227 : y_okM ztb zcls yr227 := y_okM_i (z_codeIn (ch := 12) (i := 203) (l := tables_1_12) rfl rfl) (z_w_ok (n := 1012) (by decide +kernel)) (by decide +kernel) ⟨by decide +kernel, by decide +kernel⟩ (z_w_ok (n := 12202) (by decide +kernel)) (z_w_ok (n := 194) (by decide +kernel)) rfl rfl (by decide)
theorem yq_yr228 : (y_cd yr228).all (y_okE ztb znw zcls (ytb yw00) yr228) = true := by decide +kernel
theorem yo_yr228 : y_okM ztb zcls yr228 := y_okM_i (z_codeIn (ch := 12) (i := 77) (l := tables_1_12) rfl rfl) (z_w_ok (n := 1012) (by decide +kernel)) (by decide +kernel) ⟨by decide +kernel, by decide +kernel⟩ (z_w_ok (n := 12075) (by decide +kernel)) (z_w_ok (n := 12076) (by decide +kernel)) rfl rfl (by decide)
theorem yq_yr229_0 : (((y_cd yr229).drop 0).take 40).all (y_okE ztb znw zcls (ytb yw00) yr229) = true := by decide +kernel
theorem yq_yr229_1 : (((y_cd yr229).drop 40).take 40).all (y_okE ztb znw zcls (ytb yw00) yr229) = true := by decide +kernel
theorem yq_yr229_e2 : ((y_cd yr229).drop 80).all (y_okE ztb znw zcls (ytb yw00) yr229) = true := z_seg_end (by decide +kernel)
theorem yq_yr229_e1 : ((y_cd yr229).drop 40).all (y_okE ztb znw zcls (ytb yw00) yr229) = true := z_seg (a := 40) (k := 40) yq_yr229_1 yq_yr229_e2
theorem yq_yr229_e0 : ((y_cd yr229).drop 0).all (y_okE ztb znw zcls (ytb yw00) yr229) = true := z_seg (a := 0) (k := 40) yq_yr229_0 yq_yr229_e1
theorem yq_yr229 : (y_cd yr229).all (y_okE ztb znw zcls (ytb yw00) yr229) = true := z_seg0 yq_yr229_e0
theorem yo_yr229 : y_okM ztb zcls yr229 := y_okM_i (z_codeIn (ch := 12) (i := 125) (l := tables_1_12) rfl rfl) (z_w_ok (n := 1012) (by decide +kernel)) (by decide +kernel) ⟨by decide +kernel, by decide +kernel⟩ (z_w_ok (n := 12124) (by decide +kernel)) (z_w_ok (n := 182) (by decide +kernel)) rfl rfl (by decide)
theorem yq_yr230_0 : (((y_cd yr230).drop 0).take 40).all (y_okE ztb znw zcls (ytb yw00) yr230) = true := by decide +kernel
theorem yq_yr230_1 : (((y_cd yr230).drop 40).take 40).all (y_okE ztb znw zcls (ytb yw00) yr230) = true := by decide +kernel
theorem yq_yr230_2 : (((y_cd yr230).drop 80).take 40).all (y_okE ztb znw zcls (ytb yw00) yr230) = true := by decide +kernel
theorem yq_yr230_e3 : ((y_cd yr230).drop 120).all (y_okE ztb znw zcls (ytb yw00) yr230) = true := z_seg_end (by decide +kernel)
theorem yq_yr230_e2 : ((y_cd yr230).drop 80).all (y_okE ztb znw zcls (ytb yw00) yr230) = true := z_seg (a := 80) (k := 40) yq_yr230_2 yq_yr230_e3
theorem yq_yr230_e1 : ((y_cd yr230).drop 40).all (y_okE ztb znw zcls (ytb yw00) yr230) = true := z_seg (a := 40) (k := 40) yq_yr230_1 yq_yr230_e2
theorem yq_yr230_e0 : ((y_cd yr230).drop 0).all (y_okE ztb znw zcls (ytb yw00) yr230) = true := z_seg (a := 0) (k := 40) yq_yr230_0 yq_yr230_e1
theorem yq_yr230 : (y_cd yr230).all (y_okE ztb znw zcls (ytb yw00) yr230) = true := z_seg0 yq_yr230_e0
theorem yo_yr230 : y_okM ztb zcls yr230 := y_okM_i (z_codeIn (ch := 12) (i := 177) (l := tables_1_12) rfl rfl) (z_w_ok (n := 1012) (by decide +kernel)) (by decide +kernel) ⟨by decide +kernel, by decide +kernel⟩ (z_w_ok (n := 12176) (by decide +kernel)) (z_w_ok (n := 191) (by decide +kernel)) rfl rfl (by decide)
theorem yq_yr231_0 : (((y_cd yr231).drop 0).take 40).all (y_okE ztb znw zcls (ytb yw00) yr231) = true := by decide +kernel
theorem yq_yr231_1 : (((y_cd yr231).drop 40).take 40).all (y_okE ztb znw zcls (ytb yw00) yr231) = true := by decide +kernel
theorem yq_yr231_e2 : ((y_cd yr231).drop 80).all (y_okE ztb znw zcls (ytb yw00) yr231) = true := z_seg_end (by decide +kernel)
theorem yq_yr231_e1 : ((y_cd yr231).drop 40).all (y_okE ztb znw zcls (ytb yw00) yr231) = true := z_seg (a := 40) (k := 40) yq_yr231_1 yq_yr231_e2
theorem yq_yr231_e0 : ((y_cd yr231).drop 0).all (y_okE ztb znw zcls (ytb yw00) yr231) = true := z_seg (a := 0) (k := 40) yq_yr231_0 yq_yr231_e1
theorem yq_yr231 : (y_cd yr231).all (y_okE ztb znw zcls (ytb yw00) yr231) = true := z_seg0 yq_yr231_e0
theorem yo_yr231 : y_okM ztb zcls yr231 := y_okM_i (z_codeIn (ch := 11) (i := 71) (l := tables_1_11) rfl rfl) (z_w_ok (n := 1012) (by decide +kernel)) (by decide +kernel) ⟨by decide +kernel, by decide +kernel⟩ (z_w_ok (n := 11070) (by decide +kernel)) (z_w_ok (n := 130) (by decide +kernel)) rfl rfl (by decide)
theorem yq_yr232 : (y_cd yr232).all (y_okE ztb znw zcls (ytb yw00) yr232) = true := by decide +kernel
theorem yo_yr232 : y_okM ztb zcls yr232 := y_okM_i (z_codeIn (ch := 11) (i := 79) (l := tables_1_11) rfl rfl) (z_w_ok (n := 1012) (by decide +kernel)) (by decide +kernel) ⟨by decide +kernel, by decide +kernel⟩ (z_w_ok (n := 11078) (by decide +kernel)) (z_w_ok (n := 132) (by decide +kernel)) rfl rfl (by decide)
theorem yq_yr233_0 : (((y_cd yr233).drop 0).take 40).all (y_okE ztb znw zcls (ytb yw00) yr233) = true := by decide +kernel
theorem yq_yr233_1 : (((y_cd yr233).drop 40).take 40).all (y_okE ztb znw zcls (ytb yw00) yr233) = true := by decide +kernel
theorem yq_yr233_e2 : ((y_cd yr233).drop 80).all (y_okE ztb znw zcls (ytb yw00) yr233) = true := z_seg_end (by decide +kernel)
theorem yq_yr233_e1 : ((y_cd yr233).drop 40).all (y_okE ztb znw zcls (ytb yw00) yr233) = true := z_seg (a := 40) (k := 40) yq_yr233_1 yq_yr233_e2
theorem yq_yr233_e0 : ((y_cd yr233).drop 0).all (y_okE ztb znw zcls (ytb yw00) yr233) = true := z_seg (a := 0) (k := 40) yq_yr233_0 yq_yr233_e1
theorem yq_yr233 : (y_cd yr233).all (y_okE ztb znw zcls (ytb yw00) yr233) = true := z_seg0 yq_yr233_e0
theorem yo_yr233 : y_okM ztb zcls yr233 := y_okM_i (z_codeIn (ch := 11) (i := 47) (l := tables_1_11) rfl rfl) (z_w_ok (n := 1012) (by decide +kernel)) (by decide +kernel) ⟨by decide +kernel, by decide +kernel⟩ (z_w_ok (n := 11046) (by decide +kernel)) (z_w_ok (n := 124) (by decide +kernel)) rfl rfl (by decide)
theorem yq_yr234 : (y_cd yr234).all (y_okE ztb znw zcls (ytb yw00) yr234) = true := by decide +kernel
theorem yo_yr234 : y_okM ztb zcls yr234 := y_okM_i (z_codeIn (ch := 11) (i := 51) (l := tables_1_11) rfl rfl) (z_w_ok (n := 1012) (by decide +kernel)) (by decide +kernel) ⟨by decide +kernel, by decide +kernel⟩ (z_w_ok (n := 11050) (by decide +kernel)) (z_w_ok (n := 125) (by decide +kernel)) rfl rfl (by decide)
theorem yq_yr235 : (y_cd yr235).all (y_okE ztb znw zcls (ytb yw00) yr235) = true := by decide +kernel
theorem yo_yr235 : y_okM ztb zcls yr235 := y_okM_i (z_codeIn (ch := 10) (i := 171) (l := tables_1_10) rfl rfl) (z_w_ok (n := 1012) (by decide +kernel)) (by decide +kernel) ⟨by decide +kernel, by decide +kernel⟩ (z_w_ok (n := 10170) (by decide +kernel)) (z_w_ok (n := 105) (by decide +kernel)) rfl rfl (by decide)
theorem yq_yr236 : (y_cd yr236).all (y_okE ztb znw zcls (ytb yw00) yr236) = true := by decide +kernel
theorem yo_yr236 : y_okM ztb zcls yr236 := y_okM_i (z_codeIn (ch := 11) (i := 175) (l := tables_1_11) rfl rfl) (z_w_ok (n := 1012) (by decide +kernel)) (by decide +kernel) ⟨by decide +kernel, by decide +kernel⟩ (z_w_ok (n := 11174) (by decide +kernel)) (z_w_ok (n := 146) (by decide +kernel)) rfl rfl (by decide)
theorem yq_yr237_0 : (((y_cd yr237).drop 0).take 40).all (y_okE ztb znw zcls (ytb yw00) yr237) = true := by decide +kernel
theorem yq_yr237_1 : (((y_cd yr237).drop 40).take 40).all (y_okE ztb znw zcls (ytb yw00) yr237) = true := by decide +kernel
theorem yq_yr237_e2 : ((y_cd yr237).drop 80).all (y_okE ztb znw zcls (ytb yw00) yr237) = true := z_seg_end (by decide +kernel)
theorem yq_yr237_e1 : ((y_cd yr237).drop 40).all (y_okE ztb znw zcls (ytb yw00) yr237) = true := z_seg (a := 40) (k := 40) yq_yr237_1 yq_yr237_e2
theorem yq_yr237_e0 : ((y_cd yr237).drop 0).all (y_okE ztb znw zcls (ytb yw00) yr237) = true := z_seg (a := 0) (k := 40) yq_yr237_0 yq_yr237_e1
theorem yq_yr237 : (y_cd yr237).all (y_okE ztb znw zcls (ytb yw00) yr237) = true := z_seg0 yq_yr237_e0
theorem yo_yr237 : y_okM ztb zcls yr237 := y_okM_i (z_codeIn (ch := 12) (i := 12) (l := tables_1_12) rfl rfl) (z_w_ok (n := 1012) (by decide +kernel)) (by decide +kernel) ⟨by decide +kernel, by decide +kernel⟩ (z_w_ok (n := 12011) (by decide +kernel)) (z_w_ok (n := 160) (by decide +kernel)) rfl rfl (by decide)
theorem yq_yr238_0 : (((y_cd yr238).drop 0).take 40).all (y_okE ztb znw zcls (ytb yw00) yr238) = true := by decide +kernel
theorem yq_yr238_1 : (((y_cd yr238).drop 40).take 40).all (y_okE ztb znw zcls (ytb yw00) yr238) = true := by decide +kernel
theorem yq_yr238_e2 : ((y_cd yr238).drop 80).all (y_okE ztb znw zcls (ytb yw00) yr238) = true := z_seg_end (by decide +kernel)
theorem yq_yr238_e1 : ((y_cd yr238).drop 40).all (y_okE ztb znw zcls (ytb yw00) yr238) = true := z_seg (a := 40) (k := 40) yq_yr238_1 yq_yr238_e2
theorem yq_yr238_e0 : ((y_cd yr238).drop 0).all (y_okE ztb znw zcls (ytb yw00) yr238) = true := z_seg (a := 0) (k := 40) yq_yr238_0 yq_yr238_e1
theorem yq_yr238 : (y_cd yr238).all (y_okE ztb znw zcls (ytb yw00) yr238) = true := z_seg0 yq_yr238_e0
theorem yo_yr238 : y_okM ztb zcls yr238 := y_okM_i (z_codeIn (ch := 12) (i := 199) (l := tables_1_12) rfl rfl) (z_w_ok (n := 1012) (by decide +kernel)) (by decide +kernel) ⟨by decide +kernel, by decide +kernel⟩ (z_w_ok (n := 12198) (by decide +kernel)) (z_w_ok (n := 193) (by decide +kernel)) rfl rfl (by decide)
theorem yq_yr239_0 : (((y_cd yr239).drop 0).take 40).all (y_okE ztb znw zcls (ytb yw00) yr239) = true := by decide +kernel
theorem yq_yr239_1 : (((y_cd yr239).drop 40).take 40).all (y_okE ztb znw zcls (ytb yw00) yr239) = true := by decide +kernel
theorem yq_yr239_e2 : ((y_cd yr239).drop 80).all (y_okE ztb znw zcls (ytb yw00) yr239) = true := z_seg_end (by decide +kernel)
theorem yq_yr239_e1 : ((y_cd yr239).drop 40).all (y_okE ztb znw zcls (ytb yw00) yr239) = true := z_seg (a := 40) (k := 40) yq_yr239_1 yq_yr239_e2
theorem yq_yr239_e0 : ((y_cd yr239).drop 0).all (y_okE ztb znw zcls (ytb yw00) yr239) = true := z_seg (a := 0) (k := 40) yq_yr239_0 yq_yr239_e1
theorem yq_yr239 : (y_cd yr239).all (y_okE ztb znw zcls (ytb yw00) yr239) = true := z_seg0 yq_yr239_e0
theorem yo_yr239 : y_okM ztb zcls yr239 := y_okM_i (z_codeIn (ch := 12) (i := 16) (l := tables_1_12) rfl rfl) (z_w_ok (n := 1012) (by decide +kernel)) (by decide +kernel) ⟨by decide +kernel, by decide +kernel⟩ (z_w_ok (n := 12015) (by decide +kernel)) (z_w_ok (n := 161) (by decide +kernel)) rfl rfl (by decide)
theorem yq_yr240_0 : (((y_cd yr240).drop 0).take 40).all (y_okE ztb znw zcls (ytb yw00) yr240) = true := by decide +kernel
theorem yq_yr240_1 : (((y_cd yr240).drop 40).take 40).all (y_okE ztb znw zcls (ytb yw00) yr240) = true := by decide +kernel
theorem yq_yr240_e2 : ((y_cd yr240).drop 80).all (y_okE ztb znw zcls (ytb yw00) yr240) = true := z_seg_end (by decide +kernel)
theorem yq_yr240_e1 : ((y_cd yr240).drop 40).all (y_okE ztb znw zcls (ytb yw00) yr240) = true := z_seg (a := 40) (k := 40) yq_yr240_1 yq_yr240_e2
theorem yq_yr240_e0 : ((y_cd yr240).drop 0).all (y_okE ztb znw zcls (ytb yw00) yr240) = true := z_seg (a := 0) (k := 40) yq_yr240_0 yq_yr240_e1
theorem yq_yr240 : (y_cd yr240).all (y_okE ztb znw zcls (ytb yw00) yr240) = true := z_seg0 yq_yr240_e0
theorem yo_yr240 : y_okM ztb zcls yr240 := y_okM_i (z_codeIn (ch := 12) (i := 153) (l := tables_1_12) rfl rfl) (z_w_ok (n := 1012) (by decide +kernel)) (by decide +kernel) ⟨by decide +kernel, by decide +kernel⟩ (z_w_ok (n := 12151) (by decide +kernel)) (z_w_ok (n := 12152) (by decide +kernel)) rfl rfl (by decide)
theorem yq_yr241 : (y_cd yr241).all (y_okE ztb znw zcls (ytb yw00) yr241) = true := by decide +kernel
theorem yo_yr241 : y_okM ztb zcls yr241 := y_okM_i (z_codeIn (ch := 11) (i := 208) (l := tables_1_11) rfl rfl) (z_w_ok (n := 1012) (by decide +kernel)) (by decide +kernel) ⟨by decide +kernel, by decide +kernel⟩ (z_w_ok (n := 11206) (by decide +kernel)) (z_w_ok (n := 11207) (by decide +kernel)) rfl rfl (by decide)
theorem yq_yr242_0 : (((y_cd yr242).drop 0).take 40).all (y_okE ztb znw zcls (ytb yw00) yr242) = true := by decide +kernel
theorem yq_yr242_1 : (((y_cd yr242).drop 40).take 40).all (y_okE ztb znw zcls (ytb yw00) yr242) = true := by decide +kernel
theorem yq_yr242_2 : (((y_cd yr242).drop 80).take 40).all (y_okE ztb znw zcls (ytb yw00) yr242) = true := by decide +kernel
theorem yq_yr242_e3 : ((y_cd yr242).drop 120).all (y_okE ztb znw zcls (ytb yw00) yr242) = true := z_seg_end (by decide +kernel)
theorem yq_yr242_e2 : ((y_cd yr242).drop 80).all (y_okE ztb znw zcls (ytb yw00) yr242) = true := z_seg (a := 80) (k := 40) yq_yr242_2 yq_yr242_e3
theorem yq_yr242_e1 : ((y_cd yr242).drop 40).all (y_okE ztb znw zcls (ytb yw00) yr242) = true := z_seg (a := 40) (k := 40) yq_yr242_1 yq_yr242_e2
theorem yq_yr242_e0 : ((y_cd yr242).drop 0).all (y_okE ztb znw zcls (ytb yw00) yr242) = true := z_seg (a := 0) (k := 40) yq_yr242_0 yq_yr242_e1
theorem yq_yr242 : (y_cd yr242).all (y_okE ztb znw zcls (ytb yw00) yr242) = true := z_seg0 yq_yr242_e0
theorem yo_yr242 : y_okM ztb zcls yr242 := y_okM_i (z_codeIn (ch := 11) (i := 212) (l := tables_1_11) rfl rfl) (z_w_ok (n := 1012) (by decide +kernel)) (by decide +kernel) ⟨by decide +kernel, by decide +kernel⟩ (z_w_ok (n := 11211) (by decide +kernel)) (z_w_ok (n := 152) (by decide +kernel)) rfl rfl (by decide)
theorem yq_yr243_0 : (((y_cd yr243).drop 0).take 40).all (y_okE ztb znw zcls (ytb yw00) yr243) = true := by decide +kernel
theorem yq_yr243_1 : (((y_cd yr243).drop 40).take 40).all (y_okE ztb znw zcls (ytb yw00) yr243) = true := by decide +kernel
theorem yq_yr243_e2 : ((y_cd yr243).drop 80).all (y_okE ztb znw zcls (ytb yw00) yr243) = true := z_seg_end (by decide +kernel)
theorem yq_yr243_e1 : ((y_cd yr243).drop 40).all (y_okE ztb znw zcls (ytb yw00) yr243) = true := z_seg (a := 40) (k := 40) yq_yr243_1 yq_yr243_e2
theorem yq_yr243_e0 : ((y_cd yr243).drop 0).all (y_okE ztb znw zcls (ytb yw00) yr243) = true := z_seg (a := 0) (k := 40) yq_yr243_0 yq_yr243_e1
theorem yq_yr243 : (y_cd yr243).all (y_okE ztb znw zcls (ytb yw00) yr243) = true := z_seg0 yq_yr243_e0
theorem yo_yr243 : y_okM ztb zcls yr243 := y_okM_i (z_codeIn (ch := 12) (i := 189) (l := tables_1_12) rfl rfl) (z_w_ok (n := 1012) (by decide +kernel)) (by decide +kernel) ⟨by decide +kernel, by decide +kernel⟩ (z_w_ok (n := 12187) (by decide +kernel)) (z_w_ok (n := 12188) (by decide +kernel)) rfl rfl (by decide)
theorem yq_yr244 : (y_cd yr244).all (y_okE ztb znw zcls (ytb yw00) yr244) = true := by decide +kernel
theorem yo_yr244 : y_okM ztb zcls yr244 := y_okM_i (z_codeIn (ch := 11) (i := 151) (l := tables_1_11) rfl rfl) (z_w_ok (n := 1012) (by decide +kernel)) (by decide +kernel) ⟨by decide +kernel, by decide +kernel⟩ (z_w_ok (n := 11149) (by decide +kernel)) (z_w_ok (n := 11150) (by decide +kernel)) rfl rfl (by decide)
theorem yq_yr245 : (y_cd yr245).all (y_okE ztb znw zcls (ytb yw00) yr245) = true := by decide +kernel
theorem yo_yr245 : y_okM ztb zcls yr245 := y_okM_i (z_codeIn (ch := 12) (i := 93) (l := tables_1_12) rfl rfl) (z_w_ok (n := 1012) (by decide +kernel)) (by decide +kernel) ⟨by decide +kernel, by decide +kernel⟩ (z_w_ok (n := 12092) (by decide +kernel)) (z_w_ok (n := 178) (by decide +kernel)) rfl rfl (by decide)
theorem yq_yr246_0 : (((y_cd yr246).drop 0).take 40).all (y_okE ztb znw zcls (ytb yw00) yr246) = true := by decide +kernel
theorem yq_yr246_1 : (((y_cd yr246).drop 40).take 40).all (y_okE ztb znw zcls (ytb yw00) yr246) = true := by decide +kernel
theorem yq_yr246_2 : (((y_cd yr246).drop 80).take 40).all (y_okE ztb znw zcls (ytb yw00) yr246) = true := by decide +kernel
theorem yq_yr246_e3 : ((y_cd yr246).drop 120).all (y_okE ztb znw zcls (ytb yw00) yr246) = true := z_seg_end (by decide +kernel)
theorem yq_yr246_e2 : ((y_cd yr246).drop 80).all (y_okE ztb znw zcls (ytb yw00) yr246) = true := z_seg (a := 80) (k := 40) yq_yr246_2 yq_yr246_e3
theorem yq_yr246_e1 : ((y_cd yr246).drop 40).all (y_okE ztb znw zcls (ytb yw00) yr246) = true := z_seg (a := 40) (k := 40) yq_yr246_1 yq_yr246_e2
theorem yq_yr246_e0 : ((y_cd yr246).drop 0).all (y_okE ztb znw zcls (ytb yw00) yr246) = true := z_seg (a := 0) (k := 40) yq_yr246_0 yq_yr246_e1
theorem yq_yr246 : (y_cd yr246).all (y_okE ztb znw zcls (ytb yw00) yr246) = true := z_seg0 yq_yr246_e0
theorem yo_yr246 : y_okM ztb zcls yr246 := y_okM_i (z_codeIn (ch := 12) (i := 20) (l := tables_1_12) rfl rfl) (z_w_ok (n := 1012) (by decide +kernel)) (by decide +kernel) ⟨by decide +kernel, by decide +kernel⟩ (z_w_ok (n := 12019) (by decide +kernel)) (z_w_ok (n := 162) (by decide +kernel)) rfl rfl (by decide)
theorem yq_yr247_0 : (((y_cd yr247).drop 0).take 40).all (y_okE ztb znw zcls (ytb yw00) yr247) = true := by decide +kernel
theorem yq_yr247_1 : (((y_cd yr247).drop 40).take 40).all (y_okE ztb znw zcls (ytb yw00) yr247) = true := by decide +kernel
theorem yq_yr247_e2 : ((y_cd yr247).drop 80).all (y_okE ztb znw zcls (ytb yw00) yr247) = true := z_seg_end (by decide +kernel)
theorem yq_yr247_e1 : ((y_cd yr247).drop 40).all (y_okE ztb znw zcls (ytb yw00) yr247) = true := z_seg (a := 40) (k := 40) yq_yr247_1 yq_yr247_e2
theorem yq_yr247_e0 : ((y_cd yr247).drop 0).all (y_okE ztb znw zcls (ytb yw00) yr247) = true := z_seg (a := 0) (k := 40) yq_yr247_0 yq_yr247_e1
theorem yq_yr247 : (y_cd yr247).all (y_okE ztb znw zcls (ytb yw00) yr247) = true := z_seg0 yq_yr247_e0
theorem yo_yr247 : y_okM ztb zcls yr247 := y_okM_i (z_codeIn (ch := 12) (i := 24) (l := tables_1_12) rfl rfl) (z_w_ok (n := 1012) (by decide +kernel)) (by decide +kernel) ⟨by decide +kernel, by decide +kernel⟩ (z_w_ok (n := 12023) (by decide +kernel)) (z_w_ok (n := 163) (by decide +kernel)) rfl rfl (by decide)
theorem yq_yr248_0 : (((y_cd yr248).drop 0).take 40).all (y_okE ztb znw zcls (ytb yw00) yr248) = true := by decide +kernel
theorem yq_yr248_1 : (((y_cd yr248).drop 40).take 40).all (y_okE ztb znw zcls (ytb yw00) yr248) = true := by decide +kernel
theorem yq_yr248_e2 : ((y_cd yr248).drop 80).all (y_okE ztb znw zcls (ytb yw00) yr248) = true := z_seg_end (by decide +kernel)
theorem yq_yr248_e1 : ((y_cd yr248).drop 40).all (y_okE ztb znw zcls (ytb yw00) yr248) = true := z_seg (a := 40) (k := 40) yq_yr248_1 yq_yr248_e2
theorem yq_yr248_e0 : ((y_cd yr248).drop 0).all (y_okE ztb znw zcls (ytb yw00) yr248) = true := z_seg (a := 0) (k := 40) yq_yr248_0 yq_yr248_e1
theorem yq_yr248 : (y_cd yr248).all (y_okE ztb znw zcls (ytb yw00) yr248) = true := z_seg0 yq_yr248_e0
theorem yo_yr248 : y_okM ztb zcls yr248 := y_okM_i (z_codeIn (ch := 12) (i := 219) (l := tables_1_12) rfl rfl) (z_w_ok (n := 1012) (by decide +kernel)) (by decide +kernel) ⟨by decide +kernel, by decide +kernel⟩ (z_w_ok (n := 12217) (by decide +kernel)) (z_w_ok (n := 12218) (by decide +kernel)) rfl rfl (by decide)
