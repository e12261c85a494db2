theorem yq_yr216 : (y_cd yr216).all (y_okE ztb znw zcls (ytb yw00) yr216) = true := by decide +kernel
theorem yo_yr216 : y_okM ztb zcls yr216 := y_okM_i (z_codeIn (ch := 11) (i := 43) (l := tables_1_11) rfl rfl) (z_w_ok (n := 1012) (by decide +kernel)) (by decide +kernel) ⟨by decide +kernel, by decide +kernel⟩ (z_w_ok (n := 11042) (by decide +kernel)) (z_w_ok (n := 123) (by decide +kernel)) rfl rfl (by decide)
theorem yq_yr217_0 : (((y_cd yr217).drop 0).take 40).all (y_okE ztb znw zcls (ytb yw00) yr217) = true := by decide +kernel
theorem yq_yr217_1 : (((y_cd yr217).drop 40).take 40).all (y_okE ztb znw zcls (ytb yw00) yr217) = true := by decide +kernel
theorem yq_yr217_e2 : ((y_cd yr217).drop 80).all (y_okE ztb znw zcls (ytb yw00) yr217) = true := z_seg_end (by decide +kernel)
theorem yq_yr217_e1 : ((y_cd yr217).drop 40).all (y_okE ztb znw zcls (ytb yw00) yr217) = true := z_seg (a := 40) (k := 40) yq_yr217_1 yq_yr217_e2
theorem yq_yr217_e0 : ((y_cd yr217).drop 0).all (y_okE ztb znw zcls (ytb yw00) yr217) = true := z_seg (a := 0) (k := 40) yq_yr217_0 yq_yr217_e1
theorem yq_yr217 : (y_cd yr217).all (y_okE ztb znw zcls (ytb yw00) yr217) = true := z_seg0 yq_yr217_e0
theorem yo_yr217 : y_okM ztb zcls yr217 := y_okM_i (z_codeIn (ch := 8) (i := 90) (l := tables_1_8) rfl rfl) (z_w_ok (n := 1012) (by decide +kernel)) (by decide +kernel) ⟨by decide +kernel, by decide +kernel⟩ (z_w_ok (n := 8089) (by decide +kernel)) (z_w_ok (n := 83) (by decide +kernel)) rfl rfl (by decide)
theorem yq_yr218 : (y_cd yr218).all (y_okE ztb znw zcls (ytb yw00) yr218) = true := by decide +kernel
theorem yo_yr218 : y_okM ztb zcls yr218 := y_okM_i (z_codeIn (ch := 8) (i := 86) (l := tables_1_8) rfl rfl) (z_w_ok (n := 1012) (by decide +kernel)) (by decide +kernel) ⟨by decide +kernel, by decide +kernel⟩ (z_w_ok (n := 8085) (by decide +kernel)) (z_w_ok (n := 82) (by decide +kernel)) rfl rfl (by decide)
theorem yq_yr219 : (y_cd yr219).all (y_okE ztb znw zcls (ytb yw00) yr219) = true := by decide +kernel
theorem yo_yr219 : y_okM ztb zcls yr219 := y_okM_i (z_codeIn (ch := 12) (i := 211) (l := tables_1_12) rfl rfl) (z_w_ok (n := 1012) (by decide +kernel)) (by decide +kernel) ⟨by decide +kernel, by decide +kernel⟩ (z_w_ok (n := 12209) (by decide +kernel)) (z_w_ok (n := 12210) (by decide +kernel)) rfl rfl (by decide)
theorem yq_yr220_0 : (((y_cd yr220).drop 0).take 40).all (y_okE ztb znw zcls (ytb yw00) yr220) = true := by decide +kernel
theorem yq_yr220_1 : (((y_cd yr220).drop 40).take 40).all (y_okE ztb znw zcls (ytb yw00) yr220) = true := by decide +kernel
theorem yq_yr220_2 : (((y_cd yr220).drop 80).take 40).all (y_okE ztb znw zcls (ytb yw00) yr220) = true := by decide +kernel
theorem yq_yr220_e3 : ((y_cd yr220).drop 120).all (y_okE ztb znw zcls (ytb yw00) yr220) = true := z_seg_end (by decide +kernel)
theorem yq_yr220_e2 : ((y_cd yr220).drop 80).all (y_okE ztb znw zcls (ytb yw00) yr220) = true := z_seg (a := 80) (k := 40) yq_yr220_2 yq_yr220_e3
theorem yq_yr220_e1 : ((y_cd yr220).drop 40).all (y_okE ztb znw zcls (ytb yw00) yr220) = true := z_seg (a := 40) (k := 40) yq_yr220_1 yq_yr220_e2
theorem yq_yr220_e0 : ((y_cd yr220).drop 0).all (y_okE ztb znw zcls (ytb yw00) yr220) = true := z_seg (a := 0) (k := 40) yq_yr220_0 yq_yr220_e1
theorem yq_yr220 : (y_cd yr220).all (y_okE ztb znw zcls (ytb yw00) yr220) = true := z_seg0 yq_yr220_e0
theorem yo_yr220 : y_okM ztb zcls yr220 := y_okM_i (z_codeIn (ch := 12) (i := 161) (l := tables_1_12) rfl rfl) (z_w_ok (n := 1012) (by decide +kernel)) (by decide +kernel) ⟨by decide +kernel, by decide +kernel⟩ (z_w_ok (n := 12160) (by decide +kernel)) (z_w_ok (n := 187) (by decide +kernel)) rfl rfl (by decide)
theorem yq_yr221 : (y_cd yr221).all (y_okE ztb znw zcls (ytb yw00) yr221) = true := by decide +kernel
theorem yo_yr221 : y_okM ztb zcls yr221 := y_okM_i (z_codeIn (ch := 11) (i := 111) (l := tables_1_11) rfl rfl) (z_w_ok (n := 1012) (by decide +kernel)) (by decide +kernel) ⟨by decide +kernel, by decide +kernel⟩ (z_w_ok (n := 11110) (by decide +kernel)) (z_w_ok (n := 140) (by decide +kernel)) rfl rfl (by decide)
theorem yq_yr222_0 : (((y_cd yr222).drop 0).take 40).all (y_okE ztb znw zcls (ytb yw00) yr222) = true := by decide +kernel
theorem yq_yr222_1 : (((y_cd yr222).drop 40).take 40).all (y_okE ztb znw zcls (ytb yw00) yr222) = true := by decide +kernel
theorem yq_yr222_e2 : ((y_cd yr222).drop 80).all (y_okE ztb znw zcls (ytb yw00) yr222) = true := z_seg_end (by decide +kernel)
theorem yq_yr222_e1 : ((y_cd yr222).drop 40).all (y_okE ztb znw zcls (ytb yw00) yr222) = true := z_seg (a := 40) (k := 40) yq_yr222_1 yq_yr222_e2
theorem yq_yr222_e0 : ((y_cd yr222).drop 0).all (y_okE ztb znw zcls (ytb yw00) yr222) = true := z_seg (a := 0) (k := 40) yq_yr222_0 yq_yr222_e1
theorem yq_yr222 : (y_cd yr222).all (y_okE ztb znw zcls (ytb yw00) yr222) = true := z_seg0 yq_yr222_e0
theorem yo_yr222 : y_okM ztb zcls yr222 := y_okM_i (z_codeIn (ch := 12) (i := 165) (l := tables_1_12) rfl rfl) (z_w_ok (n := 1012) (by decide +kernel)) (by decide +kernel) ⟨by decide +kernel, by decide +kernel⟩ (z_w_ok (n := 12164) (by decide +kernel)) (z_w_ok (n := 188) (by decide +kernel)) rfl rfl (by decide)
theorem yq_yr223_0 : (((y_cd yr223).drop 0).take 40).all (y_okE ztb znw zcls (ytb yw00) yr223) = true := by decide +kernel
theorem yq_yr223_1 : (((y_cd yr223).drop 40).take 40).all (y_okE ztb znw zcls (ytb yw00) yr223) = true := by decide +kernel
theorem yq_yr223_2 : (((y_cd yr223).drop 80).take 40).all (y_okE ztb znw zcls (ytb yw00) yr223) = true := by decide +kernel
theorem yq_yr223_3 : (((y_cd yr223).drop 120).take 40).all (y_okE ztb znw zcls (ytb yw00) yr223) = true := by decide +kernel
theorem yq_yr223_e4 : ((y_cd yr223).drop 160).all (y_okE ztb znw zcls (ytb yw00) yr223) = true := z_seg_end (by decide +kernel)
theorem yq_yr223_e3 : ((y_cd yr223).drop 120).all (y_okE ztb znw zcls (ytb yw00) yr223) = true := z_seg (a := 120) (k := 40) yq_yr223_3 yq_yr223_e4
theorem yq_yr223_e2 : ((y_cd yr223).drop 80).all (y_okE ztb znw zcls (ytb yw00) yr223) = true := z_seg (a := 80) (k := 40) yq_yr223_2 yq_yr223_e3
theorem yq_yr223_e1 : ((y_cd yr223).drop 40).all (y_okE ztb znw zcls (ytb yw00) yr223) = true := z_seg (a := 40) (k := 40) yq_yr223_1 yq_yr223_e2
theorem yq_yr223_e0 : ((y_cd yr223).drop 0).all (y_okE ztb znw zcls (ytb yw00) yr223) = true := z_seg (a := 0) (k := 40) yq_yr223_0 yq_yr223_e1
theorem yq_yr223 : (y_cd yr223).all (y_okE ztb znw zcls (ytb yw00) yr223) = true := z_seg0 yq_yr223_e0
theorem yo_yr223 : y_okM ztb zcls yr223 := y_okM_i (z_codeIn (ch := 12) (i := 28) (l := tables_1_12) rfl rfl) (z_w_ok (n := 1012) (by decide +kernel)) (by decide +kernel) ⟨by decide +kernel, by decide +kernel⟩ (z_w_ok (n := 12027) (by decide +kernel)) (z_w_ok (n := 164) (by decide +kernel)) rfl rfl (by decide)
theorem yq_yr224_0 : (((y_cd yr224).drop 0).take 40).all (y_okE ztb znw zcls (ytb yw00) yr224) = true := by decide +kernel
theorem yq_yr224_1 : (((y_cd yr224).drop 40).take 40).all (y_okE ztb znw zcls (ytb yw00) yr224) = true := by decide +kernel
theorem yq_yr224_2 : (((y_cd yr224).drop 80).take 40).all (y_okE ztb znw zcls (ytb yw00) yr224) = true := by decide +kernel
theorem yq_yr224_3 : (((y_cd yr224).drop 120).take 40).all (y_okE ztb znw zcls (ytb yw00) yr224) = true := by decide +kernel
theorem yq_yr224_4 : (((y_cd yr224).drop 160).take 40).all (y_okE ztb znw zcls (ytb yw00) yr224) = true := by decide +kernel
theorem yq_yr224_e5 : ((y_cd yr224).drop 200).all (y_okE ztb znw zcls (ytb yw00) yr224) = true := z_seg_end (by decide +kernel)
theorem yq_yr224_e4 : ((y_cd yr224).drop 160).all (y_okE ztb znw zcls (ytb yw00) yr224) = true := z_seg (a := 160) (k := 40) yq_yr224_4 yq_yr224_e5
theorem yq_yr224_e3 : ((y_cd yr224).drop 120).all (y_okE ztb znw zcls (ytb yw00) yr224) = true := z_seg (a := 120) (k := 40) yq_yr224_3 yq_yr224_e4
theorem yq_yr224_e2 : ((y_cd yr224).drop 80).all (y_okE ztb znw zcls (ytb yw00) yr224) = true := z_seg (a := 80) (k := 40) yq_yr224_2 yq_yr224_e3
theorem yq_yr224_e1 : ((y_cd yr224).drop 40).all (y_okE ztb znw zcls (ytb yw00) yr224) = true := z_seg (a := 40) (k := 40) yq_yr224_1 yq_yr224_e2
theorem yq_yr224_e0 : ((y_cd yr224).drop 0).all (y_okE ztb znw zcls (ytb yw00) yr224) = true := z_seg (a := 0) (k := 40) yq_yr224_0 yq_yr224_e1
theorem yq_yr224 : (y_cd yr224).all (y_okE ztb znw zcls (ytb yw00) yr224) = true := z_seg0 yq_yr224_e0
theorem yo_yr224 : y_okM ztb zcls yr224 := y_okM_i (z_codeIn (ch := 10) (i := 167) (l := tables_1_10) rfl rfl) (z_w_ok (n := 1012) (by decide +kernel)) (by decide +kernel) ⟨by decide +kernel, by decide +kernel⟩ (z_w_ok (n := 10166) (by decide +kernel)) (z_w_ok (n := 104) (by decide +kernel)) rfl rfl (by decide)
theorem yq_yr225 : (y_cd yr225).all (y_okE ztb znw zcls (ytb yw00) yr225) = true := by decide +kernel
theorem yo_yr225 : y_okM ztb zcls yr225 := y_okM_i (z_codeIn (ch := 10) (i := 231) (l := tables_1_10) rfl rfl) (z_w_ok (n := 1012) (by decide +kernel)) (by decide +kernel) ⟨by decide +kernel, by decide +kernel⟩ (z_w_ok (n := 10230) (by decide +kernel)) (z_w_ok (n := 113) (by decide +kernel)) rfl rfl (by decide)
theorem yq_yr226_0 : (((y_cd yr226).drop 0).take 40).all (y_okE ztb znw zcls (ytb yw00) yr226) = true := by decide +kernel
theorem yq_yr226_1 : (((y_cd yr226).drop 40).take 40).all (y_okE ztb znw zcls (ytb yw00) yr226) = true := by decide +kernel
theorem yq_yr226_2 : (((y_cd yr226).drop 80).take 40).all (y_okE ztb znw zcls (ytb yw00) yr226) = true := by decide +kernel
theorem yq_yr226_e3 : ((y_cd yr226).drop 120).all (y_okE ztb znw zcls (ytb yw00) yr226) = true := z_seg_end (by decide +kernel)
theorem yq_yr226_e2 : ((y_cd yr226).drop 80).all (y_okE ztb znw zcls (ytb yw00) yr226) = true := z_seg (a := 80) (k := 40) yq_yr226_2 yq_yr226_e3
theorem yq_yr226_e1 : ((y_cd yr226).drop 40).all (y_okE ztb znw zcls (ytb yw00) yr226) = true := z_seg (a := 40) (k := 40) yq_yr226_1 yq_yr226_e2
theorem yq_yr226_e0 : ((y_cd yr226).drop 0).all (y_okE ztb znw zcls (ytb yw00) yr226) = true := z_seg (a := 0) (k := 40) yq_yr226_0 yq_yr226_e1
theorem yq_yr226 : (y_cd yr226).all (y_okE ztb znw zcls (ytb yw00) yr226) = true := z_seg0 yq_yr226_e0
theorem yo_yr226 : y_okM ztb zcls yr226 := y_okM_i (z_codeIn (ch := 12) (i := 194) (l := tables_1_12) rfl rfl) (z_w_ok (n := 1012) (by decide +kernel)) (by decide +kernel) ⟨by decide +kernel, by decide +kernel⟩ (z_w_ok (n := 12192) (by decide +kernel)) (z_w_ok (n := 12193) (by decide +kernel)) rfl rfl (by decide)
theorem yq_yr227 : (y_cd yr227).all (y_okE ztb znw zcls (ytb yw00) yr227) = true := by decide +kernel
theorem yo_yr227 : y_okM ztb zcls yr227 := y_okM_i (z_codeIn (ch := 12) (i := 215) (l := tables_1_12) rfl rfl) (z_w_ok (n := 1012) (by decide +kernel)) (by decide +kernel) ⟨by decide +kernel, by decide +kernel⟩ (z_w_ok (n := 12213) (by decide +kernel)) (z_w_ok (n := 12214) (by decide +kernel)) rfl rfl (by decide)
theorem yq_yr228 : (y_cd yr228).all (y_okE ztb znw zcls (ytb yw00) yr228) = true := by decide +kernel
theorem yo_yr228 : y_okM ztb zcls yr228 := y_okM_i (z_codeIn (ch := 11) (i := 135) (l := tables_1_11) rfl rfl) (z_w_ok (n := 1012) (by decide +kernel)) (by decide +kernel) ⟨by decide +kernel, by decide +kernel⟩ (z_w_ok (n := 11133) (by decide +kernel)) (z_w_ok (n := 11134) (by decide +kernel)) rfl rfl (by decide)
theorem yq_yr229 : (y_cd yr229).all (y_okE ztb znw zcls (ytb yw00) yr229) = true := by decide +kernel
theorem yo_yr229 : y_okM ztb zcls yr229 := y_okM_i (z_codeIn (ch := 11) (i := 55) (l := tables_1_11) rfl rfl) (z_w_ok (n := 1012) (by decide +kernel)) (by decide +kernel) ⟨by decide +kernel, by decide +kernel⟩ (z_w_ok (n := 11054) (by decide +kernel)) (z_w_ok (n := 126) (by decide +kernel)) rfl rfl (by decide)
theorem yq_yr230 : (y_cd yr230).all (y_okE ztb znw zcls (ytb yw00) yr230) = true := by decide +kernel
theorem yo_yr230 : y_okM ztb zcls yr230 := y_okM_i (z_codeIn (ch := 11) (i := 59) (l := tables_1_11) rfl rfl) (z_w_ok (n := 1012) (by decide +kernel)) (by decide +kernel) ⟨by decide +kernel, by decide +kernel⟩ (z_w_ok (n := 11058) (by decide +kernel)) (z_w_ok (n := 127) (by decide +kernel)) rfl rfl (by decide)
theorem yq_yr231 : (y_cd yr231).all (y_okE ztb znw zcls (ytb yw00) yr231) = true := by decide +kernel
theorem yo_yr231 : y_okM ztb zcls yr231 := y_okM_i (z_codeIn (ch := 11) (i := 63) (l := tables_1_11) rfl rfl) (z_w_ok (n := 1012) (by decide +kernel)) (by decide +kernel) ⟨by decide +kernel, by decide +kernel⟩ (z_w_ok (n := 11062) (by decide +kernel)) (z_w_ok (n := 128) (by decide +kernel)) rfl rfl (by decide)
theorem yq_yr232 : (y_cd yr232).all (y_okE ztb znw zcls (ytb yw00) yr232) = true := by decide +kernel
theorem yo_yr232 : y_okM ztb zcls yr232 := y_okM_i (z_codeIn (ch := 12) (i := 203) (l := tables_1_12) rfl rfl) (z_w_ok (n := 1012) (by decide +kernel)) (by decide +kernel) ⟨by decide +kernel, by decide +kernel⟩ (z_w_ok (n := 12202) (by decide +kernel)) (z_w_ok (n := 194) (by decide +kernel)) rfl rfl (by decide)
theorem yq_yr233 : (y_cd yr233).all (y_okE ztb znw zcls (ytb yw00) yr233) = true := by decide +kernel
theorem yo_yr233 : y_okM ztb zcls yr233 := y_okM_i (z_codeIn (ch := 12) (i := 77) (l := tables_1_12) rfl rfl) (z_w_ok (n := 1012) (by decide +kernel)) (by decide +kernel) ⟨by decide +kernel, by decide +kernel⟩ (z_w_ok (n := 12075) (by decide +kernel)) (z_w_ok (n := 12076) (by decide +kernel)) rfl rfl (by decide)
theorem yq_yr234_0 : (((y_cd yr234).drop 0).take 40).all (y_okE ztb znw zcls (ytb yw00) yr234) = true := by decide +kernel
theorem yq_yr234_1 : (((y_cd yr234).drop 40).take 40).all (y_okE ztb znw zcls (ytb yw00) yr234) = true := by decide +kernel
theorem yq_yr234_e2 : ((y_cd yr234).drop 80).all (y_okE ztb znw zcls (ytb yw00) yr234) = true := z_seg_end (by decide +kernel)
theorem yq_yr234_e1 : ((y_cd yr234).drop 40).all (y_okE ztb znw zcls (ytb yw00) yr234) = true := z_seg (a := 40) (k := 40) yq_yr234_1 yq_yr234_e2
theorem yq_yr234_e0 : ((y_cd yr234).drop 0).all (y_okE ztb znw zcls (ytb yw00) yr234) = true := z_seg (a := 0) (k := 40) yq_yr234_0 yq_yr234_e1
theorem yq_yr234 : (y_cd yr234).all (y_okE ztb znw zcls (ytb yw00) yr234) = true := z_seg0 yq_yr234_e0
theorem yo_yr234 : y_okM ztb zcls yr234 := y_okM_i (z_codeIn (ch := 12) (i := 125) (l := tables_1_12) rfl rfl) (z_w_ok (n := 1012) (by decide +kernel)) (by decide +kernel) ⟨by decide +kernel, by decide +kernel⟩ (z_w_ok (n := 12124) (by decide +kernel)) (z_w_ok (n := 182) (by decide +kernel)) rfl rfl (by decide)
theorem yq_yr235_0 : (((y_cd yr235).drop 0).take 40).all (y_okE ztb znw zcls (ytb yw00) yr235) = true := by decide +kernel
theorem yq_yr235_1 : (((y_cd yr235).drop 40).take 40).all (y_okE ztb znw zcls (ytb yw00) yr235) = true := by decide +kernel
theorem yq_yr235_2 : (((y_cd yr235).drop 80).take 40).all (y_okE ztb znw zcls (ytb yw00) yr235) = true := by decide +kernel
theorem yq_yr235_e3 : ((y_cd yr235).drop 120).all (y_okE ztb znw zcls (ytb yw00) yr235) = true := z_seg_end (by decide +kernel)
theorem yq_yr235_e2 : ((y_cd yr235).drop 80).all (y_okE ztb znw zcls (ytb yw00) yr235) = true := z_seg (a := 80) (k := 40) yq_yr235_2 yq_yr235_e3
theorem yq_yr235_e1 : ((y_cd yr235).drop 40).all (y_okE ztb znw zcls (ytb yw00) yr235) = true := z_seg (a := 40) (k := 40) yq_yr235_1 yq_yr235_e2
theorem yq_yr235_e0 : ((y_cd yr235).drop 0).all (y_okE ztb znw zcls (ytb yw00) yr235) = true := z_seg (a := 0) (k := 40) yq_yr235_0 yq_yr235_e1
theorem yq_yr235 : (y_cd yr235).all (y_okE ztb znw zcls (ytb yw00) yr235) = true := z_seg0 yq_yr235_e0
theorem yo_yr235 : y_okM ztb zcls yr235 := y_okM_i (z_codeIn (ch := 12) (i := 177) (l := tables_1_12) rfl rfl) (z_w_ok (n := 1012) (by decide +kernel)) (by decide +kernel) ⟨by decide +kernel, by decide +kernel⟩ (z_w_ok (n := 12176) (by decide +kernel)) (z_w_ok (n := 191) (by decide +kernel)) rfl rfl (by decide)
theorem yq_yr236_0 : (((y_cd yr236).drop 0).take 40).all (y_okE ztb znw zcls (ytb yw00) yr236) = true := by decide +kernel
theorem yq_yr236_1 : (((y_cd yr236).drop 40).take 40).all (y_okE ztb znw zcls (ytb yw00) yr236) = true := by decide +kernel
theorem yq_yr236_e2 : ((y_cd yr236).drop 80).all (y_okE ztb znw zcls (ytb yw00) yr236) = true := z_seg_end (by decide +kernel)
theorem yq_yr236_e1 : ((y_cd yr236).drop 40).all (y_okE ztb znw zcls (ytb yw00) yr236) = true := z_seg (a := 40) (k := 40) yq_yr236_1 yq_yr236_e2
theorem yq_yr236_e0 : ((y_cd yr236).drop 0).all (y_okE ztb znw zcls (ytb yw00) yr236) = true := z_seg (a := 0) (k := 40) yq_yr236_0 yq_yr236_e1
theorem yq_yr236 : (y_cd yr236).all (y_okE ztb znw zcls (ytb yw00) yr236) = true := z_seg0 yq_yr236_e0
theorem yo_yr236 : y_okM ztb zcls yr236 := y_okM_i (z_codeIn (ch := 11) (i := 71) (l := tables_1_11) rfl rfl) (z_w_ok (n := 1012) (by decide +kernel)) (by decide +kernel) ⟨by decide +kernel, by decide +kernel⟩ (z_w_ok (n := 11070) (by decide +kernel)) (z_w_ok (n := 130) (by decide +kernel)) rfl rfl (by decide)
theorem yq_yr237 : (y_cd yr237).all (y_okE ztb znw zcls (ytb yw00) yr237) = true := by decide +kernel
theorem yo_yr237 : y_okM ztb zcls yr237 := y_okM_i (z_codeIn (ch := 11) (i := 79) (l := tables_1_11) rfl rfl) (z_w_ok (n := 1012) (by decide +kernel)) (by decide +kernel) ⟨by decide +kernel, by decide +kernel⟩ (z_w_ok (n := 11078) (by decide +kernel)) (z_w_ok (n := 132) (by decide +kernel)) rfl rfl (by decide)
theorem yq_yr238_0 : (((y_cd yr238).drop 0).take 40).all (y_okE ztb znw zcls (ytb yw00) yr238) = true := by decide +kernel
theorem yq_yr238_1 : (((y_cd yr238).drop 40).take 40).all (y_okE ztb znw zcls (ytb yw00) yr238) = true := by decide +kernel
theorem yq_yr238_e2 : ((y_cd yr238).drop 80).all (y_okE ztb znw zcls (ytb yw00) yr238) = true := z_seg_end (by decide +kernel)
theorem yq_yr238_e1 : ((y_cd yr238).drop 40).all (y_okE ztb znw zcls (ytb yw00) yr238) = true := z_seg (a := 40) (k := 40) yq_yr238_1 yq_yr238_e2
theorem yq_yr238_e0 : ((y_cd yr238).drop 0).all (y_okE ztb znw zcls (ytb yw00) yr238) = true := z_seg (a := 0) (k := 40) yq_yr238_0 yq_yr238_e1
theorem yq_yr238 : (y_cd yr238).all (y_okE ztb znw zcls (ytb yw00) yr238) = true := z_seg0 yq_yr238_e0
theorem yo_yr238 : y_okM ztb zcls yr238 := y_okM_i (z_codeIn (ch := 11) (i := 47) (l := tables_1_11) rfl rfl) (z_w_ok (n := 1012) (by decide +kernel)) (by decide +kernel) ⟨by decide +kernel, by decide +kernel⟩ (z_w_ok (n := 11046) (by decide +kernel)) (z_w_ok (n := 124) (by decide +kernel)) rfl rfl (by decide)
theorem yq_yr239 : (y_cd yr239).all (y_okE ztb znw zcls (ytb yw00) yr239) = true := by decide +kernel
theorem yo_yr239 : y_okM ztb zcls yr239 := y_okM_i (z_codeIn (ch := 11) (i := 51) (l := tables_1_11) rfl rfl) (z_w_ok (n := 1012) (by decide +kernel)) (by decide +kernel) ⟨by decide +kernel, by decide +kernel⟩ (z_w_ok (n := 11050) (by decide +kernel)) (z_w_ok (n := 125) (by decide +kernel)) rfl rfl (by decide)
theorem yq_yr240 : (y_cd yr240).all (y_okE ztb znw zcls (ytb yw00) yr240) = true := by decide +kernel
theorem yo_yr240 : y_okM ztb zcls yr240 := y_okM_i (z_codeIn (ch := 10) (i := 171) (l := tables_1_10) rfl rfl) (z_w_ok (n := 1012) (by decide +kernel)) (by decide +kernel) ⟨by decide +kernel, by decide +kernel⟩ (z_w_ok (n := 10170) (by decide +kernel)) (z_w_ok (n := 105) (by decide +kernel)) rfl rfl (by decide)
theorem yq_yr241 : (y_cd yr241).all (y_okE ztb znw zcls (ytb yw00) yr241) = true := by decide +kernel
theorem yo_yr241 : y_okM ztb zcls yr241 := y_okM_i (z_codeIn (ch := 11) (i := 175) (l := tables_1_11) rfl rfl) (z_w_ok (n := 1012) (by decide +kernel)) (by decide +kernel) ⟨by decide +kernel, by decide +kernel⟩ (z_w_ok (n := 11174) (by decide +kernel)) (z_w_ok (n := 146) (by decide +kernel)) rfl rfl (by decide)
theorem yq_yr242_0 : (((y_cd yr242).drop 0).take 40).all (y_okE ztb znw zcls (ytb yw00) yr242) = true := by decide +kernel
theorem yq_yr242_1 : (((y_cd yr242).drop 40).take 40).all (y_okE ztb znw zcls (ytb yw00) yr242) = true := by decide +kernel
theorem yq_yr242_e2 : ((y_cd yr242).drop 80).all (y_okE ztb znw zcls (ytb yw00) yr242) = true := z_seg_end (by decide +kernel)
theorem yq_yr242_e1 : ((y_cd yr242).drop 40).all (y_okE ztb znw zcls (ytb yw00) yr242) = true := z_seg (a := 40) (k := 40) yq_yr242_1 yq_yr242_e2
theorem yq_yr242_e0 : ((y_cd yr242).drop 0).all (y_okE ztb znw zcls (ytb yw00) yr242) = true := z_seg (a := 0) (k := 40) yq_yr242_0 yq_yr242_e1
theorem yq_yr242 : (y_cd yr242).all (y_okE ztb znw zcls (ytb yw00) yr242) = true := z_seg0 yq_yr242_e0
theorem yo_yr242 : y_okM ztb zcls yr242 := y_okM_i (z_codeIn (ch := 12) (i := 12) (l := tables_1_12) rfl rfl) (z_w_ok (n := 1012) (by decide +kernel)) (by decide +kernel) ⟨by decide +kernel, by decide +kernel⟩ (z_w_ok (n := 12011) (by decide +kernel)) (z_w_ok (n := 160) (by decide +kernel)) rfl rfl (by decide)
theorem yq_yr243_0 : (((y_cd yr243).drop 0).take 40).all (y_okE ztb znw zcls (ytb yw00) yr243) = true := by decide +kernel
theorem yq_yr243_1 : (((y_cd yr243).drop 40).take 40).all (y_okE ztb znw zcls (ytb yw00) yr243) = true := by decide +kernel
theorem yq_yr243_e2 : ((y_cd yr243).drop 80).all (y_okE ztb znw zcls (ytb yw00) yr243) = true := z_seg_end (by decide +kernel)
theorem yq_yr243_e1 : ((y_cd yr243).drop 40).all (y_okE ztb znw zcls (ytb yw00) yr243) = true := z_seg (a := 40) (k := 40) yq_yr243_1 yq_yr243_e2
theorem yq_yr243_e0 : ((y_cd yr243).drop 0).all (y_okE ztb znw zcls (ytb yw00) yr243) = true := z_seg (a := 0) (k := 40) yq_yr243_0 yq_yr243_e1
theorem yq_yr243 : (y_cd yr243).all (y_okE ztb znw zcls (ytb yw00) yr243) = true := z_seg0 yq_yr243_e0
theorem yo_yr243 : y_okM ztb zcls yr243 := y_okM_i (z_codeIn (ch := 12) (i := 199) (l := tables_1_12) rfl rfl) (z_w_ok (n := 1012) (by decide +kernel)) (by decide +kernel) ⟨by decide +kernel, by decide +kernel⟩ (z_w_ok (n := 12198) (by decide +kernel)) (z_w_ok (n := 193) (by decide +kernel)) rfl rfl (by decide)
theorem yq_yr244_0 : (((y_cd yr244).drop 0).take 40).all (y_okE ztb znw zcls (ytb yw00) yr244) = true := by decide +kernel
theorem yq_yr244_1 : (((y_cd yr244).drop 40).take 40).all (y_okE ztb znw zcls (ytb yw00) yr244) = true := by decide +kernel
theorem yq_yr244_e2 : ((y_cd yr244).drop 80).all (y_okE ztb znw zcls (ytb yw00) yr244) = true := z_seg_end (by decide +kernel)
theorem yq_yr244_e1 : ((y_cd yr244).drop 40).all (y_okE ztb znw zcls (ytb yw00) yr244) = true := z_seg (a := 40) (k := 40) yq_yr244_1 yq_yr244_e2
theorem yq_yr244_e0 : ((y_cd yr244).drop 0).all (y_okE ztb znw zcls (ytb yw00) yr244) = true := z_seg (a := 0) (k := 40) yq_yr244_0 yq_yr244_e1
theorem yq_yr244 : (y_cd yr244).all (y_okE ztb znw zcls (ytb yw00) yr244) = true := z_seg0 yq_yr244_e0
theorem yo_yr244 : y_okM ztb zcls yr244 := y_okM_i (z_codeIn (ch := 12) (i := 16) (l := tables_1_12) rfl rfl) (z_w_ok (n := 1012) (by decide +kernel)) (by decide +kernel) ⟨by decide +kernel, by decide +kernel⟩ (z_w_ok (n := 12015) (by decide +kernel)) (z_w_ok (n := 161) (by decide +kernel)) rfl rfl (by decide)
theorem yq_yr245_0 : (((y_cd yr245).drop 0).take 40).all (y_okE ztb znw zcls (ytb yw00) yr245) = true := by decide +kernel
theorem yq_yr245_1 : (((y_cd yr245).drop 40).take 40).all (y_okE ztb znw zcls (ytb yw00) yr245) = true := by decide +kernel
theorem yq_yr245_e2 : ((y_cd yr245).drop 80).all (y_okE ztb znw zcls (ytb yw00) yr245) = true := z_seg_end (by decide +kernel)
theorem yq_yr245_e1 : ((y_cd yr245).drop 40).all (y_okE ztb znw zcls (ytb yw00) yr245) = true := z_seg (a := 40) (k := 40) yq_yr245_1 yq_yr245_e2
theorem yq_yr245_e0 : ((y_cd yr245).drop 0).all (y_okE ztb znw zcls (ytb yw00) yr245) = true := z_seg (a := 0) (k := 40) yq_yr245_0 yq_yr245_e1
theorem yq_yr245 : (y_cd yr245).all (y_okE ztb znw zcls (ytb yw00) yr245) = true := z_seg0 yq_yr245_e0
theorem yo_yr245 : y_okM ztb zcls yr245 := y_okM_i (z_codeIn (ch := 12) (i := 153) (l := tables_1_12) rfl rfl) (z_w_ok (n := 1012) (by decide +kernel)) (by decide +kernel) ⟨by decide +kernel, by decide +kernel⟩ (z_w_ok (n := 12151) (by decide +kernel)) (z_w_ok (n := 12152) (by decide +kernel)) rfl rfl (by decide)
