theorem yq_yr207 : (y_cd yr207).all (y_okE ztb znw zcls (ytb yw00) yr207) = true := by decide +kernel
theorem yo_yr207 : y_okM ztb zcls yr207 := y_okM_i (z_codeIn (ch := 12) (i := 215) (l := tables_1_12) rfl rfl) (z_w_ok (n := 1012) (by decide +kernel)) (by decide +kernel) ⟨by decide +kernel, by decide +kernel⟩ (z_w_ok (n := 12213) (by decide +kernel)) (z_w_ok (n := 12214) (by decide +kernel)) rfl rfl (by decide)
theorem yq_yr208 : (y_cd yr208).all (y_okE ztb znw zcls (ytb yw00) yr208) = true := by decide +kernel
theorem yo_yr208 : y_okM ztb zcls yr208 := y_okM_i (z_codeIn (ch := 11) (i := 135) (l := tables_1_11) rfl rfl) (z_w_ok (n := 1012) (by decide +kernel)) (by decide +kernel) ⟨by decide +kernel, by decide +kernel⟩ (z_w_ok (n := 11133) (by decide +kernel)) (z_w_ok (n := 11134) (by decide +kernel)) rfl rfl (by decide)
theorem yq_yr209 : (y_cd yr209).all (y_okE ztb znw zcls (ytb yw00) yr209) = true := by decide +kernel
theorem yo_yr209 : y_okM ztb zcls yr209 := y_okM_i (z_codeIn (ch := 11) (i := 55) (l := tables_1_11) rfl rfl) (z_w_ok (n := 1012) (by decide +kernel)) (by decide +kernel) ⟨by decide +kernel, by decide +kernel⟩ (z_w_ok (n := 11054) (by decide +kernel)) (z_w_ok (n := 126) (by decide +kernel)) rfl rfl (by decide)
theorem yq_yr210 : (y_cd yr210).all (y_okE ztb znw zcls (ytb yw00) yr210) = true := by decide +kernel
theorem yo_yr210 : y_okM ztb zcls yr210 := y_okM_i (z_codeIn (ch := 11) (i := 59) (l := tables_1_11) rfl rfl) (z_w_ok (n := 1012) (by decide +kernel)) (by decide +kernel) ⟨by decide +kernel, by decide +kernel⟩ (z_w_ok (n := 11058) (by decide +kernel)) (z_w_ok (n := 127) (by decide +kernel)) rfl rfl (by decide)
theorem yq_yr211 : (y_cd yr211).all (y_okE ztb znw zcls (ytb yw00) yr211) = true := by decide +kernel
theorem yo_yr211 : y_okM ztb zcls yr211 := y_okM_i (z_codeIn (ch := 11) (i := 63) (l := tables_1_11) rfl rfl) (z_w_ok (n := 1012) (by decide +kernel)) (by decide +kernel) ⟨by decide +kernel, by decide +kernel⟩ (z_w_ok (n := 11062) (by decide +kernel)) (z_w_ok (n := 128) (by decide +kernel)) rfl rfl (by decide)
theorem yq_yr212 : (y_cd yr212).all (y_okE ztb znw zcls (ytb yw00) yr212) = true := by decide +kernel
theorem yo_yr212 : y_okM ztb zcls yr212 := y_okM_i (z_codeIn (ch := 12) (i := 203) (l := tables_1_12) rfl rfl) (z_w_ok (n := 1012) (by decide +kernel)) (by decide +kernel) ⟨by decide +kernel, by decide +kernel⟩ (z_w_ok (n := 12202) (by decide +kernel)) (z_w_ok (n := 194) (by decide +kernel)) rfl rfl (by decide)
theorem yq_yr213 : (y_cd yr213).all (y_okE ztb znw zcls (ytb yw00) yr213) = true := by decide +kernel
theorem yo_yr213 : y_okM ztb zcls yr213 := y_okM_i (z_codeIn (ch := 12) (i := 77) (l := tables_1_12) rfl rfl) (z_w_ok (n := 1012) (by decide +kernel)) (by decide +kernel) ⟨by decide +kernel, by decide +kernel⟩ (z_w_ok (n := 12075) (by decide +kernel)) (z_w_ok (n := 12076) (by decide +kernel)) rfl rfl (by decide)
theorem yq_yr214_0 : (((y_cd yr214).drop 0).take 40).all (y_okE ztb znw zcls (ytb yw00) yr214) = true := by decide +kernel
theorem yq_yr214_1 : (((y_cd yr214).drop 40).take 40).all (y_okE ztb znw zcls (ytb yw00) yr214) = true := by decide +kernel
theorem yq_yr214_e2 : ((y_cd yr214).drop 80).all (y_okE ztb znw zcls (ytb yw00) yr214) = true := z_seg_end (by decide +kernel)
theorem yq_yr214_e1 : ((y_cd yr214).drop 40).all (y_okE ztb znw zcls (ytb yw00) yr214) = true := z_seg (a := 40) (k := 40) yq_yr214_1 yq_yr214_e2
theorem yq_yr214_e0 : ((y_cd yr214).drop 0).all (y_okE ztb znw zcls (ytb yw00) yr214) = true := z_seg (a := 0) (k := 40) yq_yr214_0 yq_yr214_e1
theorem yq_yr214 : (y_cd yr214).all (y_okE ztb znw zcls (ytb yw00) yr214) = true := z_seg0 yq_yr214_e0
theorem yo_yr214 : y_okM ztb zcls yr214 := y_okM_i (z_codeIn (ch := 12) (i := 125) (l := tables_1_12) rfl rfl) (z_w_ok (n := 1012) (by decide +kernel)) (by decide +kernel) ⟨by decide +kernel, by decide +kernel⟩ (z_w_ok (n := 12124) (by decide +kernel)) (z_w_ok (n := 182) (by decide +kernel)) rfl rfl (by decide)
theorem yq_yr215_0 : (((y_cd yr215).drop 0).take 40).all (y_okE ztb znw zcls (ytb yw00) yr215) = true := by decide +kernel
theorem yq_yr215_1 : (((y_cd yr215).drop 40).take 40).all (y_okE ztb znw zcls (ytb yw00) yr215) = true := by decide +kernel
theorem yq_yr215_2 : (((y_cd yr215).drop 80).take 40).all (y_okE ztb znw zcls (ytb yw00) yr215) = true := by decide +kernel
theorem yq_yr215_e3 : ((y_cd yr215).drop 120).all (y_okE ztb znw zcls (ytb yw00) yr215) = true := z_seg_end (by decide +kernel)
theorem yq_yr215_e2 : ((y_cd yr215).drop 80).all (y_okE ztb znw zcls (ytb yw00) yr215) = true := z_seg (a := 80) (k := 40) yq_yr215_2 yq_yr215_e3
theorem yq_yr215_e1 : ((y_cd yr215).drop 40).all (y_okE ztb znw zcls (ytb yw00) yr215) = true := z_seg (a := 40) (k := 40) yq_yr215_1 yq_yr215_e2
theorem yq_yr215_e0 : ((y_cd yr215).drop 0).all (y_okE ztb znw zcls (ytb yw00) yr215) = true := z_seg (a := 0) (k := 40) yq_yr215_0 yq_yr215_e1
theorem yq_yr215 : (y_cd yr215).all (y_okE ztb znw zcls (ytb yw00) yr215) = true := z_seg0 yq_yr215_e0
theorem yo_yr215 : y_okM ztb zcls yr215 := y_okM_i (z_codeIn (ch := 12) (i := 177) (l := tables_1_12) rfl rfl) (z_w_ok (n := 1012) (by decide +kernel)) (by decide +kernel) ⟨by decide +kernel, by decide +kernel⟩ (z_w_ok (n := 12176) (by decide +kernel)) (z_w_ok (n := 191) (by decide +kernel)) rfl rfl (by decide)
theorem yq_yr216_0 : (((y_cd yr216).drop 0).take 40).all (y_okE ztb znw zcls (ytb yw00) yr216) = true := by decide +kernel
theorem yq_yr216_1 : (((y_cd yr216).drop 40).take 40).all (y_okE ztb znw zcls (ytb yw00) yr216) = true := by decide +kernel
theorem yq_yr216_e2 : ((y_cd yr216).drop 80).all (y_okE ztb znw zcls (ytb yw00) yr216) = true := z_seg_end (by decide +kernel)
theorem yq_yr216_e1 : ((y_cd yr216).drop 40).all (y_okE ztb znw zcls (ytb yw00) yr216) = true := z_seg (a := 40) (k := 40) yq_yr216_1 yq_yr216_e2
theorem yq_yr216_e0 : ((y_cd yr216).drop 0).all (y_okE ztb znw zcls (ytb yw00) yr216) = true := z_seg (a := 0) (k := 40) yq_yr216_0 yq_yr216_e1
theorem yq_yr216 : (y_cd yr216).all (y_okE ztb znw zcls (ytb yw00) yr216) = true := z_seg0 yq_yr216_e0
theorem yo_yr216 : y_okM ztb zcls yr216 := y_okM_i (z_codeIn (ch := 11) (i := 71) (l := tables_1_11) rfl rfl) (z_w_ok (n := 1012) (by decide +kernel)) (by decide +kernel) ⟨by decide +kernel, by decide +kernel⟩ (z_w_ok (n := 11070) (by decide +kernel)) (z_w_ok (n := 130) (by decide +kernel)) rfl rfl (by decide)
theorem yq_yr217 : (y_cd yr217).all (y_okE ztb znw zcls (ytb yw00) yr217) = true := by decide +kernel
theorem yo_yr217 : y_okM ztb zcls yr217 := y_okM_i (z_codeIn (ch := 11) (i := 79) (l := tables_1_11) rfl rfl) (z_w_ok (n := 1012) (by decide +kernel)) (by decide +kernel) ⟨by decide +kernel, by decide +kernel⟩ (z_w_ok (n := 11078) (by decide +kernel)) (z_w_ok (n := 132) (by decide +kernel)) rfl rfl (by decide)
theorem yq_yr218_0 : (((y_cd yr218).drop 0).take 40).all (y_okE ztb znw zcls (ytb yw00) yr218) = true := by decide +kernel
theorem yq_yr218_1 : (((y_cd yr218).drop 40).take 40).all (y_okE ztb znw zcls (ytb yw00) yr218) = true := by decide +kernel
theorem yq_yr218_e2 : ((y_cd yr218).drop 80).all (y_okE ztb znw zcls (ytb yw00) yr218) = true := z_seg_end (by decide +kernel)
theorem yq_yr218_e1 : ((y_cd yr218).drop 40).all (y_okE ztb znw zcls (ytb yw00) yr218) = true := z_seg (a := 40) (k := 40) yq_yr218_1 yq_yr218_e2
theorem yq_yr218_e0 : ((y_cd yr218).drop 0).all (y_okE ztb znw zcls (ytb yw00) yr218) = true := z_seg (a := 0) (k := 40) yq_yr218_0 yq_yr218_e1
theorem yq_yr218 : (y_cd yr218).all (y_okE ztb znw zcls (ytb yw00) yr218) = true := z_seg0 yq_yr218_e0
theorem yo_yr218 : y_okM ztb zcls yr218 := y_okM_i (z_codeIn (ch := 11) (i := 47) (l := tables_1_11) rfl rfl) (z_w_ok (n := 1012) (by decide +kernel)) (by decide +kernel) ⟨by decide +kernel, by decide +kernel⟩ (z_w_ok (n := 11046) (by decide +kernel)) (z_w_ok (n := 124) (by decide +kernel)) rfl rfl (by decide)
theorem yq_yr219 : (y_cd yr219).all (y_okE ztb znw zcls (ytb yw00) yr219) = true := by decide +kernel
theorem yo_yr219 : y_okM ztb zcls yr219 := y_okM_i (z_codeIn (ch := 11) (i := 51) (l := tables_1_11) rfl rfl) (z_w_ok (n := 1012) (by decide +kernel)) (by decide +kernel) ⟨by decide +kernel, by decide +kernel⟩ (z_w_ok (n := 11050) (by decide +kernel)) (z_w_ok (n := 125) (by decide +kernel)) rfl rfl (by decide)
theorem yq_yr220 : (y_cd yr220).all (y_okE ztb znw zcls (ytb yw00) yr220) = true := by decide +kernel
theorem yo_yr220 : y_okM ztb zcls yr220 := y_okM_i (z_codeIn (ch := 10) (i := 171) (l := tables_1_10) rfl rfl) (z_w_ok (n := 1012) (by decide +kernel)) (by decide +kernel) ⟨by decide +kernel, by decide +kernel⟩ (z_w_ok (n := 10170) (by decide +kernel)) (z_w_ok (n := 105) (by decide +kernel)) rfl rfl (by decide)
theorem yq_yr221_0 : (((y_cd yr221).drop 0).take 40).all (y_okE ztb znw zcls (ytb yw00) yr221) = true := by decide +kernel
theorem yq_yr221_1 : (((y_cd yr221).drop 40).take 40).all (y_okE ztb znw zcls (ytb yw00) yr221) = true := by decide +kernel
theorem yq_yr221_e2 : ((y_cd yr221).drop 80).all (y_okE ztb znw zcls (ytb yw00) yr221) = true := z_seg_end (by decide +kernel)
theorem yq_yr221_e1 : ((y_cd yr221).drop 40).all (y_okE ztb znw zcls (ytb yw00) yr221) = true := z_seg (a := 40) (k := 40) yq_yr221_1 yq_yr221_e2
theorem yq_yr221_e0 : ((y_cd yr221).drop 0).all (y_okE ztb znw zcls (ytb yw00) yr221) = true := z_seg (a := 0) (k := 40) yq_yr221_0 yq_yr221_e1
theorem yq_yr221 : (y_cd yr221).all (y_okE ztb znw zcls (ytb yw00) yr221) = true := z_seg0 yq_yr221_e0
theorem yo_yr221 : y_okM ztb zcls yr221 := y_okM_i (z_codeIn (ch := 12) (i := 199) (l := tables_1_12) rfl rfl) (z_w_ok (n := 1012) (by decide +kernel)) (by decide +kernel) ⟨by decide +kernel, by decide +kernel⟩ (z_w_ok (n := 12198) (by decide +kernel)) (z_w_ok (n := 193) (by decide +kernel)) rfl rfl (by decide)
theorem yq_yr222_0 : (((y_cd yr222).drop 0).take 40).all (y_okE ztb znw zcls (ytb yw00) yr222) = true := by decide +kernel
theorem yq_yr222_1 : (((y_cd yr222).drop 40).take 40).all (y_okE ztb znw zcls (ytb yw00) yr222) = true := by decide +kernel
theorem yq_yr222_e2 : ((y_cd yr222).drop 80).all (y_okE ztb znw zcls (ytb yw00) yr222) = true := z_seg_end (by decide +kernel)
theorem yq_yr222_e1 : ((y_cd yr222).drop 40).all (y_okE ztb znw zcls (ytb yw00) yr222) = true := z_seg (a := 40) (k := 40) yq_yr222_1 yq_yr222_e2
theorem yq_yr222_e0 : ((y_cd yr222).drop 0).all (y_okE ztb znw zcls (ytb yw00) yr222) = true := z_seg (a := 0) (k := 40) yq_yr222_0 yq_yr222_e1
theorem yq_yr222 : (y_cd yr222).all (y_okE ztb znw zcls (ytb yw00) yr222) = true := z_seg0 yq_yr222_e0
theorem yo_yr222 : y_okM ztb zcls yr222 := y_okM_i (z_codeIn (ch := 12) (i := 153) (l := tables_1_12) rfl rfl) (z_w_ok (n := 1012) (by decide +kernel)) (by decide +kernel) ⟨by decide +kernel, by decide +kernel⟩ (z_w_ok (n := 12151) (by decide +kernel)) (z_w_ok (n := 12152) (by decide +kernel)) rfl rfl (by decide)
theorem yq_yr223_0 : (((y_cd yr223).drop 0).take 40).all (y_okE ztb znw zcls (ytb yw00) yr223) = true := by decide +kernel
theorem yq_yr223_1 : (((y_cd yr223).drop 40).take 40).all (y_okE ztb znw zcls (ytb yw00) yr223) = true := by decide +kernel
theorem yq_yr223_e2 : ((y_cd yr223).drop 80).all (y_okE ztb znw zcls (ytb yw00) yr223) = true := z_seg_end (by decide +kernel)
theorem yq_yr223_e1 : ((y_cd yr223).drop 40).all (y_okE ztb znw zcls (ytb yw00) yr223) = true := z_seg (a := 40) (k := 40) yq_yr223_1 yq_yr223_e2
theorem yq_yr223_e0 : ((y_cd yr223).drop 0).all (y_okE ztb znw zcls (ytb yw00) yr223) = true := z_seg (a := 0) (k := 40) yq_yr223_0 yq_yr223_e1
theorem yq_yr223 : (y_cd yr223).all (y_okE ztb znw zcls (ytb yw00) yr223) = true := z_seg0 yq_yr223_e0
theorem yo_yr223 : y_okM ztb zcls yr223 := y_okM_i (z_codeIn (ch := 12) (i := 189) (l := tables_1_12) rfl rfl) (z_w_ok (n := 1012) (by decide +kernel)) (by decide +kernel) ⟨by decide +kernel, by decide +kernel⟩ (z_w_ok (n := 12187) (by decide +kernel)) (z_w_ok (n := 12188) (by decide +kernel)) rfl rfl (by decide)
theorem yq_yr224 : (y_cd yr224).all (y_okE ztb znw zcls (ytb yw00) yr224) = true := by decide +kernel
theorem yo_yr224 : y_okM ztb zcls yr224 := y_okM_i (z_codeIn (ch := 11) (i := 151) (l := tables_1_11) rfl rfl) (z_w_ok (n := 1012) (by decide +kernel)) (by decide +kernel) ⟨by decide +kernel, by decide +kernel⟩ (z_w_ok (n := 11149) (by decide +kernel)) (z_w_ok (n := 11150) (by decide +kernel)) rfl rfl (by decide)
theorem yq_yr225 : (y_cd yr225).all (y_okE ztb znw zcls (ytb yw00) yr225) = true := by decide +kernel
theorem yo_yr225 : y_okM ztb zcls yr225 := y_okM_i (z_codeIn (ch := 12) (i := 93) (l := tables_1_12) rfl rfl) (z_w_ok (n := 1012) (by decide +kernel)) (by decide +kernel) ⟨by decide +kernel, by decide +kernel⟩ (z_w_ok (n := 12092) (by decide +kernel)) (z_w_ok (n := 178) (by decide +kernel)) rfl rfl (by decide)
theorem yq_yr226_0 : (((y_cd yr226).drop 0).take 40).all (y_okE ztb znw zcls (ytb yw00) yr226) = true := by decide +kernel
theorem yq_yr226_1 : (((y_cd yr226).drop 40).take 40).all (y_okE ztb znw zcls (ytb yw00) yr226) = true := by decide +kernel
theorem yq_yr226_e2 : ((y_cd yr226).drop 80).all (y_okE ztb znw zcls (ytb yw00) yr226) = true := z_seg_end (by decide +kernel)
theorem yq_yr226_e1 : ((y_cd yr226).drop 40).all (y_okE ztb znw zcls (ytb yw00) yr226) = true := z_seg (a := 40) (k := 40) yq_yr226_1 yq_yr226_e2
theorem yq_yr226_e0 : ((y_cd yr226).drop 0).all (y_okE ztb znw zcls (ytb yw00) yr226) = true := z_seg (a := 0) (k := 40) yq_yr226_0 yq_yr226_e1
theorem yq_yr226 : (y_cd yr226).all (y_okE ztb znw zcls (ytb yw00) yr226) = true := z_seg0 yq_yr226_e0
theorem yo_yr226 : y_okM ztb zcls yr226 := y_okM_i (z_codeIn (ch := 12) (i := 219) (l := tables_1_12) rfl rfl) (z_w_ok (n := 1012) (by decide +kernel)) (by decide +kernel) ⟨by decide +kernel, by decide +kernel⟩ (z_w_ok (n := 12217) (by decide +kernel)) (z_w_ok (n := 12218) (by decide +kernel)) rfl rfl (by decide)
theorem yq_yr227_0 : (((y_cd yr227).drop 0).take 40).all (y_okE ztb znw zcls (ytb yw00) yr227) = true := by decide +kernel
theorem yq_yr227_1 : (((y_cd yr227).drop 40).take 40).all (y_okE ztb znw zcls (ytb yw00) yr227) = true := by decide +kernel
theorem yq_yr227_e2 : ((y_cd yr227).drop 80).all (y_okE ztb znw zcls (ytb yw00) yr227) = true := z_seg_end (by decide +kernel)
theorem yq_yr227_e1 : ((y_cd yr227).drop 40).all (y_okE ztb znw zcls (ytb yw00) yr227) = true := z_seg (a := 40) (k := 40) yq_yr227_1 yq_yr227_e2
theorem yq_yr227_e0 : ((y_cd yr227).drop 0).all (y_okE ztb znw zcls (ytb yw00) yr227) = true := z_seg (a := 0) (k := 40) yq_yr227_0 yq_yr227_e1
theorem yq_yr227 : (y_cd yr227).all (y_okE ztb znw zcls (ytb yw00) yr227) = true := z_seg0 yq_yr227_e0
theorem yo_yr227 : y_okM ztb zcls yr227 := y_okM_i (z_codeIn (ch := 11) (i := 179) (l := tables_1_11) rfl rfl) (z_w_ok (n := 1012) (by decide +kernel)) (by decide +kernel) ⟨by decide +kernel, by decide +kernel⟩ (z_w_ok (n := 11178) (by decide +kernel)) (z_w_ok (n := 147) (by decide +kernel)) rfl rfl (by decide)
theorem yq_yr228_0 : (((y_cd yr228).drop 0).take 40).all (y_okE ztb znw zcls (ytb yw00) yr228) = true := by decide +kernel
theorem yq_yr228_1 : (((y_cd yr228).drop 40).take 40).all (y_okE ztb znw zcls (ytb yw00) yr228) = true := by decide +kernel
theorem yq_yr228_e2 : ((y_cd yr228).drop 80).all (y_okE ztb znw zcls (ytb yw00) yr228) = true := z_seg_end (by decide +kernel)
theorem yq_yr228_e1 : ((y_cd yr228).drop 40).all (y_okE ztb znw zcls (ytb yw00) yr228) = true := z_seg (a := 40) (k := 40) yq_yr228_1 yq_yr228_e2
theorem yq_yr228_e0 : ((y_cd yr228).drop 0).all (y_okE ztb znw zcls (ytb yw00) yr228) = true := z_seg (a := 0) (k := 40) yq_yr228_0 yq_yr228_e1
theorem yq_yr228 : (y_cd yr228).all (y_okE ztb znw zcls (ytb yw00) yr228) = true := z_seg0 yq_yr228_e0
theorem yo_yr228 : y_okM ztb zcls yr228 := y_okM_i (z_codeIn (ch := 11) (i := 67) (l := tables_1_11) rfl rfl) (z_w_ok (n := 1012) (by decide +kernel)) (by decide +kernel) ⟨by decide +kernel, by decide +kernel⟩ (z_w_ok (n := 11066) (by decide +kernel)) (z_w_ok (n := 129) (by decide +kernel)) rfl rfl (by decide)
theorem yq_yr229_0 : (((y_cd yr229).drop 0).take 40).all (y_okE ztb znw zcls (ytb yw00) yr229) = true := by decide +kernel
theorem yq_yr229_1 : (((y_cd yr229).drop 40).take 40).all (y_okE ztb znw zcls (ytb yw00) yr229) = true := by decide +kernel
theorem yq_yr229_2 : (((y_cd yr229).drop 80).take 40).all (y_okE ztb znw zcls (ytb yw00) yr229) = true := by decide +kernel
theorem yq_yr229_e3 : ((y_cd yr229).drop 120).all (y_okE ztb znw zcls (ytb yw00) yr229) = true := z_seg_end (by decide +kernel)
theorem yq_yr229_e2 : ((y_cd yr229).drop 80).all (y_okE ztb znw zcls (ytb yw00) yr229) = true := z_seg (a := 80) (k := 40) yq_yr229_2 yq_yr229_e3
theorem yq_yr229_e1 : ((y_cd yr229).drop 40).all (y_okE ztb znw zcls (ytb yw00) yr229) = true := z_seg (a := 40) (k := 40) yq_yr229_1 yq_yr229_e2
theorem yq_yr229_e0 : ((y_cd yr229).drop 0).all (y_okE ztb znw zcls (ytb yw00) yr229) = true := z_seg (a := 0) (k := 40) yq_yr229_0 yq_yr229_e1
theorem yq_yr229 : (y_cd yr229).all (y_okE ztb znw zcls (ytb yw00) yr229) = true := z_seg0 yq_yr229_e0
theorem yo_yr229 : y_okM ztb zcls yr229 := y_okM_i (z_codeIn (ch := 11) (i := 35) (l := tables_1_11) rfl rfl) (z_w_ok (n := 1012) (by decide +kernel)) (by decide +kernel) ⟨by decide +kernel, by decide +kernel⟩ (z_w_ok (n := 11034) (by decide +kernel)) (z_w_ok (n := 121) (by decide +kernel)) rfl rfl (by decide)
theorem yq_yr230 : (y_cd yr230).all (y_okE ztb znw zcls (ytb yw00) yr230) = true := by decide +kernel
theorem yo_yr230 : y_okM ztb zcls yr230 := y_okM_i (z_codeIn (ch := 11) (i := 123) (l := tables_1_11) rfl rfl) (z_w_ok (n := 1012) (by decide +kernel)) (by decide +kernel) ⟨by decide +kernel, by decide +kernel⟩ (z_w_ok (n := 11121) (by decide +kernel)) (z_w_ok (n := 11122) (by decide +kernel)) rfl rfl (by decide)
theorem yq_yr231_0 : (((y_cd yr231).drop 0).take 40).all (y_okE ztb znw zcls (ytb yw00) yr231) = true := by decide +kernel
theorem yq_yr231_1 : (((y_cd yr231).drop 40).take 40).all (y_okE ztb znw zcls (ytb yw00) yr231) = true := by decide +kernel
theorem yq_yr231_e2 : ((y_cd yr231).drop 80).all (y_okE ztb znw zcls (ytb yw00) yr231) = true := z_seg_end (by decide +kernel)
theorem yq_yr231_e1 : ((y_cd yr231).drop 40).all (y_okE ztb znw zcls (ytb yw00) yr231) = true := z_seg (a := 40) (k := 40) yq_yr231_1 yq_yr231_e2
theorem yq_yr231_e0 : ((y_cd yr231).drop 0).all (y_okE ztb znw zcls (ytb yw00) yr231) = true := z_seg (a := 0) (k := 40) yq_yr231_0 yq_yr231_e1
theorem yq_yr231 : (y_cd yr231).all (y_okE ztb znw zcls (ytb yw00) yr231) = true := z_seg0 yq_yr231_e0
theorem yo_yr231 : y_okM ztb zcls yr231 := y_okM_i (z_codeIn (ch := 12) (i := 73) (l := tables_1_12) rfl rfl) (z_w_ok (n := 1012) (by decide +kernel)) (by decide +kernel) ⟨by decide +kernel, by decide +kernel⟩ (z_w_ok (n := 12072) (by decide +kernel)) (z_w_ok (n := 175) (by decide +kernel)) rfl rfl (by decide)
theorem yq_yr232_0 : (((y_cd yr232).drop 0).take 40).all (y_okE ztb znw zcls (ytb yw00) yr232) = true := by decide +kernel
theorem yq_yr232_1 : (((y_cd yr232).drop 40).take 40).all (y_okE ztb znw zcls (ytb yw00) yr232) = true := by decide +kernel
theorem yq_yr232_e2 : ((y_cd yr232).drop 80).all (y_okE ztb znw zcls (ytb yw00) yr232) = true := z_seg_end (by decide +kernel)
theorem yq_yr232_e1 : ((y_cd yr232).drop 40).all (y_okE ztb znw zcls (ytb yw00) yr232) = true := z_seg (a := 40) (k := 40) yq_yr232_1 yq_yr232_e2
theorem yq_yr232_e0 : ((y_cd yr232).drop 0).all (y_okE ztb znw zcls (ytb yw00) yr232) = true := z_seg (a := 0) (k := 40) yq_yr232_0 yq_yr232_e1
theorem yq_yr232 : (y_cd yr232).all (y_okE ztb znw zcls (ytb yw00) yr232) = true := z_seg0 yq_yr232_e0
theorem yo_yr232 : y_okM ztb zcls yr232 := y_okM_i (z_codeIn (ch := 10) (i := 239) (l := tables_1_10) rfl rfl) (z_w_ok (n := 1012) (by decide +kernel)) (by decide +kernel) ⟨by decide +kernel, by decide +kernel⟩ (z_w_ok (n := 10238) (by decide +kernel)) (z_w_ok (n := 115) (by decide +kernel)) rfl rfl (by decide)
theorem yq_yr233 : (y_cd yr233).all (y_okE ztb znw zcls (ytb yw00) yr233) = true := by decide +kernel
theorem yo_yr233 : y_okM ztb zcls yr233 := y_okM_i (z_codeIn (ch := 10) (i := 187) (l := tables_1_10) rfl rfl) (z_w_ok (n := 1012) (by decide +kernel)) (by decide +kernel) ⟨by decide +kernel, by decide +kernel⟩ (z_w_ok (n := 10186) (by decide +kernel)) (z_w_ok (n := 109) (by decide +kernel)) rfl rfl (by decide)
theorem yq_yr234_0 : (((y_cd yr234).drop 0).take 40).all (y_okE ztb znw zcls (ytb yw00) yr234) = true := by decide +kernel
theorem yq_yr234_1 : (((y_cd yr234).drop 40).take 40).all (y_okE ztb znw zcls (ytb yw00) yr234) = true := by decide +kernel
theorem yq_yr234_2 : (((y_cd yr234).drop 80).take 40).all (y_okE ztb znw zcls (ytb yw00) yr234) = true := by decide +kernel
theorem yq_yr234_3 : (((y_cd yr234).drop 120).take 40).all (y_okE ztb znw zcls (ytb yw00) yr234) = true := by decide +kernel
theorem yq_yr234_4 : (((y_cd yr234).drop 160).take 40).all (y_okE ztb znw zcls (ytb yw00) yr234) = true := by decide +kernel
theorem yq_yr234_e5 : ((y_cd yr234).drop 200).all (y_okE ztb znw zcls (ytb yw00) yr234) = true := z_seg_end (by decide +kernel)
theorem yq_yr234_e4 : ((y_cd yr234).drop 160).all (y_okE ztb znw zcls (ytb yw00) yr234) = true := z_seg (a := 160) (k := 40) yq_yr234_4 yq_yr234_e5
theorem yq_yr234_e3 : ((y_cd yr234).drop 120).all (y_okE ztb znw zcls (ytb yw00) yr234) = true := z_seg (a := 120) (k := 40) yq_yr234_3 yq_yr234_e4
theorem yq_yr234_e2 : ((y_cd yr234).drop 80).all (y_okE ztb znw zcls (ytb yw00) yr234) = true := z_seg (a := 80) (k := 40) yq_yr234_2 yq_yr234_e3
theorem yq_yr234_e1 : ((y_cd yr234).drop 40).all (y_okE ztb znw zcls (ytb yw00) yr234) = true := z_seg (a := 40) (k := 40) yq_yr234_1 yq_yr234_e2
theorem yq_yr234_e0 : ((y_cd yr234).drop 0).all (y_okE ztb znw zcls (ytb yw00) yr234) = true := z_seg (a := 0) (k := 40) yq_yr234_0 yq_yr234_e1
theorem yq_yr234 : (y_cd yr234).all (y_okE ztb znw zcls (ytb yw00) yr234) = true := z_seg0 yq_yr234_e0
theorem yo_yr234 : y_okM ztb zcls yr234 := y_okM_i (z_codeIn (ch := 10) (i := 91) (l := tables_1_10) rfl rfl) (z_w_ok (n := 1012) (by decide +kernel)) (by decide +kernel) ⟨by decide +kernel, by decide +kernel⟩ (z_w_ok (n := 10090) (by decide +kernel)) (z_w_ok (n := 89) (by decide +kernel)) rfl rfl (by decide)
theorem yq_yr235 : (y_cd yr235).all (y_okE ztb znw zcls (ytb yw00) yr235) = true := by decide +kernel
theorem yo_yr235 : y_okM ztb zcls yr235 := y_okM_i (z_codeIn (ch := 8) (i := 109) (l := tables_1_8) rfl rfl) (z_w_ok (n := 1012) (by decide +kernel)) (by decide +kernel) ⟨by decide +kernel, by decide +kernel⟩ (z_w_ok (n := 8108) (by decide +kernel)) (z_w_ok (n := 87) (by decide +kernel)) rfl rfl (by decide)
theorem yq_yr236_0 : (((y_cd yr236).drop 0).take 40).all (y_okE ztb znw zcls (ytb yw00) yr236) = true := by decide +kernel
theorem yq_yr236_1 : (((y_cd yr236).drop 40).take 40).all (y_okE ztb znw zcls (ytb yw00) yr236) = true := by decide +kernel
theorem yq_yr236_e2 : ((y_cd yr236).drop 80).all (y_okE ztb znw zcls (ytb yw00) yr236) = true := z_seg_end (by decide +kernel)
theorem yq_yr236_e1 : ((y_cd yr236).drop 40).all (y_okE ztb znw zcls (ytb yw00) yr236) = true := z_seg (a := 40) (k := 40) yq_yr236_1 yq_yr236_e2
theorem yq_yr236_e0 : ((y_cd yr236).drop 0).all (y_okE ztb znw zcls (ytb yw00) yr236) = true := z_seg (a := 0) (k := 40) yq_yr236_0 yq_yr236_e1
theorem yq_yr236 : (y_cd yr236).all (y_okE ztb znw zcls (ytb yw00) yr236) = true := z_seg0 yq_yr236_e0
theorem yo_yr236 : y_okM ztb zcls yr236 := y_okM_i (z_codeIn (ch := 12) (i := 173) (l := tables_1_12) rfl rfl) (z_w_ok (n := 1012) (by decide +kernel)) (by decide +kernel) ⟨by decide +kernel, by decide +kernel⟩ (z_w_ok (n := 12172) (by decide +kernel)) (z_w_ok (n := 190) (by decide +kernel)) rfl rfl (by decide)
theorem yq_yr237 : (y_cd yr237).all (y_okE ztb znw zcls (ytb yw00) yr237) = true := by decide +kernel
theorem yo_yr237 : y_okM ztb zcls yr237 := y_okM_i (z_codeIn (ch := 12) (i := 185) (l := tables_1_12) rfl rfl) (z_w_ok (n := 1012) (by decide +kernel)) (by decide +kernel) ⟨by decide +kernel, by decide +kernel⟩ (z_w_ok (n := 12183) (by decide +kernel)) (z_w_ok (n := 12184) (by decide +kernel)) rfl rfl (by decide)
theorem yq_yr238_0 : (((y_cd yr238).drop 0).take 40).all (y_okE ztb znw zcls (ytb yw00) yr238) = true := by decide +kernel
theorem yq_yr238_1 : (((y_cd yr238).drop 40).take 40).all (y_okE ztb znw zcls (ytb yw00) yr238) = true := by decide +kernel
theorem yq_yr238_e2 : ((y_cd yr238).drop 80).all (y_okE ztb znw zcls (ytb yw00) yr238) = true := z_seg_end (by decide +kernel)
theorem yq_yr238_e1 : ((y_cd yr238).drop 40).all (y_okE ztb znw zcls (ytb yw00) yr238) = true := z_seg (a := 40) (k := 40) yq_yr238_1 yq_yr238_e2
theorem yq_yr238_e0 : ((y_cd yr238).drop 0).all (y_okE ztb znw zcls (ytb yw00) yr238) = true := z_seg (a := 0) (k := 40) yq_yr238_0 yq_yr238_e1
theorem yq_yr238 : (y_cd yr238).all (y_okE ztb znw zcls (ytb yw00) yr238) = true := z_seg0 yq_yr238_e0
theorem yo_yr238 : y_okM ztb zcls yr238 := y_okM_i (z_codeIn (ch := 11) (i := 23) (l := tables_1_11) rfl rfl) (z_w_ok (n := 1012) (by decide +kernel)) (by decide +kernel) ⟨by decide +kernel, by decide +kernel⟩ (z_w_ok (n := 11022) (by decide +kernel)) (z_w_ok (n := 118) (by decide +kernel)) rfl rfl (by decide)
