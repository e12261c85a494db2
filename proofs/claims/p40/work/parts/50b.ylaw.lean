theorem yq_yml0 : (y_cd yml0).all (y_okE ztb znw zcls (ytbL yw00) yml0) = true := by decide +kernel
theorem yo_yml0 : y_okM ztb zcls yml0 := y_okM_i (z_codeIn (ch := 7) (i := 203) (l := tables_1_7) rfl rfl) (z_w_ok (n := 1001) (by decide +kernel)) (by decide +kernel) ⟨by decide +kernel, by decide +kernel⟩ (z_w_ok (n := 7201) (by decide +kernel)) (z_w_ok (n := 7202) (by decide +kernel)) rfl rfl (by decide)
theorem yq_yml1 : (y_cd yml1).all (y_okE ztb znw zcls (ytbL yw00) yml1) = true := by decide +kernel
theorem yo_yml1 : y_okM ztb zcls yml1 := y_okM_i (z_codeIn (ch := 7) (i := 129) (l := tables_1_7) rfl rfl) (z_w_ok (n := 1001) (by decide +kernel)) (by decide +kernel) ⟨by decide +kernel, by decide +kernel⟩ (z_w_ok (n := 7127) (by decide +kernel)) (z_w_ok (n := 7128) (by decide +kernel)) rfl rfl (by decide)
theorem yq_yml2 : (y_cd yml2).all (y_okE ztb znw zcls (ytbL yw00) yml2) = true := by decide +kernel
theorem yo_yml2 : y_okM ztb zcls yml2 := y_okM_i (z_codeIn (ch := 7) (i := 122) (l := tables_1_7) rfl rfl) (z_w_ok (n := 1001) (by decide +kernel)) (by decide +kernel) ⟨by decide +kernel, by decide +kernel⟩ (z_w_ok (n := 7120) (by decide +kernel)) (z_w_ok (n := 7121) (by decide +kernel)) rfl rfl (by decide)
theorem yq_yml3_0 : (((y_cd yml3).drop 0).take 40).all (y_okE ztb znw zcls (ytbL yw00) yml3) = true := by decide +kernel
theorem yq_yml3_1 : (((y_cd yml3).drop 40).take 40).all (y_okE ztb znw zcls (ytbL yw00) yml3) = true := by decide +kernel
theorem yq_yml3_e2 : ((y_cd yml3).drop 80).all (y_okE ztb znw zcls (ytbL yw00) yml3) = true := z_seg_end (by decide +kernel)
theorem yq_yml3_e1 : ((y_cd yml3).drop 40).all (y_okE ztb znw zcls (ytbL yw00) yml3) = true := z_seg (a := 40) (k := 40) yq_yml3_1 yq_yml3_e2
theorem yq_yml3_e0 : ((y_cd yml3).drop 0).all (y_okE ztb znw zcls (ytbL yw00) yml3) = true := z_seg (a := 0) (k := 40) yq_yml3_0 yq_yml3_e1
theorem yq_yml3 : (y_cd yml3).all (y_okE ztb znw zcls (ytbL yw00) yml3) = true := z_seg0 yq_yml3_e0
theorem yo_yml3 : y_okM ztb zcls yml3 := y_okM_i (z_codeIn (ch := 7) (i := 137) (l := tables_1_7) rfl rfl) (z_w_ok (n := 1001) (by decide +kernel)) (by decide +kernel) ⟨by decide +kernel, by decide +kernel⟩ (z_w_ok (n := 7135) (by decide +kernel)) (z_w_ok (n := 7136) (by decide +kernel)) rfl rfl (by decide)
theorem yq_yml4 : (y_cd yml4).all (y_okE ztb znw zcls (ytbL yw00) yml4) = true := by decide +kernel
theorem yo_yml4 : y_okM ztb zcls yml4 := y_okM_i (z_codeIn (ch := 12) (i := 185) (l := tables_1_12) rfl rfl) (z_w_ok (n := 1012) (by decide +kernel)) (by decide +kernel) ⟨by decide +kernel, by decide +kernel⟩ (z_w_ok (n := 12183) (by decide +kernel)) (z_w_ok (n := 12184) (by decide +kernel)) rfl rfl (by decide)
theorem yq_yml5 : (y_cd yml5).all (y_okE ztb znw zcls (ytbL yw00) yml5) = true := by decide +kernel
theorem yo_yml5 : y_okM ztb zcls yml5 := y_okM_i (z_codeIn (ch := 12) (i := 145) (l := tables_1_12) rfl rfl) (z_w_ok (n := 1012) (by decide +kernel)) (by decide +kernel) ⟨by decide +kernel, by decide +kernel⟩ (z_w_ok (n := 12143) (by decide +kernel)) (z_w_ok (n := 12144) (by decide +kernel)) rfl rfl (by decide)
theorem yq_yml6 : (y_cd yml6).all (y_okE ztb znw zcls (ytbL yw00) yml6) = true := by decide +kernel
theorem yo_yml6 : y_okM ztb zcls yml6 := y_okM_i (z_codeIn (ch := 12) (i := 141) (l := tables_1_12) rfl rfl) (z_w_ok (n := 1012) (by decide +kernel)) (by decide +kernel) ⟨by decide +kernel, by decide +kernel⟩ (z_w_ok (n := 12139) (by decide +kernel)) (z_w_ok (n := 12140) (by decide +kernel)) rfl rfl (by decide)
theorem yq_yml7_0 : (((y_cd yml7).drop 0).take 40).all (y_okE ztb znw zcls (ytbL yw00) yml7) = true := by decide +kernel
theorem yq_yml7_1 : (((y_cd yml7).drop 40).take 40).all (y_okE ztb znw zcls (ytbL yw00) yml7) = true := by decide +kernel
theorem yq_yml7_2 : (((y_cd yml7).drop 80).take 40).all (y_okE ztb znw zcls (ytbL yw00) yml7) = true := by decide +kernel
theorem yq_yml7_e3 : ((y_cd yml7).drop 120).all (y_okE ztb znw zcls (ytbL yw00) yml7) = true := z_seg_end (by decide +kernel)
theorem yq_yml7_e2 : ((y_cd yml7).drop 80).all (y_okE ztb znw zcls (ytbL yw00) yml7) = true := z_seg (a := 80) (k := 40) yq_yml7_2 yq_yml7_e3
theorem yq_yml7_e1 : ((y_cd yml7).drop 40).all (y_okE ztb znw zcls (ytbL yw00) yml7) = true := z_seg (a := 40) (k := 40) yq_yml7_1 yq_yml7_e2
theorem yq_yml7_e0 : ((y_cd yml7).drop 0).all (y_okE ztb znw zcls (ytbL yw00) yml7) = true := z_seg (a := 0) (k := 40) yq_yml7_0 yq_yml7_e1
theorem yq_yml7 : (y_cd yml7).all (y_okE ztb znw zcls (ytbL yw00) yml7) = true := z_seg0 yq_yml7_e0
theorem yo_yml7 : y_okM ztb zcls yml7 := y_okM_i (z_codeIn (ch := 12) (i := 149) (l := tables_1_12) rfl rfl) (z_w_ok (n := 1012) (by decide +kernel)) (by decide +kernel) ⟨by decide +kernel, by decide +kernel⟩ (z_w_ok (n := 12147) (by decide +kernel)) (z_w_ok (n := 12148) (by decide +kernel)) rfl rfl (by decide)
theorem yq_yrLw_0 : (((y_cd yrLw).drop 0).take 40).all (y_okE ztb znw zcls (ytbL yw00) yrLw) = true := by decide +kernel
theorem yq_yrLw_1 : (((y_cd yrLw).drop 40).take 40).all (y_okE ztb znw zcls (ytbL yw00) yrLw) = true := by decide +kernel
theorem yq_yrLw_2 : (((y_cd yrLw).drop 80).take 40).all (y_okE ztb znw zcls (ytbL yw00) yrLw) = true := by decide +kernel
theorem yq_yrLw_3 : (((y_cd yrLw).drop 120).take 40).all (y_okE ztb znw zcls (ytbL yw00) yrLw) = true := by decide +kernel
theorem yq_yrLw_4 : (((y_cd yrLw).drop 160).take 40).all (y_okE ztb znw zcls (ytbL yw00) yrLw) = true := by decide +kernel
theorem yq_yrLw_5 : (((y_cd yrLw).drop 200).take 40).all (y_okE ztb znw zcls (ytbL yw00) yrLw) = true := by decide +kernel
theorem yq_yrLw_6 : (((y_cd yrLw).drop 240).take 40).all (y_okE ztb znw zcls (ytbL yw00) yrLw) = true := by decide +kernel
theorem yq_yrLw_7 : (((y_cd yrLw).drop 280).take 40).all (y_okE ztb znw zcls (ytbL yw00) yrLw) = true := by decide +kernel
theorem yq_yrLw_8 : (((y_cd yrLw).drop 320).take 40).all (y_okE ztb znw zcls (ytbL yw00) yrLw) = true := by decide +kernel
theorem yq_yrLw_9 : (((y_cd yrLw).drop 360).take 40).all (y_okE ztb znw zcls (ytbL yw00) yrLw) = true := by decide +kernel
theorem yq_yrLw_10 : (((y_cd yrLw).drop 400).take 40).all (y_okE ztb znw zcls (ytbL yw00) yrLw) = true := by decide +kernel
theorem yq_yrLw_11 : (((y_cd yrLw).drop 440).take 40).all (y_okE ztb znw zcls (ytbL yw00) yrLw) = true := by decide +kernel
theorem yq_yrLw_12 : (((y_cd yrLw).drop 480).take 40).all (y_okE ztb znw zcls (ytbL yw00) yrLw) = true := by decide +kernel
theorem yq_yrLw_13 : (((y_cd yrLw).drop 520).take 40).all (y_okE ztb znw zcls (ytbL yw00) yrLw) = true := by decide +kernel
theorem yq_yrLw_14 : (((y_cd yrLw).drop 560).take 40).all (y_okE ztb znw zcls (ytbL yw00) yrLw) = true := by decide +kernel
theorem yq_yrLw_15 : (((y_cd yrLw).drop 600).take 40).all (y_okE ztb znw zcls (ytbL yw00) yrLw) = true := by decide +kernel
theorem yq_yrLw_16 : (((y_cd yrLw).drop 640).take 40).all (y_okE ztb znw zcls (ytbL yw00) yrLw) = true := by decide +kernel
theorem yq_yrLw_17 : (((y_cd yrLw).drop 680).take 40).all (y_okE ztb znw zcls (ytbL yw00) yrLw) = true := by decide +kernel
theorem yq_yrLw_18 : (((y_cd yrLw).drop 720).take 40).all (y_okE ztb znw zcls (ytbL yw00) yrLw) = true := by decide +kernel
theorem yq_yrLw_19 : (((y_cd yrLw).drop 760).take 40).all (y_okE ztb znw zcls (ytbL yw00) yrLw) = true := by decide +kernel
theorem yq_yrLw_20 : (((y_cd yrLw).drop 800).take 40).all (y_okE ztb znw zcls (ytbL yw00) yrLw) = true := by decide +kernel
theorem yq_yrLw_21 : (((y_cd yrLw).drop 840).take 40).all (y_okE ztb znw zcls (ytbL yw00) yrLw) = true := by decide +kernel
theorem yq_yrLw_22 : (((y_cd yrLw).drop 880).take 40).all (y_okE ztb znw zcls (ytbL yw00) yrLw) = true := by decide +kernel
theorem yq_yrLw_23 : (((y_cd yrLw).drop 920).take 40).all (y_okE ztb znw zcls (ytbL yw00) yrLw) = true := by decide +kernel
theorem yq_yrLw_24 : (((y_cd yrLw).drop 960).take 40).all (y_okE ztb znw zcls (ytbL yw00) yrLw) = true := by decide +kernel
theorem yq_yrLw_25 : (((y_cd yrLw).drop 1000).take 40).all (y_okE ztb znw zcls (ytbL yw00) yrLw) = true := by decide +kernel
theorem yq_yrLw_26 : (((y_cd yrLw).drop 1040).take 40).all (y_okE ztb znw zcls (ytbL yw00) yrLw) = true := by decide +kernel
theorem yq_yrLw_e27 : ((y_cd yrLw).drop 1080).all (y_okE ztb znw zcls (ytbL yw00) yrLw) = true := z_seg_end (by decide +kernel)
theorem yq_yrLw_e26 : ((y_cd yrLw).drop 1040).all (y_okE ztb znw zcls (ytbL yw00) yrLw) = true := z_seg (a := 1040) (k := 40) yq_yrLw_26 yq_yrLw_e27
theorem yq_yrLw_e25 : ((y_cd yrLw).drop 1000).all (y_okE ztb znw zcls (ytbL yw00) yrLw) = true := z_seg (a := 1000) (k := 40) yq_yrLw_25 yq_yrLw_e26
theorem yq_yrLw_e24 : ((y_cd yrLw).drop 960).all (y_okE ztb znw zcls (ytbL yw00) yrLw) = true := z_seg (a := 960) (k := 40) yq_yrLw_24 yq_yrLw_e25
theorem yq_yrLw_e23 : ((y_cd yrLw).drop 920).all (y_okE ztb znw zcls (ytbL yw00) yrLw) = true := z_seg (a := 920) (k := 40) yq_yrLw_23 yq_yrLw_e24
theorem yq_yrLw_e22 : ((y_cd yrLw).drop 880).all (y_okE ztb znw zcls (ytbL yw00) yrLw) = true := z_seg (a := 880) (k := 40) yq_yrLw_22 yq_yrLw_e23
theorem yq_yrLw_e21 : ((y_cd yrLw).drop 840).all (y_okE ztb znw zcls (ytbL yw00) yrLw) = true := z_seg (a := 840) (k := 40) yq_yrLw_21 yq_yrLw_e22
theorem yq_yrLw_e20 : ((y_cd yrLw).drop 800).all (y_okE ztb znw zcls (ytbL yw00) yrLw) = true := z_seg (a := 800) (k := 40) yq_yrLw_20 yq_yrLw_e21
theorem yq_yrLw_e19 : ((y_cd yrLw).drop 760).all (y_okE ztb znw zcls (ytbL yw00) yrLw) = true := z_seg (a := 760) (k := 40) yq_yrLw_19 yq_yrLw_e20
theorem yq_yrLw_e18 : ((y_cd yrLw).drop 720).all (y_okE ztb znw zcls (ytbL yw00) yrLw) = true := z_seg (a := 720) (k := 40) yq_yrLw_18 yq_yrLw_e19
theorem yq_yrLw_e17 : ((y_cd yrLw).drop 680).all (y_okE ztb znw zcls (ytbL yw00) yrLw) = true := z_seg (a := 680) (k := 40) yq_yrLw_17 yq_yrLw_e18
theorem yq_yrLw_e16 : ((y_cd yrLw).drop 640).all (y_okE ztb znw zcls (ytbL yw00) yrLw) = true := z_seg (a := 640) (k := 40) yq_yrLw_16 yq_yrLw_e17
theorem yq_yrLw_e15 : ((y_cd yrLw).drop 600).all (y_okE ztb znw zcls (ytbL yw00) yrLw) = true := z_seg (a := 600) (k := 40) yq_yrLw_15 yq_yrLw_e16
theorem yq_yrLw_e14 : ((y_cd yrLw).drop 560).all (y_okE ztb znw zcls (ytbL yw00) yrLw) = true := z_seg (a := 560) (k := 40) yq_yrLw_14 yq_yrLw_e15
theorem yq_yrLw_e13 : ((y_cd yrLw).drop 520).all (y_okE ztb znw zcls (ytbL yw00) yrLw) = true := z_seg (a := 520) (k := 40) yq_yrLw_13 yq_yrLw_e14
theorem yq_yrLw_e12 : ((y_cd yrLw).drop 480).all (y_okE ztb znw zcls (ytbL yw00) yrLw) = true := z_seg (a := 480) (k := 40) yq_yrLw_12 yq_yrLw_e13
theorem yq_yrLw_e11 : ((y_cd yrLw).drop 440).all (y_okE ztb znw zcls (ytbL yw00) yrLw) = true := z_seg (a := 440) (k := 40) yq_yrLw_11 yq_yrLw_e12
theorem yq_yrLw_e10 : ((y_cd yrLw).drop 400).all (y_okE ztb znw zcls (ytbL yw00) yrLw) = true := z_seg (a := 400) (k := 40) yq_yrLw_10 yq_yrLw_e11
theorem yq_yrLw_e9 : ((y_cd yrLw).drop 360).all (y_okE ztb znw zcls (ytbL yw00) yrLw) = true := z_seg (a := 360) (k := 40) yq_yrLw_9 yq_yrLw_e10
theorem yq_yrLw_e8 : ((y_cd yrLw).drop 320).all (y_okE ztb znw zcls (ytbL yw00) yrLw) = true := z_seg (a := 320) (k := 40) yq_yrLw_8 yq_yrLw_e9
theorem yq_yrLw_e7 : ((y_cd yrLw).drop 280).all (y_okE ztb znw zcls (ytbL yw00) yrLw) = true := z_seg (a := 280) (k := 40) yq_yrLw_7 yq_yrLw_e8
theorem yq_yrLw_e6 : ((y_cd yrLw).drop 240).all (y_okE ztb znw zcls (ytbL yw00) yrLw) = true := z_seg (a := 240) (k := 40) yq_yrLw_6 yq_yrLw_e7
theorem yq_yrLw_e5 : ((y_cd yrLw).drop 200).all (y_okE ztb znw zcls (ytbL yw00) yrLw) = true := z_seg (a := 200) (k := 40) yq_yrLw_5 yq_yrLw_e6
theorem yq_yrLw_e4 : ((y_cd yrLw).drop 160).all (y_okE ztb znw zcls (ytbL yw00) yrLw) = true := z_seg (a := 160) (k := 40) yq_yrLw_4 yq_yrLw_e5
theorem yq_yrLw_e3 : ((y_cd yrLw).drop 120).all (y_okE ztb znw zcls (ytbL yw00) yrLw) = true := z_seg (a := 120) (k := 40) yq_yrLw_3 yq_yrLw_e4
theorem yq_yrLw_e2 : ((y_cd yrLw).drop 80).all (y_okE ztb znw zcls (ytbL yw00) yrLw) = true := z_seg (a := 80) (k := 40) yq_yrLw_2 yq_yrLw_e3
theorem yq_yrLw_e1 : ((y_cd yrLw).drop 40).all (y_okE ztb znw zcls (ytbL yw00) yrLw) = true := z_seg (a := 40) (k := 40) yq_yrLw_1 yq_yrLw_e2
theorem yq_yrLw_e0 : ((y_cd yrLw).drop 0).all (y_okE ztb znw zcls (ytbL yw00) yrLw) = true := z_seg (a := 0) (k := 40) yq_yrLw_0 yq_yrLw_e1
theorem yq_yrLw : (y_cd yrLw).all (y_okE ztb znw zcls (ytbL yw00) yrLw) = true := z_seg0 yq_yrLw_e0
theorem yAL : ∀ cm ∈ ymsL, y_okM ztb zcls cm ∧ ∀ x ∈ y_cd cm, y_okE ztb znw zcls (ytbL yw00) cm x = true := y_forall ⟨yo_yml0, List.all_eq_true.mp yq_yml0⟩ <| y_forall ⟨yo_yml1, List.all_eq_true.mp yq_yml1⟩ <| y_forall ⟨yo_yml2, List.all_eq_true.mp yq_yml2⟩ <| y_forall ⟨yo_yml3, List.all_eq_true.mp yq_yml3⟩ <| y_forall ⟨yo_yml4, List.all_eq_true.mp yq_yml4⟩ <| y_forall ⟨yo_yml5, List.all_eq_true.mp yq_yml5⟩ <| y_forall ⟨yo_yml6, List.all_eq_true.mp yq_yml6⟩ <| y_forall ⟨yo_yml7, List.all_eq_true.mp yq_yml7⟩ <| y_fornil
