theorem z_seg {α : Type} {f : α → Bool} {l : List α} {a k : Nat} (h1 : ((l.drop a).take k).all f = true) (h2 : (l.drop (a + k)).all f = true) : (l.drop a).all f = true := by
  rw [← List.take_append_drop k (l.drop a), List.all_append, h1, List.drop_drop, h2]
  rfl
theorem z_seg_end {α : Type} {f : α → Bool} {l : List α} {k : Nat} (h : l.length ≤ k) : (l.drop k).all f = true := by
  rw [List.drop_eq_nil_of_le h]
  rfl
theorem z_seg0 {α : Type} {f : α → Bool} {l : List α} (h : (l.drop 0).all f = true) : l.all f = true := by
  rw [List.drop_zero] at h
  exact h
theorem zq0 : (z_cd zm0).all (z_okE ztb znw zcls zms zm0) = true := by decide +kernel
theorem zp0 : z_okP ztb znw zcls zms zm0 := z_okP_of 3095 3093 3094 1005 (z_codeIn (ch := 3) (i := 95) (l := tables_1_3) rfl rfl) (by decide +kernel) zq0
theorem zq1 : (z_cd zm1).all (z_okE ztb znw zcls zms zm1) = true := by decide +kernel
theorem zp1 : z_okP ztb znw zcls zms zm1 := z_okP_of 3099 3097 3098 1005 (z_codeIn (ch := 3) (i := 99) (l := tables_1_3) rfl rfl) (by decide +kernel) zq1
theorem zq2 : (z_cd zm2).all (z_okE ztb znw zcls zms zm2) = true := by decide +kernel
theorem zp2 : z_okP ztb znw zcls zms zm2 := z_okP_of 3115 3114 2 1007 (z_codeIn (ch := 3) (i := 115) (l := tables_1_3) rfl rfl) (by decide +kernel) zq2
theorem zq3 : (z_cd zm3).all (z_okE ztb znw zcls zms zm3) = true := by decide +kernel
theorem zp3 : z_okP ztb znw zcls zms zm3 := z_okP_of 3123 3122 3 1007 (z_codeIn (ch := 3) (i := 123) (l := tables_1_3) rfl rfl) (by decide +kernel) zq3
theorem zq4 : (z_cd zm4).all (z_okE ztb znw zcls zms zm4) = true := by decide +kernel
theorem zp4 : z_okP ztb znw zcls zms zm4 := z_okP_of 3119 3117 3118 1007 (z_codeIn (ch := 3) (i := 119) (l := tables_1_3) rfl rfl) (by decide +kernel) zq4
theorem zq5 : (z_cd zm5).all (z_okE ztb znw zcls zms zm5) = true := by decide +kernel
theorem zp5 : z_okP ztb znw zcls zms zm5 := z_okP_of 3111 3109 3110 1007 (z_codeIn (ch := 3) (i := 111) (l := tables_1_3) rfl rfl) (by decide +kernel) zq5
theorem zq6 : (z_cd zm6).all (z_okE ztb znw zcls zms zm6) = true := by decide +kernel
theorem zp6 : z_okP ztb znw zcls zms zm6 := z_okP_of 3107 3106 1 1006 (z_codeIn (ch := 3) (i := 107) (l := tables_1_3) rfl rfl) (by decide +kernel) zq6
theorem zq7 : (z_cd zm7).all (z_okE ztb znw zcls zms zm7) = true := by decide +kernel
theorem zp7 : z_okP ztb znw zcls zms zm7 := z_okP_of 3103 3101 3102 1006 (z_codeIn (ch := 3) (i := 103) (l := tables_1_3) rfl rfl) (by decide +kernel) zq7
theorem zq8 : (z_cd zm8).all (z_okE ztb znw zcls zms zm8) = true := by decide +kernel
theorem zp8 : z_okP ztb znw zcls zms zm8 := z_okP_of 3131 3129 3130 1008 (z_codeIn (ch := 3) (i := 131) (l := tables_1_3) rfl rfl) (by decide +kernel) zq8
theorem zq9 : (z_cd zm9).all (z_okE ztb znw zcls zms zm9) = true := by decide +kernel
theorem zp9 : z_okP ztb znw zcls zms zm9 := z_okP_of 3091 3090 0 1001 (z_codeIn (ch := 3) (i := 91) (l := tables_1_3) rfl rfl) (by decide +kernel) zq9
theorem zq10_0 : (((z_cd zm10).drop 0).take 40).all (z_okE ztb znw zcls zms zm10) = true := by decide +kernel
theorem zq10_1 : (((z_cd zm10).drop 40).take 40).all (z_okE ztb znw zcls zms zm10) = true := by decide +kernel
theorem zq10_e2 : ((z_cd zm10).drop 80).all (z_okE ztb znw zcls zms zm10) = true := z_seg_end (by decide +kernel)
theorem zq10_e1 : ((z_cd zm10).drop 40).all (z_okE ztb znw zcls zms zm10) = true := z_seg (a := 40) (k := 40) zq10_1 zq10_e2
theorem zq10_e0 : ((z_cd zm10).drop 0).all (z_okE ztb znw zcls zms zm10) = true := z_seg (a := 0) (k := 40) zq10_0 zq10_e1
theorem zq10 : (z_cd zm10).all (z_okE ztb znw zcls zms zm10) = true := z_seg0 zq10_e0
theorem zp10 : z_okP ztb znw zcls zms zm10 := z_okP_of 3002 3001 0 1010 (z_codeIn (ch := 3) (i := 2) (l := tables_1_3) rfl rfl) (by decide +kernel) zq10
theorem zq11 : (z_cd zm11).all (z_okE ztb znw zcls zms zm11) = true := by decide +kernel
theorem zp11 : z_okP ztb znw zcls zms zm11 := z_okP_of 1040 1039 0 1003 (z_codeIn (ch := 1) (i := 40) (l := tables_1_1) rfl rfl) (by decide +kernel) zq11
theorem zq12_0 : (((z_cd zm12).drop 0).take 40).all (z_okE ztb znw zcls zms zm12) = true := by decide +kernel
theorem zq12_1 : (((z_cd zm12).drop 40).take 40).all (z_okE ztb znw zcls zms zm12) = true := by decide +kernel
theorem zq12_e2 : ((z_cd zm12).drop 80).all (z_okE ztb znw zcls zms zm12) = true := z_seg_end (by decide +kernel)
theorem zq12_e1 : ((z_cd zm12).drop 40).all (z_okE ztb znw zcls zms zm12) = true := z_seg (a := 40) (k := 40) zq12_1 zq12_e2
theorem zq12_e0 : ((z_cd zm12).drop 0).all (z_okE ztb znw zcls zms zm12) = true := z_seg (a := 0) (k := 40) zq12_0 zq12_e1
theorem zq12 : (z_cd zm12).all (z_okE ztb znw zcls zms zm12) = true := z_seg0 zq12_e0
theorem zp12 : z_okP ztb znw zcls zms zm12 := z_okP_of 3044 3043 0 1011 (z_codeIn (ch := 3) (i := 44) (l := tables_1_3) rfl rfl) (by decide +kernel) zq12
theorem zq13 : (z_cd zm13).all (z_okE ztb znw zcls zms zm13) = true := by decide +kernel
theorem zp13 : z_okP ztb znw zcls zms zm13 := z_okP_of 1034 1033 0 1002 (z_codeIn (ch := 1) (i := 34) (l := tables_1_1) rfl rfl) (by decide +kernel) zq13
theorem zq14 : (z_cd zm14).all (z_okE ztb znw zcls zms zm14) = true := by decide +kernel
theorem zp14 : z_okP ztb znw zcls zms zm14 := z_okP_of 1215 1214 0 1005 (z_codeIn (ch := 1) (i := 215) (l := tables_1_1) rfl rfl) (by decide +kernel) zq14
theorem zq15 : (z_cd zm15).all (z_okE ztb znw zcls zms zm15) = true := by decide +kernel
theorem zp15 : z_okP ztb znw zcls zms zm15 := z_okP_of 2173 2171 2172 1009 (z_codeIn (ch := 2) (i := 173) (l := tables_1_2) rfl rfl) (by decide +kernel) zq15
theorem zq16_0 : (((z_cd zm16).drop 0).take 40).all (z_okE ztb znw zcls zms zm16) = true := by decide +kernel
theorem zq16_1 : (((z_cd zm16).drop 40).take 40).all (z_okE ztb znw zcls zms zm16) = true := by decide +kernel
theorem zq16_e2 : ((z_cd zm16).drop 80).all (z_okE ztb znw zcls zms zm16) = true := z_seg_end (by decide +kernel)
theorem zq16_e1 : ((z_cd zm16).drop 40).all (z_okE ztb znw zcls zms zm16) = true := z_seg (a := 40) (k := 40) zq16_1 zq16_e2
theorem zq16_e0 : ((z_cd zm16).drop 0).all (z_okE ztb znw zcls zms zm16) = true := z_seg (a := 0) (k := 40) zq16_0 zq16_e1
theorem zq16 : (z_cd zm16).all (z_okE ztb znw zcls zms zm16) = true := z_seg0 zq16_e0
theorem zp16 : z_okP ztb znw zcls zms zm16 := z_okP_of 2168 2167 0 1009 (z_codeIn (ch := 2) (i := 168) (l := tables_1_2) rfl rfl) (by decide +kernel) zq16
