theorem zq113 : (z_cd zm113).all (z_okE ztb znw zcls zms zm113) = true := by decide +kernel
theorem zp113 : z_okP ztb znw zcls zms zm113 := z_okP_of 8097 8096 84 1012 (z_codeIn (ch := 8) (i := 97) (l := tables_1_8) rfl rfl) (by decide +kernel) zq113
theorem zq114 : (z_cd zm114).all (z_okE ztb znw zcls zms zm114) = true := by decide +kernel
theorem zp114 : z_okP ztb znw zcls zms zm114 := z_okP_of 8093 8092 0 1012 (z_codeIn (ch := 8) (i := 93) (l := tables_1_8) rfl rfl) (by decide +kernel) zq114
theorem zq115_0 : (((z_cd zm115).drop 0).take 40).all (z_okE ztb znw zcls zms zm115) = true := by decide +kernel
theorem zq115_1 : (((z_cd zm115).drop 40).take 40).all (z_okE ztb znw zcls zms zm115) = true := by decide +kernel
theorem zq115_e2 : ((z_cd zm115).drop 80).all (z_okE ztb znw zcls zms zm115) = true := z_seg_end (by decide +kernel)
theorem zq115_e1 : ((z_cd zm115).drop 40).all (z_okE ztb znw zcls zms zm115) = true := z_seg (a := 40) (k := 40) zq115_1 zq115_e2
theorem zq115_e0 : ((z_cd zm115).drop 0).all (z_okE ztb znw zcls zms zm115) = true := z_seg (a := 0) (k := 40) zq115_0 zq115_e1
theorem zq115 : (z_cd zm115).all (z_okE ztb znw zcls zms zm115) = true := z_seg0 zq115_e0
theorem zp115 : z_okP ztb znw zcls zms zm115 := z_okP_of 8090 8089 83 1012 (z_codeIn (ch := 8) (i := 90) (l := tables_1_8) rfl rfl) (by decide +kernel) zq115
theorem zq116 : (z_cd zm116).all (z_okE ztb znw zcls zms zm116) = true := by decide +kernel
theorem zp116 : z_okP ztb znw zcls zms zm116 := z_okP_of 8086 8085 82 1012 (z_codeIn (ch := 8) (i := 86) (l := tables_1_8) rfl rfl) (by decide +kernel) zq116
theorem zq117 : (z_cd zm117).all (z_okE ztb znw zcls zms zm117) = true := by decide +kernel
theorem zp117 : z_okP ztb znw zcls zms zm117 := z_okP_of 8109 8108 87 1012 (z_codeIn (ch := 8) (i := 109) (l := tables_1_8) rfl rfl) (by decide +kernel) zq117
theorem zq118_0 : (((z_cd zm118).drop 0).take 40).all (z_okE ztb znw zcls zms zm118) = true := by decide +kernel
theorem zq118_1 : (((z_cd zm118).drop 40).take 40).all (z_okE ztb znw zcls zms zm118) = true := by decide +kernel
theorem zq118_2 : (((z_cd zm118).drop 80).take 40).all (z_okE ztb znw zcls zms zm118) = true := by decide +kernel
theorem zq118_e3 : ((z_cd zm118).drop 120).all (z_okE ztb znw zcls zms zm118) = true := z_seg_end (by decide +kernel)
theorem zq118_e2 : ((z_cd zm118).drop 80).all (z_okE ztb znw zcls zms zm118) = true := z_seg (a := 80) (k := 40) zq118_2 zq118_e3
theorem zq118_e1 : ((z_cd zm118).drop 40).all (z_okE ztb znw zcls zms zm118) = true := z_seg (a := 40) (k := 40) zq118_1 zq118_e2
theorem zq118_e0 : ((z_cd zm118).drop 0).all (z_okE ztb znw zcls zms zm118) = true := z_seg (a := 0) (k := 40) zq118_0 zq118_e1
theorem zq118 : (z_cd zm118).all (z_okE ztb znw zcls zms zm118) = true := z_seg0 zq118_e0
theorem zp118 : z_okP ztb znw zcls zms zm118 := z_okP_of 8082 8081 81 1012 (z_codeIn (ch := 8) (i := 82) (l := tables_1_8) rfl rfl) (by decide +kernel) zq118
theorem zq119_0 : (((z_cd zm119).drop 0).take 40).all (z_okE ztb znw zcls zms zm119) = true := by decide +kernel
theorem zq119_1 : (((z_cd zm119).drop 40).take 40).all (z_okE ztb znw zcls zms zm119) = true := by decide +kernel
theorem zq119_e2 : ((z_cd zm119).drop 80).all (z_okE ztb znw zcls zms zm119) = true := z_seg_end (by decide +kernel)
theorem zq119_e1 : ((z_cd zm119).drop 40).all (z_okE ztb znw zcls zms zm119) = true := z_seg (a := 40) (k := 40) zq119_1 zq119_e2
theorem zq119_e0 : ((z_cd zm119).drop 0).all (z_okE ztb znw zcls zms zm119) = true := z_seg (a := 0) (k := 40) zq119_0 zq119_e1
theorem zq119 : (z_cd zm119).all (z_okE ztb znw zcls zms zm119) = true := z_seg0 zq119_e0
theorem zp119 : z_okP ztb znw zcls zms zm119 := z_okP_of 8078 8077 80 1012 (z_codeIn (ch := 8) (i := 78) (l := tables_1_8) rfl rfl) (by decide +kernel) zq119
theorem zq120_0 : (((z_cd zm120).drop 0).take 40).all (z_okE ztb znw zcls zms zm120) = true := by decide +kernel
theorem zq120_1 : (((z_cd zm120).drop 40).take 40).all (z_okE ztb znw zcls zms zm120) = true := by decide +kernel
theorem zq120_2 : (((z_cd zm120).drop 80).take 40).all (z_okE ztb znw zcls zms zm120) = true := by decide +kernel
theorem zq120_3 : (((z_cd zm120).drop 120).take 40).all (z_okE ztb znw zcls zms zm120) = true := by decide +kernel
theorem zq120_4 : (((z_cd zm120).drop 160).take 40).all (z_okE ztb znw zcls zms zm120) = true := by decide +kernel
theorem zq120_5 : (((z_cd zm120).drop 200).take 40).all (z_okE ztb znw zcls zms zm120) = true := by decide +kernel
theorem zq120_6 : (((z_cd zm120).drop 240).take 40).all (z_okE ztb znw zcls zms zm120) = true := by decide +kernel
theorem zq120_7 : (((z_cd zm120).drop 280).take 40).all (z_okE ztb znw zcls zms zm120) = true := by decide +kernel
theorem zq120_8 : (((z_cd zm120).drop 320).take 40).all (z_okE ztb znw zcls zms zm120) = true := by decide +kernel
theorem zq120_9 : (((z_cd zm120).drop 360).take 40).all (z_okE ztb znw zcls zms zm120) = true := by decide +kernel
theorem zq120_10 : (((z_cd zm120).drop 400).take 40).all (z_okE ztb znw zcls zms zm120) = true := by decide +kernel
theorem zq120_11 : (((z_cd zm120).drop 440).take 40).all (z_okE ztb znw zcls zms zm120) = true := by decide +kernel
theorem zq120_e12 : ((z_cd zm120).drop 480).all (z_okE ztb znw zcls zms zm120) = true := z_seg_end (by decide +kernel)
theorem zq120_e11 : ((z_cd zm120).drop 440).all (z_okE ztb znw zcls zms zm120) = true := z_seg (a := 440) (k := 40) zq120_11 zq120_e12
theorem zq120_e10 : ((z_cd zm120).drop 400).all (z_okE ztb znw zcls zms zm120) = true := z_seg (a := 400) (k := 40) zq120_10 zq120_e11
theorem zq120_e9 : ((z_cd zm120).drop 360).all (z_okE ztb znw zcls zms zm120) = true := z_seg (a := 360) (k := 40) zq120_9 zq120_e10
theorem zq120_e8 : ((z_cd zm120).drop 320).all (z_okE ztb znw zcls zms zm120) = true := z_seg (a := 320) (k := 40) zq120_8 zq120_e9
theorem zq120_e7 : ((z_cd zm120).drop 280).all (z_okE ztb znw zcls zms zm120) = true := z_seg (a := 280) (k := 40) zq120_7 zq120_e8
theorem zq120_e6 : ((z_cd zm120).drop 240).all (z_okE ztb znw zcls zms zm120) = true := z_seg (a := 240) (k := 40) zq120_6 zq120_e7
theorem zq120_e5 : ((z_cd zm120).drop 200).all (z_okE ztb znw zcls zms zm120) = true := z_seg (a := 200) (k := 40) zq120_5 zq120_e6
theorem zq120_e4 : ((z_cd zm120).drop 160).all (z_okE ztb znw zcls zms zm120) = true := z_seg (a := 160) (k := 40) zq120_4 zq120_e5
theorem zq120_e3 : ((z_cd zm120).drop 120).all (z_okE ztb znw zcls zms zm120) = true := z_seg (a := 120) (k := 40) zq120_3 zq120_e4
theorem zq120_e2 : ((z_cd zm120).drop 80).all (z_okE ztb znw zcls zms zm120) = true := z_seg (a := 80) (k := 40) zq120_2 zq120_e3
theorem zq120_e1 : ((z_cd zm120).drop 40).all (z_okE ztb znw zcls zms zm120) = true := z_seg (a := 40) (k := 40) zq120_1 zq120_e2
theorem zq120_e0 : ((z_cd zm120).drop 0).all (z_okE ztb znw zcls zms zm120) = true := z_seg (a := 0) (k := 40) zq120_0 zq120_e1
theorem zq120 : (z_cd zm120).all (z_okE ztb znw zcls zms zm120) = true := z_seg0 zq120_e0
theorem zp120 : z_okP ztb znw zcls zms zm120 := z_okP_of 8073 8072 0 1012 (z_codeIn (ch := 8) (i := 73) (l := tables_1_8) rfl rfl) (by decide +kernel) zq120
