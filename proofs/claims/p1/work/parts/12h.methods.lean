theorem zq186 : (z_cd zm186).all (z_okE ztb znw zcls zms zm186) = true := by decide +kernel
theorem zp186 : z_okP ztb znw zcls zms zm186 := z_okP_of 11200 11198 11199 1012 (z_codeIn (ch := 11) (i := 200) (l := tables_1_11) rfl rfl) (by decide +kernel) zq186
theorem zq187 : (z_cd zm187).all (z_okE ztb znw zcls zms zm187) = true := by decide +kernel
theorem zp187 : z_okP ztb znw zcls zms zm187 := z_okP_of 11224 11222 11223 1012 (z_codeIn (ch := 11) (i := 224) (l := tables_1_11) rfl rfl) (by decide +kernel) zq187
theorem zq188 : (z_cd zm188).all (z_okE ztb znw zcls zms zm188) = true := by decide +kernel
theorem zp188 : z_okP ztb znw zcls zms zm188 := z_okP_of 13002 13000 13001 1012 (z_codeIn (ch := 13) (i := 2) (l := tables_1_13) rfl rfl) (by decide +kernel) zq188
theorem zq189 : (z_cd zm189).all (z_okE ztb znw zcls zms zm189) = true := by decide +kernel
theorem zp189 : z_okP ztb znw zcls zms zm189 := z_okP_of 11007 11005 11006 1012 (z_codeIn (ch := 11) (i := 7) (l := tables_1_11) rfl rfl) (by decide +kernel) zq189
