theorem zs_18_0 : z_ev zcls zzty zzdv zms 1000 (1, z_nos) zmL zcd18 18 zlo18 [] 224 26096 zE6 zw2 z_k0 = true := by decide +kernel
theorem zs_18_1 : z_ev zcls zzty zzdv zms 1000 (2, z_nos) zmL zcd18 18 zlo18 [] 224 26096 zE6 zw2 z_k0 = true := by decide +kernel
theorem zs_18_2 : z_ev zcls zzty zzdv zms 1000 (3, z_nos) zmL zcd18 18 zlo18 [] 224 26096 zE6 zw2 z_k0 = true := by decide +kernel
theorem zs_18_3 : z_ev zcls zzty zzdv zms 1000 (4, z_nos) zmL zcd18 18 zlo18 [] 224 26096 zE6 zw2 z_k0 = true := by decide +kernel
theorem zs_18_4 : z_ev zcls zzty zzdv zms 1000 (5, z_nos) zmL zcd18 18 zlo18 [] 224 26096 zE6 zw2 z_k0 = true := by decide +kernel
theorem zs_18_5 : z_ev zcls zzty zzdv zms 1000 (6, z_nos) zmL zcd18 18 zlo18 [] 224 26096 zE6 zw2 z_k0 = true := by decide +kernel
theorem zs_18_6 : z_ev zcls zzty zzdv zms 1000 (7, z_eqS 33 zlo18 [z_any] 224 26096 zE6 zw2) zmL zcd18 18 zlo18 [] 224 26096 zE6 zw2 z_k0 = true := by decide +kernel
theorem zs_out : z_ev zcls zzty zzdv zms 1000 (7, z_nos) zmL (z_from (z_cd zmL) 1780) 1780 zlo18 [] 224 26096 zE6 zw2 z_k0 = true := by decide +kernel
theorem zv_0 : z_ev zcls zzty zzdv zms 20000 (7, z_nos) zmL (z_from (z_cd zmL) 33) 33 zlo18 [.inl 0] 224 26096 zE6 zw2 z_k0 = true := by decide +kernel
theorem zv_1 : z_ev zcls zzty zzdv zms 20000 (7, z_nos) zmL (z_from (z_cd zmL) 33) 33 zlo18 [.inl 1] 224 26096 zE6 zw2 z_k0 = true := by decide +kernel
theorem zv_2 : z_ev zcls zzty zzdv zms 20000 (7, z_nos) zmL (z_from (z_cd zmL) 33) 33 zlo18 [.inl 2] 224 26096 zE6 zw2 z_k0 = true := by decide +kernel
theorem zv_3 : z_ev zcls zzty zzdv zms 20000 (7, z_nos) zmL (z_from (z_cd zmL) 33) 33 zlo18 [.inl 3] 224 26096 zE6 zw2 z_k0 = true := by decide +kernel
theorem zv_4 : z_ev zcls zzty zzdv zms 20000 (7, z_nos) zmL (z_from (z_cd zmL) 33) 33 zlo18 [.inl 4] 224 26096 zE6 zw2 z_k0 = true := by decide +kernel
theorem zv_5 : z_ev zcls zzty zzdv zms 20000 (7, z_nos) zmL (z_from (z_cd zmL) 33) 33 zlo18 [.inl 5] 224 26096 zE6 zw2 z_k0 = true := by decide +kernel
theorem zv_6 : z_ev zcls zzty zzdv zms 20000 (7, z_nos) zmL (z_from (z_cd zmL) 33) 33 zlo18 [.inl 6] 224 26096 zE6 zw2 z_k0 = true := by decide +kernel
theorem zv_7 : z_ev zcls zzty zzdv zms 20000 (7, z_nos) zmL (z_from (z_cd zmL) 33) 33 zlo18 [.inl 7] 224 26096 zE6 zw2 z_k0 = true := by decide +kernel
theorem zv_8 : z_ev zcls zzty zzdv zms 20000 (7, z_nos) zmL (z_from (z_cd zmL) 33) 33 zlo18 [.inl 8] 224 26096 zE6 zw2 z_k0 = true := by decide +kernel
theorem zv_9 : z_ev zcls zzty zzdv zms 20000 (7, z_nos) zmL (z_from (z_cd zmL) 33) 33 zlo18 [.inl 9] 224 26096 zE6 zw2 z_k0 = true := by decide +kernel
theorem zv_10 : z_ev zcls zzty zzdv zms 20000 (7, z_nos) zmL (z_from (z_cd zmL) 33) 33 zlo18 [.inl 10] 224 26096 zE6 zw2 z_k0 = true := by decide +kernel
theorem zv_11 : z_ev zcls zzty zzdv zms 20000 (7, z_nos) zmL (z_from (z_cd zmL) 33) 33 zlo18 [.inl 11] 224 26096 zE6 zw2 z_k0 = true := by decide +kernel
theorem zv_12 : z_ev zcls zzty zzdv zms 20000 (7, z_nos) zmL (z_from (z_cd zmL) 33) 33 zlo18 [.inl 12] 224 26096 zE6 zw2 z_k0 = true := by decide +kernel
theorem zv_13 : z_ev zcls zzty zzdv zms 20000 (7, z_nos) zmL (z_from (z_cd zmL) 33) 33 zlo18 [.inl 13] 224 26096 zE6 zw2 z_k0 = true := by decide +kernel
theorem zv_14 : z_ev zcls zzty zzdv zms 20000 (7, z_nos) zmL (z_from (z_cd zmL) 33) 33 zlo18 [.inl 14] 224 26096 zE6 zw2 z_k0 = true := by decide +kernel
theorem zv_15 : z_ev zcls zzty zzdv zms 20000 (7, z_nos) zmL (z_from (z_cd zmL) 33) 33 zlo18 [.inl 15] 224 26096 zE6 zw2 z_k0 = true := by decide +kernel
theorem zv_16 : z_ev zcls zzty zzdv zms 20000 (7, z_nos) zmL (z_from (z_cd zmL) 33) 33 zlo18 [.inl 16] 224 26096 zE6 zw2 z_k0 = true := by decide +kernel
theorem zv_17 : z_ev zcls zzty zzdv zms 20000 (7, z_nos) zmL (z_from (z_cd zmL) 33) 33 zlo18 [.inl 17] 224 26096 zE6 zw2 z_k0 = true := by decide +kernel
theorem zv_18 : z_ev zcls zzty zzdv zms 20000 (7, z_nos) zmL (z_from (z_cd zmL) 33) 33 zlo18 [.inl 18] 224 26096 zE6 zw2 z_k0 = true := by decide +kernel
theorem zv_19 : z_ev zcls zzty zzdv zms 20000 (7, z_nos) zmL (z_from (z_cd zmL) 33) 33 zlo18 [.inl 19] 224 26096 zE6 zw2 z_k0 = true := by decide +kernel
theorem zv_20 : z_ev zcls zzty zzdv zms 20000 (7, z_nos) zmL (z_from (z_cd zmL) 33) 33 zlo18 [.inl 20] 224 26096 zE6 zw2 z_k0 = true := by decide +kernel
theorem zv_21 : z_ev zcls zzty zzdv zms 20000 (7, z_nos) zmL (z_from (z_cd zmL) 33) 33 zlo18 [.inl 21] 224 26096 zE6 zw2 z_k0 = true := by decide +kernel
theorem zv_22 : z_ev zcls zzty zzdv zms 20000 (7, z_nos) zmL (z_from (z_cd zmL) 33) 33 zlo18 [.inl 22] 224 26096 zE6 zw2 z_k0 = true := by decide +kernel
theorem zv_23 : z_ev zcls zzty zzdv zms 20000 (7, z_nos) zmL (z_from (z_cd zmL) 33) 33 zlo18 [.inl 23] 224 26096 zE6 zw2 z_k0 = true := by decide +kernel
theorem zv_24 : z_ev zcls zzty zzdv zms 20000 (7, z_nos) zmL (z_from (z_cd zmL) 33) 33 zlo18 [.inl 24] 224 26096 zE6 zw2 z_k0 = true := by decide +kernel
theorem zv_25 : z_ev zcls zzty zzdv zms 20000 (7, z_nos) zmL (z_from (z_cd zmL) 33) 33 zlo18 [.inl 25] 224 26096 zE6 zw2 z_k0 = true := by decide +kernel
theorem zv_26 : z_ev zcls zzty zzdv zms 20000 (7, z_nos) zmL (z_from (z_cd zmL) 33) 33 zlo18 [.inl 26] 224 26096 zE6 zw2 z_k0 = true := by decide +kernel
theorem zv_27 : z_ev zcls zzty zzdv zms 20000 (7, z_nos) zmL (z_from (z_cd zmL) 33) 33 zlo18 [.inl 27] 224 26096 zE6 zw2 z_k0 = true := by decide +kernel
theorem zv_28 : z_ev zcls zzty zzdv zms 20000 (7, z_nos) zmL (z_from (z_cd zmL) 33) 33 zlo18 [.inl 28] 224 26096 zE6 zw2 z_k0 = true := by decide +kernel
theorem zv_29 : z_ev zcls zzty zzdv zms 20000 (7, z_nos) zmL (z_from (z_cd zmL) 33) 33 zlo18 [.inl 29] 224 26096 zE6 zw2 z_k0 = true := by decide +kernel
theorem zv_30 : z_ev zcls zzty zzdv zms 20000 (7, z_nos) zmL (z_from (z_cd zmL) 33) 33 zlo18 [.inl 30] 224 26096 zE6 zw2 z_k0 = true := by decide +kernel
theorem zv_31 : z_ev zcls zzty zzdv zms 20000 (7, z_nos) zmL (z_from (z_cd zmL) 33) 33 zlo18 [.inl 31] 224 26096 zE6 zw2 z_k0 = true := by decide +kernel
theorem zv_32 : z_ev zcls zzty zzdv zms 20000 (7, z_nos) zmL (z_from (z_cd zmL) 33) 33 zlo18 [.inl 32] 224 26096 zE6 zw2 z_k0 = true := by decide +kernel
theorem zv_33 : z_ev zcls zzty zzdv zms 20000 (7, z_nos) zmL (z_from (z_cd zmL) 33) 33 zlo18 [.inl 33] 224 26096 zE6 zw2 z_k0 = true := by decide +kernel
theorem zv_34 : z_ev zcls zzty zzdv zms 20000 (7, z_nos) zmL (z_from (z_cd zmL) 33) 33 zlo18 [.inl 34] 224 26096 zE6 zw2 z_k0 = true := by decide +kernel
theorem zv_35 : z_ev zcls zzty zzdv zms 20000 (7, z_nos) zmL (z_from (z_cd zmL) 33) 33 zlo18 [.inl 35] 224 26096 zE6 zw2 z_k0 = true := by decide +kernel
theorem zv_36 : z_ev zcls zzty zzdv zms 20000 (7, z_nos) zmL (z_from (z_cd zmL) 33) 33 zlo18 [.inl 36] 224 26096 zE6 zw2 z_k0 = true := by decide +kernel
theorem zv_38 : z_ev zcls zzty zzdv zms 20000 (7, z_nos) zmL (z_from (z_cd zmL) 33) 33 zlo18 [.inl 38] 224 26096 zE6 zw2 z_k0 = true := by decide +kernel
theorem zv_39 : z_ev zcls zzty zzdv zms 20000 (7, z_nos) zmL (z_from (z_cd zmL) 33) 33 zlo18 [.inl 39] 224 26096 zE6 zw2 z_k0 = true := by decide +kernel
theorem zv_40 : z_ev zcls zzty zzdv zms 20000 (7, z_nos) zmL (z_from (z_cd zmL) 33) 33 zlo18 [.inl 40] 224 26096 zE6 zw2 z_k0 = true := by decide +kernel
theorem zv_41 : z_ev zcls zzty zzdv zms 20000 (7, z_nos) zmL (z_from (z_cd zmL) 33) 33 zlo18 [.inl 41] 224 26096 zE6 zw2 z_k0 = true := by decide +kernel
theorem zv_42 : z_ev zcls zzty zzdv zms 20000 (7, z_nos) zmL (z_from (z_cd zmL) 33) 33 zlo18 [.inl 42] 224 26096 zE6 zw2 z_k0 = true := by decide +kernel
theorem zv_43 : z_ev zcls zzty zzdv zms 20000 (7, z_nos) zmL (z_from (z_cd zmL) 33) 33 zlo18 [.inl 43] 224 26096 zE6 zw2 z_k0 = true := by decide +kernel
theorem zv_44 : z_ev zcls zzty zzdv zms 20000 (7, z_nos) zmL (z_from (z_cd zmL) 33) 33 zlo18 [.inl 44] 224 26096 zE6 zw2 z_k0 = true := by decide +kernel
theorem zv_45 : z_ev zcls zzty zzdv zms 20000 (7, z_nos) zmL (z_from (z_cd zmL) 33) 33 zlo18 [.inl 45] 224 26096 zE6 zw2 z_k0 = true := by decide +kernel
theorem zv_46 : z_ev zcls zzty zzdv zms 20000 (7, z_nos) zmL (z_from (z_cd zmL) 33) 33 zlo18 [.inl 46] 224 26096 zE6 zw2 z_k0 = true := by decide +kernel
theorem zv_47 : z_ev zcls zzty zzdv zms 20000 (7, z_nos) zmL (z_from (z_cd zmL) 33) 33 zlo18 [.inl 47] 224 26096 zE6 zw2 z_k0 = true := by decide +kernel
theorem zv_48 : z_ev zcls zzty zzdv zms 20000 (7, z_nos) zmL (z_from (z_cd zmL) 33) 33 zlo18 [.inl 48] 224 26096 zE6 zw2 z_k0 = true := by decide +kernel
