theorem zs_7 : z_ev zcls zzty zzdv zms 60000 (0, z_eqS 18 zlo18 [] 224 26096 zE6 zw2) zmL zcd7 7 zlo7 [z_rf 0] 114 10532 zE6 zw1 z_k0 = true := by decide +kernel
abbrev zce2 : Nat := 224
abbrev zsl2 : Nat := 26096
