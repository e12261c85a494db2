theorem zn0 : ∀ a, a < 14 → ∀ b, b < 14 → a ≠ b → (zT0 a).2.1 ≠ (zT0 b).2.1 := by decide +kernel
theorem zc0 : z_okC ztb ("RailwayHouse$Channel", zT0, 14) zy0 zv0 [2044, 2046, 2048, 2050, 2052, 2054, 2056, 2058, 2060, 2062, 2064, 2066, 2068, 2070] 2021 1007 = true := by decide +kernel
theorem zn1 : ∀ a, a < 10 → ∀ b, b < 10 → a ≠ b → (zT1 a).2.1 ≠ (zT1 b).2.1 := by decide +kernel
theorem zc1 : z_okC ztb ("RailwayHouse$Journeys", zT1, 10) zy1 zv1 [3018, 3020, 3022, 3024, 3026, 3028, 3030, 3032, 3034, 3036] 2239 1010 = true := by decide +kernel
theorem zn2 : ∀ a, a < 9 → ∀ b, b < 9 → a ≠ b → (zT2 a).2.1 ≠ (zT2 b).2.1 := by decide +kernel
theorem zc2 : z_okC ztb ("RailwayHouse$Layout", zT2, 9) zy2 zv2 [1072, 1074, 1076, 1078, 1080, 1082, 1084, 1086, 1088] 1037 1003 = true := by decide +kernel
theorem zn3 : ∀ a, a < 13 → ∀ b, b < 13 → a ≠ b → (zT3 a).2.1 ≠ (zT3 b).2.1 := by decide +kernel
theorem zc3 : z_okC ztb ("RailwayHouse$Line", zT3, 13) zy3 zv3 [3061, 3063, 3065, 3067, 3069, 3071, 3073, 3075, 3077, 3079, 3081, 3083, 3085] 3041 1011 = true := by decide +kernel
theorem zn4 : ∀ a, a < 9 → ∀ b, b < 9 → a ≠ b → (zT4 a).2.1 ≠ (zT4 b).2.1 := by decide +kernel
theorem zc4 : z_okC ztb ("RailwayHouse$Reader", zT4, 9) zy4 zv4 [1106, 1108, 1110, 1112, 1114, 1116, 1118, 1120, 1122] 1031 1002 = true := by decide +kernel
theorem zn5 : ∀ a, a < 10 → ∀ b, b < 10 → a ≠ b → (zT5 a).2.1 ≠ (zT5 b).2.1 := by decide +kernel
theorem zc5 : z_okC ztb ("RailwayHouse$Reports", zT5, 10) zy5 zv5 [1232, 1234, 1236, 1238, 2000, 2002, 2004, 2006, 2008, 2010] 1212 1005 = true := by decide +kernel
theorem zn6 : ∀ a, a < 16 → ∀ b, b < 16 → a ≠ b → (zT6 a).2.1 ≠ (zT6 b).2.1 := by decide +kernel
theorem zc6 : z_okC ztb ("RailwayHouse$Timetable", zT6, 16) zy6 zv6 [2205, 2207, 2209, 2211, 2213, 2215, 2217, 2219, 2221, 2223, 2225, 2227, 2229, 2231, 2233, 2235] 2165 1009 = true := by decide +kernel
theorem zn7 : ∀ a, a < 13 → ∀ b, b < 13 → a ≠ b → (zT7 a).2.1 ≠ (zT7 b).2.1 := by decide +kernel
theorem zc7 : z_okC ztb ("RailwayHouse$Train", zT7, 13) zy7 zv7 [6050, 6052, 6054, 6056, 6058, 6060, 6062, 6064, 6066, 6068, 6070, 6072, 6074] 6017 1020 = true := by decide +kernel
theorem zn8 : ∀ a, a < 10 → ∀ b, b < 10 → a ≠ b → (zT8 a).2.1 ≠ (zT8 b).2.1 := by decide +kernel
theorem zc8 : z_okC ztb ("RailwayHouse$Vote", zT8, 10) zy8 zv8 [2090, 2092, 2094, 2096, 2098, 2100, 2102, 2104, 2106, 2108] 2014 1006 = true := by decide +kernel
theorem zn9 : ∀ a, a < 20 → ∀ b, b < 20 → a ≠ b → (zT9 a).2.1 ≠ (zT9 b).2.1 := by decide +kernel
theorem zc9 : z_okC ztb ("RailwayHouse$Ways", zT9, 20) zy9 zv9 [1170, 1172, 1174, 1176, 1178, 1180, 1182, 1184, 1186, 1188, 1190, 1192, 1194, 1196, 1198, 1200, 1202, 1204, 1206, 1208] 1128 1004 = true := by decide +kernel
theorem zn10 : ∀ a, a < 13 → ∀ b, b < 13 → a ≠ b → (zT10 a).2.1 ≠ (zT10 b).2.1 := by decide +kernel
theorem zc10 : z_okC ztb ("RailwayHouse$Yard", zT10, 13) zy10 zv10 [2137, 2139, 2141, 2143, 2145, 2147, 2149, 2151, 2153, 2155, 2157, 2159, 2161] 2112 1008 = true := by decide +kernel
theorem zn11 : ∀ a, a < 12 → ∀ b, b < 12 → a ≠ b → (zT11 a).2.1 ≠ (zT11 b).2.1 := by decide +kernel
theorem zc11 : z_okC ztb ("RailwayHouse", zT11, 12) zy11 zv11 [3144, 3146, 3148, 3150, 3152, 3154, 3156, 3158, 3160, 3162, 3164, 3166] 1023 1001 = true := by decide +kernel
theorem zn12 : ∀ a, a < 146 → ∀ b, b < 146 → a ≠ b → (zT12 a).2.1 ≠ (zT12 b).2.1 := by decide +kernel
theorem zc12 : z_okC ztb ("RailwayHouseModel", zT12, 146) zy12 zv12 [9016, 9018, 9020, 9022, 9024, 9026, 9028, 9030, 9032, 9034, 9036, 9038, 9040, 9042, 9044, 9046, 9048, 9050, 9052, 9054, 9056, 9058, 9060, 9062, 9064, 9066, 9068, 9070, 9072, 9074, 9076, 9078, 9080, 9082, 9084, 9086, 9088, 9090, 9092, 9094, 9096, 9098, 9100, 9102, 9104, 9106, 9108, 9110, 9112, 9114, 9116, 9118, 9120, 9122, 9124, 9126, 9128, 9130, 9132, 9134, 9136, 9138, 9140, 9142, 9144, 9146, 9148, 9150, 9152, 9154, 9156, 9158, 9160, 9162, 9164, 9166, 9168, 9170, 9172, 9174, 9176, 9178, 9180, 9182, 9184, 9186, 9188, 9190, 9192, 9194, 9196, 9198, 9200, 9202, 9204, 9206, 9208, 9210, 9212, 9214, 9216, 9218, 9220, 9222, 9224, 9226, 9228, 9230, 9232, 9234, 9236, 9238, 10000, 10002, 10004, 10006, 10008, 10010, 10012, 10014, 10016, 10018, 10020, 10022, 10024, 10026, 10028, 10030, 10032, 10034, 10036, 10038, 10040, 10042, 10044, 10046, 10048, 10050, 10052, 10054, 10056, 10058, 10060, 10062, 10064, 10066] 8070 1012 = true := by decide +kernel
theorem zCF : z_CF ztb zcls zzty zzdv := by
  intro ci c hc
  match ci, hc with
  | 0, hc => cases hc; exact z_okC_ok zc0 zn0 (ci := 0) rfl rfl
  | 1, hc => cases hc; exact z_okC_ok zc1 zn1 (ci := 1) rfl rfl
  | 2, hc => cases hc; exact z_okC_ok zc2 zn2 (ci := 2) rfl rfl
  | 3, hc => cases hc; exact z_okC_ok zc3 zn3 (ci := 3) rfl rfl
  | 4, hc => cases hc; exact z_okC_ok zc4 zn4 (ci := 4) rfl rfl
  | 5, hc => cases hc; exact z_okC_ok zc5 zn5 (ci := 5) rfl rfl
  | 6, hc => cases hc; exact z_okC_ok zc6 zn6 (ci := 6) rfl rfl
  | 7, hc => cases hc; exact z_okC_ok zc7 zn7 (ci := 7) rfl rfl
  | 8, hc => cases hc; exact z_okC_ok zc8 zn8 (ci := 8) rfl rfl
  | 9, hc => cases hc; exact z_okC_ok zc9 zn9 (ci := 9) rfl rfl
  | 10, hc => cases hc; exact z_okC_ok zc10 zn10 (ci := 10) rfl rfl
  | 11, hc => cases hc; exact z_okC_ok zc11 zn11 (ci := 11) rfl rfl
  | 12, hc => cases hc; exact z_okC_ok zc12 zn12 (ci := 12) rfl rfl
  | ci + 13, hc => simp [zcls] at hc
theorem yN_max : Jvm.Cond.static Lib.Math.max.name ∈ z_G ztb := z_w_ok (n := 4089) (by decide +kernel)
theorem yN_min : Jvm.Cond.static Lib.Math.min.name ∈ z_G ztb := z_w_ok (n := 4092) (by decide +kernel)
theorem yN_abs : Jvm.Cond.static Lib.Math.abs.name ∈ z_G ztb := z_w_ok (n := 7175) (by decide +kernel)
theorem yN_i : Jvm.Cond.initialized "java/lang/Math" ∈ z_G ztb := z_w_ok (n := 1017) (by decide +kernel)
theorem yN_cmax : Jvm.Cond.code Lib.Math.max.name Lib.Math.max.code 2 (some .int) ∈ z_G ztb := z_w_ok (n := 4090) (by decide +kernel)
theorem yN_cmin : Jvm.Cond.code Lib.Math.min.name Lib.Math.min.code 2 (some .int) ∈ z_G ztb := z_w_ok (n := 4093) (by decide +kernel)
theorem yN_cabs : Jvm.Cond.code Lib.Math.abs.name Lib.Math.abs.code 1 (some .int) ∈ z_G ztb := z_w_ok (n := 7176) (by decide +kernel)
theorem yN_n : Jvm.Cond.native arraycopyName ∈ z_G ztb := z_w_ok (n := 4156) (by decide +kernel)
theorem yN_s : Jvm.Cond.static arraycopyName ∈ z_G ztb := z_w_ok (n := 4155) (by decide +kernel)
theorem yN_y : Jvm.Cond.initialized "java/lang/System" ∈ z_G ztb := z_w_ok (n := 1019) (by decide +kernel)
theorem ySh_ok : ∀ c, c ∈ ySh ∨ c = yTrn ∨ c = yTrw → y_shc zzty c := by
  have h : ySh.all (y_shb zzty) = true := by decide +kernel
  intro c hc
  rcases hc with hc | rfl | rfl
  · exact y_shb_ok (List.all_eq_true.mp h c hc)
  · exact y_shb_ok (by decide +kernel)
  · exact y_shb_ok (by decide +kernel)
