theorem zlaw_all_0 : (((z_cd zmL).drop 0).take 40).all (z_okE ztb znw zcls zms zmL) = true := by decide +kernel
theorem zlaw_all_1 : (((z_cd zmL).drop 40).take 40).all (z_okE ztb znw zcls zms zmL) = true := by decide +kernel
theorem zlaw_all_2 : (((z_cd zmL).drop 80).take 40).all (z_okE ztb znw zcls zms zmL) = true := by decide +kernel
theorem zlaw_all_3 : (((z_cd zmL).drop 120).take 40).all (z_okE ztb znw zcls zms zmL) = true := by decide +kernel
theorem zlaw_all_4 : (((z_cd zmL).drop 160).take 40).all (z_okE ztb znw zcls zms zmL) = true := by decide +kernel
theorem zlaw_all_5 : (((z_cd zmL).drop 200).take 40).all (z_okE ztb znw zcls zms zmL) = true := by decide +kernel
theorem zlaw_all_6 : (((z_cd zmL).drop 240).take 40).all (z_okE ztb znw zcls zms zmL) = true := by decide +kernel
theorem zlaw_all_7 : (((z_cd zmL).drop 280).take 40).all (z_okE ztb znw zcls zms zmL) = true := by decide +kernel
theorem zlaw_all_8 : (((z_cd zmL).drop 320).take 40).all (z_okE ztb znw zcls zms zmL) = true := by decide +kernel
theorem zlaw_all_9 : (((z_cd zmL).drop 360).take 40).all (z_okE ztb znw zcls zms zmL) = true := by decide +kernel
theorem zlaw_all_10 : (((z_cd zmL).drop 400).take 40).all (z_okE ztb znw zcls zms zmL) = true := by decide +kernel
theorem zlaw_all_11 : (((z_cd zmL).drop 440).take 40).all (z_okE ztb znw zcls zms zmL) = true := by decide +kernel
theorem zlaw_all_12 : (((z_cd zmL).drop 480).take 40).all (z_okE ztb znw zcls zms zmL) = true := by decide +kernel
theorem zlaw_all_13 : (((z_cd zmL).drop 520).take 40).all (z_okE ztb znw zcls zms zmL) = true := by decide +kernel
theorem zlaw_all_14 : (((z_cd zmL).drop 560).take 40).all (z_okE ztb znw zcls zms zmL) = true := by decide +kernel
theorem zlaw_all_15 : (((z_cd zmL).drop 600).take 40).all (z_okE ztb znw zcls zms zmL) = true := by decide +kernel
theorem zlaw_all_16 : (((z_cd zmL).drop 640).take 40).all (z_okE ztb znw zcls zms zmL) = true := by decide +kernel
theorem zlaw_all_17 : (((z_cd zmL).drop 680).take 40).all (z_okE ztb znw zcls zms zmL) = true := by decide +kernel
theorem zlaw_all_18 : (((z_cd zmL).drop 720).take 40).all (z_okE ztb znw zcls zms zmL) = true := by decide +kernel
theorem zlaw_all_19 : (((z_cd zmL).drop 760).take 40).all (z_okE ztb znw zcls zms zmL) = true := by decide +kernel
theorem zlaw_all_20 : (((z_cd zmL).drop 800).take 40).all (z_okE ztb znw zcls zms zmL) = true := by decide +kernel
theorem zlaw_all_21 : (((z_cd zmL).drop 840).take 40).all (z_okE ztb znw zcls zms zmL) = true := by decide +kernel
theorem zlaw_all_22 : (((z_cd zmL).drop 880).take 40).all (z_okE ztb znw zcls zms zmL) = true := by decide +kernel
theorem zlaw_all_23 : (((z_cd zmL).drop 920).take 40).all (z_okE ztb znw zcls zms zmL) = true := by decide +kernel
theorem zlaw_all_24 : (((z_cd zmL).drop 960).take 40).all (z_okE ztb znw zcls zms zmL) = true := by decide +kernel
theorem zlaw_all_25 : (((z_cd zmL).drop 1000).take 40).all (z_okE ztb znw zcls zms zmL) = true := by decide +kernel
theorem zlaw_all_26 : (((z_cd zmL).drop 1040).take 40).all (z_okE ztb znw zcls zms zmL) = true := by decide +kernel
theorem zlaw_all_27 : (((z_cd zmL).drop 1080).take 40).all (z_okE ztb znw zcls zms zmL) = true := by decide +kernel
theorem zlaw_all_28 : (((z_cd zmL).drop 1120).take 40).all (z_okE ztb znw zcls zms zmL) = true := by decide +kernel
theorem zlaw_all_e29 : ((z_cd zmL).drop 1160).all (z_okE ztb znw zcls zms zmL) = true := z_seg_end (by decide +kernel)
theorem zlaw_all_e28 : ((z_cd zmL).drop 1120).all (z_okE ztb znw zcls zms zmL) = true := z_seg (a := 1120) (k := 40) zlaw_all_28 zlaw_all_e29
theorem zlaw_all_e27 : ((z_cd zmL).drop 1080).all (z_okE ztb znw zcls zms zmL) = true := z_seg (a := 1080) (k := 40) zlaw_all_27 zlaw_all_e28
theorem zlaw_all_e26 : ((z_cd zmL).drop 1040).all (z_okE ztb znw zcls zms zmL) = true := z_seg (a := 1040) (k := 40) zlaw_all_26 zlaw_all_e27
theorem zlaw_all_e25 : ((z_cd zmL).drop 1000).all (z_okE ztb znw zcls zms zmL) = true := z_seg (a := 1000) (k := 40) zlaw_all_25 zlaw_all_e26
theorem zlaw_all_e24 : ((z_cd zmL).drop 960).all (z_okE ztb znw zcls zms zmL) = true := z_seg (a := 960) (k := 40) zlaw_all_24 zlaw_all_e25
theorem zlaw_all_e23 : ((z_cd zmL).drop 920).all (z_okE ztb znw zcls zms zmL) = true := z_seg (a := 920) (k := 40) zlaw_all_23 zlaw_all_e24
theorem zlaw_all_e22 : ((z_cd zmL).drop 880).all (z_okE ztb znw zcls zms zmL) = true := z_seg (a := 880) (k := 40) zlaw_all_22 zlaw_all_e23
theorem zlaw_all_e21 : ((z_cd zmL).drop 840).all (z_okE ztb znw zcls zms zmL) = true := z_seg (a := 840) (k := 40) zlaw_all_21 zlaw_all_e22
theorem zlaw_all_e20 : ((z_cd zmL).drop 800).all (z_okE ztb znw zcls zms zmL) = true := z_seg (a := 800) (k := 40) zlaw_all_20 zlaw_all_e21
theorem zlaw_all_e19 : ((z_cd zmL).drop 760).all (z_okE ztb znw zcls zms zmL) = true := z_seg (a := 760) (k := 40) zlaw_all_19 zlaw_all_e20
theorem zlaw_all_e18 : ((z_cd zmL).drop 720).all (z_okE ztb znw zcls zms zmL) = true := z_seg (a := 720) (k := 40) zlaw_all_18 zlaw_all_e19
theorem zlaw_all_e17 : ((z_cd zmL).drop 680).all (z_okE ztb znw zcls zms zmL) = true := z_seg (a := 680) (k := 40) zlaw_all_17 zlaw_all_e18
theorem zlaw_all_e16 : ((z_cd zmL).drop 640).all (z_okE ztb znw zcls zms zmL) = true := z_seg (a := 640) (k := 40) zlaw_all_16 zlaw_all_e17
theorem zlaw_all_e15 : ((z_cd zmL).drop 600).all (z_okE ztb znw zcls zms zmL) = true := z_seg (a := 600) (k := 40) zlaw_all_15 zlaw_all_e16
theorem zlaw_all_e14 : ((z_cd zmL).drop 560).all (z_okE ztb znw zcls zms zmL) = true := z_seg (a := 560) (k := 40) zlaw_all_14 zlaw_all_e15
theorem zlaw_all_e13 : ((z_cd zmL).drop 520).all (z_okE ztb znw zcls zms zmL) = true := z_seg (a := 520) (k := 40) zlaw_all_13 zlaw_all_e14
theorem zlaw_all_e12 : ((z_cd zmL).drop 480).all (z_okE ztb znw zcls zms zmL) = true := z_seg (a := 480) (k := 40) zlaw_all_12 zlaw_all_e13
theorem zlaw_all_e11 : ((z_cd zmL).drop 440).all (z_okE ztb znw zcls zms zmL) = true := z_seg (a := 440) (k := 40) zlaw_all_11 zlaw_all_e12
theorem zlaw_all_e10 : ((z_cd zmL).drop 400).all (z_okE ztb znw zcls zms zmL) = true := z_seg (a := 400) (k := 40) zlaw_all_10 zlaw_all_e11
theorem zlaw_all_e9 : ((z_cd zmL).drop 360).all (z_okE ztb znw zcls zms zmL) = true := z_seg (a := 360) (k := 40) zlaw_all_9 zlaw_all_e10
theorem zlaw_all_e8 : ((z_cd zmL).drop 320).all (z_okE ztb znw zcls zms zmL) = true := z_seg (a := 320) (k := 40) zlaw_all_8 zlaw_all_e9
theorem zlaw_all_e7 : ((z_cd zmL).drop 280).all (z_okE ztb znw zcls zms zmL) = true := z_seg (a := 280) (k := 40) zlaw_all_7 zlaw_all_e8
theorem zlaw_all_e6 : ((z_cd zmL).drop 240).all (z_okE ztb znw zcls zms zmL) = true := z_seg (a := 240) (k := 40) zlaw_all_6 zlaw_all_e7
theorem zlaw_all_e5 : ((z_cd zmL).drop 200).all (z_okE ztb znw zcls zms zmL) = true := z_seg (a := 200) (k := 40) zlaw_all_5 zlaw_all_e6
theorem zlaw_all_e4 : ((z_cd zmL).drop 160).all (z_okE ztb znw zcls zms zmL) = true := z_seg (a := 160) (k := 40) zlaw_all_4 zlaw_all_e5
theorem zlaw_all_e3 : ((z_cd zmL).drop 120).all (z_okE ztb znw zcls zms zmL) = true := z_seg (a := 120) (k := 40) zlaw_all_3 zlaw_all_e4
theorem zlaw_all_e2 : ((z_cd zmL).drop 80).all (z_okE ztb znw zcls zms zmL) = true := z_seg (a := 80) (k := 40) zlaw_all_2 zlaw_all_e3
theorem zlaw_all_e1 : ((z_cd zmL).drop 40).all (z_okE ztb znw zcls zms zmL) = true := z_seg (a := 40) (k := 40) zlaw_all_1 zlaw_all_e2
theorem zlaw_all_e0 : ((z_cd zmL).drop 0).all (z_okE ztb znw zcls zms zmL) = true := z_seg (a := 0) (k := 40) zlaw_all_0 zlaw_all_e1
theorem zlaw_all : (z_cd zmL).all (z_okE ztb znw zcls zms zmL) = true := z_seg0 zlaw_all_e0
