-- load: its record, its pieces (written by wip/t/gen36.py)
def yrLd : yMR := (⟨"RailwayHouseModel", "load", "()I"⟩, prog_14_method_22_code, 1, some .int, ⟨9, 0, 0, 232⟩, 12,
  [(0, .aload_n 0, 0, 0, 0, 0), (1, .aload_n 0, 0, 0, 0, 0), (2, .getfield 343, 12, 1, 8111, 0), (5, .putfield 357, 12, 2, 8112, 0), (8, .aload_n 0, 0, 0, 0, 0), (9, .iconst 0, 0, 0, 0, 0), (10, .putfield 343, 12, 1, 8111, 0), (13, .aload_n 0, 0, 0, 0, 0), (14, .iconst 0, 0, 0, 0, 0), (15, .putfield 351, 12, 8, 8118, 0), (18, .aload_n 0, 0, 0, 0, 0), (19, .bipush (-9), 0, 0, 0, 0), (21, .putfield 354, 12, 9, 8119, 0), (24, .aload_n 0, 0, 0, 0, 0), (25, .invokevirtual 465, 280, 1000, 10084, 1), (28, .ifCond .ne 11, 39, 0, 0, 0), (31, .bipush (-10), 0, 0, 0, 0), (33, .aload_n 0, 0, 0, 0, 0), (34, .getfield 351, 12, 8, 8118, 0), (37, .isub, 0, 0, 0, 0), (38, .ireturn, 0, 0, 0, 0), (39, .aload_n 0, 0, 0, 0, 0), (40, .invokevirtual 468, 338, 1000, 10156, 1), (43, .aload_n 0, 0, 0, 0, 0), (44, .invokevirtual 471, 213, 1000, 10160, 1), (47, .aload_n 0, 0, 0, 0, 0), (48, .invokevirtual 474, 188, 1000, 8079, 1), (51, .aload_n 0, 0, 0, 0, 0), (52, .getfield 455, 12, 20, 8130, 0), (55, .ireturn, 0, 0, 0, 0)])
theorem yq_yrLd : (y_cd yrLd).all (y_okE ztb znw zcls (ytb yw00) yrLd) = true := by decide +kernel
theorem yo_yrLd : y_okM ztb zcls yrLd := y_okM_i (z_codeIn (ch := 10) (i := 83) (l := tables_1_10) rfl rfl) (z_w_ok (n := 1012) (by decide +kernel)) (by decide +kernel) ⟨by decide +kernel, by decide +kernel⟩ (z_w_ok (n := 10081) (by decide +kernel)) (z_w_ok (n := 10082) (by decide +kernel)) rfl rfl (by decide)
def ywS1 : yWr := ([(114, 2), (114, 1), (114, 8), (114, 9)], [], false)
abbrev ycRL : yCN := yc280
abbrev yiRL : Nat := 280
abbrev ycTL : yCN := yc338
abbrev yiTL : Nat := 338
abbrev ycFR : yCN := yc213
abbrev yiFR : Nat := 213
abbrev ycBH : yCN := yc188
abbrev yiBH : Nat := 188
def yfR : List yCN := [yc280, yc281, yc288, yc289, yc290, yc291, yc292, yc293, yc294, yc295, yc282, yc283, yc284, yc285, yc286, yc287]
def yfS : List yCN := [yc338, yc339, yc350, yc355, yc356, yc357, yc358, yc359, yc360, yc361, yc340, yc341, yc342, yc343, yc344, yc345, yc346, yc347, yc348, yc349, yc351, yc352, yc353, yc354]
def yfK : List yCN := [yc322, yc323, yc330, yc331, yc332, yc333, yc334, yc335, yc336, yc337, yc324, yc325, yc326, yc327, yc328, yc329]
def ywLd : yWr := ([(114, 3), (114, 50), (114, 8), (114, 9), (114, 30), (114, 88), (114, 78), (114, 77), (114, 106), (114, 10), (114, 17), (114, 110), (114, 82), (114, 32), (114, 20), (114, 79), (114, 27), (114, 31), (114, 1), (114, 2), (114, 104), (114, 4), (114, 5), (114, 6), (114, 7), (114, 87), (114, 80), (114, 46), (114, 45), (114, 51), (114, 47), (114, 48)], [116, 117, 118, 119, 120, 121, 122, 123, 124, 125, 126, 127, 128, 129, 130, 131, 132, 133, 134, 135, 136, 137, 138, 139, 140, 141, 142, 143, 144, 145, 146, 147, 149, 151, 152, 153, 154, 155, 156, 157, 158, 159, 160, 161, 162, 163, 164, 165, 166, 167, 168, 169, 171, 172, 174, 188, 190, 191, 990, 991, 1116, 1120, 1121, 1122, 1123, 1142, 1143], false)
