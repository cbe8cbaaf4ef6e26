theorem dX9_plain_6 : decode cX9_plain 6 = .ok (.invokevirtual 420, 3) := by decide +kernel
theorem dX9_plain_9 : decode cX9_plain 9 = .ok (.lreturn, 1) := by decide +kernel
set_option maxRecDepth 20000 in
theorem ggX9_byMoved_X9_gathers : GoodIn wsX9_byMoved wsX9_gathers := goodIn_r _ [11, 4, 2, 5, 6, 1, 3, 12, 13, 14, 15, 16, 17, 33, 34, 35, 36, 37, 38, 39, 40, 41, 42, 43, 44, 45, 46, 47, 48, 49, 50, 51, 52, 53, 54, 55, 56, 57, 58, 59, 60, 61, 62, 63, 64, 65, 66, 67, 68, 69, 70, 71, 72, 73, 74, 75, 76, 77, 78, 79, 80, 81, 82, 83, 84, 85, 86, 87, 88, 89, 90, 91, 92] (by decide +kernel) (by decide +kernel)
set_option maxRecDepth 20000 in
theorem gX9_byMoved_X9_gathers : GoodIn wsX9_byMoved (wsV RX9 413 RX9 yX9_gathers wsX9_gathers) := goodIn_app (goodIn_of _ (by decide +kernel)) ggX9_byMoved_X9_gathers
set_option maxRecDepth 20000 in
theorem ggX9_byMoved_X9_areBoth : GoodIn wsX9_byMoved wsX9_areBoth := goodIn_r _ [21, 4, 2, 33, 34, 35, 36, 37, 38, 39, 40, 41, 42, 43, 44, 45, 46, 47, 48, 49, 50, 51, 52, 53, 54, 55, 56, 57, 58, 59, 60, 61, 62, 63, 64, 65, 66, 67, 68, 69, 70, 71, 72, 73, 74, 75, 76, 77, 78, 79, 80, 81, 82, 83, 84, 85, 86, 87, 88, 89, 90, 91, 92] (by decide +kernel) (by decide +kernel)
set_option maxRecDepth 20000 in
theorem gX9_byMoved_X9_areBoth : GoodIn wsX9_byMoved (wsV RX9 424 RX9 yX9_areBoth wsX9_areBoth) := goodIn_app (goodIn_of _ (by decide +kernel)) ggX9_byMoved_X9_areBoth
set_option maxRecDepth 20000 in
theorem ggX9_byMoved_X9_untold : GoodIn wsX9_byMoved wsX9_untold := goodIn_r _ [32, 26, 28, 33, 34, 35, 36, 37, 38, 39, 40, 41, 42, 43, 44, 45, 46, 47, 48, 49, 50, 51, 52, 53, 54, 55, 56, 57, 58, 59, 60, 61, 62, 63, 64, 65, 66, 67, 68, 69, 70, 71, 72, 73, 74, 75, 76, 77, 78, 79, 80, 81, 82, 83, 84, 85, 86, 87, 88, 89, 90, 91, 92] (by decide +kernel) (by decide +kernel)
set_option maxRecDepth 20000 in
theorem gX9_byMoved_X9_untold : GoodIn wsX9_byMoved (wsV RX9 427 RX9 yX9_untold wsX9_untold) := goodIn_app (goodIn_of _ (by decide +kernel)) ggX9_byMoved_X9_untold
theorem dX9_byMoved_0 : decode cX9_byMoved 0 = .ok (.aload_n 0, 1) := by decide +kernel
theorem dX9_byMoved_1 : decode cX9_byMoved 1 = .ok (.invokevirtual 413, 3) := by decide +kernel
theorem dX9_byMoved_4 : decode cX9_byMoved 4 = .ok (.aload_n 0, 1) := by decide +kernel
theorem dX9_byMoved_5 : decode cX9_byMoved 5 = .ok (.invokevirtual 424, 3) := by decide +kernel
theorem dX9_byMoved_8 : decode cX9_byMoved 8 = .ok (.ifCond .eq 48, 3) := by decide +kernel
theorem dX9_byMoved_56 : decode cX9_byMoved 56 = .ok (.aload_n 0, 1) := by decide +kernel
theorem dX9_byMoved_57 : decode cX9_byMoved 57 = .ok (.invokevirtual 427, 3) := by decide +kernel
theorem dX9_byMoved_60 : decode cX9_byMoved 60 = .ok (.lreturn, 1) := by decide +kernel
set_option maxRecDepth 20000 in
theorem ggX9_byOf_X9_isPush : GoodIn wsX9_byOf wsX9_isPush := goodIn_r _ [4, 5, 6, 7, 3, 8] (by decide +kernel) (by decide +kernel)
set_option maxRecDepth 20000 in
theorem gX9_byOf_X9_isPush : GoodIn wsX9_byOf (va_wsS RX9 430 yX9_isPush wsX9_isPush) := goodIn_app (goodIn_of _ (by decide +kernel)) ggX9_byOf_X9_isPush
set_option maxRecDepth 20000 in
theorem ggX9_byOf_X9_untold : GoodIn wsX9_byOf wsX9_untold := goodIn_r _ [12, 13, 14, 50, 51, 52, 53, 54, 55, 56, 57, 58, 59, 60, 61, 62, 63, 64, 65, 66, 67, 68, 69, 70, 71, 72, 73, 74, 75, 76, 77, 78, 79, 80, 81, 82, 83, 84, 85, 86, 87, 88, 89, 90, 91, 92, 93, 94, 95, 96, 97, 98, 99, 100, 101, 102, 103, 104, 105, 106, 107, 108, 109] (by decide +kernel) (by decide +kernel)
set_option maxRecDepth 20000 in
theorem gX9_byOf_X9_untold : GoodIn wsX9_byOf (wsV RX9 427 RX9 yX9_untold wsX9_untold) := goodIn_app (goodIn_of _ (by decide +kernel)) ggX9_byOf_X9_untold
set_option maxRecDepth 20000 in
theorem ggX9_byOf_X9_pushes : GoodIn wsX9_byOf wsX9_pushes := goodIn_r _ [18, 19, 20, 21, 22, 50, 51, 52, 53, 54, 55, 56, 57, 58, 59, 60, 61, 62, 63, 64, 65, 66, 67, 68, 69, 70, 71, 72, 73, 74, 75, 76, 77, 78, 79, 80, 81, 82, 83, 84, 85, 86, 87, 88, 89, 90, 91, 92, 93, 94, 95, 96, 97, 98, 99, 100, 101, 102, 103, 104, 105, 106, 107, 108, 109] (by decide +kernel) (by decide +kernel)
set_option maxRecDepth 20000 in
theorem gX9_byOf_X9_pushes : GoodIn wsX9_byOf (wsV RX9 410 RX9 yX9_pushes wsX9_pushes) := goodIn_app (goodIn_of _ (by decide +kernel)) ggX9_byOf_X9_pushes
set_option maxRecDepth 20000 in
theorem ggX9_byOf_X9_byMoved : GoodIn wsX9_byOf wsX9_byMoved := goodIn_r _ [26, 27, 28, 29, 30, 31, 32, 33, 34, 35, 3, 36, 37, 38, 22, 39, 40, 20, 41, 42, 43, 44, 45, 46, 47, 48, 13, 49, 14, 9, 10, 11, 12, 50, 51, 52, 53, 54, 55, 56, 57, 58, 59, 60, 61, 62, 63, 64, 65, 66, 67, 68, 69, 70, 71, 72, 73, 74, 75, 76, 77, 78, 79, 80, 81, 82, 83, 84, 85, 86, 87, 88, 89, 90, 91, 92, 93, 94, 95, 96, 97, 98, 99, 100, 101, 102, 103, 104, 105, 106, 107, 108, 109] (by decide +kernel) (by decide +kernel)
set_option maxRecDepth 20000 in
theorem gX9_byOf_X9_byMoved : GoodIn wsX9_byOf (wsV RX9 433 RX9 yX9_byMoved wsX9_byMoved) := goodIn_app (goodIn_of _ (by decide +kernel)) ggX9_byOf_X9_byMoved
theorem dX9_byOf_0 : decode cX9_byOf 0 = .ok (.iload_n 1, 1) := by decide +kernel
theorem dX9_byOf_1 : decode cX9_byOf 1 = .ok (.invokestatic 430, 3) := by decide +kernel
theorem dX9_byOf_4 : decode cX9_byOf 4 = .ok (.ifCond .ne 8, 3) := by decide +kernel
theorem dX9_byOf_7 : decode cX9_byOf 7 = .ok (.aload_n 0, 1) := by decide +kernel
theorem dX9_byOf_8 : decode cX9_byOf 8 = .ok (.invokevirtual 427, 3) := by decide +kernel
theorem dX9_byOf_11 : decode cX9_byOf 11 = .ok (.lreturn, 1) := by decide +kernel
theorem dX9_byOf_12 : decode cX9_byOf 12 = .ok (.aload_n 0, 1) := by decide +kernel
theorem dX9_byOf_13 : decode cX9_byOf 13 = .ok (.iload_n 1, 1) := by decide +kernel
theorem dX9_byOf_14 : decode cX9_byOf 14 = .ok (.invokevirtual 410, 3) := by decide +kernel
theorem dX9_byOf_17 : decode cX9_byOf 17 = .ok (.aload_n 0, 1) := by decide +kernel
theorem dX9_byOf_18 : decode cX9_byOf 18 = .ok (.invokevirtual 433, 3) := by decide +kernel
theorem dX9_byOf_21 : decode cX9_byOf 21 = .ok (.lreturn, 1) := by decide +kernel
set_option maxRecDepth 20000 in
theorem ggX9_by_X9_byOf : GoodIn wsX9_by wsX9_byOf := goodIn_r _ [6, 7, 8, 5, 9, 10, 11, 12, 13, 14, 15, 16, 17, 18, 19, 20, 21, 22, 23, 24, 25, 26, 27, 28, 29, 30, 31, 32, 33, 34, 35, 36, 37, 38, 39, 40, 41, 42, 43, 44, 45, 46, 47, 48, 49, 50, 51, 52, 53, 54, 55, 56, 57, 58, 59, 60, 61, 62, 63, 64, 65, 66, 67, 68, 69, 70, 71, 72, 73, 74, 75, 76, 77, 78, 79, 80, 81, 82, 83, 84, 85, 86, 87, 88, 89, 90, 91, 92, 93, 94, 95, 96, 97, 98, 99, 100, 101, 102, 103, 104, 105, 106, 107, 108, 109, 110, 111, 112, 113, 114] (by decide +kernel) (by decide +kernel)
set_option maxRecDepth 20000 in
theorem gX9_by_X9_byOf : GoodIn wsX9_by (wsV RX9 436 RX9 yX9_byOf wsX9_byOf) := goodIn_app (goodIn_of _ (by decide +kernel)) ggX9_by_X9_byOf
theorem dX9_by_0 : decode cX9_by 0 = .ok (.aload_n 0, 1) := by decide +kernel
theorem dX9_by_1 : decode cX9_by 1 = .ok (.iconst 0, 1) := by decide +kernel
theorem dX9_by_2 : decode cX9_by 2 = .ok (.putfield 125, 3) := by decide +kernel
theorem dX9_by_5 : decode cX9_by 5 = .ok (.aload_n 0, 1) := by decide +kernel
theorem dX9_by_6 : decode cX9_by 6 = .ok (.iload_n 1, 1) := by decide +kernel
theorem dX9_by_7 : decode cX9_by 7 = .ok (.invokevirtual 436, 3) := by decide +kernel
theorem dX9_by_10 : decode cX9_by 10 = .ok (.lreturn, 1) := by decide +kernel
theorem dX9_groupsOf_0 : decode cX9_groupsOf 0 = .ok (.iconst 0, 1) := by decide +kernel
theorem dX9_groupsOf_1 : decode cX9_groupsOf 1 = .ok (.istore_n 1, 1) := by decide +kernel
theorem dX9_groupsOf_2 : decode cX9_groupsOf 2 = .ok (.iload_n 1, 1) := by decide +kernel
theorem dX9_groupsOf_3 : decode cX9_groupsOf 3 = .ok (.bipush 72, 2) := by decide +kernel
theorem dX9_groupsOf_5 : decode cX9_groupsOf 5 = .ok (.if_icmp .ge 30, 3) := by decide +kernel
theorem dX9_groupsOf_8 : decode cX9_groupsOf 8 = .ok (.aload_n 0, 1) := by decide +kernel
theorem dX9_groupsOf_9 : decode cX9_groupsOf 9 = .ok (.getfield 113, 3) := by decide +kernel
theorem dX9_groupsOf_12 : decode cX9_groupsOf 12 = .ok (.iload_n 1, 1) := by decide +kernel
theorem dX9_groupsOf_13 : decode cX9_groupsOf 13 = .ok (.lconst 0, 1) := by decide +kernel
theorem dX9_groupsOf_14 : decode cX9_groupsOf 14 = .ok (.lastore, 1) := by decide +kernel
theorem dX9_groupsOf_15 : decode cX9_groupsOf 15 = .ok (.aload_n 0, 1) := by decide +kernel
theorem dX9_groupsOf_16 : decode cX9_groupsOf 16 = .ok (.getfield 116, 3) := by decide +kernel
theorem dX9_groupsOf_19 : decode cX9_groupsOf 19 = .ok (.iload_n 1, 1) := by decide +kernel
theorem dX9_groupsOf_20 : decode cX9_groupsOf 20 = .ok (.lconst 0, 1) := by decide +kernel
theorem dX9_groupsOf_21 : decode cX9_groupsOf 21 = .ok (.lastore, 1) := by decide +kernel
theorem dX9_groupsOf_22 : decode cX9_groupsOf 22 = .ok (.aload_n 0, 1) := by decide +kernel
theorem dX9_groupsOf_23 : decode cX9_groupsOf 23 = .ok (.getfield 119, 3) := by decide +kernel
theorem dX9_groupsOf_26 : decode cX9_groupsOf 26 = .ok (.iload_n 1, 1) := by decide +kernel
theorem dX9_groupsOf_27 : decode cX9_groupsOf 27 = .ok (.lconst 0, 1) := by decide +kernel
theorem dX9_groupsOf_28 : decode cX9_groupsOf 28 = .ok (.lastore, 1) := by decide +kernel
theorem dX9_groupsOf_29 : decode cX9_groupsOf 29 = .ok (.iinc 1 1, 3) := by decide +kernel
theorem dX9_groupsOf_32 : decode cX9_groupsOf 32 = .ok (.goto (-30), 3) := by decide +kernel
theorem dX9_groupsOf_35 : decode cX9_groupsOf 35 = .ok (.iconst 0, 1) := by decide +kernel
theorem dX9_groupsOf_36 : decode cX9_groupsOf 36 = .ok (.istore_n 1, 1) := by decide +kernel
theorem dX9_groupsOf_37 : decode cX9_groupsOf 37 = .ok (.iload_n 1, 1) := by decide +kernel
theorem dX9_groupsOf_38 : decode cX9_groupsOf 38 = .ok (.aload_n 0, 1) := by decide +kernel
theorem dX9_groupsOf_39 : decode cX9_groupsOf 39 = .ok (.getfield 89, 3) := by decide +kernel
theorem dX9_groupsOf_42 : decode cX9_groupsOf 42 = .ok (.iconst 0, 1) := by decide +kernel
theorem dX9_groupsOf_43 : decode cX9_groupsOf 43 = .ok (.iaload, 1) := by decide +kernel
theorem dX9_groupsOf_44 : decode cX9_groupsOf 44 = .ok (.if_icmp .ge 70, 3) := by decide +kernel
theorem dX9_groupsOf_114 : decode cX9_groupsOf 114 = .ok (.iconst 0, 1) := by decide +kernel
theorem dX9_groupsOf_115 : decode cX9_groupsOf 115 = .ok (.istore_n 1, 1) := by decide +kernel
theorem dX9_groupsOf_116 : decode cX9_groupsOf 116 = .ok (.iconst 0, 1) := by decide +kernel
theorem dX9_groupsOf_117 : decode cX9_groupsOf 117 = .ok (.istore_n 2, 1) := by decide +kernel
theorem dX9_groupsOf_118 : decode cX9_groupsOf 118 = .ok (.iload_n 2, 1) := by decide +kernel
theorem dX9_groupsOf_119 : decode cX9_groupsOf 119 = .ok (.bipush 72, 2) := by decide +kernel
theorem dX9_groupsOf_121 : decode cX9_groupsOf 121 = .ok (.if_icmp .ge 28, 3) := by decide +kernel
theorem dX9_groupsOf_124 : decode cX9_groupsOf 124 = .ok (.iload_n 1, 1) := by decide +kernel
theorem dX9_groupsOf_125 : decode cX9_groupsOf 125 = .ok (.aload_n 0, 1) := by decide +kernel
theorem dX9_groupsOf_126 : decode cX9_groupsOf 126 = .ok (.getfield 113, 3) := by decide +kernel
theorem dX9_groupsOf_129 : decode cX9_groupsOf 129 = .ok (.iload_n 2, 1) := by decide +kernel
theorem dX9_groupsOf_130 : decode cX9_groupsOf 130 = .ok (.laload, 1) := by decide +kernel
theorem dX9_groupsOf_131 : decode cX9_groupsOf 131 = .ok (.lconst 0, 1) := by decide +kernel
theorem dX9_groupsOf_132 : decode cX9_groupsOf 132 = .ok (.lcmp, 1) := by decide +kernel
theorem dX9_groupsOf_133 : decode cX9_groupsOf 133 = .ok (.ifCond .le 7, 3) := by decide +kernel
theorem dX9_groupsOf_140 : decode cX9_groupsOf 140 = .ok (.iconst 0, 1) := by decide +kernel
theorem dX9_groupsOf_141 : decode cX9_groupsOf 141 = .ok (.iadd, 1) := by decide +kernel
theorem dX9_groupsOf_142 : decode cX9_groupsOf 142 = .ok (.istore_n 1, 1) := by decide +kernel
theorem dX9_groupsOf_143 : decode cX9_groupsOf 143 = .ok (.iinc 2 1, 3) := by decide +kernel
theorem dX9_groupsOf_146 : decode cX9_groupsOf 146 = .ok (.goto (-28), 3) := by decide +kernel
theorem dX9_groupsOf_149 : decode cX9_groupsOf 149 = .ok (.iload_n 1, 1) := by decide +kernel
theorem dX9_groupsOf_150 : decode cX9_groupsOf 150 = .ok (.ireturn, 1) := by decide +kernel
set_option maxRecDepth 20000 in
theorem ggX9_manyOf_X9_pushes : GoodIn wsX9_manyOf wsX9_pushes := goodIn_r _ [11, 12, 13, 14, 15, 39, 40, 41, 42, 43, 44, 45, 46, 47, 48, 49, 50, 51, 52, 53, 54, 55, 56, 57, 58, 59, 60, 61, 62, 63, 64, 65, 66, 67, 68, 69, 70, 71, 72, 73, 74, 75, 76, 77, 78, 79, 80, 81, 82, 83, 84, 85, 86, 87, 88, 89, 90, 91, 92, 93, 94, 95, 96, 97, 98] (by decide +kernel) (by decide +kernel)
set_option maxRecDepth 20000 in
theorem gX9_manyOf_X9_pushes : GoodIn wsX9_manyOf (wsV RX9 410 RX9 yX9_pushes wsX9_pushes) := goodIn_app (goodIn_of _ (by decide +kernel)) ggX9_manyOf_X9_pushes
set_option maxRecDepth 20000 in
theorem ggX9_manyOf_X9_gathers : GoodIn wsX9_manyOf wsX9_gathers := goodIn_r _ [19, 20, 4, 21, 5, 22, 6, 23, 24, 15, 25, 26, 13, 39, 40, 41, 42, 43, 44, 45, 46, 47, 48, 49, 50, 51, 52, 53, 54, 55, 56, 57, 58, 59, 60, 61, 62, 63, 64, 65, 66, 67, 68, 69, 70, 71, 72, 73, 74, 75, 76, 77, 78, 79, 80, 81, 82, 83, 84, 85, 86, 87, 88, 89, 90, 91, 92, 93, 94, 95, 96, 97, 98] (by decide +kernel) (by decide +kernel)
set_option maxRecDepth 20000 in
theorem gX9_manyOf_X9_gathers : GoodIn wsX9_manyOf (wsV RX9 413 RX9 yX9_gathers wsX9_gathers) := goodIn_app (goodIn_of _ (by decide +kernel)) ggX9_manyOf_X9_gathers
set_option maxRecDepth 20000 in
theorem ggX9_manyOf_X9_groupsOf : GoodIn wsX9_manyOf wsX9_groupsOf := goodIn_r _ [30, 1, 2, 3, 12, 31, 14, 25, 26, 39, 40, 41, 42, 43, 44, 45, 46, 47, 48, 49, 50, 51, 52, 53, 54, 55, 56, 57, 58, 59, 60, 61, 62, 63, 64, 65, 66, 67, 68, 69, 70, 71, 72, 73, 74, 75, 76, 77, 78, 79, 80, 81, 82, 83, 84, 85, 86, 87, 88, 89, 90, 91, 92, 93, 94, 95, 96, 97, 98] (by decide +kernel) (by decide +kernel)
set_option maxRecDepth 20000 in
theorem gX9_manyOf_X9_groupsOf : GoodIn wsX9_manyOf (wsV RX9 440 RX9 yX9_groupsOf wsX9_groupsOf) := goodIn_app (goodIn_of _ (by decide +kernel)) ggX9_manyOf_X9_groupsOf
set_option maxRecDepth 20000 in
theorem ggX9_manyOf_X9_ratio : GoodIn wsX9_manyOf wsX9_ratio := goodIn_r _ [35, 36, 37, 38, 39, 40, 41, 42, 43, 44, 45, 46, 47, 48, 49, 50, 51, 52, 53, 54, 55, 56, 57, 58, 59, 60, 61, 62, 63, 64, 65, 66, 67, 68, 69, 70, 71, 72, 73, 74, 75, 76, 77, 78, 79, 80, 81, 82, 83, 84, 85, 86, 87, 88, 89, 90, 91, 92, 93, 94, 95, 96, 97, 98] (by decide +kernel) (by decide +kernel)
set_option maxRecDepth 20000 in
theorem gX9_manyOf_X9_ratio : GoodIn wsX9_manyOf (wsV RX9 416 RX9 yX9_ratio wsX9_ratio) := goodIn_app (goodIn_of _ (by decide +kernel)) ggX9_manyOf_X9_ratio
theorem dX9_manyOf_0 : decode cX9_manyOf 0 = .ok (.aload_n 0, 1) := by decide +kernel
theorem dX9_manyOf_1 : decode cX9_manyOf 1 = .ok (.iconst 0, 1) := by decide +kernel
theorem dX9_manyOf_2 : decode cX9_manyOf 2 = .ok (.invokevirtual 410, 3) := by decide +kernel
theorem dX9_manyOf_5 : decode cX9_manyOf 5 = .ok (.aload_n 0, 1) := by decide +kernel
theorem dX9_manyOf_6 : decode cX9_manyOf 6 = .ok (.invokevirtual 413, 3) := by decide +kernel
theorem dX9_manyOf_9 : decode cX9_manyOf 9 = .ok (.aload_n 0, 1) := by decide +kernel
theorem dX9_manyOf_10 : decode cX9_manyOf 10 = .ok (.invokevirtual 440, 3) := by decide +kernel
theorem dX9_manyOf_13 : decode cX9_manyOf 13 = .ok (.pop, 1) := by decide +kernel
theorem dX9_manyOf_14 : decode cX9_manyOf 14 = .ok (.lconst 0, 1) := by decide +kernel
theorem dX9_manyOf_15 : decode cX9_manyOf 15 = .ok (.lstore_n 1, 1) := by decide +kernel
theorem dX9_manyOf_16 : decode cX9_manyOf 16 = .ok (.lconst 0, 1) := by decide +kernel
theorem dX9_manyOf_17 : decode cX9_manyOf 17 = .ok (.lstore_n 3, 1) := by decide +kernel
theorem dX9_manyOf_18 : decode cX9_manyOf 18 = .ok (.iconst 0, 1) := by decide +kernel
theorem dX9_manyOf_19 : decode cX9_manyOf 19 = .ok (.istore 5, 2) := by decide +kernel
theorem dX9_manyOf_21 : decode cX9_manyOf 21 = .ok (.iload 5, 2) := by decide +kernel
theorem dX9_manyOf_23 : decode cX9_manyOf 23 = .ok (.bipush 72, 2) := by decide +kernel
theorem dX9_manyOf_25 : decode cX9_manyOf 25 = .ok (.if_icmp .ge 76, 3) := by decide +kernel
theorem dX9_manyOf_28 : decode cX9_manyOf 28 = .ok (.aload_n 0, 1) := by decide +kernel
theorem dX9_manyOf_29 : decode cX9_manyOf 29 = .ok (.getfield 113, 3) := by decide +kernel
theorem dX9_manyOf_32 : decode cX9_manyOf 32 = .ok (.iload 5, 2) := by decide +kernel
theorem dX9_manyOf_34 : decode cX9_manyOf 34 = .ok (.laload, 1) := by decide +kernel
theorem dX9_manyOf_35 : decode cX9_manyOf 35 = .ok (.lconst 0, 1) := by decide +kernel
theorem dX9_manyOf_36 : decode cX9_manyOf 36 = .ok (.lcmp, 1) := by decide +kernel
theorem dX9_manyOf_37 : decode cX9_manyOf 37 = .ok (.ifCond .ne 6, 3) := by decide +kernel
theorem dX9_manyOf_40 : decode cX9_manyOf 40 = .ok (.goto 55, 3) := by decide +kernel
theorem dX9_manyOf_95 : decode cX9_manyOf 95 = .ok (.iinc 5 1, 3) := by decide +kernel
theorem dX9_manyOf_98 : decode cX9_manyOf 98 = .ok (.goto (-77), 3) := by decide +kernel
theorem dX9_manyOf_101 : decode cX9_manyOf 101 = .ok (.aload_n 0, 1) := by decide +kernel
theorem dX9_manyOf_102 : decode cX9_manyOf 102 = .ok (.aload_n 0, 1) := by decide +kernel
theorem dX9_manyOf_103 : decode cX9_manyOf 103 = .ok (.getfield 381, 3) := by decide +kernel
theorem dX9_manyOf_106 : decode cX9_manyOf 106 = .ok (.lload_n 1, 1) := by decide +kernel
theorem dX9_manyOf_107 : decode cX9_manyOf 107 = .ok (.lmul, 1) := by decide +kernel
theorem dX9_manyOf_108 : decode cX9_manyOf 108 = .ok (.aload_n 0, 1) := by decide +kernel
theorem dX9_manyOf_109 : decode cX9_manyOf 109 = .ok (.getfield 387, 3) := by decide +kernel
theorem dX9_manyOf_112 : decode cX9_manyOf 112 = .ok (.aload_n 0, 1) := by decide +kernel
theorem dX9_manyOf_113 : decode cX9_manyOf 113 = .ok (.getfield 393, 3) := by decide +kernel
theorem dX9_manyOf_116 : decode cX9_manyOf 116 = .ok (.lmul, 1) := by decide +kernel
theorem dX9_manyOf_117 : decode cX9_manyOf 117 = .ok (.lsub, 1) := by decide +kernel
theorem dX9_manyOf_118 : decode cX9_manyOf 118 = .ok (.aload_n 0, 1) := by decide +kernel
theorem dX9_manyOf_119 : decode cX9_manyOf 119 = .ok (.getfield 381, 3) := by decide +kernel
theorem dX9_manyOf_122 : decode cX9_manyOf 122 = .ok (.lload_n 3, 1) := by decide +kernel
theorem dX9_manyOf_123 : decode cX9_manyOf 123 = .ok (.lmul, 1) := by decide +kernel
theorem dX9_manyOf_124 : decode cX9_manyOf 124 = .ok (.aload_n 0, 1) := by decide +kernel
theorem dX9_manyOf_125 : decode cX9_manyOf 125 = .ok (.getfield 387, 3) := by decide +kernel
theorem dX9_manyOf_128 : decode cX9_manyOf 128 = .ok (.aload_n 0, 1) := by decide +kernel
theorem dX9_manyOf_129 : decode cX9_manyOf 129 = .ok (.getfield 387, 3) := by decide +kernel
theorem dX9_manyOf_132 : decode cX9_manyOf 132 = .ok (.lmul, 1) := by decide +kernel
theorem dX9_manyOf_133 : decode cX9_manyOf 133 = .ok (.lsub, 1) := by decide +kernel
theorem dX9_manyOf_134 : decode cX9_manyOf 134 = .ok (.invokevirtual 416, 3) := by decide +kernel
theorem dX9_manyOf_137 : decode cX9_manyOf 137 = .ok (.lreturn, 1) := by decide +kernel
set_option maxRecDepth 20000 in
theorem ggX9_many_X9_manyOf : GoodIn wsX9_many wsX9_manyOf := goodIn_r _ [6, 7, 8, 9, 10, 11, 12, 13, 14, 15, 5, 16, 17, 18, 19, 20, 21, 22, 23, 24, 25, 26, 27, 28, 29, 30, 31, 32, 33, 34, 35, 36, 37, 38, 39, 40, 41, 42, 43, 44, 45, 46, 47, 48, 49, 50, 51, 52, 53, 54, 55, 56, 57, 58, 59, 60, 61, 62, 63, 64, 65, 66, 67, 68, 69, 70, 71, 72, 73, 74, 75, 76, 77, 78, 79, 80, 81, 82, 83, 84, 85, 86, 87, 88, 89, 90, 91, 92, 93, 94, 95, 96, 97, 98, 99, 100, 101, 102, 103] (by decide +kernel) (by decide +kernel)
set_option maxRecDepth 20000 in
theorem gX9_many_X9_manyOf : GoodIn wsX9_many (wsV RX9 444 RX9 yX9_manyOf wsX9_manyOf) := goodIn_app (goodIn_of _ (by decide +kernel)) ggX9_many_X9_manyOf
theorem dX9_many_0 : decode cX9_many 0 = .ok (.aload_n 0, 1) := by decide +kernel
theorem dX9_many_1 : decode cX9_many 1 = .ok (.iconst 0, 1) := by decide +kernel
theorem dX9_many_2 : decode cX9_many 2 = .ok (.putfield 125, 3) := by decide +kernel
theorem dX9_many_5 : decode cX9_many 5 = .ok (.aload_n 0, 1) := by decide +kernel
theorem dX9_many_6 : decode cX9_many 6 = .ok (.invokevirtual 444, 3) := by decide +kernel
theorem dX9_many_9 : decode cX9_many 9 = .ok (.lreturn, 1) := by decide +kernel
set_option maxRecDepth 20000 in
theorem ggX9_groups_X9_groupsOf : GoodIn wsX9_groups wsX9_groupsOf := goodIn_r _ [6, 7, 8, 9, 10, 11, 12, 13, 14, 15, 16, 17, 18, 19, 20, 21, 22, 23, 24, 25, 26, 27, 28, 29, 30, 31, 32, 33, 34, 35, 36, 37, 38, 39, 40, 41, 42, 43, 44, 45, 46, 47, 48, 49, 50, 51, 52, 53, 54, 55, 56, 57, 58, 59, 60, 61, 62, 63, 64, 65, 66, 67, 68, 69, 70, 71, 72, 73, 74] (by decide +kernel) (by decide +kernel)
set_option maxRecDepth 20000 in
theorem gX9_groups_X9_groupsOf : GoodIn wsX9_groups (wsV RX9 440 RX9 yX9_groupsOf wsX9_groupsOf) := goodIn_app (goodIn_of _ (by decide +kernel)) ggX9_groups_X9_groupsOf
theorem dX9_groups_0 : decode cX9_groups 0 = .ok (.aload_n 0, 1) := by decide +kernel
theorem dX9_groups_1 : decode cX9_groups 1 = .ok (.iconst 0, 1) := by decide +kernel
theorem dX9_groups_2 : decode cX9_groups 2 = .ok (.putfield 125, 3) := by decide +kernel
theorem dX9_groups_5 : decode cX9_groups 5 = .ok (.aload_n 0, 1) := by decide +kernel
theorem dX9_groups_6 : decode cX9_groups 6 = .ok (.invokevirtual 440, 3) := by decide +kernel
theorem dX9_groups_9 : decode cX9_groups 9 = .ok (.ireturn, 1) := by decide +kernel
set_option maxRecDepth 20000 in
theorem ggX9_moves_X9_isPush : GoodIn wsX9_moves wsX9_isPush := goodIn_r _ [10, 11, 12, 13, 9, 14] (by decide +kernel) (by decide +kernel)
set_option maxRecDepth 20000 in
theorem gX9_moves_X9_isPush : GoodIn wsX9_moves (va_wsS RX9 430 yX9_isPush wsX9_isPush) := goodIn_app (goodIn_of _ (by decide +kernel)) ggX9_moves_X9_isPush
set_option maxRecDepth 20000 in
theorem ggX9_moves_X9_pushes : GoodIn wsX9_moves wsX9_pushes := goodIn_r _ [18, 19, 20, 21, 22, 43, 44, 45, 46, 47, 48, 49, 50, 51, 52, 53, 54, 55, 56, 57, 58, 59, 60, 61, 62, 63, 64, 65, 66, 67, 68, 69, 70, 71, 72, 73, 74, 75, 76, 77, 78, 79, 80, 81, 82, 83, 84, 85, 86, 87, 88, 89, 90, 91, 92, 93, 94, 95, 96, 97, 98, 99, 100, 101, 102] (by decide +kernel) (by decide +kernel)
set_option maxRecDepth 20000 in
theorem gX9_moves_X9_pushes : GoodIn wsX9_moves (wsV RX9 410 RX9 yX9_pushes wsX9_pushes) := goodIn_app (goodIn_of _ (by decide +kernel)) ggX9_moves_X9_pushes
set_option maxRecDepth 20000 in
theorem ggX9_moves_X9_gathers : GoodIn wsX9_moves wsX9_gathers := goodIn_r _ [26, 6, 4, 3, 5, 27, 28, 29, 30, 22, 31, 32, 20, 43, 44, 45, 46, 47, 48, 49, 50, 51, 52, 53, 54, 55, 56, 57, 58, 59, 60, 61, 62, 63, 64, 65, 66, 67, 68, 69, 70, 71, 72, 73, 74, 75, 76, 77, 78, 79, 80, 81, 82, 83, 84, 85, 86, 87, 88, 89, 90, 91, 92, 93, 94, 95, 96, 97, 98, 99, 100, 101, 102] (by decide +kernel) (by decide +kernel)
set_option maxRecDepth 20000 in
theorem gX9_moves_X9_gathers : GoodIn wsX9_moves (wsV RX9 413 RX9 yX9_gathers wsX9_gathers) := goodIn_app (goodIn_of _ (by decide +kernel)) ggX9_moves_X9_gathers
set_option maxRecDepth 20000 in
theorem ggX9_moves_X9_areBoth : GoodIn wsX9_moves wsX9_areBoth := goodIn_r _ [36, 6, 4, 43, 44, 45, 46, 47, 48, 49, 50, 51, 52, 53, 54, 55, 56, 57, 58, 59, 60, 61, 62, 63, 64, 65, 66, 67, 68, 69, 70, 71, 72, 73, 74, 75, 76, 77, 78, 79, 80, 81, 82, 83, 84, 85, 86, 87, 88, 89, 90, 91, 92, 93, 94, 95, 96, 97, 98, 99, 100, 101, 102] (by decide +kernel) (by decide +kernel)
set_option maxRecDepth 20000 in
theorem gX9_moves_X9_areBoth : GoodIn wsX9_moves (wsV RX9 424 RX9 yX9_areBoth wsX9_areBoth) := goodIn_app (goodIn_of _ (by decide +kernel)) ggX9_moves_X9_areBoth
theorem dX9_moves_0 : decode cX9_moves 0 = .ok (.aload_n 0, 1) := by decide +kernel
theorem dX9_moves_1 : decode cX9_moves 1 = .ok (.iconst 0, 1) := by decide +kernel
theorem dX9_moves_2 : decode cX9_moves 2 = .ok (.putfield 125, 3) := by decide +kernel
theorem dX9_moves_5 : decode cX9_moves 5 = .ok (.iload_n 1, 1) := by decide +kernel
theorem dX9_moves_6 : decode cX9_moves 6 = .ok (.invokestatic 430, 3) := by decide +kernel
theorem dX9_moves_9 : decode cX9_moves 9 = .ok (.ifCond .ne 7, 3) := by decide +kernel
theorem dX9_moves_12 : decode cX9_moves 12 = .ok (.ldc2_w 408, 3) := by decide +kernel
theorem dX9_moves_15 : decode cX9_moves 15 = .ok (.lreturn, 1) := by decide +kernel
theorem dX9_moves_16 : decode cX9_moves 16 = .ok (.aload_n 0, 1) := by decide +kernel
theorem dX9_moves_17 : decode cX9_moves 17 = .ok (.iload_n 1, 1) := by decide +kernel
theorem dX9_moves_18 : decode cX9_moves 18 = .ok (.invokevirtual 410, 3) := by decide +kernel
theorem dX9_moves_21 : decode cX9_moves 21 = .ok (.aload_n 0, 1) := by decide +kernel
theorem dX9_moves_22 : decode cX9_moves 22 = .ok (.invokevirtual 413, 3) := by decide +kernel
theorem dX9_moves_25 : decode cX9_moves 25 = .ok (.aload_n 0, 1) := by decide +kernel
theorem dX9_moves_26 : decode cX9_moves 26 = .ok (.invokevirtual 424, 3) := by decide +kernel
theorem dX9_moves_29 : decode cX9_moves 29 = .ok (.ifCond .eq 38, 3) := by decide +kernel
theorem dX9_moves_67 : decode cX9_moves 67 = .ok (.ldc2_w 408, 3) := by decide +kernel
theorem dX9_moves_70 : decode cX9_moves 70 = .ok (.lreturn, 1) := by decide +kernel
set_option maxRecDepth 20000 in
theorem ggX9_leak_X9_isPush : GoodIn wsX9_leak wsX9_isPush := goodIn_r _ [10, 11, 12, 13, 9, 14] (by decide +kernel) (by decide +kernel)
set_option maxRecDepth 20000 in
theorem gX9_leak_X9_isPush : GoodIn wsX9_leak (va_wsS RX9 430 yX9_isPush wsX9_isPush) := goodIn_app (goodIn_of _ (by decide +kernel)) ggX9_leak_X9_isPush
set_option maxRecDepth 20000 in
theorem ggX9_leak_X9_pushes : GoodIn wsX9_leak wsX9_pushes := goodIn_r _ [18, 19, 20, 21, 22, 43, 44, 45, 46, 47, 48, 49, 50, 51, 52, 53, 54, 55, 56, 57, 58, 59, 60, 61, 62, 63, 64, 65, 66, 67, 68, 69, 70, 71, 72, 73, 74, 75, 76, 77, 78, 79, 80, 81, 82, 83, 84, 85, 86, 87, 88, 89, 90, 91, 92, 93, 94, 95, 96, 97, 98, 99, 100, 101, 102] (by decide +kernel) (by decide +kernel)
set_option maxRecDepth 20000 in
theorem gX9_leak_X9_pushes : GoodIn wsX9_leak (wsV RX9 410 RX9 yX9_pushes wsX9_pushes) := goodIn_app (goodIn_of _ (by decide +kernel)) ggX9_leak_X9_pushes
set_option maxRecDepth 20000 in
theorem ggX9_leak_X9_gathers : GoodIn wsX9_leak wsX9_gathers := goodIn_r _ [26, 6, 4, 27, 28, 3, 5, 29, 30, 22, 31, 32, 20, 43, 44, 45, 46, 47, 48, 49, 50, 51, 52, 53, 54, 55, 56, 57, 58, 59, 60, 61, 62, 63, 64, 65, 66, 67, 68, 69, 70, 71, 72, 73, 74, 75, 76, 77, 78, 79, 80, 81, 82, 83, 84, 85, 86, 87, 88, 89, 90, 91, 92, 93, 94, 95, 96, 97, 98, 99, 100, 101, 102] (by decide +kernel) (by decide +kernel)
set_option maxRecDepth 20000 in
theorem gX9_leak_X9_gathers : GoodIn wsX9_leak (wsV RX9 413 RX9 yX9_gathers wsX9_gathers) := goodIn_app (goodIn_of _ (by decide +kernel)) ggX9_leak_X9_gathers
set_option maxRecDepth 20000 in
theorem ggX9_leak_X9_areBoth : GoodIn wsX9_leak wsX9_areBoth := goodIn_r _ [36, 6, 4, 43, 44, 45, 46, 47, 48, 49, 50, 51, 52, 53, 54, 55, 56, 57, 58, 59, 60, 61, 62, 63, 64, 65, 66, 67, 68, 69, 70, 71, 72, 73, 74, 75, 76, 77, 78, 79, 80, 81, 82, 83, 84, 85, 86, 87, 88, 89, 90, 91, 92, 93, 94, 95, 96, 97, 98, 99, 100, 101, 102] (by decide +kernel) (by decide +kernel)
set_option maxRecDepth 20000 in
theorem gX9_leak_X9_areBoth : GoodIn wsX9_leak (wsV RX9 424 RX9 yX9_areBoth wsX9_areBoth) := goodIn_app (goodIn_of _ (by decide +kernel)) ggX9_leak_X9_areBoth
theorem dX9_leak_0 : decode cX9_leak 0 = .ok (.aload_n 0, 1) := by decide +kernel
theorem dX9_leak_1 : decode cX9_leak 1 = .ok (.iconst 0, 1) := by decide +kernel
theorem dX9_leak_2 : decode cX9_leak 2 = .ok (.putfield 125, 3) := by decide +kernel
theorem dX9_leak_5 : decode cX9_leak 5 = .ok (.iload_n 1, 1) := by decide +kernel
theorem dX9_leak_6 : decode cX9_leak 6 = .ok (.invokestatic 430, 3) := by decide +kernel
theorem dX9_leak_9 : decode cX9_leak 9 = .ok (.ifCond .ne 7, 3) := by decide +kernel
theorem dX9_leak_12 : decode cX9_leak 12 = .ok (.ldc2_w 408, 3) := by decide +kernel
theorem dX9_leak_15 : decode cX9_leak 15 = .ok (.lreturn, 1) := by decide +kernel
theorem dX9_leak_16 : decode cX9_leak 16 = .ok (.aload_n 0, 1) := by decide +kernel
theorem dX9_leak_17 : decode cX9_leak 17 = .ok (.iload_n 1, 1) := by decide +kernel
theorem dX9_leak_18 : decode cX9_leak 18 = .ok (.invokevirtual 410, 3) := by decide +kernel
theorem dX9_leak_21 : decode cX9_leak 21 = .ok (.aload_n 0, 1) := by decide +kernel
theorem dX9_leak_22 : decode cX9_leak 22 = .ok (.invokevirtual 413, 3) := by decide +kernel
theorem dX9_leak_25 : decode cX9_leak 25 = .ok (.aload_n 0, 1) := by decide +kernel
theorem dX9_leak_26 : decode cX9_leak 26 = .ok (.invokevirtual 424, 3) := by decide +kernel
theorem dX9_leak_29 : decode cX9_leak 29 = .ok (.ifCond .eq 38, 3) := by decide +kernel
theorem dX9_leak_67 : decode cX9_leak 67 = .ok (.ldc2_w 408, 3) := by decide +kernel
theorem dX9_leak_70 : decode cX9_leak 70 = .ok (.lreturn, 1) := by decide +kernel
set_option maxRecDepth 20000 in
theorem ggX9_homes_X9_isPush : GoodIn wsX9_homes wsX9_isPush := goodIn_r _ [11, 12, 13, 14, 10, 15] (by decide +kernel) (by decide +kernel)
set_option maxRecDepth 20000 in
theorem gX9_homes_X9_isPush : GoodIn wsX9_homes (va_wsS RX9 430 yX9_isPush wsX9_isPush) := goodIn_app (goodIn_of _ (by decide +kernel)) ggX9_homes_X9_isPush
set_option maxRecDepth 20000 in
theorem ggX9_homes_X9_pushes : GoodIn wsX9_homes wsX9_pushes := goodIn_r _ [19, 3, 4, 20, 21, 44, 45, 46, 47, 48, 49, 50, 51, 52, 53, 54, 55, 56, 57, 58, 59, 60, 61, 62, 63, 64, 65, 66, 67, 68, 69, 70, 71, 72, 73, 74, 75, 76, 77, 78, 79, 80, 81, 82, 83, 84, 85, 86, 87, 88, 89, 90, 91, 92, 93, 94, 95, 96, 97, 98, 99, 100, 101, 102, 103] (by decide +kernel) (by decide +kernel)
set_option maxRecDepth 20000 in
theorem gX9_homes_X9_pushes : GoodIn wsX9_homes (wsV RX9 410 RX9 yX9_pushes wsX9_pushes) := goodIn_app (goodIn_of _ (by decide +kernel)) ggX9_homes_X9_pushes
set_option maxRecDepth 20000 in
theorem ggX9_homes_X9_gathers : GoodIn wsX9_homes wsX9_gathers := goodIn_r _ [25, 7, 6, 26, 27, 28, 29, 30, 31, 21, 32, 33, 4, 44, 45, 46, 47, 48, 49, 50, 51, 52, 53, 54, 55, 56, 57, 58, 59, 60, 61, 62, 63, 64, 65, 66, 67, 68, 69, 70, 71, 72, 73, 74, 75, 76, 77, 78, 79, 80, 81, 82, 83, 84, 85, 86, 87, 88, 89, 90, 91, 92, 93, 94, 95, 96, 97, 98, 99, 100, 101, 102, 103] (by decide +kernel) (by decide +kernel)
set_option maxRecDepth 20000 in
theorem gX9_homes_X9_gathers : GoodIn wsX9_homes (wsV RX9 413 RX9 yX9_gathers wsX9_gathers) := goodIn_app (goodIn_of _ (by decide +kernel)) ggX9_homes_X9_gathers
set_option maxRecDepth 20000 in
theorem ggX9_homes_X9_areBoth : GoodIn wsX9_homes wsX9_areBoth := goodIn_r _ [37, 7, 6, 44, 45, 46, 47, 48, 49, 50, 51, 52, 53, 54, 55, 56, 57, 58, 59, 60, 61, 62, 63, 64, 65, 66, 67, 68, 69, 70, 71, 72, 73, 74, 75, 76, 77, 78, 79, 80, 81, 82, 83, 84, 85, 86, 87, 88, 89, 90, 91, 92, 93, 94, 95, 96, 97, 98, 99, 100, 101, 102, 103] (by decide +kernel) (by decide +kernel)
set_option maxRecDepth 20000 in
theorem gX9_homes_X9_areBoth : GoodIn wsX9_homes (wsV RX9 424 RX9 yX9_areBoth wsX9_areBoth) := goodIn_app (goodIn_of _ (by decide +kernel)) ggX9_homes_X9_areBoth
theorem dX9_homes_0 : decode cX9_homes 0 = .ok (.aload_n 0, 1) := by decide +kernel
theorem dX9_homes_1 : decode cX9_homes 1 = .ok (.iconst 0, 1) := by decide +kernel
theorem dX9_homes_2 : decode cX9_homes 2 = .ok (.putfield 125, 3) := by decide +kernel
theorem dX9_homes_5 : decode cX9_homes 5 = .ok (.iload_n 1, 1) := by decide +kernel
theorem dX9_homes_6 : decode cX9_homes 6 = .ok (.invokestatic 430, 3) := by decide +kernel
theorem dX9_homes_9 : decode cX9_homes 9 = .ok (.ifCond .ne 7, 3) := by decide +kernel
theorem dX9_homes_12 : decode cX9_homes 12 = .ok (.ldc2_w 408, 3) := by decide +kernel
theorem dX9_homes_15 : decode cX9_homes 15 = .ok (.lreturn, 1) := by decide +kernel
theorem dX9_homes_16 : decode cX9_homes 16 = .ok (.aload_n 0, 1) := by decide +kernel
theorem dX9_homes_17 : decode cX9_homes 17 = .ok (.iload_n 1, 1) := by decide +kernel
theorem dX9_homes_18 : decode cX9_homes 18 = .ok (.invokevirtual 410, 3) := by decide +kernel
theorem dX9_homes_21 : decode cX9_homes 21 = .ok (.aload_n 0, 1) := by decide +kernel
theorem dX9_homes_22 : decode cX9_homes 22 = .ok (.invokevirtual 413, 3) := by decide +kernel
theorem dX9_homes_25 : decode cX9_homes 25 = .ok (.lconst 0, 1) := by decide +kernel
theorem dX9_homes_26 : decode cX9_homes 26 = .ok (.lstore_n 2, 1) := by decide +kernel
theorem dX9_homes_27 : decode cX9_homes 27 = .ok (.lconst 0, 1) := by decide +kernel
theorem dX9_homes_28 : decode cX9_homes 28 = .ok (.lstore 4, 2) := by decide +kernel
theorem dX9_homes_30 : decode cX9_homes 30 = .ok (.iconst 0, 1) := by decide +kernel
theorem dX9_homes_31 : decode cX9_homes 31 = .ok (.istore 6, 2) := by decide +kernel
theorem dX9_homes_33 : decode cX9_homes 33 = .ok (.iload 6, 2) := by decide +kernel
theorem dX9_homes_35 : decode cX9_homes 35 = .ok (.aload_n 0, 1) := by decide +kernel
theorem dX9_homes_36 : decode cX9_homes 36 = .ok (.getfield 89, 3) := by decide +kernel
theorem dX9_homes_39 : decode cX9_homes 39 = .ok (.iconst 0, 1) := by decide +kernel
theorem dX9_homes_40 : decode cX9_homes 40 = .ok (.iaload, 1) := by decide +kernel
theorem dX9_homes_41 : decode cX9_homes 41 = .ok (.if_icmp .ge 46, 3) := by decide +kernel
theorem dX9_homes_87 : decode cX9_homes 87 = .ok (.aload_n 0, 1) := by decide +kernel
theorem dX9_homes_88 : decode cX9_homes 88 = .ok (.invokevirtual 424, 3) := by decide +kernel
theorem dX9_homes_91 : decode cX9_homes 91 = .ok (.ifCond .eq 33, 3) := by decide +kernel
theorem dX9_homes_124 : decode cX9_homes 124 = .ok (.ldc2_w 408, 3) := by decide +kernel
theorem dX9_homes_127 : decode cX9_homes 127 = .ok (.lreturn, 1) := by decide +kernel
set_option maxRecDepth 20000 in
theorem ggX9_leaked_X9_in : GoodIn wsX9_leaked wsX9_in := goodIn_r _ [16] (by decide +kernel) (by decide +kernel)
set_option maxRecDepth 20000 in
theorem gX9_leaked_X9_in : GoodIn wsX9_leaked (va_wsS RX9 130 yX9_in wsX9_in) := goodIn_app (goodIn_of _ (by decide +kernel)) ggX9_leaked_X9_in
set_option maxRecDepth 20000 in
theorem ggX9_leaked_X9_byOf : GoodIn wsX9_leaked wsX9_byOf := goodIn_r _ [20, 21, 22, 15, 23, 24, 13, 14, 16, 25, 26, 27, 28, 5, 4, 29, 30, 31, 32, 33, 34, 35, 36, 37, 38, 39, 40, 7, 8, 9, 10, 11, 12, 41, 42, 43, 44, 45, 46, 47, 48, 49, 50, 51, 52, 53, 54, 55, 56, 6, 57, 58, 59, 60, 61, 62, 63, 64, 65, 66, 67, 68, 69, 70, 71, 72, 73, 74, 75, 76, 77, 78, 79, 80, 81, 82, 83, 84, 85, 86, 87, 88, 89, 90, 91, 92, 93, 94, 95, 96, 97, 98, 99, 100, 101, 102, 103, 104, 105, 106, 107, 108, 109, 110, 111, 112, 113, 114, 115, 116] (by decide +kernel) (by decide +kernel)
set_option maxRecDepth 20000 in
theorem gX9_leaked_X9_byOf : GoodIn wsX9_leaked (wsV RX9 436 RX9 yX9_byOf wsX9_byOf) := goodIn_app (goodIn_of _ (by decide +kernel)) ggX9_leaked_X9_byOf
theorem dX9_leaked_0 : decode cX9_leaked 0 = .ok (.aload_n 0, 1) := by decide +kernel
theorem dX9_leaked_1 : decode cX9_leaked 1 = .ok (.iconst 0, 1) := by decide +kernel
theorem dX9_leaked_2 : decode cX9_leaked 2 = .ok (.putfield 125, 3) := by decide +kernel
theorem dX9_leaked_5 : decode cX9_leaked 5 = .ok (.iload_n 2, 1) := by decide +kernel
theorem dX9_leaked_6 : decode cX9_leaked 6 = .ok (.i2l, 1) := by decide +kernel
theorem dX9_leaked_7 : decode cX9_leaked 7 = .ok (.ldc2_w 447, 3) := by decide +kernel
theorem dX9_leaked_10 : decode cX9_leaked 10 = .ok (.ldc2_w 449, 3) := by decide +kernel
theorem dX9_leaked_13 : decode cX9_leaked 13 = .ok (.invokestatic 130, 3) := by decide +kernel
theorem dX9_leaked_16 : decode cX9_leaked 16 = .ok (.ifCond .ne 7, 3) := by decide +kernel
theorem dX9_leaked_19 : decode cX9_leaked 19 = .ok (.ldc2_w 408, 3) := by decide +kernel
theorem dX9_leaked_22 : decode cX9_leaked 22 = .ok (.lreturn, 1) := by decide +kernel
theorem dX9_leaked_23 : decode cX9_leaked 23 = .ok (.aload_n 0, 1) := by decide +kernel
theorem dX9_leaked_24 : decode cX9_leaked 24 = .ok (.iload_n 1, 1) := by decide +kernel
theorem dX9_leaked_25 : decode cX9_leaked 25 = .ok (.invokevirtual 436, 3) := by decide +kernel
theorem dX9_leaked_28 : decode cX9_leaked 28 = .ok (.pop2, 1) := by decide +kernel
theorem dX9_leaked_29 : decode cX9_leaked 29 = .ok (.aload_n 0, 1) := by decide +kernel
theorem dX9_leaked_30 : decode cX9_leaked 30 = .ok (.getfield 402, 3) := by decide +kernel
theorem dX9_leaked_33 : decode cX9_leaked 33 = .ok (.ifCond .ne 7, 3) := by decide +kernel
theorem dX9_leaked_36 : decode cX9_leaked 36 = .ok (.ldc2_w 408, 3) := by decide +kernel
theorem dX9_leaked_39 : decode cX9_leaked 39 = .ok (.lreturn, 1) := by decide +kernel
set_option maxRecDepth 20000 in
theorem ggX9_strongBy_X9_isPush : GoodIn wsX9_strongBy wsX9_isPush := goodIn_r _ [14, 15, 16, 17, 13, 18] (by decide +kernel) (by decide +kernel)
set_option maxRecDepth 20000 in
theorem gX9_strongBy_X9_isPush : GoodIn wsX9_strongBy (va_wsS RX9 430 yX9_isPush wsX9_isPush) := goodIn_app (goodIn_of _ (by decide +kernel)) ggX9_strongBy_X9_isPush
theorem dX9_strongBy_0 : decode cX9_strongBy 0 = .ok (.iload_n 1, 1) := by decide +kernel
theorem dX9_strongBy_1 : decode cX9_strongBy 1 = .ok (.invokestatic 430, 3) := by decide +kernel
theorem dX9_strongBy_4 : decode cX9_strongBy 4 = .ok (.ifCond .eq 8, 3) := by decide +kernel
theorem dX9_strongBy_7 : decode cX9_strongBy 7 = .ok (.iload_n 2, 1) := by decide +kernel
theorem dX9_strongBy_8 : decode cX9_strongBy 8 = .ok (.iconst 3, 1) := by decide +kernel
theorem dX9_strongBy_9 : decode cX9_strongBy 9 = .ok (.if_icmp .ge 7, 3) := by decide +kernel
theorem dX9_strongBy_12 : decode cX9_strongBy 12 = .ok (.ldc2_w 408, 3) := by decide +kernel
theorem dX9_strongBy_15 : decode cX9_strongBy 15 = .ok (.lreturn, 1) := by decide +kernel
set_option maxRecDepth 20000 in
theorem ggX9_strong_X9_strongBy : GoodIn wsX9_strong wsX9_strongBy := goodIn_r _ [7, 8, 9, 10, 11, 12, 13, 14, 15, 16, 17, 18, 19, 6, 20, 21, 22, 23, 24, 25, 26, 27, 28, 2, 29, 30, 31, 32, 33, 34, 35, 36, 37, 38, 39, 40, 41, 42, 43, 44, 45, 46, 47, 48, 49, 50, 51, 52, 53, 54, 55, 56, 57, 58, 59, 60, 61, 62, 63, 64, 65, 66, 67, 68, 69, 70, 71, 72, 73, 74, 75, 76, 77, 78, 79, 80, 81, 82, 83, 84, 85, 86, 87, 88, 89, 90, 91, 92, 93, 94, 95, 96, 97, 98, 99, 100, 101, 102, 103] (by decide +kernel) (by decide +kernel)
set_option maxRecDepth 20000 in
theorem gX9_strong_X9_strongBy : GoodIn wsX9_strong (wsV RX9 457 RX9 yX9_strongBy wsX9_strongBy) := goodIn_app (goodIn_of _ (by decide +kernel)) ggX9_strong_X9_strongBy
theorem dX9_strong_0 : decode cX9_strong 0 = .ok (.aload_n 0, 1) := by decide +kernel
theorem dX9_strong_1 : decode cX9_strong 1 = .ok (.iconst 0, 1) := by decide +kernel
theorem dX9_strong_2 : decode cX9_strong 2 = .ok (.putfield 125, 3) := by decide +kernel
theorem dX9_strong_5 : decode cX9_strong 5 = .ok (.aload_n 0, 1) := by decide +kernel
theorem dX9_strong_6 : decode cX9_strong 6 = .ok (.iload_n 1, 1) := by decide +kernel
theorem dX9_strong_7 : decode cX9_strong 7 = .ok (.aload_n 0, 1) := by decide +kernel
theorem dX9_strong_8 : decode cX9_strong 8 = .ok (.getfield 89, 3) := by decide +kernel
theorem dX9_strong_11 : decode cX9_strong 11 = .ok (.iconst 0, 1) := by decide +kernel
theorem dX9_strong_12 : decode cX9_strong 12 = .ok (.iaload, 1) := by decide +kernel
theorem dX9_strong_13 : decode cX9_strong 13 = .ok (.invokevirtual 457, 3) := by decide +kernel
theorem dX9_strong_16 : decode cX9_strong 16 = .ok (.lreturn, 1) := by decide +kernel
set_option maxRecDepth 20000 in
theorem ggX9_strongest_X9_strongBy : GoodIn wsX9_strongest wsX9_strongBy := goodIn_r _ [8, 3, 9, 10, 11, 12, 13, 14, 15, 16, 17, 18, 19, 7, 20, 21, 22, 23, 24, 25, 26, 27, 28, 2, 29, 30, 31, 32, 33, 34, 35, 36, 37, 38, 39, 40, 41, 42, 43, 44, 45, 46, 47, 48, 49, 50, 51, 52, 53, 54, 55, 56, 57, 58, 59, 60, 61, 62, 63, 64, 65, 66, 67, 68, 69, 70, 71, 72, 73, 74, 75, 76, 77, 78, 79, 80, 81, 82, 83, 84, 85, 86, 87, 88, 89, 90, 91, 92, 93, 94, 95, 96, 97, 98, 99, 100, 101, 102, 103] (by decide +kernel) (by decide +kernel)
set_option maxRecDepth 20000 in
theorem gX9_strongest_X9_strongBy : GoodIn wsX9_strongest (wsV RX9 457 RX9 yX9_strongBy wsX9_strongBy) := goodIn_app (goodIn_of _ (by decide +kernel)) ggX9_strongest_X9_strongBy
theorem dX9_strongest_0 : decode cX9_strongest 0 = .ok (.aload_n 0, 1) := by decide +kernel
theorem dX9_strongest_1 : decode cX9_strongest 1 = .ok (.iconst 0, 1) := by decide +kernel
theorem dX9_strongest_2 : decode cX9_strongest 2 = .ok (.putfield 125, 3) := by decide +kernel
theorem dX9_strongest_5 : decode cX9_strongest 5 = .ok (.iconst (-1), 1) := by decide +kernel
theorem dX9_strongest_6 : decode cX9_strongest 6 = .ok (.istore_n 1, 1) := by decide +kernel
theorem dX9_strongest_7 : decode cX9_strongest 7 = .ok (.lconst 0, 1) := by decide +kernel
theorem dX9_strongest_8 : decode cX9_strongest 8 = .ok (.lstore_n 2, 1) := by decide +kernel
theorem dX9_strongest_9 : decode cX9_strongest 9 = .ok (.iconst 1, 1) := by decide +kernel
theorem dX9_strongest_10 : decode cX9_strongest 10 = .ok (.istore 4, 2) := by decide +kernel
theorem dX9_strongest_12 : decode cX9_strongest 12 = .ok (.iload 4, 2) := by decide +kernel
theorem dX9_strongest_14 : decode cX9_strongest 14 = .ok (.bipush 12, 2) := by decide +kernel
theorem dX9_strongest_16 : decode cX9_strongest 16 = .ok (.if_icmp .gt 57, 3) := by decide +kernel
theorem dX9_strongest_19 : decode cX9_strongest 19 = .ok (.aload_n 0, 1) := by decide +kernel
theorem dX9_strongest_20 : decode cX9_strongest 20 = .ok (.iconst 1, 1) := by decide +kernel
theorem dX9_strongest_21 : decode cX9_strongest 21 = .ok (.iload 4, 2) := by decide +kernel
theorem dX9_strongest_23 : decode cX9_strongest 23 = .ok (.iconst 1, 1) := by decide +kernel
theorem dX9_strongest_24 : decode cX9_strongest 24 = .ok (.isub, 1) := by decide +kernel
theorem dX9_strongest_25 : decode cX9_strongest 25 = .ok (.ishl, 1) := by decide +kernel
theorem dX9_strongest_26 : decode cX9_strongest 26 = .ok (.aload_n 0, 1) := by decide +kernel
theorem dX9_strongest_27 : decode cX9_strongest 27 = .ok (.getfield 89, 3) := by decide +kernel
theorem dX9_strongest_30 : decode cX9_strongest 30 = .ok (.iconst 0, 1) := by decide +kernel
theorem dX9_strongest_31 : decode cX9_strongest 31 = .ok (.iaload, 1) := by decide +kernel
theorem dX9_strongest_32 : decode cX9_strongest 32 = .ok (.invokevirtual 457, 3) := by decide +kernel
theorem dX9_strongest_35 : decode cX9_strongest 35 = .ok (.lstore 5, 2) := by decide +kernel
theorem dX9_strongest_37 : decode cX9_strongest 37 = .ok (.lload 5, 2) := by decide +kernel
theorem dX9_strongest_39 : decode cX9_strongest 39 = .ok (.ldc2_w 408, 3) := by decide +kernel
theorem dX9_strongest_42 : decode cX9_strongest 42 = .ok (.lcmp, 1) := by decide +kernel
theorem dX9_strongest_43 : decode cX9_strongest 43 = .ok (.ifCond .eq 24, 3) := by decide +kernel
theorem dX9_strongest_67 : decode cX9_strongest 67 = .ok (.iinc 4 1, 3) := by decide +kernel
theorem dX9_strongest_70 : decode cX9_strongest 70 = .ok (.goto (-58), 3) := by decide +kernel
theorem dX9_strongest_73 : decode cX9_strongest 73 = .ok (.iload_n 1, 1) := by decide +kernel
theorem dX9_strongest_74 : decode cX9_strongest 74 = .ok (.ireturn, 1) := by decide +kernel
set_option maxRecDepth 20000 in
theorem ggX9_needs_X9_isPush : GoodIn wsX9_needs wsX9_isPush := goodIn_r _ [8, 9, 10, 11, 7, 12] (by decide +kernel) (by decide +kernel)
set_option maxRecDepth 20000 in
theorem gX9_needs_X9_isPush : GoodIn wsX9_needs (va_wsS RX9 430 yX9_isPush wsX9_isPush) := goodIn_app (goodIn_of _ (by decide +kernel)) ggX9_needs_X9_isPush
set_option maxRecDepth 20000 in
theorem ggX9_needs_X9_in : GoodIn wsX9_needs wsX9_in := goodIn_r _ [12] (by decide +kernel) (by decide +kernel)
set_option maxRecDepth 20000 in
theorem gX9_needs_X9_in : GoodIn wsX9_needs (va_wsS RX9 130 yX9_in wsX9_in) := goodIn_app (goodIn_of _ (by decide +kernel)) ggX9_needs_X9_in
theorem dX9_needs_0 : decode cX9_needs 0 = .ok (.aload_n 0, 1) := by decide +kernel
theorem dX9_needs_1 : decode cX9_needs 1 = .ok (.iconst 0, 1) := by decide +kernel
theorem dX9_needs_2 : decode cX9_needs 2 = .ok (.putfield 125, 3) := by decide +kernel
theorem dX9_needs_5 : decode cX9_needs 5 = .ok (.iload_n 1, 1) := by decide +kernel
theorem dX9_needs_6 : decode cX9_needs 6 = .ok (.invokestatic 430, 3) := by decide +kernel
theorem dX9_needs_9 : decode cX9_needs 9 = .ok (.ifCond .eq 15, 3) := by decide +kernel
theorem dX9_needs_12 : decode cX9_needs 12 = .ok (.iload_n 2, 1) := by decide +kernel
theorem dX9_needs_13 : decode cX9_needs 13 = .ok (.i2l, 1) := by decide +kernel
theorem dX9_needs_14 : decode cX9_needs 14 = .ok (.lconst 0, 1) := by decide +kernel
theorem dX9_needs_15 : decode cX9_needs 15 = .ok (.ldc2_w 461, 3) := by decide +kernel
theorem dX9_needs_18 : decode cX9_needs 18 = .ok (.invokestatic 130, 3) := by decide +kernel
theorem dX9_needs_21 : decode cX9_needs 21 = .ok (.ifCond .ne 6, 3) := by decide +kernel
theorem dX9_needs_24 : decode cX9_needs 24 = .ok (.bipush (-2), 2) := by decide +kernel
theorem dX9_needs_26 : decode cX9_needs 26 = .ok (.ireturn, 1) := by decide +kernel
theorem dX9_needs_27 : decode cX9_needs 27 = .ok (.iconst 3, 1) := by decide +kernel
theorem dX9_needs_28 : decode cX9_needs 28 = .ok (.istore_n 3, 1) := by decide +kernel
theorem dX9_needs_29 : decode cX9_needs 29 = .ok (.iload_n 3, 1) := by decide +kernel
theorem dX9_needs_30 : decode cX9_needs 30 = .ok (.aload_n 0, 1) := by decide +kernel
theorem dX9_needs_31 : decode cX9_needs 31 = .ok (.getfield 89, 3) := by decide +kernel
theorem dX9_needs_34 : decode cX9_needs 34 = .ok (.iconst 0, 1) := by decide +kernel
theorem dX9_needs_35 : decode cX9_needs 35 = .ok (.iaload, 1) := by decide +kernel
theorem dX9_needs_36 : decode cX9_needs 36 = .ok (.if_icmp .gt 36, 3) := by decide +kernel
theorem dX9_needs_72 : decode cX9_needs 72 = .ok (.iconst (-1), 1) := by decide +kernel
theorem dX9_needs_73 : decode cX9_needs 73 = .ok (.ireturn, 1) := by decide +kernel
set_option maxRecDepth 20000 in
theorem ggX9_spans_X9_gathers : GoodIn wsX9_spans wsX9_gathers := goodIn_r _ [8, 9, 10, 11, 12, 13, 14, 15, 16, 17, 18, 19, 20, 35, 36, 37, 38, 39, 40, 41, 42, 43, 44, 45, 46, 47, 48, 49, 50, 51, 52, 53, 54, 55, 56, 57, 58, 59, 60, 61, 62, 63, 64, 65, 66, 67, 68, 69, 70, 71, 72, 73, 74, 75, 76, 77, 78, 79, 80, 81, 82, 83, 84, 85, 86, 87, 88, 89, 90, 91, 92, 93, 94] (by decide +kernel) (by decide +kernel)
set_option maxRecDepth 20000 in
theorem gX9_spans_X9_gathers : GoodIn wsX9_spans (wsV RX9 413 RX9 yX9_gathers wsX9_gathers) := goodIn_app (goodIn_of _ (by decide +kernel)) ggX9_spans_X9_gathers
set_option maxRecDepth 20000 in
theorem ggX9_spans_X9_areBoth : GoodIn wsX9_spans wsX9_areBoth := goodIn_r _ [24, 9, 10, 35, 36, 37, 38, 39, 40, 41, 42, 43, 44, 45, 46, 47, 48, 49, 50, 51, 52, 53, 54, 55, 56, 57, 58, 59, 60, 61, 62, 63, 64, 65, 66, 67, 68, 69, 70, 71, 72, 73, 74, 75, 76, 77, 78, 79, 80, 81, 82, 83, 84, 85, 86, 87, 88, 89, 90, 91, 92, 93, 94] (by decide +kernel) (by decide +kernel)
set_option maxRecDepth 20000 in
theorem gX9_spans_X9_areBoth : GoodIn wsX9_spans (wsV RX9 424 RX9 yX9_areBoth wsX9_areBoth) := goodIn_app (goodIn_of _ (by decide +kernel)) ggX9_spans_X9_areBoth
theorem dX9_spans_0 : decode cX9_spans 0 = .ok (.aload_n 0, 1) := by decide +kernel
theorem dX9_spans_1 : decode cX9_spans 1 = .ok (.invokevirtual 413, 3) := by decide +kernel
theorem dX9_spans_4 : decode cX9_spans 4 = .ok (.aload_n 0, 1) := by decide +kernel
theorem dX9_spans_5 : decode cX9_spans 5 = .ok (.invokevirtual 424, 3) := by decide +kernel
theorem dX9_spans_8 : decode cX9_spans 8 = .ok (.ifCond .eq 13, 3) := by decide +kernel
theorem dX9_spans_21 : decode cX9_spans 21 = .ok (.iconst 0, 1) := by decide +kernel
theorem dX9_spans_22 : decode cX9_spans 22 = .ok (.ireturn, 1) := by decide +kernel
set_option maxRecDepth 20000 in
theorem ggX9_usuals_X9_byMoved : GoodIn wsX9_usuals wsX9_byMoved := goodIn_r _ [12, 13, 14, 15, 16, 17, 18, 19, 20, 21, 11, 22, 23, 24, 25, 26, 27, 28, 29, 30, 31, 32, 33, 34, 35, 36, 1, 3, 37, 38, 39, 40, 41, 55, 56, 57, 58, 59, 60, 61, 62, 63, 64, 65, 66, 67, 68, 69, 70, 71, 72, 73, 74, 75, 76, 77, 78, 79, 80, 81, 82, 83, 84, 85, 86, 87, 88, 89, 90, 91, 92, 93, 94, 95, 96, 97, 98, 99, 100, 101, 102, 103, 104, 105, 106, 107, 108, 109, 110, 111, 112, 113, 114] (by decide +kernel) (by decide +kernel)
set_option maxRecDepth 20000 in
theorem gX9_usuals_X9_byMoved : GoodIn wsX9_usuals (wsV RX9 433 RX9 yX9_byMoved wsX9_byMoved) := goodIn_app (goodIn_of _ (by decide +kernel)) ggX9_usuals_X9_byMoved
theorem dX9_usuals_0 : decode cX9_usuals 0 = .ok (.aload_n 0, 1) := by decide +kernel
theorem dX9_usuals_1 : decode cX9_usuals 1 = .ok (.invokevirtual 433, 3) := by decide +kernel
theorem dX9_usuals_4 : decode cX9_usuals 4 = .ok (.lstore_n 2, 1) := by decide +kernel
theorem dX9_usuals_5 : decode cX9_usuals 5 = .ok (.aload_n 0, 1) := by decide +kernel
theorem dX9_usuals_6 : decode cX9_usuals 6 = .ok (.getfield 402, 3) := by decide +kernel
theorem dX9_usuals_9 : decode cX9_usuals 9 = .ok (.ifCond .eq 30, 3) := by decide +kernel
theorem dX9_usuals_39 : decode cX9_usuals 39 = .ok (.iconst 0, 1) := by decide +kernel
theorem dX9_usuals_40 : decode cX9_usuals 40 = .ok (.ireturn, 1) := by decide +kernel
set_option maxRecDepth 20000 in
theorem ggX9_isSpan_X9_isPush : GoodIn wsX9_isSpan wsX9_isPush := goodIn_r _ [5, 6, 7, 8, 4, 9] (by decide +kernel) (by decide +kernel)
set_option maxRecDepth 20000 in
theorem gX9_isSpan_X9_isPush : GoodIn wsX9_isSpan (va_wsS RX9 430 yX9_isPush wsX9_isPush) := goodIn_app (goodIn_of _ (by decide +kernel)) ggX9_isSpan_X9_isPush
set_option maxRecDepth 20000 in
theorem ggX9_isSpan_X9_in : GoodIn wsX9_isSpan wsX9_in := goodIn_r _ [9] (by decide +kernel) (by decide +kernel)
set_option maxRecDepth 20000 in
theorem gX9_isSpan_X9_in : GoodIn wsX9_isSpan (va_wsS RX9 130 yX9_in wsX9_in) := goodIn_app (goodIn_of _ (by decide +kernel)) ggX9_isSpan_X9_in
theorem dX9_isSpan_0 : decode cX9_isSpan 0 = .ok (.iload_n 0, 1) := by decide +kernel
theorem dX9_isSpan_1 : decode cX9_isSpan 1 = .ok (.invokestatic 430, 3) := by decide +kernel
theorem dX9_isSpan_4 : decode cX9_isSpan 4 = .ok (.ifCond .eq 19, 3) := by decide +kernel
theorem dX9_isSpan_7 : decode cX9_isSpan 7 = .ok (.iload_n 1, 1) := by decide +kernel
theorem dX9_isSpan_8 : decode cX9_isSpan 8 = .ok (.i2l, 1) := by decide +kernel
theorem dX9_isSpan_9 : decode cX9_isSpan 9 = .ok (.lconst 1, 1) := by decide +kernel
theorem dX9_isSpan_10 : decode cX9_isSpan 10 = .ok (.ldc2_w 479, 3) := by decide +kernel
theorem dX9_isSpan_13 : decode cX9_isSpan 13 = .ok (.invokestatic 130, 3) := by decide +kernel
theorem dX9_isSpan_16 : decode cX9_isSpan 16 = .ok (.ifCond .eq 7, 3) := by decide +kernel
theorem dX9_isSpan_19 : decode cX9_isSpan 19 = .ok (.iconst 1, 1) := by decide +kernel
theorem dX9_isSpan_20 : decode cX9_isSpan 20 = .ok (.goto 4, 3) := by decide +kernel
theorem dX9_isSpan_23 : decode cX9_isSpan 23 = .ok (.iconst 0, 1) := by decide +kernel
theorem dX9_isSpan_24 : decode cX9_isSpan 24 = .ok (.ireturn, 1) := by decide +kernel
set_option maxRecDepth 20000 in
theorem ggX9_span_X9_isSpan : GoodIn wsX9_span wsX9_isSpan := goodIn_r _ [7, 8, 9, 10, 6, 11, 12, 13, 14, 15] (by decide +kernel) (by decide +kernel)
set_option maxRecDepth 20000 in
theorem gX9_span_X9_isSpan : GoodIn wsX9_span (va_wsS RX9 481 yX9_isSpan wsX9_isSpan) := goodIn_app (goodIn_of _ (by decide +kernel)) ggX9_span_X9_isSpan
set_option maxRecDepth 20000 in
theorem ggX9_span_X9_in : GoodIn wsX9_span wsX9_in := goodIn_r _ [15] (by decide +kernel) (by decide +kernel)
set_option maxRecDepth 20000 in
theorem gX9_span_X9_in : GoodIn wsX9_span (va_wsS RX9 130 yX9_in wsX9_in) := goodIn_app (goodIn_of _ (by decide +kernel)) ggX9_span_X9_in
set_option maxRecDepth 20000 in
theorem ggX9_span_X9_pushes : GoodIn wsX9_span wsX9_pushes := goodIn_r _ [19, 20, 21, 22, 23, 62, 63, 64, 65, 66, 67, 68, 69, 70, 71, 72, 73, 74, 75, 76, 77, 78, 79, 80, 81, 82, 83, 84, 85, 86, 87, 88, 89, 90, 91, 92, 93, 94, 95, 96, 97, 98, 99, 100, 101, 102, 103, 104, 105, 106, 107, 108, 109, 110, 111, 112, 113, 114, 115, 116, 117, 118, 119, 120, 121] (by decide +kernel) (by decide +kernel)
set_option maxRecDepth 20000 in
theorem gX9_span_X9_pushes : GoodIn wsX9_span (wsV RX9 410 RX9 yX9_pushes wsX9_pushes) := goodIn_app (goodIn_of _ (by decide +kernel)) ggX9_span_X9_pushes
set_option maxRecDepth 20000 in
theorem ggX9_span_X9_spans : GoodIn wsX9_span wsX9_spans := goodIn_r _ [27, 20, 28, 29, 30, 31, 32, 6, 33, 34, 35, 36, 37, 38, 39, 40, 41, 23, 42, 43, 21, 44, 45, 46, 47, 48, 49, 50, 51, 52, 53, 54, 55, 56, 57, 62, 63, 64, 65, 66, 67, 68, 69, 70, 71, 72, 73, 74, 75, 76, 77, 78, 79, 80, 81, 82, 83, 84, 85, 86, 87, 88, 89, 90, 91, 92, 93, 94, 95, 96, 97, 98, 99, 100, 101, 102, 103, 104, 105, 106, 107, 108, 109, 110, 111, 112, 113, 114, 115, 116, 117, 118, 119, 120, 121] (by decide +kernel) (by decide +kernel)
set_option maxRecDepth 20000 in
theorem gX9_span_X9_spans : GoodIn wsX9_span (wsV RX9 485 RX9 yX9_spans wsX9_spans) := goodIn_app (goodIn_of _ (by decide +kernel)) ggX9_span_X9_spans
theorem dX9_span_0 : decode cX9_span 0 = .ok (.aload_n 0, 1) := by decide +kernel
theorem dX9_span_1 : decode cX9_span 1 = .ok (.iconst 0, 1) := by decide +kernel
theorem dX9_span_2 : decode cX9_span 2 = .ok (.putfield 125, 3) := by decide +kernel
theorem dX9_span_5 : decode cX9_span 5 = .ok (.iload_n 1, 1) := by decide +kernel
theorem dX9_span_6 : decode cX9_span 6 = .ok (.iload_n 2, 1) := by decide +kernel
theorem dX9_span_7 : decode cX9_span 7 = .ok (.invokestatic 481, 3) := by decide +kernel
theorem dX9_span_10 : decode cX9_span 10 = .ok (.ifCond .eq 15, 3) := by decide +kernel
theorem dX9_span_13 : decode cX9_span 13 = .ok (.iload_n 3, 1) := by decide +kernel
theorem dX9_span_14 : decode cX9_span 14 = .ok (.i2l, 1) := by decide +kernel
theorem dX9_span_15 : decode cX9_span 15 = .ok (.lconst 0, 1) := by decide +kernel
theorem dX9_span_16 : decode cX9_span 16 = .ok (.ldc2_w 128, 3) := by decide +kernel
theorem dX9_span_19 : decode cX9_span 19 = .ok (.invokestatic 130, 3) := by decide +kernel
theorem dX9_span_22 : decode cX9_span 22 = .ok (.ifCond .ne 7, 3) := by decide +kernel
theorem dX9_span_25 : decode cX9_span 25 = .ok (.ldc_w 369, 3) := by decide +kernel
theorem dX9_span_28 : decode cX9_span 28 = .ok (.ireturn, 1) := by decide +kernel
theorem dX9_span_29 : decode cX9_span 29 = .ok (.aload_n 0, 1) := by decide +kernel
theorem dX9_span_30 : decode cX9_span 30 = .ok (.iload_n 1, 1) := by decide +kernel
theorem dX9_span_31 : decode cX9_span 31 = .ok (.invokevirtual 410, 3) := by decide +kernel
theorem dX9_span_34 : decode cX9_span 34 = .ok (.aload_n 0, 1) := by decide +kernel
theorem dX9_span_35 : decode cX9_span 35 = .ok (.iload_n 2, 1) := by decide +kernel
theorem dX9_span_36 : decode cX9_span 36 = .ok (.invokevirtual 485, 3) := by decide +kernel
theorem dX9_span_39 : decode cX9_span 39 = .ok (.ifCond .eq 11, 3) := by decide +kernel
theorem dX9_span_50 : decode cX9_span 50 = .ok (.ldc_w 369, 3) := by decide +kernel
theorem dX9_span_53 : decode cX9_span 53 = .ok (.ireturn, 1) := by decide +kernel
set_option maxRecDepth 20000 in
theorem ggX9_usual_X9_isSpan : GoodIn wsX9_usual wsX9_isSpan := goodIn_r _ [7, 8, 9, 10, 6, 11, 12, 13, 14, 15] (by decide +kernel) (by decide +kernel)
set_option maxRecDepth 20000 in
theorem gX9_usual_X9_isSpan : GoodIn wsX9_usual (va_wsS RX9 481 yX9_isSpan wsX9_isSpan) := goodIn_app (goodIn_of _ (by decide +kernel)) ggX9_usual_X9_isSpan
set_option maxRecDepth 20000 in
theorem ggX9_usual_X9_in : GoodIn wsX9_usual wsX9_in := goodIn_r _ [15] (by decide +kernel) (by decide +kernel)
set_option maxRecDepth 20000 in
theorem gX9_usual_X9_in : GoodIn wsX9_usual (va_wsS RX9 130 yX9_in wsX9_in) := goodIn_app (goodIn_of _ (by decide +kernel)) ggX9_usual_X9_in
set_option maxRecDepth 20000 in
theorem ggX9_usual_X9_pushes : GoodIn wsX9_usual wsX9_pushes := goodIn_r _ [19, 20, 21, 22, 23, 79, 80, 81, 82, 83, 84, 85, 86, 87, 88, 89, 90, 91, 92, 93, 94, 95, 96, 97, 98, 99, 100, 101, 102, 103, 104, 105, 106, 107, 108, 109, 110, 111, 112, 113, 114, 115, 116, 117, 118, 119, 120, 121, 122, 123, 124, 125, 126, 127, 128, 129, 130, 131, 132, 133, 134, 135, 136, 137, 138] (by decide +kernel) (by decide +kernel)
set_option maxRecDepth 20000 in
theorem gX9_usual_X9_pushes : GoodIn wsX9_usual (wsV RX9 410 RX9 yX9_pushes wsX9_pushes) := goodIn_app (goodIn_of _ (by decide +kernel)) ggX9_usual_X9_pushes
set_option maxRecDepth 20000 in
theorem ggX9_usual_X9_usuals : GoodIn wsX9_usual wsX9_usuals := goodIn_r _ [27, 28, 20, 29, 30, 31, 32, 33, 34, 35, 36, 6, 37, 38, 39, 40, 41, 42, 43, 44, 45, 46, 47, 48, 49, 23, 50, 51, 21, 52, 53, 54, 55, 56, 57, 58, 59, 60, 61, 62, 63, 64, 13, 14, 15, 65, 66, 67, 68, 69, 70, 71, 72, 73, 74, 79, 80, 81, 82, 83, 84, 85, 86, 87, 88, 89, 90, 91, 92, 93, 94, 95, 96, 97, 98, 99, 100, 101, 102, 103, 104, 105, 106, 107, 108, 109, 110, 111, 112, 113, 114, 115, 116, 117, 118, 119, 120, 121, 122, 123, 124, 125, 126, 127, 128, 129, 130, 131, 132, 133, 134, 135, 136, 137, 138] (by decide +kernel) (by decide +kernel)
set_option maxRecDepth 20000 in
theorem gX9_usual_X9_usuals : GoodIn wsX9_usual (wsV RX9 491 RX9 yX9_usuals wsX9_usuals) := goodIn_app (goodIn_of _ (by decide +kernel)) ggX9_usual_X9_usuals
theorem dX9_usual_0 : decode cX9_usual 0 = .ok (.aload_n 0, 1) := by decide +kernel
theorem dX9_usual_1 : decode cX9_usual 1 = .ok (.iconst 0, 1) := by decide +kernel
theorem dX9_usual_2 : decode cX9_usual 2 = .ok (.putfield 125, 3) := by decide +kernel
theorem dX9_usual_5 : decode cX9_usual 5 = .ok (.iload_n 1, 1) := by decide +kernel
theorem dX9_usual_6 : decode cX9_usual 6 = .ok (.iload_n 2, 1) := by decide +kernel
theorem dX9_usual_7 : decode cX9_usual 7 = .ok (.invokestatic 481, 3) := by decide +kernel
theorem dX9_usual_10 : decode cX9_usual 10 = .ok (.ifCond .eq 15, 3) := by decide +kernel
theorem dX9_usual_13 : decode cX9_usual 13 = .ok (.iload_n 3, 1) := by decide +kernel
theorem dX9_usual_14 : decode cX9_usual 14 = .ok (.i2l, 1) := by decide +kernel
theorem dX9_usual_15 : decode cX9_usual 15 = .ok (.lconst 0, 1) := by decide +kernel
theorem dX9_usual_16 : decode cX9_usual 16 = .ok (.ldc2_w 128, 3) := by decide +kernel
theorem dX9_usual_19 : decode cX9_usual 19 = .ok (.invokestatic 130, 3) := by decide +kernel
theorem dX9_usual_22 : decode cX9_usual 22 = .ok (.ifCond .ne 7, 3) := by decide +kernel
theorem dX9_usual_25 : decode cX9_usual 25 = .ok (.ldc_w 369, 3) := by decide +kernel
theorem dX9_usual_28 : decode cX9_usual 28 = .ok (.ireturn, 1) := by decide +kernel
theorem dX9_usual_29 : decode cX9_usual 29 = .ok (.aload_n 0, 1) := by decide +kernel
theorem dX9_usual_30 : decode cX9_usual 30 = .ok (.iload_n 1, 1) := by decide +kernel
theorem dX9_usual_31 : decode cX9_usual 31 = .ok (.invokevirtual 410, 3) := by decide +kernel
theorem dX9_usual_34 : decode cX9_usual 34 = .ok (.aload_n 0, 1) := by decide +kernel
theorem dX9_usual_35 : decode cX9_usual 35 = .ok (.iload_n 2, 1) := by decide +kernel
theorem dX9_usual_36 : decode cX9_usual 36 = .ok (.invokevirtual 491, 3) := by decide +kernel
theorem dX9_usual_39 : decode cX9_usual 39 = .ok (.ifCond .eq 11, 3) := by decide +kernel
theorem dX9_usual_50 : decode cX9_usual 50 = .ok (.ldc_w 369, 3) := by decide +kernel
theorem dX9_usual_53 : decode cX9_usual 53 = .ok (.ireturn, 1) := by decide +kernel
set_option maxRecDepth 20000 in
theorem ggX9_kept_X9_isSpan : GoodIn wsX9_kept wsX9_isSpan := goodIn_r _ [8, 9, 10, 11, 7, 12, 13, 14, 15, 16] (by decide +kernel) (by decide +kernel)
set_option maxRecDepth 20000 in
theorem gX9_kept_X9_isSpan : GoodIn wsX9_kept (va_wsS RX9 481 yX9_isSpan wsX9_isSpan) := goodIn_app (goodIn_of _ (by decide +kernel)) ggX9_kept_X9_isSpan
set_option maxRecDepth 20000 in
theorem ggX9_kept_X9_in : GoodIn wsX9_kept wsX9_in := goodIn_r _ [16] (by decide +kernel) (by decide +kernel)
set_option maxRecDepth 20000 in
theorem gX9_kept_X9_in : GoodIn wsX9_kept (va_wsS RX9 130 yX9_in wsX9_in) := goodIn_app (goodIn_of _ (by decide +kernel)) ggX9_kept_X9_in
set_option maxRecDepth 20000 in
theorem ggX9_kept_X9_pushes : GoodIn wsX9_kept wsX9_pushes := goodIn_r _ [20, 21, 22, 23, 24, 58, 59, 60, 61, 62, 63, 64, 65, 66, 67, 68, 69, 70, 71, 72, 73, 74, 75, 76, 77, 78, 79, 80, 81, 82, 83, 84, 85, 86, 87, 88, 89, 90, 91, 92, 93, 94, 95, 96, 97, 98, 99, 100, 101, 102, 103, 104, 105, 106, 107, 108, 109, 110, 111, 112, 113, 114, 115, 116, 117] (by decide +kernel) (by decide +kernel)
set_option maxRecDepth 20000 in
theorem gX9_kept_X9_pushes : GoodIn wsX9_kept (wsV RX9 410 RX9 yX9_pushes wsX9_pushes) := goodIn_app (goodIn_of _ (by decide +kernel)) ggX9_kept_X9_pushes
set_option maxRecDepth 20000 in
theorem ggX9_kept_X9_spans : GoodIn wsX9_kept wsX9_spans := goodIn_r _ [28, 21, 4, 29, 30, 31, 32, 7, 33, 34, 35, 36, 37, 38, 39, 40, 41, 24, 42, 43, 22, 44, 45, 46, 47, 48, 49, 50, 51, 52, 53, 54, 55, 56, 57, 58, 59, 60, 61, 62, 63, 64, 65, 66, 67, 68, 69, 70, 71, 72, 73, 74, 75, 76, 77, 78, 79, 80, 81, 82, 83, 84, 85, 86, 87, 88, 89, 90, 91, 92, 93, 94, 95, 96, 97, 98, 99, 100, 101, 102, 103, 104, 105, 106, 107, 108, 109, 110, 111, 112, 113, 114, 115, 116, 117] (by decide +kernel) (by decide +kernel)
set_option maxRecDepth 20000 in
theorem gX9_kept_X9_spans : GoodIn wsX9_kept (wsV RX9 485 RX9 yX9_spans wsX9_spans) := goodIn_app (goodIn_of _ (by decide +kernel)) ggX9_kept_X9_spans
theorem dX9_kept_0 : decode cX9_kept 0 = .ok (.aload_n 0, 1) := by decide +kernel
theorem dX9_kept_1 : decode cX9_kept 1 = .ok (.iconst 0, 1) := by decide +kernel
theorem dX9_kept_2 : decode cX9_kept 2 = .ok (.putfield 125, 3) := by decide +kernel
theorem dX9_kept_5 : decode cX9_kept 5 = .ok (.iload_n 1, 1) := by decide +kernel
theorem dX9_kept_6 : decode cX9_kept 6 = .ok (.iload_n 2, 1) := by decide +kernel
theorem dX9_kept_7 : decode cX9_kept 7 = .ok (.invokestatic 481, 3) := by decide +kernel
theorem dX9_kept_10 : decode cX9_kept 10 = .ok (.ifCond .eq 17, 3) := by decide +kernel
theorem dX9_kept_13 : decode cX9_kept 13 = .ok (.iload_n 3, 1) := by decide +kernel
theorem dX9_kept_14 : decode cX9_kept 14 = .ok (.i2l, 1) := by decide +kernel
theorem dX9_kept_15 : decode cX9_kept 15 = .ok (.ldc2_w 475, 3) := by decide +kernel
theorem dX9_kept_18 : decode cX9_kept 18 = .ok (.ldc2_w 477, 3) := by decide +kernel
theorem dX9_kept_21 : decode cX9_kept 21 = .ok (.invokestatic 130, 3) := by decide +kernel
theorem dX9_kept_24 : decode cX9_kept 24 = .ok (.ifCond .ne 6, 3) := by decide +kernel
theorem dX9_kept_27 : decode cX9_kept 27 = .ok (.bipush (-2), 2) := by decide +kernel
theorem dX9_kept_29 : decode cX9_kept 29 = .ok (.ireturn, 1) := by decide +kernel
theorem dX9_kept_30 : decode cX9_kept 30 = .ok (.aload_n 0, 1) := by decide +kernel
theorem dX9_kept_31 : decode cX9_kept 31 = .ok (.iload_n 1, 1) := by decide +kernel
theorem dX9_kept_32 : decode cX9_kept 32 = .ok (.invokevirtual 410, 3) := by decide +kernel
theorem dX9_kept_35 : decode cX9_kept 35 = .ok (.aload_n 0, 1) := by decide +kernel
theorem dX9_kept_36 : decode cX9_kept 36 = .ok (.iload_n 2, 1) := by decide +kernel
theorem dX9_kept_37 : decode cX9_kept 37 = .ok (.invokevirtual 485, 3) := by decide +kernel
theorem dX9_kept_40 : decode cX9_kept 40 = .ok (.ifCond .ne 8, 3) := by decide +kernel
theorem dX9_kept_43 : decode cX9_kept 43 = .ok (.bipush (-2), 2) := by decide +kernel
theorem dX9_kept_45 : decode cX9_kept 45 = .ok (.goto 20, 3) := by decide +kernel
theorem dX9_kept_65 : decode cX9_kept 65 = .ok (.ireturn, 1) := by decide +kernel
set_option maxRecDepth 20000 in
theorem ggX9_hats_X9_isSeed : GoodIn wsX9_hats wsX9_isSeed := goodIn_r _ [17, 18, 19, 20, 16, 21] (by decide +kernel) (by decide +kernel)
set_option maxRecDepth 20000 in
theorem gX9_hats_X9_isSeed : GoodIn wsX9_hats (va_wsS RX9 347 yX9_isSeed wsX9_isSeed) := goodIn_app (goodIn_of _ (by decide +kernel)) ggX9_hats_X9_isSeed
set_option maxRecDepth 20000 in
theorem ggX9_hats_X9_in : GoodIn wsX9_hats wsX9_in := goodIn_r _ [21] (by decide +kernel) (by decide +kernel)
set_option maxRecDepth 20000 in
theorem gX9_hats_X9_in : GoodIn wsX9_hats (va_wsS RX9 130 yX9_in wsX9_in) := goodIn_app (goodIn_of _ (by decide +kernel)) ggX9_hats_X9_in
set_option maxRecDepth 20000 in
theorem ggX9_hats_X9_plainOf : GoodIn wsX9_hats wsX9_plainOf := goodIn_r _ [25, 26, 27, 28, 29, 30, 31, 32, 33, 16, 34, 8, 9, 35, 10, 36, 37, 38, 39, 40, 41, 42, 43, 44, 45, 46, 47, 48, 5, 13, 49, 86, 87, 88, 89, 90, 91, 92, 93, 94, 95, 96, 97, 98, 99, 100, 101, 102, 103, 104, 105, 106, 107, 108, 109, 110, 111, 112, 113, 114, 115, 116, 117, 118, 119, 120, 121, 122, 123, 124, 125, 126, 127, 128, 129, 130, 131, 132, 133, 134, 135, 136, 137, 138, 139, 140, 141, 142, 143, 144, 145] (by decide +kernel) (by decide +kernel)
set_option maxRecDepth 20000 in
theorem gX9_hats_X9_plainOf : GoodIn wsX9_hats (wsV RX9 420 RX9 yX9_plainOf wsX9_plainOf) := goodIn_app (goodIn_of _ (by decide +kernel)) ggX9_hats_X9_plainOf
set_option maxRecDepth 20000 in
theorem ggX9_hats_X9_byMoved : GoodIn wsX9_hats wsX9_byMoved := goodIn_r _ [61, 42, 26, 29, 40, 41, 28, 36, 37, 38, 16, 39, 30, 27, 10, 43, 44, 9, 62, 63, 64, 65, 45, 46, 47, 48, 5, 13, 49, 66, 67, 68, 69, 86, 87, 88, 89, 90, 91, 92, 93, 94, 95, 96, 97, 98, 99, 100, 101, 102, 103, 104, 105, 106, 107, 108, 109, 110, 111, 112, 113, 114, 115, 116, 117, 118, 119, 120, 121, 122, 123, 124, 125, 126, 127, 128, 129, 130, 131, 132, 133, 134, 135, 136, 137, 138, 139, 140, 141, 142, 143, 144, 145] (by decide +kernel) (by decide +kernel)
set_option maxRecDepth 20000 in
theorem gX9_hats_X9_byMoved : GoodIn wsX9_hats (wsV RX9 433 RX9 yX9_byMoved wsX9_byMoved) := goodIn_app (goodIn_of _ (by decide +kernel)) ggX9_hats_X9_byMoved
set_option maxRecDepth 20000 in
theorem ggX9_hats_X9_usuals : GoodIn wsX9_hats wsX9_usuals := goodIn_r _ [73, 5, 8, 13, 74, 75, 11, 76, 58, 59, 60, 16, 61, 42, 26, 29, 40, 41, 28, 36, 37, 38, 39, 30, 27, 10, 43, 44, 9, 62, 63, 64, 65, 45, 46, 47, 48, 49, 66, 67, 68, 69, 19, 20, 21, 77, 78, 79, 80, 81, 82, 83, 84, 85, 4, 86, 87, 88, 89, 90, 91, 92, 93, 94, 95, 96, 97, 98, 99, 100, 101, 102, 103, 104, 105, 106, 107, 108, 109, 110, 111, 112, 113, 114, 115, 116, 117, 118, 119, 120, 121, 122, 123, 124, 125, 126, 127, 128, 129, 130, 131, 132, 133, 134, 135, 136, 137, 138, 139, 140, 141, 142, 143, 144, 145] (by decide +kernel) (by decide +kernel)
set_option maxRecDepth 20000 in
theorem gX9_hats_X9_usuals : GoodIn wsX9_hats (wsV RX9 491 RX9 yX9_usuals wsX9_usuals) := goodIn_app (goodIn_of _ (by decide +kernel)) ggX9_hats_X9_usuals
theorem dX9_hats_0 : decode cX9_hats 0 = .ok (.aload_n 0, 1) := by decide +kernel
theorem dX9_hats_1 : decode cX9_hats 1 = .ok (.iconst 0, 1) := by decide +kernel
theorem dX9_hats_2 : decode cX9_hats 2 = .ok (.putfield 125, 3) := by decide +kernel
theorem dX9_hats_5 : decode cX9_hats 5 = .ok (.iload_n 1, 1) := by decide +kernel
theorem dX9_hats_6 : decode cX9_hats 6 = .ok (.invokestatic 347, 3) := by decide +kernel
theorem dX9_hats_9 : decode cX9_hats 9 = .ok (.ifCond .eq 40, 3) := by decide +kernel
theorem dX9_hats_12 : decode cX9_hats 12 = .ok (.iload_n 2, 1) := by decide +kernel
theorem dX9_hats_13 : decode cX9_hats 13 = .ok (.i2l, 1) := by decide +kernel
theorem dX9_hats_14 : decode cX9_hats 14 = .ok (.lconst 1, 1) := by decide +kernel
theorem dX9_hats_15 : decode cX9_hats 15 = .ok (.ldc2_w 494, 3) := by decide +kernel
theorem dX9_hats_18 : decode cX9_hats 18 = .ok (.invokestatic 130, 3) := by decide +kernel
theorem dX9_hats_21 : decode cX9_hats 21 = .ok (.ifCond .eq 28, 3) := by decide +kernel
theorem dX9_hats_24 : decode cX9_hats 24 = .ok (.iload_n 3, 1) := by decide +kernel
theorem dX9_hats_25 : decode cX9_hats 25 = .ok (.i2l, 1) := by decide +kernel
theorem dX9_hats_26 : decode cX9_hats 26 = .ok (.lconst 1, 1) := by decide +kernel
theorem dX9_hats_27 : decode cX9_hats 27 = .ok (.ldc2_w 479, 3) := by decide +kernel
theorem dX9_hats_30 : decode cX9_hats 30 = .ok (.invokestatic 130, 3) := by decide +kernel
theorem dX9_hats_33 : decode cX9_hats 33 = .ok (.ifCond .eq 16, 3) := by decide +kernel
theorem dX9_hats_36 : decode cX9_hats 36 = .ok (.iload 4, 2) := by decide +kernel
theorem dX9_hats_38 : decode cX9_hats 38 = .ok (.i2l, 1) := by decide +kernel
theorem dX9_hats_39 : decode cX9_hats 39 = .ok (.lconst 0, 1) := by decide +kernel
theorem dX9_hats_40 : decode cX9_hats 40 = .ok (.ldc2_w 455, 3) := by decide +kernel
theorem dX9_hats_43 : decode cX9_hats 43 = .ok (.invokestatic 130, 3) := by decide +kernel
theorem dX9_hats_46 : decode cX9_hats 46 = .ok (.ifCond .ne 6, 3) := by decide +kernel
theorem dX9_hats_49 : decode cX9_hats 49 = .ok (.bipush (-2), 2) := by decide +kernel
theorem dX9_hats_51 : decode cX9_hats 51 = .ok (.ireturn, 1) := by decide +kernel
theorem dX9_hats_52 : decode cX9_hats 52 = .ok (.aload_n 0, 1) := by decide +kernel
theorem dX9_hats_53 : decode cX9_hats 53 = .ok (.invokevirtual 420, 3) := by decide +kernel
theorem dX9_hats_56 : decode cX9_hats 56 = .ok (.lstore 5, 2) := by decide +kernel
theorem dX9_hats_58 : decode cX9_hats 58 = .ok (.iload 4, 2) := by decide +kernel
theorem dX9_hats_60 : decode cX9_hats 60 = .ok (.iconst 1, 1) := by decide +kernel
theorem dX9_hats_61 : decode cX9_hats 61 = .ok (.if_icmp .ne 14, 3) := by decide +kernel
theorem dX9_hats_64 : decode cX9_hats 64 = .ok (.aload_n 0, 1) := by decide +kernel
theorem dX9_hats_65 : decode cX9_hats 65 = .ok (.getfield 402, 3) := by decide +kernel
theorem dX9_hats_68 : decode cX9_hats 68 = .ok (.ifCond .ne 7, 3) := by decide +kernel
theorem dX9_hats_71 : decode cX9_hats 71 = .ok (.ldc_w 369, 3) := by decide +kernel
theorem dX9_hats_74 : decode cX9_hats 74 = .ok (.ireturn, 1) := by decide +kernel
theorem dX9_hats_75 : decode cX9_hats 75 = .ok (.aload_n 0, 1) := by decide +kernel
theorem dX9_hats_76 : decode cX9_hats 76 = .ok (.iload_n 1, 1) := by decide +kernel
theorem dX9_hats_77 : decode cX9_hats 77 = .ok (.i2l, 1) := by decide +kernel
theorem dX9_hats_78 : decode cX9_hats 78 = .ok (.putfield 328, 3) := by decide +kernel
theorem dX9_hats_81 : decode cX9_hats 81 = .ok (.iconst 0, 1) := by decide +kernel
theorem dX9_hats_82 : decode cX9_hats 82 = .ok (.istore 7, 2) := by decide +kernel
theorem dX9_hats_84 : decode cX9_hats 84 = .ok (.iconst 0, 1) := by decide +kernel
theorem dX9_hats_85 : decode cX9_hats 85 = .ok (.istore 8, 2) := by decide +kernel
theorem dX9_hats_87 : decode cX9_hats 87 = .ok (.iload 8, 2) := by decide +kernel
theorem dX9_hats_89 : decode cX9_hats 89 = .ok (.iload_n 2, 1) := by decide +kernel
theorem dX9_hats_90 : decode cX9_hats 90 = .ok (.if_icmp .ge 142, 3) := by decide +kernel
theorem dX9_hats_93 : decode cX9_hats 93 = .ok (.iconst 0, 1) := by decide +kernel
theorem dX9_hats_94 : decode cX9_hats 94 = .ok (.istore 9, 2) := by decide +kernel
theorem dX9_hats_96 : decode cX9_hats 96 = .ok (.iload 9, 2) := by decide +kernel
theorem dX9_hats_98 : decode cX9_hats 98 = .ok (.aload_n 0, 1) := by decide +kernel
theorem dX9_hats_99 : decode cX9_hats 99 = .ok (.getfield 89, 3) := by decide +kernel
theorem dX9_hats_102 : decode cX9_hats 102 = .ok (.iconst 0, 1) := by decide +kernel
theorem dX9_hats_103 : decode cX9_hats 103 = .ok (.iaload, 1) := by decide +kernel
theorem dX9_hats_104 : decode cX9_hats 104 = .ok (.if_icmp .ge 30, 3) := by decide +kernel
theorem dX9_hats_134 : decode cX9_hats 134 = .ok (.aload_n 0, 1) := by decide +kernel
theorem dX9_hats_135 : decode cX9_hats 135 = .ok (.aload_n 0, 1) := by decide +kernel
theorem dX9_hats_136 : decode cX9_hats 136 = .ok (.getfield 89, 3) := by decide +kernel
theorem dX9_hats_139 : decode cX9_hats 139 = .ok (.iconst 0, 1) := by decide +kernel
theorem dX9_hats_140 : decode cX9_hats 140 = .ok (.iaload, 1) := by decide +kernel
theorem dX9_hats_141 : decode cX9_hats 141 = .ok (.putfield 375, 3) := by decide +kernel
theorem dX9_hats_144 : decode cX9_hats 144 = .ok (.aload_n 0, 1) := by decide +kernel
theorem dX9_hats_145 : decode cX9_hats 145 = .ok (.invokevirtual 433, 3) := by decide +kernel
theorem dX9_hats_148 : decode cX9_hats 148 = .ok (.lstore 9, 2) := by decide +kernel
theorem dX9_hats_150 : decode cX9_hats 150 = .ok (.iload 4, 2) := by decide +kernel
theorem dX9_hats_152 : decode cX9_hats 152 = .ok (.iconst 2, 1) := by decide +kernel
theorem dX9_hats_153 : decode cX9_hats 153 = .ok (.if_icmp .ne 34, 3) := by decide +kernel
theorem dX9_hats_156 : decode cX9_hats 156 = .ok (.iload 7, 2) := by decide +kernel
theorem dX9_hats_158 : decode cX9_hats 158 = .ok (.aload_n 0, 1) := by decide +kernel
theorem dX9_hats_159 : decode cX9_hats 159 = .ok (.iload_n 3, 1) := by decide +kernel
theorem dX9_hats_160 : decode cX9_hats 160 = .ok (.invokevirtual 491, 3) := by decide +kernel
theorem dX9_hats_163 : decode cX9_hats 163 = .ok (.ifCond .eq 17, 3) := by decide +kernel
theorem dX9_hats_180 : decode cX9_hats 180 = .ok (.iconst 0, 1) := by decide +kernel
theorem dX9_hats_181 : decode cX9_hats 181 = .ok (.iadd, 1) := by decide +kernel
theorem dX9_hats_182 : decode cX9_hats 182 = .ok (.istore 7, 2) := by decide +kernel
theorem dX9_hats_184 : decode cX9_hats 184 = .ok (.goto 42, 3) := by decide +kernel
theorem dX9_hats_187 : decode cX9_hats 187 = .ok (.iload 7, 2) := by decide +kernel
theorem dX9_hats_189 : decode cX9_hats 189 = .ok (.aload_n 0, 1) := by decide +kernel
theorem dX9_hats_190 : decode cX9_hats 190 = .ok (.getfield 402, 3) := by decide +kernel
theorem dX9_hats_193 : decode cX9_hats 193 = .ok (.ifCond .eq 29, 3) := by decide +kernel
theorem dX9_hats_222 : decode cX9_hats 222 = .ok (.iconst 0, 1) := by decide +kernel
theorem dX9_hats_223 : decode cX9_hats 223 = .ok (.iadd, 1) := by decide +kernel
theorem dX9_hats_224 : decode cX9_hats 224 = .ok (.istore 7, 2) := by decide +kernel
theorem dX9_hats_226 : decode cX9_hats 226 = .ok (.iinc 8 1, 3) := by decide +kernel
theorem dX9_hats_229 : decode cX9_hats 229 = .ok (.goto (-142), 3) := by decide +kernel
theorem dX9_hats_232 : decode cX9_hats 232 = .ok (.iload 7, 2) := by decide +kernel
theorem dX9_hats_234 : decode cX9_hats 234 = .ok (.ireturn, 1) := by decide +kernel
set_option maxRecDepth 20000 in
theorem ggX9_whom_X9_in : GoodIn wsX9_whom wsX9_in := goodIn_r _ [6] (by decide +kernel) (by decide +kernel)
set_option maxRecDepth 20000 in
theorem gX9_whom_X9_in : GoodIn wsX9_whom (va_wsS RX9 130 yX9_in wsX9_in) := goodIn_app (goodIn_of _ (by decide +kernel)) ggX9_whom_X9_in
theorem dX9_whom_0 : decode cX9_whom 0 = .ok (.aload_n 0, 1) := by decide +kernel
theorem dX9_whom_1 : decode cX9_whom 1 = .ok (.iconst 0, 1) := by decide +kernel
theorem dX9_whom_2 : decode cX9_whom 2 = .ok (.putfield 125, 3) := by decide +kernel
theorem dX9_whom_5 : decode cX9_whom 5 = .ok (.iload_n 1, 1) := by decide +kernel
theorem dX9_whom_6 : decode cX9_whom 6 = .ok (.i2l, 1) := by decide +kernel
theorem dX9_whom_7 : decode cX9_whom 7 = .ok (.lconst 0, 1) := by decide +kernel
theorem dX9_whom_8 : decode cX9_whom 8 = .ok (.lconst 1, 1) := by decide +kernel
theorem dX9_whom_9 : decode cX9_whom 9 = .ok (.invokestatic 130, 3) := by decide +kernel
theorem dX9_whom_12 : decode cX9_whom 12 = .ok (.ifCond .ne 5, 3) := by decide +kernel
theorem dX9_whom_15 : decode cX9_whom 15 = .ok (.iconst (-1), 1) := by decide +kernel
theorem dX9_whom_16 : decode cX9_whom 16 = .ok (.ireturn, 1) := by decide +kernel
theorem dX9_whom_17 : decode cX9_whom 17 = .ok (.iconst 0, 1) := by decide +kernel
theorem dX9_whom_18 : decode cX9_whom 18 = .ok (.istore_n 2, 1) := by decide +kernel
theorem dX9_whom_19 : decode cX9_whom 19 = .ok (.iconst 0, 1) := by decide +kernel
theorem dX9_whom_20 : decode cX9_whom 20 = .ok (.istore_n 3, 1) := by decide +kernel
theorem dX9_whom_21 : decode cX9_whom 21 = .ok (.iload_n 3, 1) := by decide +kernel
theorem dX9_whom_22 : decode cX9_whom 22 = .ok (.aload_n 0, 1) := by decide +kernel
theorem dX9_whom_23 : decode cX9_whom 23 = .ok (.getfield 89, 3) := by decide +kernel
theorem dX9_whom_26 : decode cX9_whom 26 = .ok (.iconst 0, 1) := by decide +kernel
theorem dX9_whom_27 : decode cX9_whom 27 = .ok (.iaload, 1) := by decide +kernel
theorem dX9_whom_28 : decode cX9_whom 28 = .ok (.if_icmp .ge 37, 3) := by decide +kernel
theorem dX9_whom_65 : decode cX9_whom 65 = .ok (.iload_n 2, 1) := by decide +kernel
theorem dX9_whom_66 : decode cX9_whom 66 = .ok (.ireturn, 1) := by decide +kernel
set_option maxRecDepth 20000 in
theorem ggX9_truthOf_X9_ratio : GoodIn wsX9_truthOf wsX9_ratio := goodIn_r _ [65, 40, 66, 41, 67, 68, 69, 70, 71, 72, 73, 74, 75, 76, 77, 78, 79, 80, 81, 82, 83, 84, 85, 86, 87, 88, 89, 90, 91, 92, 93, 94, 95, 96, 97, 98, 99, 100, 101, 102, 103, 104, 105, 106, 107, 108, 109, 110, 111, 112, 113, 114, 115, 116, 117, 118, 119, 120, 121, 122, 123, 124, 125, 126] (by decide +kernel) (by decide +kernel)
set_option maxRecDepth 20000 in
theorem gX9_truthOf_X9_ratio : GoodIn wsX9_truthOf (wsV RX9 416 RX9 yX9_ratio wsX9_ratio) := goodIn_app (goodIn_of _ (by decide +kernel)) ggX9_truthOf_X9_ratio
theorem dX9_truthOf_0 : decode cX9_truthOf 0 = .ok (.lconst 0, 1) := by decide +kernel
theorem dX9_truthOf_1 : decode cX9_truthOf 1 = .ok (.lstore_n 2, 1) := by decide +kernel
theorem dX9_truthOf_2 : decode cX9_truthOf 2 = .ok (.lconst 0, 1) := by decide +kernel
theorem dX9_truthOf_3 : decode cX9_truthOf 3 = .ok (.lstore 4, 2) := by decide +kernel
theorem dX9_truthOf_5 : decode cX9_truthOf 5 = .ok (.iconst 0, 1) := by decide +kernel
theorem dX9_truthOf_6 : decode cX9_truthOf 6 = .ok (.istore 6, 2) := by decide +kernel
theorem dX9_truthOf_8 : decode cX9_truthOf 8 = .ok (.iload 6, 2) := by decide +kernel
theorem dX9_truthOf_10 : decode cX9_truthOf 10 = .ok (.aload_n 0, 1) := by decide +kernel
theorem dX9_truthOf_11 : decode cX9_truthOf 11 = .ok (.getfield 89, 3) := by decide +kernel
theorem dX9_truthOf_14 : decode cX9_truthOf 14 = .ok (.iconst 0, 1) := by decide +kernel
theorem dX9_truthOf_15 : decode cX9_truthOf 15 = .ok (.iaload, 1) := by decide +kernel
theorem dX9_truthOf_16 : decode cX9_truthOf 16 = .ok (.if_icmp .ge 55, 3) := by decide +kernel
theorem dX9_truthOf_71 : decode cX9_truthOf 71 = .ok (.aload_n 0, 1) := by decide +kernel
theorem dX9_truthOf_72 : decode cX9_truthOf 72 = .ok (.lload_n 2, 1) := by decide +kernel
theorem dX9_truthOf_73 : decode cX9_truthOf 73 = .ok (.lload 4, 2) := by decide +kernel
theorem dX9_truthOf_75 : decode cX9_truthOf 75 = .ok (.invokevirtual 416, 3) := by decide +kernel
theorem dX9_truthOf_78 : decode cX9_truthOf 78 = .ok (.lreturn, 1) := by decide +kernel
set_option maxRecDepth 20000 in
theorem ggX9_truth_X9_truthOf : GoodIn wsX9_truth wsX9_truthOf := goodIn_r _ [6, 7, 8, 9, 10, 5, 11, 12, 13, 14, 15, 16, 17, 18, 19, 20, 21, 22, 23, 24, 25, 26, 27, 28, 29, 30, 31, 32, 33, 34, 35, 36, 37, 38, 39, 40, 41, 42, 43, 44, 45, 46, 47, 48, 49, 50, 51, 52, 53, 54, 55, 56, 57, 58, 59, 60, 61, 62, 63, 64, 65, 66, 67, 68, 69, 70, 71, 72, 73, 74, 75, 76, 77, 78, 79, 80, 81, 82, 83, 84, 85, 86, 87, 88, 89, 90, 91, 92, 93, 94, 95, 96, 97, 98, 99, 100, 101, 102, 103, 104, 105, 106, 107, 108, 109, 110, 111, 112, 113, 114, 115, 116, 117, 118, 119, 120, 121, 122, 123, 124, 125, 126, 127, 128, 129, 130, 131] (by decide +kernel) (by decide +kernel)
set_option maxRecDepth 20000 in
theorem gX9_truth_X9_truthOf : GoodIn wsX9_truth (wsV RX9 498 RX9 yX9_truthOf wsX9_truthOf) := goodIn_app (goodIn_of _ (by decide +kernel)) ggX9_truth_X9_truthOf
theorem dX9_truth_0 : decode cX9_truth 0 = .ok (.aload_n 0, 1) := by decide +kernel
theorem dX9_truth_1 : decode cX9_truth 1 = .ok (.iconst 0, 1) := by decide +kernel
theorem dX9_truth_2 : decode cX9_truth 2 = .ok (.putfield 125, 3) := by decide +kernel
theorem dX9_truth_5 : decode cX9_truth 5 = .ok (.aload_n 0, 1) := by decide +kernel
theorem dX9_truth_6 : decode cX9_truth 6 = .ok (.iload_n 1, 1) := by decide +kernel
theorem dX9_truth_7 : decode cX9_truth 7 = .ok (.invokevirtual 498, 3) := by decide +kernel
theorem dX9_truth_10 : decode cX9_truth 10 = .ok (.lreturn, 1) := by decide +kernel
set_option maxRecDepth 20000 in
theorem ggX9_leansBy_X9_plainOf : GoodIn wsX9_leansBy wsX9_plainOf := goodIn_r _ [7, 8, 9, 10, 11, 12, 13, 14, 15, 6, 16, 17, 18, 19, 20, 21, 22, 23, 24, 25, 26, 27, 28, 29, 30, 31, 32, 33, 1, 34, 2, 121, 122, 123, 124, 125, 126, 127, 128, 129, 130, 131, 132, 133, 134, 135, 136, 137, 138, 139, 140, 141, 142, 143, 144, 145, 146, 147, 148, 149, 150, 151, 152, 153, 154, 155, 156, 157, 158, 159, 160, 161, 162, 163, 164, 165, 166, 167, 168, 169, 170, 171, 172, 173, 174, 175, 176, 177, 178, 179, 180] (by decide +kernel) (by decide +kernel)
set_option maxRecDepth 20000 in
theorem gX9_leansBy_X9_plainOf : GoodIn wsX9_leansBy (wsV RX9 420 RX9 yX9_plainOf wsX9_plainOf) := goodIn_app (goodIn_of _ (by decide +kernel)) ggX9_leansBy_X9_plainOf
set_option maxRecDepth 20000 in
theorem ggX9_leansBy_X9_byOf : GoodIn wsX9_leansBy wsX9_byOf := goodIn_r _ [38, 39, 40, 6, 41, 42, 43, 44, 45, 46, 47, 48, 49, 1, 2, 13, 14, 15, 16, 17, 18, 19, 20, 50, 51, 52, 53, 27, 8, 11, 25, 26, 10, 21, 22, 23, 24, 12, 9, 28, 29, 54, 55, 56, 57, 30, 31, 32, 33, 34, 121, 122, 123, 124, 125, 126, 127, 128, 129, 130, 131, 132, 133, 134, 135, 136, 137, 138, 139, 140, 141, 142, 143, 144, 145, 146, 147, 148, 149, 150, 151, 152, 153, 154, 155, 156, 157, 158, 159, 160, 161, 162, 163, 164, 165, 166, 167, 168, 169, 170, 171, 172, 173, 174, 175, 176, 177, 178, 179, 180] (by decide +kernel) (by decide +kernel)
set_option maxRecDepth 20000 in
theorem gX9_leansBy_X9_byOf : GoodIn wsX9_leansBy (wsV RX9 436 RX9 yX9_byOf wsX9_byOf) := goodIn_app (goodIn_of _ (by decide +kernel)) ggX9_leansBy_X9_byOf
set_option maxRecDepth 20000 in
theorem ggX9_leansBy_X9_manyOf : GoodIn wsX9_leansBy wsX9_manyOf := goodIn_r _ [61, 62, 63, 64, 8, 10, 11, 13, 14, 15, 6, 16, 17, 18, 19, 20, 21, 22, 23, 24, 25, 26, 27, 12, 9, 28, 29, 65, 66, 67, 68, 69, 30, 31, 32, 33, 1, 34, 2, 121, 122, 123, 124, 125, 126, 127, 128, 129, 130, 131, 132, 133, 134, 135, 136, 137, 138, 139, 140, 141, 142, 143, 144, 145, 146, 147, 148, 149, 150, 151, 152, 153, 154, 155, 156, 157, 158, 159, 160, 161, 162, 163, 164, 165, 166, 167, 168, 169, 170, 171, 172, 173, 174, 175, 176, 177, 178, 179, 180] (by decide +kernel) (by decide +kernel)
set_option maxRecDepth 20000 in
theorem gX9_leansBy_X9_manyOf : GoodIn wsX9_leansBy (wsV RX9 444 RX9 yX9_manyOf wsX9_manyOf) := goodIn_app (goodIn_of _ (by decide +kernel)) ggX9_leansBy_X9_manyOf
theorem dX9_leansBy_0 : decode cX9_leansBy 0 = .ok (.iload_n 1, 1) := by decide +kernel
theorem dX9_leansBy_1 : decode cX9_leansBy 1 = .ok (.ifCond .ne 10, 3) := by decide +kernel
theorem dX9_leansBy_4 : decode cX9_leansBy 4 = .ok (.aload_n 0, 1) := by decide +kernel
theorem dX9_leansBy_5 : decode cX9_leansBy 5 = .ok (.invokevirtual 420, 3) := by decide +kernel
theorem dX9_leansBy_8 : decode cX9_leansBy 8 = .ok (.goto 20, 3) := by decide +kernel
theorem dX9_leansBy_11 : decode cX9_leansBy 11 = .ok (.iload_n 1, 1) := by decide +kernel
theorem dX9_leansBy_12 : decode cX9_leansBy 12 = .ok (.iconst 1, 1) := by decide +kernel
theorem dX9_leansBy_13 : decode cX9_leansBy 13 = .ok (.if_icmp .ne 11, 3) := by decide +kernel
theorem dX9_leansBy_16 : decode cX9_leansBy 16 = .ok (.aload_n 0, 1) := by decide +kernel
theorem dX9_leansBy_17 : decode cX9_leansBy 17 = .ok (.iload_n 2, 1) := by decide +kernel
theorem dX9_leansBy_18 : decode cX9_leansBy 18 = .ok (.invokevirtual 436, 3) := by decide +kernel
theorem dX9_leansBy_21 : decode cX9_leansBy 21 = .ok (.goto 7, 3) := by decide +kernel
theorem dX9_leansBy_24 : decode cX9_leansBy 24 = .ok (.aload_n 0, 1) := by decide +kernel
theorem dX9_leansBy_25 : decode cX9_leansBy 25 = .ok (.invokevirtual 444, 3) := by decide +kernel
theorem dX9_leansBy_28 : decode cX9_leansBy 28 = .ok (.lstore_n 3, 1) := by decide +kernel
theorem dX9_leansBy_29 : decode cX9_leansBy 29 = .ok (.aload_n 0, 1) := by decide +kernel
theorem dX9_leansBy_30 : decode cX9_leansBy 30 = .ok (.getfield 402, 3) := by decide +kernel
theorem dX9_leansBy_33 : decode cX9_leansBy 33 = .ok (.ifCond .ne 7, 3) := by decide +kernel
theorem dX9_leansBy_36 : decode cX9_leansBy 36 = .ok (.ldc2_w 408, 3) := by decide +kernel
theorem dX9_leansBy_39 : decode cX9_leansBy 39 = .ok (.lreturn, 1) := by decide +kernel
set_option maxRecDepth 20000 in
theorem ggX9_leans_X9_in : GoodIn wsX9_leans wsX9_in := goodIn_r _ [7] (by decide +kernel) (by decide +kernel)
set_option maxRecDepth 20000 in
theorem gX9_leans_X9_in : GoodIn wsX9_leans (va_wsS RX9 130 yX9_in wsX9_in) := goodIn_app (goodIn_of _ (by decide +kernel)) ggX9_leans_X9_in
set_option maxRecDepth 20000 in
theorem ggX9_leans_X9_leansBy : GoodIn wsX9_leans wsX9_leansBy := goodIn_r _ [11, 12, 3, 13, 14, 15, 6, 16, 17, 18, 19, 20, 21, 22, 23, 24, 25, 26, 27, 28, 29, 30, 31, 32, 33, 34, 35, 36, 37, 38, 39, 40, 41, 42, 43, 44, 45, 46, 47, 48, 49, 50, 51, 4, 5, 7, 52, 53, 54, 55, 56, 57, 58, 59, 60, 61, 62, 63, 64, 65, 66, 67, 68, 69, 70, 71, 72, 73, 74, 75, 76, 77, 78, 79, 80, 81, 82, 83, 84, 85, 86, 87, 88, 89, 90, 91, 92, 93, 94, 95, 96, 97, 98, 99, 100, 101, 102, 103, 104, 105, 106, 107, 108, 109, 110, 111, 112, 113, 114, 115, 116, 117, 118, 119, 120, 121, 122, 123, 124, 125, 126, 127, 128, 129, 130, 131, 132, 133, 134, 135, 136, 137, 138, 139, 140, 141, 142, 143, 144, 145, 146, 147, 148, 149, 150, 151, 152, 153, 154, 155, 156, 157, 158, 159, 160, 161, 162, 163, 164, 165, 166, 167, 168, 169, 170, 171, 172, 173, 174, 175, 176, 177, 178, 179, 180, 181, 182, 183, 184, 185, 186] (by decide +kernel) (by decide +kernel)
set_option maxRecDepth 20000 in
theorem gX9_leans_X9_leansBy : GoodIn wsX9_leans (wsV RX9 502 RX9 yX9_leansBy wsX9_leansBy) := goodIn_app (goodIn_of _ (by decide +kernel)) ggX9_leans_X9_leansBy
theorem dX9_leans_0 : decode cX9_leans 0 = .ok (.aload_n 0, 1) := by decide +kernel
theorem dX9_leans_1 : decode cX9_leans 1 = .ok (.iconst 0, 1) := by decide +kernel
theorem dX9_leans_2 : decode cX9_leans 2 = .ok (.putfield 125, 3) := by decide +kernel
theorem dX9_leans_5 : decode cX9_leans 5 = .ok (.iload_n 1, 1) := by decide +kernel
theorem dX9_leans_6 : decode cX9_leans 6 = .ok (.i2l, 1) := by decide +kernel
theorem dX9_leans_7 : decode cX9_leans 7 = .ok (.lconst 0, 1) := by decide +kernel
theorem dX9_leans_8 : decode cX9_leans 8 = .ok (.ldc2_w 455, 3) := by decide +kernel
theorem dX9_leans_11 : decode cX9_leans 11 = .ok (.invokestatic 130, 3) := by decide +kernel
theorem dX9_leans_14 : decode cX9_leans 14 = .ok (.ifCond .eq 12, 3) := by decide +kernel
theorem dX9_leans_17 : decode cX9_leans 17 = .ok (.aload_n 0, 1) := by decide +kernel
theorem dX9_leans_18 : decode cX9_leans 18 = .ok (.iload_n 1, 1) := by decide +kernel
theorem dX9_leans_19 : decode cX9_leans 19 = .ok (.iload_n 2, 1) := by decide +kernel
theorem dX9_leans_20 : decode cX9_leans 20 = .ok (.invokevirtual 502, 3) := by decide +kernel
theorem dX9_leans_23 : decode cX9_leans 23 = .ok (.goto 6, 3) := by decide +kernel
theorem dX9_leans_26 : decode cX9_leans 26 = .ok (.ldc2_w 408, 3) := by decide +kernel
theorem dX9_leans_29 : decode cX9_leans 29 = .ok (.lreturn, 1) := by decide +kernel
set_option maxRecDepth 20000 in
theorem ggX9_least_X9_leansBy : GoodIn wsX9_least wsX9_leansBy := goodIn_r _ [7, 2, 8, 9, 10, 11, 6, 12, 13, 14, 15, 16, 17, 18, 19, 20, 21, 22, 23, 24, 25, 26, 27, 28, 29, 30, 31, 32, 33, 34, 35, 36, 37, 38, 39, 40, 41, 42, 43, 44, 45, 46, 47, 48, 49, 50, 51, 52, 53, 54, 55, 56, 57, 58, 59, 60, 61, 62, 63, 64, 65, 66, 67, 68, 69, 70, 71, 72, 73, 74, 75, 76, 77, 78, 79, 80, 81, 82, 83, 84, 85, 86, 87, 88, 89, 90, 91, 92, 93, 94, 95, 96, 97, 98, 99, 100, 101, 102, 103, 104, 105, 106, 107, 108, 109, 110, 111, 112, 113, 114, 115, 116, 117, 118, 119, 120, 121, 122, 123, 124, 125, 126, 127, 128, 129, 130, 131, 132, 133, 134, 135, 136, 137, 138, 139, 140, 141, 142, 143, 144, 145, 146, 147, 148, 149, 150, 151, 152, 153, 154, 155, 156, 157, 158, 159, 160, 161, 162, 163, 164, 165, 166, 167, 168, 169, 170, 171, 172, 173, 174, 175, 176, 177, 178, 179, 180, 181, 182, 183, 184, 185] (by decide +kernel) (by decide +kernel)
set_option maxRecDepth 20000 in
theorem gX9_least_X9_leansBy : GoodIn wsX9_least (wsV RX9 502 RX9 yX9_leansBy wsX9_leansBy) := goodIn_app (goodIn_of _ (by decide +kernel)) ggX9_least_X9_leansBy
theorem dX9_least_0 : decode cX9_least 0 = .ok (.aload_n 0, 1) := by decide +kernel
theorem dX9_least_1 : decode cX9_least 1 = .ok (.iconst 0, 1) := by decide +kernel
theorem dX9_least_2 : decode cX9_least 2 = .ok (.putfield 125, 3) := by decide +kernel
theorem dX9_least_5 : decode cX9_least 5 = .ok (.iconst (-1), 1) := by decide +kernel
theorem dX9_least_6 : decode cX9_least 6 = .ok (.istore_n 2, 1) := by decide +kernel
theorem dX9_least_7 : decode cX9_least 7 = .ok (.lconst 0, 1) := by decide +kernel
theorem dX9_least_8 : decode cX9_least 8 = .ok (.lstore_n 3, 1) := by decide +kernel
theorem dX9_least_9 : decode cX9_least 9 = .ok (.iconst 0, 1) := by decide +kernel
theorem dX9_least_10 : decode cX9_least 10 = .ok (.istore 5, 2) := by decide +kernel
theorem dX9_least_12 : decode cX9_least 12 = .ok (.iload 5, 2) := by decide +kernel
theorem dX9_least_14 : decode cX9_least 14 = .ok (.iconst 3, 1) := by decide +kernel
theorem dX9_least_15 : decode cX9_least 15 = .ok (.if_icmp .ge 66, 3) := by decide +kernel
theorem dX9_least_18 : decode cX9_least 18 = .ok (.aload_n 0, 1) := by decide +kernel
theorem dX9_least_19 : decode cX9_least 19 = .ok (.iload 5, 2) := by decide +kernel
theorem dX9_least_21 : decode cX9_least 21 = .ok (.iload_n 1, 1) := by decide +kernel
theorem dX9_least_22 : decode cX9_least 22 = .ok (.invokevirtual 502, 3) := by decide +kernel
theorem dX9_least_25 : decode cX9_least 25 = .ok (.lstore 6, 2) := by decide +kernel
theorem dX9_least_27 : decode cX9_least 27 = .ok (.aload_n 0, 1) := by decide +kernel
theorem dX9_least_28 : decode cX9_least 28 = .ok (.getfield 402, 3) := by decide +kernel
theorem dX9_least_31 : decode cX9_least 31 = .ok (.ifCond .ne 6, 3) := by decide +kernel
theorem dX9_least_34 : decode cX9_least 34 = .ok (.goto 41, 3) := by decide +kernel
theorem dX9_least_75 : decode cX9_least 75 = .ok (.iinc 5 1, 3) := by decide +kernel
theorem dX9_least_78 : decode cX9_least 78 = .ok (.goto (-66), 3) := by decide +kernel
theorem dX9_least_81 : decode cX9_least 81 = .ok (.iload_n 2, 1) := by decide +kernel
theorem dX9_least_82 : decode cX9_least 82 = .ok (.ireturn, 1) := by decide +kernel
set_option maxRecDepth 20000 in
theorem ggX9_beside_X9_isThere : GoodIn wsX9_beside wsX9_isThere := goodIn_r _ [11, 5, 12, 13, 14, 10, 15, 16, 17, 18, 19, 20, 21, 22, 23, 24, 53, 54, 55, 56, 57, 58, 59, 60, 61, 62, 63, 64, 65, 66, 67, 68, 69, 70, 71, 72, 73, 74, 75, 76, 77, 78, 79, 80, 81, 82, 83, 84, 85, 86, 87, 88, 89, 90, 91, 92, 93, 94, 95, 96, 97, 98, 99, 100, 101, 102, 103, 104, 105, 106, 107, 108, 109, 110, 111, 112] (by decide +kernel) (by decide +kernel)
set_option maxRecDepth 20000 in
theorem gX9_beside_X9_isThere : GoodIn wsX9_beside (wsV RX9 363 RX9 yX9_isThere wsX9_isThere) := goodIn_app (goodIn_of _ (by decide +kernel)) ggX9_beside_X9_isThere
theorem dX9_beside_0 : decode cX9_beside 0 = .ok (.aload_n 0, 1) := by decide +kernel
theorem dX9_beside_1 : decode cX9_beside 1 = .ok (.iconst 0, 1) := by decide +kernel
theorem dX9_beside_2 : decode cX9_beside 2 = .ok (.putfield 125, 3) := by decide +kernel
theorem dX9_beside_5 : decode cX9_beside 5 = .ok (.aload_n 0, 1) := by decide +kernel
theorem dX9_beside_6 : decode cX9_beside 6 = .ok (.iload_n 1, 1) := by decide +kernel
theorem dX9_beside_7 : decode cX9_beside 7 = .ok (.invokevirtual 363, 3) := by decide +kernel
theorem dX9_beside_10 : decode cX9_beside 10 = .ok (.ifCond .eq 10, 3) := by decide +kernel
theorem dX9_beside_20 : decode cX9_beside 20 = .ok (.ldc_w 369, 3) := by decide +kernel
theorem dX9_beside_23 : decode cX9_beside 23 = .ok (.ireturn, 1) := by decide +kernel
set_option maxRecDepth 20000 in
theorem ggX9_worlds_X9_isSpan : GoodIn wsX9_worlds wsX9_isSpan := goodIn_r _ [10, 11, 12, 13, 9, 14, 15, 16, 17, 18] (by decide +kernel) (by decide +kernel)
set_option maxRecDepth 20000 in
theorem gX9_worlds_X9_isSpan : GoodIn wsX9_worlds (va_wsS RX9 481 yX9_isSpan wsX9_isSpan) := goodIn_app (goodIn_of _ (by decide +kernel)) ggX9_worlds_X9_isSpan
set_option maxRecDepth 20000 in
theorem ggX9_worlds_X9_isSeed : GoodIn wsX9_worlds wsX9_isSeed := goodIn_r _ [21, 22, 16, 17, 9, 18] (by decide +kernel) (by decide +kernel)
set_option maxRecDepth 20000 in
theorem gX9_worlds_X9_isSeed : GoodIn wsX9_worlds (va_wsS RX9 347 yX9_isSeed wsX9_isSeed) := goodIn_app (goodIn_of _ (by decide +kernel)) ggX9_worlds_X9_isSeed
set_option maxRecDepth 20000 in
theorem ggX9_worlds_X9_in : GoodIn wsX9_worlds wsX9_in := goodIn_r _ [18] (by decide +kernel) (by decide +kernel)
set_option maxRecDepth 20000 in
theorem gX9_worlds_X9_in : GoodIn wsX9_worlds (va_wsS RX9 130 yX9_in wsX9_in) := goodIn_app (goodIn_of _ (by decide +kernel)) ggX9_worlds_X9_in
theorem dX9_worlds_0 : decode cX9_worlds 0 = .ok (.aload_n 0, 1) := by decide +kernel
theorem dX9_worlds_1 : decode cX9_worlds 1 = .ok (.iconst 0, 1) := by decide +kernel
theorem dX9_worlds_2 : decode cX9_worlds 2 = .ok (.putfield 125, 3) := by decide +kernel
theorem dX9_worlds_5 : decode cX9_worlds 5 = .ok (.iload_n 1, 1) := by decide +kernel
theorem dX9_worlds_6 : decode cX9_worlds 6 = .ok (.iload 4, 2) := by decide +kernel
theorem dX9_worlds_8 : decode cX9_worlds 8 = .ok (.invokestatic 481, 3) := by decide +kernel
theorem dX9_worlds_11 : decode cX9_worlds 11 = .ok (.ifCond .eq 35, 3) := by decide +kernel
theorem dX9_worlds_14 : decode cX9_worlds 14 = .ok (.iload_n 2, 1) := by decide +kernel
theorem dX9_worlds_15 : decode cX9_worlds 15 = .ok (.invokestatic 347, 3) := by decide +kernel
theorem dX9_worlds_18 : decode cX9_worlds 18 = .ok (.ifCond .eq 28, 3) := by decide +kernel
theorem dX9_worlds_21 : decode cX9_worlds 21 = .ok (.iload_n 3, 1) := by decide +kernel
theorem dX9_worlds_22 : decode cX9_worlds 22 = .ok (.i2l, 1) := by decide +kernel
theorem dX9_worlds_23 : decode cX9_worlds 23 = .ok (.lconst 1, 1) := by decide +kernel
theorem dX9_worlds_24 : decode cX9_worlds 24 = .ok (.ldc2_w 505, 3) := by decide +kernel
theorem dX9_worlds_27 : decode cX9_worlds 27 = .ok (.invokestatic 130, 3) := by decide +kernel
theorem dX9_worlds_30 : decode cX9_worlds 30 = .ok (.ifCond .eq 16, 3) := by decide +kernel
theorem dX9_worlds_33 : decode cX9_worlds 33 = .ok (.iload 5, 2) := by decide +kernel
theorem dX9_worlds_35 : decode cX9_worlds 35 = .ok (.i2l, 1) := by decide +kernel
theorem dX9_worlds_36 : decode cX9_worlds 36 = .ok (.lconst 0, 1) := by decide +kernel
theorem dX9_worlds_37 : decode cX9_worlds 37 = .ok (.ldc2_w 455, 3) := by decide +kernel
theorem dX9_worlds_40 : decode cX9_worlds 40 = .ok (.invokestatic 130, 3) := by decide +kernel
theorem dX9_worlds_43 : decode cX9_worlds 43 = .ok (.ifCond .ne 6, 3) := by decide +kernel
theorem dX9_worlds_46 : decode cX9_worlds 46 = .ok (.bipush (-2), 2) := by decide +kernel
theorem dX9_worlds_48 : decode cX9_worlds 48 = .ok (.ireturn, 1) := by decide +kernel
theorem dX9_worlds_49 : decode cX9_worlds 49 = .ok (.aload_n 0, 1) := by decide +kernel
theorem dX9_worlds_50 : decode cX9_worlds 50 = .ok (.getfield 34, 3) := by decide +kernel
theorem dX9_worlds_53 : decode cX9_worlds 53 = .ok (.iconst 0, 1) := by decide +kernel
theorem dX9_worlds_54 : decode cX9_worlds 54 = .ok (.iaload, 1) := by decide +kernel
theorem dX9_worlds_55 : decode cX9_worlds 55 = .ok (.ifCond .eq 21, 3) := by decide +kernel
theorem dX9_worlds_76 : decode cX9_worlds 76 = .ok (.bipush (-6), 2) := by decide +kernel
theorem dX9_worlds_78 : decode cX9_worlds 78 = .ok (.ireturn, 1) := by decide +kernel
set_option maxRecDepth 20000 in
theorem ggX9_only_X9_isState : GoodIn wsX9_only wsX9_isState := goodIn_r _ [8, 9, 10, 11, 7, 12, 22, 23, 24, 25, 26, 27, 28, 29, 30, 31, 32, 33, 34, 35, 36, 37, 38, 39, 40, 41, 42, 43, 44, 45, 46, 47, 48, 49, 50, 51, 52, 53, 54, 55, 56, 57, 58, 59, 60, 61, 62, 63, 64, 65, 66, 67, 68, 69, 70, 71, 72, 73, 74, 75, 76, 77, 78, 79, 80, 81] (by decide +kernel) (by decide +kernel)
set_option maxRecDepth 20000 in
theorem gX9_only_X9_isState : GoodIn wsX9_only (wsV RX9 296 RX9 yX9_isState wsX9_isState) := goodIn_app (goodIn_of _ (by decide +kernel)) ggX9_only_X9_isState
theorem dX9_only_0 : decode cX9_only 0 = .ok (.aload_n 0, 1) := by decide +kernel
theorem dX9_only_1 : decode cX9_only 1 = .ok (.iconst 0, 1) := by decide +kernel
theorem dX9_only_2 : decode cX9_only 2 = .ok (.putfield 125, 3) := by decide +kernel
theorem dX9_only_5 : decode cX9_only 5 = .ok (.aload_n 0, 1) := by decide +kernel
theorem dX9_only_6 : decode cX9_only 6 = .ok (.iload_n 1, 1) := by decide +kernel
theorem dX9_only_7 : decode cX9_only 7 = .ok (.invokevirtual 296, 3) := by decide +kernel
theorem dX9_only_10 : decode cX9_only 10 = .ok (.ifCond .ne 6, 3) := by decide +kernel
theorem dX9_only_13 : decode cX9_only 13 = .ok (.bipush (-2), 2) := by decide +kernel
theorem dX9_only_15 : decode cX9_only 15 = .ok (.ireturn, 1) := by decide +kernel
set_option maxRecDepth 20000 in
theorem ggX9_judge_X9_isSlot : GoodIn wsX9_judge wsX9_isSlot := goodIn_r _ [10, 11, 12, 13, 9, 14] (by decide +kernel) (by decide +kernel)
set_option maxRecDepth 20000 in
theorem gX9_judge_X9_isSlot : GoodIn wsX9_judge (va_wsS RX9 134 yX9_isSlot wsX9_isSlot) := goodIn_app (goodIn_of _ (by decide +kernel)) ggX9_judge_X9_isSlot
theorem dX9_judge_0 : decode cX9_judge 0 = .ok (.aload_n 0, 1) := by decide +kernel
theorem dX9_judge_1 : decode cX9_judge 1 = .ok (.iconst 0, 1) := by decide +kernel
theorem dX9_judge_2 : decode cX9_judge 2 = .ok (.putfield 125, 3) := by decide +kernel
theorem dX9_judge_5 : decode cX9_judge 5 = .ok (.iload_n 1, 1) := by decide +kernel
theorem dX9_judge_6 : decode cX9_judge 6 = .ok (.invokestatic 134, 3) := by decide +kernel
theorem dX9_judge_9 : decode cX9_judge 9 = .ok (.ifCond .ne 6, 3) := by decide +kernel
theorem dX9_judge_12 : decode cX9_judge 12 = .ok (.bipush (-2), 2) := by decide +kernel
theorem dX9_judge_14 : decode cX9_judge 14 = .ok (.ireturn, 1) := by decide +kernel
theorem dX9_judge_15 : decode cX9_judge 15 = .ok (.aload_n 0, 1) := by decide +kernel
theorem dX9_judge_16 : decode cX9_judge 16 = .ok (.getfield 7, 3) := by decide +kernel
theorem dX9_judge_19 : decode cX9_judge 19 = .ok (.iload_n 1, 1) := by decide +kernel
theorem dX9_judge_20 : decode cX9_judge 20 = .ok (.iaload, 1) := by decide +kernel
theorem dX9_judge_21 : decode cX9_judge 21 = .ok (.iconst (-1), 1) := by decide +kernel
theorem dX9_judge_22 : decode cX9_judge 22 = .ok (.if_icmp .ne 6, 3) := by decide +kernel
theorem dX9_judge_25 : decode cX9_judge 25 = .ok (.bipush (-6), 2) := by decide +kernel
theorem dX9_judge_27 : decode cX9_judge 27 = .ok (.ireturn, 1) := by decide +kernel
theorem dX9_count_0 : decode cX9_count 0 = .ok (.aload_n 0, 1) := by decide +kernel
theorem dX9_count_1 : decode cX9_count 1 = .ok (.iconst 0, 1) := by decide +kernel
theorem dX9_count_2 : decode cX9_count 2 = .ok (.putfield 125, 3) := by decide +kernel
theorem dX9_count_5 : decode cX9_count 5 = .ok (.iconst 0, 1) := by decide +kernel
theorem dX9_count_6 : decode cX9_count 6 = .ok (.istore_n 2, 1) := by decide +kernel
theorem dX9_count_7 : decode cX9_count 7 = .ok (.iload_n 1, 1) := by decide +kernel
theorem dX9_count_8 : decode cX9_count 8 = .ok (.tableswitch 128 0 7 #[48, 55, 62, 69, 76, 83, 90, 95], 48) := by decide +kernel
theorem dX9_count_56 : decode cX9_count 56 = .ok (.aload_n 0, 1) := by decide +kernel
theorem dX9_count_57 : decode cX9_count 57 = .ok (.getfield 34, 3) := by decide +kernel
theorem dX9_count_60 : decode cX9_count 60 = .ok (.iconst 0, 1) := by decide +kernel
theorem dX9_count_61 : decode cX9_count 61 = .ok (.iaload, 1) := by decide +kernel
theorem dX9_count_62 : decode cX9_count 62 = .ok (.ireturn, 1) := by decide +kernel
theorem dX9_count_63 : decode cX9_count 63 = .ok (.aload_n 0, 1) := by decide +kernel
theorem dX9_count_64 : decode cX9_count 64 = .ok (.getfield 43, 3) := by decide +kernel
theorem dX9_count_67 : decode cX9_count 67 = .ok (.iconst 0, 1) := by decide +kernel
theorem dX9_count_68 : decode cX9_count 68 = .ok (.iaload, 1) := by decide +kernel
theorem dX9_count_69 : decode cX9_count 69 = .ok (.ireturn, 1) := by decide +kernel
theorem dX9_count_70 : decode cX9_count 70 = .ok (.aload_n 0, 1) := by decide +kernel
theorem dX9_count_71 : decode cX9_count 71 = .ok (.getfield 89, 3) := by decide +kernel
theorem dX9_count_74 : decode cX9_count 74 = .ok (.iconst 0, 1) := by decide +kernel
theorem dX9_count_75 : decode cX9_count 75 = .ok (.iaload, 1) := by decide +kernel
theorem dX9_count_76 : decode cX9_count 76 = .ok (.ireturn, 1) := by decide +kernel
theorem dX9_count_77 : decode cX9_count 77 = .ok (.aload_n 0, 1) := by decide +kernel
theorem dX9_count_78 : decode cX9_count 78 = .ok (.getfield 31, 3) := by decide +kernel
theorem dX9_count_81 : decode cX9_count 81 = .ok (.iconst 0, 1) := by decide +kernel
theorem dX9_count_82 : decode cX9_count 82 = .ok (.iaload, 1) := by decide +kernel
theorem dX9_count_83 : decode cX9_count 83 = .ok (.ireturn, 1) := by decide +kernel
theorem dX9_count_84 : decode cX9_count 84 = .ok (.aload_n 0, 1) := by decide +kernel
theorem dX9_count_85 : decode cX9_count 85 = .ok (.getfield 74, 3) := by decide +kernel
theorem dX9_count_88 : decode cX9_count 88 = .ok (.iconst 0, 1) := by decide +kernel
theorem dX9_count_89 : decode cX9_count 89 = .ok (.iaload, 1) := by decide +kernel
theorem dX9_count_90 : decode cX9_count 90 = .ok (.ireturn, 1) := by decide +kernel
theorem dX9_count_91 : decode cX9_count 91 = .ok (.aload_n 0, 1) := by decide +kernel
theorem dX9_count_92 : decode cX9_count 92 = .ok (.getfield 71, 3) := by decide +kernel
theorem dX9_count_95 : decode cX9_count 95 = .ok (.iconst 0, 1) := by decide +kernel
theorem dX9_count_96 : decode cX9_count 96 = .ok (.iaload, 1) := by decide +kernel
theorem dX9_count_97 : decode cX9_count 97 = .ok (.ireturn, 1) := by decide +kernel
theorem dX9_count_98 : decode cX9_count 98 = .ok (.aload_n 0, 1) := by decide +kernel
theorem dX9_count_99 : decode cX9_count 99 = .ok (.getfield 142, 3) := by decide +kernel
theorem dX9_count_102 : decode cX9_count 102 = .ok (.ireturn, 1) := by decide +kernel
theorem dX9_count_103 : decode cX9_count 103 = .ok (.iconst 0, 1) := by decide +kernel
theorem dX9_count_104 : decode cX9_count 104 = .ok (.istore_n 3, 1) := by decide +kernel
theorem dX9_count_105 : decode cX9_count 105 = .ok (.iload_n 3, 1) := by decide +kernel
theorem dX9_count_106 : decode cX9_count 106 = .ok (.iconst 4, 1) := by decide +kernel
theorem dX9_count_107 : decode cX9_count 107 = .ok (.if_icmp .ge 27, 3) := by decide +kernel
theorem dX9_count_110 : decode cX9_count 110 = .ok (.iload_n 2, 1) := by decide +kernel
theorem dX9_count_111 : decode cX9_count 111 = .ok (.aload_n 0, 1) := by decide +kernel
theorem dX9_count_112 : decode cX9_count 112 = .ok (.getfield 7, 3) := by decide +kernel
theorem dX9_count_115 : decode cX9_count 115 = .ok (.iload_n 3, 1) := by decide +kernel
theorem dX9_count_116 : decode cX9_count 116 = .ok (.iaload, 1) := by decide +kernel
theorem dX9_count_117 : decode cX9_count 117 = .ok (.iconst (-1), 1) := by decide +kernel
theorem dX9_count_118 : decode cX9_count 118 = .ok (.if_icmp .ne 7, 3) := by decide +kernel
theorem dX9_count_121 : decode cX9_count 121 = .ok (.iconst 0, 1) := by decide +kernel
theorem dX9_count_122 : decode cX9_count 122 = .ok (.goto 4, 3) := by decide +kernel
theorem dX9_count_126 : decode cX9_count 126 = .ok (.iadd, 1) := by decide +kernel
theorem dX9_count_127 : decode cX9_count 127 = .ok (.istore_n 2, 1) := by decide +kernel
theorem dX9_count_128 : decode cX9_count 128 = .ok (.iinc 3 1, 3) := by decide +kernel
theorem dX9_count_131 : decode cX9_count 131 = .ok (.goto (-26), 3) := by decide +kernel
theorem dX9_count_134 : decode cX9_count 134 = .ok (.iload_n 2, 1) := by decide +kernel
theorem dX9_count_135 : decode cX9_count 135 = .ok (.ireturn, 1) := by decide +kernel
theorem dX9_count_136 : decode cX9_count 136 = .ok (.iconst (-1), 1) := by decide +kernel
theorem dX9_count_137 : decode cX9_count 137 = .ok (.ireturn, 1) := by decide +kernel
set_option maxRecDepth 20000 in
theorem ggX9_keep_X9_in : GoodIn wsX9_keep wsX9_in := goodIn_r _ [7] (by decide +kernel) (by decide +kernel)
set_option maxRecDepth 20000 in
theorem gX9_keep_X9_in : GoodIn wsX9_keep (va_wsS RX9 130 yX9_in wsX9_in) := goodIn_app (goodIn_of _ (by decide +kernel)) ggX9_keep_X9_in
set_option maxRecDepth 20000 in
theorem ggX9_keep_X9_copyLand : GoodIn wsX9_keep wsX9_copyLand := goodIn_r _ [11, 12, 13, 14, 15, 16, 17, 18, 19, 20, 21, 22, 23, 24, 25, 26, 42, 43, 44, 45, 46, 47, 48, 49, 50, 51, 52, 53, 54, 55, 56, 57, 58, 59, 60, 61, 62, 63, 64, 65, 66, 67, 68, 69, 70, 71, 72, 73, 74, 75, 76, 77, 78, 79, 80, 81, 82, 83, 84, 85, 86, 87, 88, 89, 90, 91, 92, 93, 94, 95, 96, 97, 98, 99, 100, 101] (by decide +kernel) (by decide +kernel)
set_option maxRecDepth 20000 in
theorem gX9_keep_X9_copyLand : GoodIn wsX9_keep (wsV RX9 289 RX9 yX9_copyLand wsX9_copyLand) := goodIn_app (goodIn_of _ (by decide +kernel)) ggX9_keep_X9_copyLand
set_option maxRecDepth 20000 in
theorem ggX9_keep_X9_copySheets : GoodIn wsX9_keep wsX9_copySheets := goodIn_r _ [30, 31, 32, 33, 34, 6, 35, 36, 37, 38, 39, 40, 41, 42, 43, 44, 45, 46, 47, 48, 49, 50, 51, 52, 53, 54, 55, 56, 57, 58, 59, 60, 61, 62, 63, 64, 65, 66, 67, 68, 69, 70, 71, 72, 73, 74, 75, 76, 77, 78, 79, 80, 81, 82, 83, 84, 85, 86, 87, 88, 89, 90, 91, 92, 93, 94, 95, 96, 97, 98, 99, 100, 101] (by decide +kernel) (by decide +kernel)
set_option maxRecDepth 20000 in
theorem gX9_keep_X9_copySheets : GoodIn wsX9_keep (wsV RX9 507 RX9 yX9_copySheets wsX9_copySheets) := goodIn_app (goodIn_of _ (by decide +kernel)) ggX9_keep_X9_copySheets
theorem dX9_keep_0 : decode cX9_keep 0 = .ok (.aload_n 0, 1) := by decide +kernel
theorem dX9_keep_1 : decode cX9_keep 1 = .ok (.iconst 0, 1) := by decide +kernel
theorem dX9_keep_2 : decode cX9_keep 2 = .ok (.putfield 125, 3) := by decide +kernel
theorem dX9_keep_5 : decode cX9_keep 5 = .ok (.iload_n 1, 1) := by decide +kernel
theorem dX9_keep_6 : decode cX9_keep 6 = .ok (.i2l, 1) := by decide +kernel
theorem dX9_keep_7 : decode cX9_keep 7 = .ok (.lconst 0, 1) := by decide +kernel
theorem dX9_keep_8 : decode cX9_keep 8 = .ok (.ldc2_w 455, 3) := by decide +kernel
theorem dX9_keep_11 : decode cX9_keep 11 = .ok (.invokestatic 130, 3) := by decide +kernel
theorem dX9_keep_14 : decode cX9_keep 14 = .ok (.ifCond .ne 6, 3) := by decide +kernel
theorem dX9_keep_17 : decode cX9_keep 17 = .ok (.bipush (-2), 2) := by decide +kernel
theorem dX9_keep_19 : decode cX9_keep 19 = .ok (.ireturn, 1) := by decide +kernel
theorem dX9_keep_20 : decode cX9_keep 20 = .ok (.aload_n 0, 1) := by decide +kernel
theorem dX9_keep_21 : decode cX9_keep 21 = .ok (.iconst 0, 1) := by decide +kernel
theorem dX9_keep_22 : decode cX9_keep 22 = .ok (.iconst 1, 1) := by decide +kernel
theorem dX9_keep_23 : decode cX9_keep 23 = .ok (.iload_n 1, 1) := by decide +kernel
theorem dX9_keep_24 : decode cX9_keep 24 = .ok (.iadd, 1) := by decide +kernel
theorem dX9_keep_25 : decode cX9_keep 25 = .ok (.invokevirtual 289, 3) := by decide +kernel
theorem dX9_keep_28 : decode cX9_keep 28 = .ok (.aload_n 0, 1) := by decide +kernel
theorem dX9_keep_29 : decode cX9_keep 29 = .ok (.iconst 0, 1) := by decide +kernel
theorem dX9_keep_30 : decode cX9_keep 30 = .ok (.iconst 1, 1) := by decide +kernel
theorem dX9_keep_31 : decode cX9_keep 31 = .ok (.iload_n 1, 1) := by decide +kernel
theorem dX9_keep_32 : decode cX9_keep 32 = .ok (.iadd, 1) := by decide +kernel
theorem dX9_keep_33 : decode cX9_keep 33 = .ok (.invokevirtual 507, 3) := by decide +kernel
theorem dX9_keep_36 : decode cX9_keep 36 = .ok (.aload_n 0, 1) := by decide +kernel
theorem dX9_keep_37 : decode cX9_keep 37 = .ok (.getfield 83, 3) := by decide +kernel
theorem dX9_keep_40 : decode cX9_keep 40 = .ok (.iload_n 1, 1) := by decide +kernel
theorem dX9_keep_41 : decode cX9_keep 41 = .ok (.iconst 1, 1) := by decide +kernel
theorem dX9_keep_42 : decode cX9_keep 42 = .ok (.bastore, 1) := by decide +kernel
theorem dX9_keep_43 : decode cX9_keep 43 = .ok (.iconst 0, 1) := by decide +kernel
theorem dX9_keep_44 : decode cX9_keep 44 = .ok (.ireturn, 1) := by decide +kernel
set_option maxRecDepth 20000 in
theorem ggX9_back_X9_in : GoodIn wsX9_back wsX9_in := goodIn_r _ [7] (by decide +kernel) (by decide +kernel)
set_option maxRecDepth 20000 in
theorem gX9_back_X9_in : GoodIn wsX9_back (va_wsS RX9 130 yX9_in wsX9_in) := goodIn_app (goodIn_of _ (by decide +kernel)) ggX9_back_X9_in
theorem dX9_back_0 : decode cX9_back 0 = .ok (.aload_n 0, 1) := by decide +kernel
theorem dX9_back_1 : decode cX9_back 1 = .ok (.iconst 0, 1) := by decide +kernel
theorem dX9_back_2 : decode cX9_back 2 = .ok (.putfield 125, 3) := by decide +kernel
theorem dX9_back_5 : decode cX9_back 5 = .ok (.iload_n 1, 1) := by decide +kernel
theorem dX9_back_6 : decode cX9_back 6 = .ok (.i2l, 1) := by decide +kernel
theorem dX9_back_7 : decode cX9_back 7 = .ok (.lconst 0, 1) := by decide +kernel
theorem dX9_back_8 : decode cX9_back 8 = .ok (.ldc2_w 455, 3) := by decide +kernel
theorem dX9_back_11 : decode cX9_back 11 = .ok (.invokestatic 130, 3) := by decide +kernel
theorem dX9_back_14 : decode cX9_back 14 = .ok (.ifCond .ne 6, 3) := by decide +kernel
theorem dX9_back_17 : decode cX9_back 17 = .ok (.bipush (-2), 2) := by decide +kernel
theorem dX9_back_19 : decode cX9_back 19 = .ok (.ireturn, 1) := by decide +kernel
theorem dX9_back_20 : decode cX9_back 20 = .ok (.aload_n 0, 1) := by decide +kernel
theorem dX9_back_21 : decode cX9_back 21 = .ok (.getfield 83, 3) := by decide +kernel
theorem dX9_back_24 : decode cX9_back 24 = .ok (.iload_n 1, 1) := by decide +kernel
theorem dX9_back_25 : decode cX9_back 25 = .ok (.baload, 1) := by decide +kernel
theorem dX9_back_26 : decode cX9_back 26 = .ok (.ifCond .ne 6, 3) := by decide +kernel
theorem dX9_back_29 : decode cX9_back 29 = .ok (.bipush (-6), 2) := by decide +kernel
theorem dX9_back_31 : decode cX9_back 31 = .ok (.ireturn, 1) := by decide +kernel
theorem dJ7_fill_d0a16_0 : decode cJ7_fill_d0a16 0 = .ok (.iconst 0, 1) := by decide +kernel
theorem dJ7_fill_d0a16_1 : decode cJ7_fill_d0a16 1 = .ok (.istore_n 3, 1) := by decide +kernel
theorem dJ7_fill_d0a16_2 : decode cJ7_fill_d0a16 2 = .ok (.aload_n 0, 1) := by decide +kernel
theorem dJ7_fill_d0a16_3 : decode cJ7_fill_d0a16 3 = .ok (.arraylength, 1) := by decide +kernel
theorem dJ7_fill_d0a16_4 : decode cJ7_fill_d0a16 4 = .ok (.istore 4, 2) := by decide +kernel
theorem dJ7_fill_d0a16_6 : decode cJ7_fill_d0a16 6 = .ok (.iload_n 3, 1) := by decide +kernel
theorem dJ7_fill_d0a16_7 : decode cJ7_fill_d0a16 7 = .ok (.iload 4, 2) := by decide +kernel
theorem dJ7_fill_d0a16_9 : decode cJ7_fill_d0a16 9 = .ok (.if_icmp .ge 13, 3) := by decide +kernel
theorem dJ7_fill_d0a16_12 : decode cJ7_fill_d0a16 12 = .ok (.aload_n 0, 1) := by decide +kernel
theorem dJ7_fill_d0a16_13 : decode cJ7_fill_d0a16 13 = .ok (.iload_n 3, 1) := by decide +kernel
theorem dJ7_fill_d0a16_14 : decode cJ7_fill_d0a16 14 = .ok (.lload_n 1, 1) := by decide +kernel
theorem dJ7_fill_d0a16_15 : decode cJ7_fill_d0a16 15 = .ok (.lastore, 1) := by decide +kernel
theorem dJ7_fill_d0a16_16 : decode cJ7_fill_d0a16 16 = .ok (.iinc 3 1, 3) := by decide +kernel
theorem dJ7_fill_d0a16_19 : decode cJ7_fill_d0a16 19 = .ok (.goto (-13), 3) := by decide +kernel
theorem dJ7_fill_d0a16_22 : decode cJ7_fill_d0a16 22 = .ok (.return_, 1) := by decide +kernel
theorem dJ7_fill_53178_0 : decode cJ7_fill_53178 0 = .ok (.iconst 0, 1) := by decide +kernel
theorem dJ7_fill_53178_1 : decode cJ7_fill_53178 1 = .ok (.istore_n 2, 1) := by decide +kernel
theorem dJ7_fill_53178_2 : decode cJ7_fill_53178 2 = .ok (.aload_n 0, 1) := by decide +kernel
theorem dJ7_fill_53178_3 : decode cJ7_fill_53178 3 = .ok (.arraylength, 1) := by decide +kernel
theorem dJ7_fill_53178_4 : decode cJ7_fill_53178 4 = .ok (.istore_n 3, 1) := by decide +kernel
theorem dJ7_fill_53178_5 : decode cJ7_fill_53178 5 = .ok (.iload_n 2, 1) := by decide +kernel
theorem dJ7_fill_53178_6 : decode cJ7_fill_53178 6 = .ok (.iload_n 3, 1) := by decide +kernel
theorem dJ7_fill_53178_7 : decode cJ7_fill_53178 7 = .ok (.if_icmp .ge 13, 3) := by decide +kernel
theorem dJ7_fill_53178_10 : decode cJ7_fill_53178 10 = .ok (.aload_n 0, 1) := by decide +kernel
theorem dJ7_fill_53178_11 : decode cJ7_fill_53178 11 = .ok (.iload_n 2, 1) := by decide +kernel
theorem dJ7_fill_53178_12 : decode cJ7_fill_53178 12 = .ok (.iload_n 1, 1) := by decide +kernel
theorem dJ7_fill_53178_13 : decode cJ7_fill_53178 13 = .ok (.iastore, 1) := by decide +kernel
theorem dJ7_fill_53178_14 : decode cJ7_fill_53178 14 = .ok (.iinc 2 1, 3) := by decide +kernel
theorem dJ7_fill_53178_17 : decode cJ7_fill_53178 17 = .ok (.goto (-12), 3) := by decide +kernel
theorem dJ7_fill_53178_20 : decode cJ7_fill_53178 20 = .ok (.return_, 1) := by decide +kernel
