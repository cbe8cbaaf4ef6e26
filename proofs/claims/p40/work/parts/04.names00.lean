theorem dX0_from_0 : decode cX0_from 0 = .ok (.aload_n 0, 1) := by decide +kernel
theorem dX0_from_1 : decode cX0_from 1 = .ok (.iload_n 1, 1) := by decide +kernel
theorem dX0_from_2 : decode cX0_from 2 = .ok (.i2l, 1) := by decide +kernel
theorem dX0_from_3 : decode cX0_from 3 = .ok (.putfield 7, 3) := by decide +kernel
theorem dX0_from_6 : decode cX0_from 6 = .ok (.return_, 1) := by decide +kernel
theorem dX0_of_0 : decode cX0_of 0 = .ok (.aload_n 0, 1) := by decide +kernel
theorem dX0_of_1 : decode cX0_of 1 = .ok (.ldc2_w 13, 3) := by decide +kernel
theorem dX0_of_4 : decode cX0_of 4 = .ok (.aload_n 0, 1) := by decide +kernel
theorem dX0_of_5 : decode cX0_of 5 = .ok (.getfield 7, 3) := by decide +kernel
theorem dX0_of_8 : decode cX0_of 8 = .ok (.lmul, 1) := by decide +kernel
theorem dX0_of_9 : decode cX0_of 9 = .ok (.ldc2_w 15, 3) := by decide +kernel
theorem dX0_of_12 : decode cX0_of 12 = .ok (.ladd, 1) := by decide +kernel
theorem dX0_of_13 : decode cX0_of 13 = .ok (.ldc2_w 17, 3) := by decide +kernel
theorem dX0_of_16 : decode cX0_of 16 = .ok (.land, 1) := by decide +kernel
theorem dX0_of_17 : decode cX0_of 17 = .ok (.putfield 7, 3) := by decide +kernel
theorem dX0_of_20 : decode cX0_of 20 = .ok (.iload_n 1, 1) := by decide +kernel
theorem dX0_of_21 : decode cX0_of 21 = .ok (.iconst 1, 1) := by decide +kernel
theorem dX0_of_22 : decode cX0_of 22 = .ok (.if_icmp .ge 7, 3) := by decide +kernel
theorem dX0_of_25 : decode cX0_of 25 = .ok (.iconst 0, 1) := by decide +kernel
theorem dX0_of_26 : decode cX0_of 26 = .ok (.goto 15, 3) := by decide +kernel
theorem dX0_of_29 : decode cX0_of 29 = .ok (.aload_n 0, 1) := by decide +kernel
theorem dX0_of_30 : decode cX0_of 30 = .ok (.getfield 7, 3) := by decide +kernel
theorem dX0_of_33 : decode cX0_of 33 = .ok (.ldc2_w 19, 3) := by decide +kernel
theorem dX0_of_36 : decode cX0_of 36 = .ok (.ldiv, 1) := by decide +kernel
theorem dX0_of_37 : decode cX0_of 37 = .ok (.iload_n 1, 1) := by decide +kernel
theorem dX0_of_38 : decode cX0_of 38 = .ok (.i2l, 1) := by decide +kernel
theorem dX0_of_39 : decode cX0_of 39 = .ok (.lrem, 1) := by decide +kernel
theorem dX0_of_40 : decode cX0_of 40 = .ok (.l2i, 1) := by decide +kernel
theorem dX0_of_41 : decode cX0_of 41 = .ok (.ireturn, 1) := by decide +kernel
set_option maxRecDepth 20000 in
theorem ggX1_takeAll_J7_fill_d0a16 : GoodIn wsX1_takeAll wsJ7_fill_d0a16 := goodIn_r _ [12] (by decide +kernel) (by decide +kernel)
set_option maxRecDepth 20000 in
theorem gX1_takeAll_J7_fill_d0a16 : GoodIn wsX1_takeAll (va_wsS RX1 21 yJ7_fill_d0a16 wsJ7_fill_d0a16) := goodIn_app (goodIn_of _ (by decide +kernel)) ggX1_takeAll_J7_fill_d0a16
theorem dX1_takeAll_0 : decode cX1_takeAll 0 = .ok (.aload_n 0, 1) := by decide +kernel
theorem dX1_takeAll_1 : decode cX1_takeAll 1 = .ok (.getfield 11, 3) := by decide +kernel
theorem dX1_takeAll_4 : decode cX1_takeAll 4 = .ok (.lconst 0, 1) := by decide +kernel
theorem dX1_takeAll_5 : decode cX1_takeAll 5 = .ok (.invokestatic 21, 3) := by decide +kernel
theorem dX1_takeAll_8 : decode cX1_takeAll 8 = .ok (.aload_n 0, 1) := by decide +kernel
theorem dX1_takeAll_9 : decode cX1_takeAll 9 = .ok (.getfield 15, 3) := by decide +kernel
theorem dX1_takeAll_12 : decode cX1_takeAll 12 = .ok (.lconst 0, 1) := by decide +kernel
theorem dX1_takeAll_13 : decode cX1_takeAll 13 = .ok (.invokestatic 21, 3) := by decide +kernel
theorem dX1_takeAll_16 : decode cX1_takeAll 16 = .ok (.aload_n 0, 1) := by decide +kernel
theorem dX1_takeAll_17 : decode cX1_takeAll 17 = .ok (.getfield 18, 3) := by decide +kernel
theorem dX1_takeAll_20 : decode cX1_takeAll 20 = .ok (.lconst 0, 1) := by decide +kernel
theorem dX1_takeAll_21 : decode cX1_takeAll 21 = .ok (.invokestatic 21, 3) := by decide +kernel
theorem dX1_takeAll_24 : decode cX1_takeAll 24 = .ok (.iconst 0, 1) := by decide +kernel
theorem dX1_takeAll_25 : decode cX1_takeAll 25 = .ok (.istore_n 2, 1) := by decide +kernel
theorem dX1_takeAll_26 : decode cX1_takeAll 26 = .ok (.iload_n 2, 1) := by decide +kernel
theorem dX1_takeAll_27 : decode cX1_takeAll 27 = .ok (.aload_n 1, 1) := by decide +kernel
theorem dX1_takeAll_28 : decode cX1_takeAll 28 = .ok (.getfield 27, 3) := by decide +kernel
theorem dX1_takeAll_31 : decode cX1_takeAll 31 = .ok (.if_icmp .ge 80, 3) := by decide +kernel
theorem dX1_takeAll_34 : decode cX1_takeAll 34 = .ok (.aload_n 1, 1) := by decide +kernel
theorem dX1_takeAll_35 : decode cX1_takeAll 35 = .ok (.getfield 33, 3) := by decide +kernel
theorem dX1_takeAll_38 : decode cX1_takeAll 38 = .ok (.iload_n 2, 1) := by decide +kernel
theorem dX1_takeAll_39 : decode cX1_takeAll 39 = .ok (.iaload, 1) := by decide +kernel
theorem dX1_takeAll_40 : decode cX1_takeAll 40 = .ok (.bipush 12, 2) := by decide +kernel
theorem dX1_takeAll_42 : decode cX1_takeAll 42 = .ok (.imul, 1) := by decide +kernel
theorem dX1_takeAll_43 : decode cX1_takeAll 43 = .ok (.aload_n 1, 1) := by decide +kernel
theorem dX1_takeAll_44 : decode cX1_takeAll 44 = .ok (.getfield 37, 3) := by decide +kernel
theorem dX1_takeAll_47 : decode cX1_takeAll 47 = .ok (.iload_n 2, 1) := by decide +kernel
theorem dX1_takeAll_48 : decode cX1_takeAll 48 = .ok (.iaload, 1) := by decide +kernel
theorem dX1_takeAll_49 : decode cX1_takeAll 49 = .ok (.iadd, 1) := by decide +kernel
theorem dX1_takeAll_50 : decode cX1_takeAll 50 = .ok (.iconst 1, 1) := by decide +kernel
theorem dX1_takeAll_51 : decode cX1_takeAll 51 = .ok (.isub, 1) := by decide +kernel
theorem dX1_takeAll_52 : decode cX1_takeAll 52 = .ok (.istore_n 3, 1) := by decide +kernel
theorem dX1_takeAll_53 : decode cX1_takeAll 53 = .ok (.iload_n 3, 1) := by decide +kernel
theorem dX1_takeAll_54 : decode cX1_takeAll 54 = .ok (.ifCond .lt 51, 3) := by decide +kernel
theorem dX1_takeAll_57 : decode cX1_takeAll 57 = .ok (.iload_n 3, 1) := by decide +kernel
theorem dX1_takeAll_58 : decode cX1_takeAll 58 = .ok (.bipush 72, 2) := by decide +kernel
theorem dX1_takeAll_60 : decode cX1_takeAll 60 = .ok (.if_icmp .ge 45, 3) := by decide +kernel
theorem dX1_takeAll_63 : decode cX1_takeAll 63 = .ok (.aload_n 0, 1) := by decide +kernel
theorem dX1_takeAll_64 : decode cX1_takeAll 64 = .ok (.getfield 11, 3) := by decide +kernel
theorem dX1_takeAll_67 : decode cX1_takeAll 67 = .ok (.iload_n 3, 1) := by decide +kernel
theorem dX1_takeAll_68 : decode cX1_takeAll 68 = .ok (.dup2, 1) := by decide +kernel
theorem dX1_takeAll_69 : decode cX1_takeAll 69 = .ok (.laload, 1) := by decide +kernel
theorem dX1_takeAll_70 : decode cX1_takeAll 70 = .ok (.lconst 1, 1) := by decide +kernel
theorem dX1_takeAll_71 : decode cX1_takeAll 71 = .ok (.ladd, 1) := by decide +kernel
theorem dX1_takeAll_72 : decode cX1_takeAll 72 = .ok (.lastore, 1) := by decide +kernel
theorem dX1_takeAll_73 : decode cX1_takeAll 73 = .ok (.aload_n 0, 1) := by decide +kernel
theorem dX1_takeAll_74 : decode cX1_takeAll 74 = .ok (.getfield 15, 3) := by decide +kernel
theorem dX1_takeAll_77 : decode cX1_takeAll 77 = .ok (.iload_n 3, 1) := by decide +kernel
theorem dX1_takeAll_78 : decode cX1_takeAll 78 = .ok (.dup2, 1) := by decide +kernel
theorem dX1_takeAll_79 : decode cX1_takeAll 79 = .ok (.laload, 1) := by decide +kernel
theorem dX1_takeAll_80 : decode cX1_takeAll 80 = .ok (.aload_n 1, 1) := by decide +kernel
theorem dX1_takeAll_81 : decode cX1_takeAll 81 = .ok (.getfield 40, 3) := by decide +kernel
theorem dX1_takeAll_84 : decode cX1_takeAll 84 = .ok (.iload_n 2, 1) := by decide +kernel
theorem dX1_takeAll_85 : decode cX1_takeAll 85 = .ok (.iaload, 1) := by decide +kernel
theorem dX1_takeAll_86 : decode cX1_takeAll 86 = .ok (.i2l, 1) := by decide +kernel
theorem dX1_takeAll_87 : decode cX1_takeAll 87 = .ok (.ladd, 1) := by decide +kernel
theorem dX1_takeAll_88 : decode cX1_takeAll 88 = .ok (.lastore, 1) := by decide +kernel
theorem dX1_takeAll_89 : decode cX1_takeAll 89 = .ok (.aload_n 0, 1) := by decide +kernel
theorem dX1_takeAll_90 : decode cX1_takeAll 90 = .ok (.getfield 18, 3) := by decide +kernel
theorem dX1_takeAll_93 : decode cX1_takeAll 93 = .ok (.iload_n 3, 1) := by decide +kernel
theorem dX1_takeAll_94 : decode cX1_takeAll 94 = .ok (.dup2, 1) := by decide +kernel
theorem dX1_takeAll_95 : decode cX1_takeAll 95 = .ok (.laload, 1) := by decide +kernel
theorem dX1_takeAll_96 : decode cX1_takeAll 96 = .ok (.aload_n 1, 1) := by decide +kernel
theorem dX1_takeAll_97 : decode cX1_takeAll 97 = .ok (.getfield 42, 3) := by decide +kernel
theorem dX1_takeAll_100 : decode cX1_takeAll 100 = .ok (.iload_n 2, 1) := by decide +kernel
theorem dX1_takeAll_101 : decode cX1_takeAll 101 = .ok (.iaload, 1) := by decide +kernel
theorem dX1_takeAll_102 : decode cX1_takeAll 102 = .ok (.i2l, 1) := by decide +kernel
theorem dX1_takeAll_103 : decode cX1_takeAll 103 = .ok (.ladd, 1) := by decide +kernel
theorem dX1_takeAll_104 : decode cX1_takeAll 104 = .ok (.lastore, 1) := by decide +kernel
theorem dX1_takeAll_105 : decode cX1_takeAll 105 = .ok (.iinc 2 1, 3) := by decide +kernel
theorem dX1_takeAll_108 : decode cX1_takeAll 108 = .ok (.goto (-82), 3) := by decide +kernel
theorem dX1_takeAll_111 : decode cX1_takeAll 111 = .ok (.return_, 1) := by decide +kernel
theorem dX1_filled_0 : decode cX1_filled 0 = .ok (.iconst 0, 1) := by decide +kernel
theorem dX1_filled_1 : decode cX1_filled 1 = .ok (.istore_n 1, 1) := by decide +kernel
theorem dX1_filled_2 : decode cX1_filled 2 = .ok (.iconst 0, 1) := by decide +kernel
theorem dX1_filled_3 : decode cX1_filled 3 = .ok (.istore_n 2, 1) := by decide +kernel
theorem dX1_filled_4 : decode cX1_filled 4 = .ok (.iload_n 2, 1) := by decide +kernel
theorem dX1_filled_5 : decode cX1_filled 5 = .ok (.bipush 72, 2) := by decide +kernel
theorem dX1_filled_7 : decode cX1_filled 7 = .ok (.if_icmp .ge 23, 3) := by decide +kernel
theorem dX1_filled_10 : decode cX1_filled 10 = .ok (.aload_n 0, 1) := by decide +kernel
theorem dX1_filled_11 : decode cX1_filled 11 = .ok (.getfield 11, 3) := by decide +kernel
theorem dX1_filled_14 : decode cX1_filled 14 = .ok (.iload_n 2, 1) := by decide +kernel
theorem dX1_filled_15 : decode cX1_filled 15 = .ok (.laload, 1) := by decide +kernel
theorem dX1_filled_16 : decode cX1_filled 16 = .ok (.lconst 0, 1) := by decide +kernel
theorem dX1_filled_17 : decode cX1_filled 17 = .ok (.lcmp, 1) := by decide +kernel
theorem dX1_filled_18 : decode cX1_filled 18 = .ok (.ifCond .le 6, 3) := by decide +kernel
theorem dX1_filled_21 : decode cX1_filled 21 = .ok (.iinc 1 1, 3) := by decide +kernel
theorem dX1_filled_24 : decode cX1_filled 24 = .ok (.iinc 2 1, 3) := by decide +kernel
theorem dX1_filled_27 : decode cX1_filled 27 = .ok (.goto (-23), 3) := by decide +kernel
theorem dX1_filled_30 : decode cX1_filled 30 = .ok (.iload_n 1, 1) := by decide +kernel
theorem dX1_filled_31 : decode cX1_filled 31 = .ok (.ireturn, 1) := by decide +kernel
set_option maxRecDepth 20000 in
theorem ggX1_slope_X8_thousandths : GoodIn wsX1_slope wsX8_thousandths := goodIn_r _ [6, 7, 8] (by decide +kernel) (by decide +kernel)
set_option maxRecDepth 20000 in
theorem gX1_slope_X8_thousandths_n44 : GoodIn wsX1_slope (wsX8_thousandths) := ggX1_slope_X8_thousandths
theorem dX1_slope_0 : decode cX1_slope 0 = .ok (.lconst 0, 1) := by decide +kernel
theorem dX1_slope_1 : decode cX1_slope 1 = .ok (.lstore_n 1, 1) := by decide +kernel
theorem dX1_slope_2 : decode cX1_slope 2 = .ok (.lconst 0, 1) := by decide +kernel
theorem dX1_slope_3 : decode cX1_slope 3 = .ok (.lstore_n 3, 1) := by decide +kernel
theorem dX1_slope_4 : decode cX1_slope 4 = .ok (.lconst 0, 1) := by decide +kernel
theorem dX1_slope_5 : decode cX1_slope 5 = .ok (.lstore 5, 2) := by decide +kernel
theorem dX1_slope_7 : decode cX1_slope 7 = .ok (.lconst 0, 1) := by decide +kernel
theorem dX1_slope_8 : decode cX1_slope 8 = .ok (.lstore 7, 2) := by decide +kernel
theorem dX1_slope_10 : decode cX1_slope 10 = .ok (.lconst 0, 1) := by decide +kernel
theorem dX1_slope_11 : decode cX1_slope 11 = .ok (.lstore 9, 2) := by decide +kernel
theorem dX1_slope_13 : decode cX1_slope 13 = .ok (.iconst 0, 1) := by decide +kernel
theorem dX1_slope_14 : decode cX1_slope 14 = .ok (.istore 11, 2) := by decide +kernel
theorem dX1_slope_16 : decode cX1_slope 16 = .ok (.iload 11, 2) := by decide +kernel
theorem dX1_slope_18 : decode cX1_slope 18 = .ok (.bipush 72, 2) := by decide +kernel
theorem dX1_slope_20 : decode cX1_slope 20 = .ok (.if_icmp .ge 109, 3) := by decide +kernel
theorem dX1_slope_23 : decode cX1_slope 23 = .ok (.aload_n 0, 1) := by decide +kernel
theorem dX1_slope_24 : decode cX1_slope 24 = .ok (.getfield 11, 3) := by decide +kernel
theorem dX1_slope_27 : decode cX1_slope 27 = .ok (.iload 11, 2) := by decide +kernel
theorem dX1_slope_29 : decode cX1_slope 29 = .ok (.laload, 1) := by decide +kernel
theorem dX1_slope_30 : decode cX1_slope 30 = .ok (.lconst 0, 1) := by decide +kernel
theorem dX1_slope_31 : decode cX1_slope 31 = .ok (.lcmp, 1) := by decide +kernel
theorem dX1_slope_32 : decode cX1_slope 32 = .ok (.ifCond .le 91, 3) := by decide +kernel
theorem dX1_slope_35 : decode cX1_slope 35 = .ok (.lload_n 1, 1) := by decide +kernel
theorem dX1_slope_36 : decode cX1_slope 36 = .ok (.aload_n 0, 1) := by decide +kernel
theorem dX1_slope_37 : decode cX1_slope 37 = .ok (.getfield 11, 3) := by decide +kernel
theorem dX1_slope_40 : decode cX1_slope 40 = .ok (.iload 11, 2) := by decide +kernel
theorem dX1_slope_42 : decode cX1_slope 42 = .ok (.laload, 1) := by decide +kernel
theorem dX1_slope_43 : decode cX1_slope 43 = .ok (.ladd, 1) := by decide +kernel
theorem dX1_slope_44 : decode cX1_slope 44 = .ok (.lstore_n 1, 1) := by decide +kernel
theorem dX1_slope_45 : decode cX1_slope 45 = .ok (.lload_n 3, 1) := by decide +kernel
theorem dX1_slope_46 : decode cX1_slope 46 = .ok (.aload_n 0, 1) := by decide +kernel
theorem dX1_slope_47 : decode cX1_slope 47 = .ok (.getfield 15, 3) := by decide +kernel
theorem dX1_slope_50 : decode cX1_slope 50 = .ok (.iload 11, 2) := by decide +kernel
theorem dX1_slope_52 : decode cX1_slope 52 = .ok (.laload, 1) := by decide +kernel
theorem dX1_slope_53 : decode cX1_slope 53 = .ok (.ladd, 1) := by decide +kernel
theorem dX1_slope_54 : decode cX1_slope 54 = .ok (.lstore_n 3, 1) := by decide +kernel
theorem dX1_slope_55 : decode cX1_slope 55 = .ok (.lload 5, 2) := by decide +kernel
theorem dX1_slope_57 : decode cX1_slope 57 = .ok (.aload_n 0, 1) := by decide +kernel
theorem dX1_slope_58 : decode cX1_slope 58 = .ok (.getfield 18, 3) := by decide +kernel
theorem dX1_slope_61 : decode cX1_slope 61 = .ok (.iload 11, 2) := by decide +kernel
theorem dX1_slope_63 : decode cX1_slope 63 = .ok (.laload, 1) := by decide +kernel
theorem dX1_slope_64 : decode cX1_slope 64 = .ok (.ladd, 1) := by decide +kernel
theorem dX1_slope_65 : decode cX1_slope 65 = .ok (.lstore 5, 2) := by decide +kernel
theorem dX1_slope_67 : decode cX1_slope 67 = .ok (.lload 7, 2) := by decide +kernel
theorem dX1_slope_69 : decode cX1_slope 69 = .ok (.aload_n 0, 1) := by decide +kernel
theorem dX1_slope_70 : decode cX1_slope 70 = .ok (.getfield 15, 3) := by decide +kernel
theorem dX1_slope_73 : decode cX1_slope 73 = .ok (.iload 11, 2) := by decide +kernel
theorem dX1_slope_75 : decode cX1_slope 75 = .ok (.laload, 1) := by decide +kernel
theorem dX1_slope_76 : decode cX1_slope 76 = .ok (.aload_n 0, 1) := by decide +kernel
theorem dX1_slope_77 : decode cX1_slope 77 = .ok (.getfield 18, 3) := by decide +kernel
theorem dX1_slope_80 : decode cX1_slope 80 = .ok (.iload 11, 2) := by decide +kernel
theorem dX1_slope_82 : decode cX1_slope 82 = .ok (.laload, 1) := by decide +kernel
theorem dX1_slope_83 : decode cX1_slope 83 = .ok (.lmul, 1) := by decide +kernel
theorem dX1_slope_84 : decode cX1_slope 84 = .ok (.aload_n 0, 1) := by decide +kernel
theorem dX1_slope_85 : decode cX1_slope 85 = .ok (.getfield 11, 3) := by decide +kernel
theorem dX1_slope_88 : decode cX1_slope 88 = .ok (.iload 11, 2) := by decide +kernel
theorem dX1_slope_90 : decode cX1_slope 90 = .ok (.laload, 1) := by decide +kernel
theorem dX1_slope_91 : decode cX1_slope 91 = .ok (.ldiv, 1) := by decide +kernel
theorem dX1_slope_92 : decode cX1_slope 92 = .ok (.ladd, 1) := by decide +kernel
theorem dX1_slope_93 : decode cX1_slope 93 = .ok (.lstore 7, 2) := by decide +kernel
theorem dX1_slope_95 : decode cX1_slope 95 = .ok (.lload 9, 2) := by decide +kernel
theorem dX1_slope_97 : decode cX1_slope 97 = .ok (.aload_n 0, 1) := by decide +kernel
theorem dX1_slope_98 : decode cX1_slope 98 = .ok (.getfield 15, 3) := by decide +kernel
theorem dX1_slope_101 : decode cX1_slope 101 = .ok (.iload 11, 2) := by decide +kernel
theorem dX1_slope_103 : decode cX1_slope 103 = .ok (.laload, 1) := by decide +kernel
theorem dX1_slope_104 : decode cX1_slope 104 = .ok (.aload_n 0, 1) := by decide +kernel
theorem dX1_slope_105 : decode cX1_slope 105 = .ok (.getfield 15, 3) := by decide +kernel
theorem dX1_slope_108 : decode cX1_slope 108 = .ok (.iload 11, 2) := by decide +kernel
theorem dX1_slope_110 : decode cX1_slope 110 = .ok (.laload, 1) := by decide +kernel
theorem dX1_slope_111 : decode cX1_slope 111 = .ok (.lmul, 1) := by decide +kernel
theorem dX1_slope_112 : decode cX1_slope 112 = .ok (.aload_n 0, 1) := by decide +kernel
theorem dX1_slope_113 : decode cX1_slope 113 = .ok (.getfield 11, 3) := by decide +kernel
theorem dX1_slope_116 : decode cX1_slope 116 = .ok (.iload 11, 2) := by decide +kernel
theorem dX1_slope_118 : decode cX1_slope 118 = .ok (.laload, 1) := by decide +kernel
theorem dX1_slope_119 : decode cX1_slope 119 = .ok (.ldiv, 1) := by decide +kernel
theorem dX1_slope_120 : decode cX1_slope 120 = .ok (.ladd, 1) := by decide +kernel
theorem dX1_slope_121 : decode cX1_slope 121 = .ok (.lstore 9, 2) := by decide +kernel
theorem dX1_slope_123 : decode cX1_slope 123 = .ok (.iinc 11 1, 3) := by decide +kernel
theorem dX1_slope_126 : decode cX1_slope 126 = .ok (.goto (-110), 3) := by decide +kernel
theorem dX1_slope_129 : decode cX1_slope 129 = .ok (.lload_n 1, 1) := by decide +kernel
theorem dX1_slope_130 : decode cX1_slope 130 = .ok (.lload 7, 2) := by decide +kernel
theorem dX1_slope_132 : decode cX1_slope 132 = .ok (.lmul, 1) := by decide +kernel
theorem dX1_slope_133 : decode cX1_slope 133 = .ok (.lload_n 3, 1) := by decide +kernel
theorem dX1_slope_134 : decode cX1_slope 134 = .ok (.lload 5, 2) := by decide +kernel
theorem dX1_slope_136 : decode cX1_slope 136 = .ok (.lmul, 1) := by decide +kernel
theorem dX1_slope_137 : decode cX1_slope 137 = .ok (.lsub, 1) := by decide +kernel
theorem dX1_slope_138 : decode cX1_slope 138 = .ok (.lload_n 1, 1) := by decide +kernel
theorem dX1_slope_139 : decode cX1_slope 139 = .ok (.lload 9, 2) := by decide +kernel
theorem dX1_slope_141 : decode cX1_slope 141 = .ok (.lmul, 1) := by decide +kernel
theorem dX1_slope_142 : decode cX1_slope 142 = .ok (.lload_n 3, 1) := by decide +kernel
theorem dX1_slope_143 : decode cX1_slope 143 = .ok (.lload_n 3, 1) := by decide +kernel
theorem dX1_slope_144 : decode cX1_slope 144 = .ok (.lmul, 1) := by decide +kernel
theorem dX1_slope_145 : decode cX1_slope 145 = .ok (.lsub, 1) := by decide +kernel
theorem dX1_slope_146 : decode cX1_slope 146 = .ok (.invokestatic 44, 3) := by decide +kernel
theorem dX1_slope_149 : decode cX1_slope 149 = .ok (.lreturn, 1) := by decide +kernel
set_option maxRecDepth 20000 in
theorem ggX3_clear_J7_fill_53178 : GoodIn wsX3_clear wsJ7_fill_53178 := goodIn_r _ [12] (by decide +kernel) (by decide +kernel)
set_option maxRecDepth 20000 in
theorem gX3_clear_J7_fill_53178 : GoodIn wsX3_clear (va_wsS RX3 39 yJ7_fill_53178 wsJ7_fill_53178) := goodIn_app (goodIn_of _ (by decide +kernel)) ggX3_clear_J7_fill_53178
theorem dX3_clear_0 : decode cX3_clear 0 = .ok (.aload_n 0, 1) := by decide +kernel
theorem dX3_clear_1 : decode cX3_clear 1 = .ok (.iconst 0, 1) := by decide +kernel
theorem dX3_clear_2 : decode cX3_clear 2 = .ok (.putfield 45, 3) := by decide +kernel
theorem dX3_clear_5 : decode cX3_clear 5 = .ok (.aload_n 0, 1) := by decide +kernel
theorem dX3_clear_6 : decode cX3_clear 6 = .ok (.iconst 0, 1) := by decide +kernel
theorem dX3_clear_7 : decode cX3_clear 7 = .ok (.putfield 49, 3) := by decide +kernel
theorem dX3_clear_10 : decode cX3_clear 10 = .ok (.aload_n 0, 1) := by decide +kernel
theorem dX3_clear_11 : decode cX3_clear 11 = .ok (.iconst 0, 1) := by decide +kernel
theorem dX3_clear_12 : decode cX3_clear 12 = .ok (.putfield 52, 3) := by decide +kernel
theorem dX3_clear_15 : decode cX3_clear 15 = .ok (.aload_n 0, 1) := by decide +kernel
theorem dX3_clear_16 : decode cX3_clear 16 = .ok (.iconst 0, 1) := by decide +kernel
theorem dX3_clear_17 : decode cX3_clear 17 = .ok (.putfield 55, 3) := by decide +kernel
theorem dX3_clear_20 : decode cX3_clear 20 = .ok (.aload_n 0, 1) := by decide +kernel
theorem dX3_clear_21 : decode cX3_clear 21 = .ok (.iconst 0, 1) := by decide +kernel
theorem dX3_clear_22 : decode cX3_clear 22 = .ok (.putfield 58, 3) := by decide +kernel
theorem dX3_clear_25 : decode cX3_clear 25 = .ok (.aload_n 0, 1) := by decide +kernel
theorem dX3_clear_26 : decode cX3_clear 26 = .ok (.iconst 0, 1) := by decide +kernel
theorem dX3_clear_27 : decode cX3_clear 27 = .ok (.putfield 61, 3) := by decide +kernel
theorem dX3_clear_30 : decode cX3_clear 30 = .ok (.aload_n 0, 1) := by decide +kernel
theorem dX3_clear_31 : decode cX3_clear 31 = .ok (.iconst 0, 1) := by decide +kernel
theorem dX3_clear_32 : decode cX3_clear 32 = .ok (.putfield 64, 3) := by decide +kernel
theorem dX3_clear_35 : decode cX3_clear 35 = .ok (.aload_n 0, 1) := by decide +kernel
theorem dX3_clear_36 : decode cX3_clear 36 = .ok (.getfield 30, 3) := by decide +kernel
theorem dX3_clear_39 : decode cX3_clear 39 = .ok (.iconst (-1), 1) := by decide +kernel
theorem dX3_clear_40 : decode cX3_clear 40 = .ok (.invokestatic 39, 3) := by decide +kernel
theorem dX3_clear_43 : decode cX3_clear 43 = .ok (.return_, 1) := by decide +kernel
theorem dX3_copyOf_0 : decode cX3_copyOf 0 = .ok (.aload_n 0, 1) := by decide +kernel
theorem dX3_copyOf_1 : decode cX3_copyOf 1 = .ok (.aload_n 1, 1) := by decide +kernel
theorem dX3_copyOf_2 : decode cX3_copyOf 2 = .ok (.getfield 45, 3) := by decide +kernel
theorem dX3_copyOf_5 : decode cX3_copyOf 5 = .ok (.putfield 45, 3) := by decide +kernel
theorem dX3_copyOf_8 : decode cX3_copyOf 8 = .ok (.aload_n 0, 1) := by decide +kernel
theorem dX3_copyOf_9 : decode cX3_copyOf 9 = .ok (.aload_n 1, 1) := by decide +kernel
theorem dX3_copyOf_10 : decode cX3_copyOf 10 = .ok (.getfield 49, 3) := by decide +kernel
theorem dX3_copyOf_13 : decode cX3_copyOf 13 = .ok (.putfield 49, 3) := by decide +kernel
theorem dX3_copyOf_16 : decode cX3_copyOf 16 = .ok (.aload_n 0, 1) := by decide +kernel
theorem dX3_copyOf_17 : decode cX3_copyOf 17 = .ok (.aload_n 1, 1) := by decide +kernel
theorem dX3_copyOf_18 : decode cX3_copyOf 18 = .ok (.getfield 52, 3) := by decide +kernel
theorem dX3_copyOf_21 : decode cX3_copyOf 21 = .ok (.putfield 52, 3) := by decide +kernel
theorem dX3_copyOf_24 : decode cX3_copyOf 24 = .ok (.aload_n 0, 1) := by decide +kernel
theorem dX3_copyOf_25 : decode cX3_copyOf 25 = .ok (.aload_n 1, 1) := by decide +kernel
theorem dX3_copyOf_26 : decode cX3_copyOf 26 = .ok (.getfield 55, 3) := by decide +kernel
theorem dX3_copyOf_29 : decode cX3_copyOf 29 = .ok (.putfield 55, 3) := by decide +kernel
theorem dX3_copyOf_32 : decode cX3_copyOf 32 = .ok (.aload_n 0, 1) := by decide +kernel
theorem dX3_copyOf_33 : decode cX3_copyOf 33 = .ok (.aload_n 1, 1) := by decide +kernel
theorem dX3_copyOf_34 : decode cX3_copyOf 34 = .ok (.getfield 58, 3) := by decide +kernel
theorem dX3_copyOf_37 : decode cX3_copyOf 37 = .ok (.putfield 58, 3) := by decide +kernel
theorem dX3_copyOf_40 : decode cX3_copyOf 40 = .ok (.aload_n 0, 1) := by decide +kernel
theorem dX3_copyOf_41 : decode cX3_copyOf 41 = .ok (.aload_n 1, 1) := by decide +kernel
theorem dX3_copyOf_42 : decode cX3_copyOf 42 = .ok (.getfield 61, 3) := by decide +kernel
theorem dX3_copyOf_45 : decode cX3_copyOf 45 = .ok (.putfield 61, 3) := by decide +kernel
theorem dX3_copyOf_48 : decode cX3_copyOf 48 = .ok (.aload_n 0, 1) := by decide +kernel
theorem dX3_copyOf_49 : decode cX3_copyOf 49 = .ok (.aload_n 1, 1) := by decide +kernel
theorem dX3_copyOf_50 : decode cX3_copyOf 50 = .ok (.getfield 64, 3) := by decide +kernel
theorem dX3_copyOf_53 : decode cX3_copyOf 53 = .ok (.putfield 64, 3) := by decide +kernel
theorem dX3_copyOf_56 : decode cX3_copyOf 56 = .ok (.aload_n 1, 1) := by decide +kernel
theorem dX3_copyOf_57 : decode cX3_copyOf 57 = .ok (.getfield 9, 3) := by decide +kernel
theorem dX3_copyOf_60 : decode cX3_copyOf 60 = .ok (.iconst 0, 1) := by decide +kernel
theorem dX3_copyOf_61 : decode cX3_copyOf 61 = .ok (.aload_n 0, 1) := by decide +kernel
theorem dX3_copyOf_62 : decode cX3_copyOf 62 = .ok (.getfield 9, 3) := by decide +kernel
theorem dX3_copyOf_65 : decode cX3_copyOf 65 = .ok (.iconst 0, 1) := by decide +kernel
theorem dX3_copyOf_66 : decode cX3_copyOf 66 = .ok (.bipush 6, 2) := by decide +kernel
theorem dX3_copyOf_68 : decode cX3_copyOf 68 = .ok (.invokestatic 68, 3) := by decide +kernel
theorem dX3_copyOf_71 : decode cX3_copyOf 71 = .ok (.aload_n 1, 1) := by decide +kernel
theorem dX3_copyOf_72 : decode cX3_copyOf 72 = .ok (.getfield 15, 3) := by decide +kernel
theorem dX3_copyOf_75 : decode cX3_copyOf 75 = .ok (.iconst 0, 1) := by decide +kernel
theorem dX3_copyOf_76 : decode cX3_copyOf 76 = .ok (.aload_n 0, 1) := by decide +kernel
theorem dX3_copyOf_77 : decode cX3_copyOf 77 = .ok (.getfield 15, 3) := by decide +kernel
theorem dX3_copyOf_80 : decode cX3_copyOf 80 = .ok (.iconst 0, 1) := by decide +kernel
theorem dX3_copyOf_81 : decode cX3_copyOf 81 = .ok (.bipush 6, 2) := by decide +kernel
theorem dX3_copyOf_83 : decode cX3_copyOf 83 = .ok (.invokestatic 68, 3) := by decide +kernel
theorem dX3_copyOf_86 : decode cX3_copyOf 86 = .ok (.aload_n 1, 1) := by decide +kernel
theorem dX3_copyOf_87 : decode cX3_copyOf 87 = .ok (.getfield 18, 3) := by decide +kernel
theorem dX3_copyOf_90 : decode cX3_copyOf 90 = .ok (.iconst 0, 1) := by decide +kernel
theorem dX3_copyOf_91 : decode cX3_copyOf 91 = .ok (.aload_n 0, 1) := by decide +kernel
theorem dX3_copyOf_92 : decode cX3_copyOf 92 = .ok (.getfield 18, 3) := by decide +kernel
theorem dX3_copyOf_95 : decode cX3_copyOf 95 = .ok (.iconst 0, 1) := by decide +kernel
theorem dX3_copyOf_96 : decode cX3_copyOf 96 = .ok (.bipush 8, 2) := by decide +kernel
theorem dX3_copyOf_98 : decode cX3_copyOf 98 = .ok (.invokestatic 68, 3) := by decide +kernel
theorem dX3_copyOf_101 : decode cX3_copyOf 101 = .ok (.aload_n 1, 1) := by decide +kernel
theorem dX3_copyOf_102 : decode cX3_copyOf 102 = .ok (.getfield 21, 3) := by decide +kernel
theorem dX3_copyOf_105 : decode cX3_copyOf 105 = .ok (.iconst 0, 1) := by decide +kernel
theorem dX3_copyOf_106 : decode cX3_copyOf 106 = .ok (.aload_n 0, 1) := by decide +kernel
theorem dX3_copyOf_107 : decode cX3_copyOf 107 = .ok (.getfield 21, 3) := by decide +kernel
theorem dX3_copyOf_110 : decode cX3_copyOf 110 = .ok (.iconst 0, 1) := by decide +kernel
theorem dX3_copyOf_111 : decode cX3_copyOf 111 = .ok (.bipush 8, 2) := by decide +kernel
theorem dX3_copyOf_113 : decode cX3_copyOf 113 = .ok (.invokestatic 68, 3) := by decide +kernel
theorem dX3_copyOf_116 : decode cX3_copyOf 116 = .ok (.aload_n 1, 1) := by decide +kernel
theorem dX3_copyOf_117 : decode cX3_copyOf 117 = .ok (.getfield 24, 3) := by decide +kernel
theorem dX3_copyOf_120 : decode cX3_copyOf 120 = .ok (.iconst 0, 1) := by decide +kernel
theorem dX3_copyOf_121 : decode cX3_copyOf 121 = .ok (.aload_n 0, 1) := by decide +kernel
theorem dX3_copyOf_122 : decode cX3_copyOf 122 = .ok (.getfield 24, 3) := by decide +kernel
theorem dX3_copyOf_125 : decode cX3_copyOf 125 = .ok (.iconst 0, 1) := by decide +kernel
theorem dX3_copyOf_126 : decode cX3_copyOf 126 = .ok (.bipush 8, 2) := by decide +kernel
theorem dX3_copyOf_128 : decode cX3_copyOf 128 = .ok (.invokestatic 68, 3) := by decide +kernel
theorem dX3_copyOf_131 : decode cX3_copyOf 131 = .ok (.aload_n 1, 1) := by decide +kernel
theorem dX3_copyOf_132 : decode cX3_copyOf 132 = .ok (.getfield 27, 3) := by decide +kernel
theorem dX3_copyOf_135 : decode cX3_copyOf 135 = .ok (.iconst 0, 1) := by decide +kernel
theorem dX3_copyOf_136 : decode cX3_copyOf 136 = .ok (.aload_n 0, 1) := by decide +kernel
theorem dX3_copyOf_137 : decode cX3_copyOf 137 = .ok (.getfield 27, 3) := by decide +kernel
theorem dX3_copyOf_140 : decode cX3_copyOf 140 = .ok (.iconst 0, 1) := by decide +kernel
theorem dX3_copyOf_141 : decode cX3_copyOf 141 = .ok (.bipush 8, 2) := by decide +kernel
theorem dX3_copyOf_143 : decode cX3_copyOf 143 = .ok (.invokestatic 68, 3) := by decide +kernel
theorem dX3_copyOf_146 : decode cX3_copyOf 146 = .ok (.aload_n 1, 1) := by decide +kernel
theorem dX3_copyOf_147 : decode cX3_copyOf 147 = .ok (.getfield 30, 3) := by decide +kernel
theorem dX3_copyOf_150 : decode cX3_copyOf 150 = .ok (.iconst 0, 1) := by decide +kernel
theorem dX3_copyOf_151 : decode cX3_copyOf 151 = .ok (.aload_n 0, 1) := by decide +kernel
theorem dX3_copyOf_152 : decode cX3_copyOf 152 = .ok (.getfield 30, 3) := by decide +kernel
theorem dX3_copyOf_155 : decode cX3_copyOf 155 = .ok (.iconst 0, 1) := by decide +kernel
theorem dX3_copyOf_156 : decode cX3_copyOf 156 = .ok (.bipush 13, 2) := by decide +kernel
theorem dX3_copyOf_158 : decode cX3_copyOf 158 = .ok (.invokestatic 68, 3) := by decide +kernel
theorem dX3_copyOf_161 : decode cX3_copyOf 161 = .ok (.aload_n 1, 1) := by decide +kernel
theorem dX3_copyOf_162 : decode cX3_copyOf 162 = .ok (.getfield 33, 3) := by decide +kernel
theorem dX3_copyOf_165 : decode cX3_copyOf 165 = .ok (.iconst 0, 1) := by decide +kernel
theorem dX3_copyOf_166 : decode cX3_copyOf 166 = .ok (.aload_n 0, 1) := by decide +kernel
theorem dX3_copyOf_167 : decode cX3_copyOf 167 = .ok (.getfield 33, 3) := by decide +kernel
theorem dX3_copyOf_170 : decode cX3_copyOf 170 = .ok (.iconst 0, 1) := by decide +kernel
theorem dX3_copyOf_171 : decode cX3_copyOf 171 = .ok (.bipush 120, 2) := by decide +kernel
theorem dX3_copyOf_173 : decode cX3_copyOf 173 = .ok (.invokestatic 68, 3) := by decide +kernel
theorem dX3_copyOf_176 : decode cX3_copyOf 176 = .ok (.aload_n 1, 1) := by decide +kernel
theorem dX3_copyOf_177 : decode cX3_copyOf 177 = .ok (.getfield 36, 3) := by decide +kernel
theorem dX3_copyOf_180 : decode cX3_copyOf 180 = .ok (.iconst 0, 1) := by decide +kernel
theorem dX3_copyOf_181 : decode cX3_copyOf 181 = .ok (.aload_n 0, 1) := by decide +kernel
theorem dX3_copyOf_182 : decode cX3_copyOf 182 = .ok (.getfield 36, 3) := by decide +kernel
theorem dX3_copyOf_185 : decode cX3_copyOf 185 = .ok (.iconst 0, 1) := by decide +kernel
theorem dX3_copyOf_186 : decode cX3_copyOf 186 = .ok (.bipush 120, 2) := by decide +kernel
theorem dX3_copyOf_188 : decode cX3_copyOf 188 = .ok (.invokestatic 68, 3) := by decide +kernel
theorem dX3_copyOf_191 : decode cX3_copyOf 191 = .ok (.return_, 1) := by decide +kernel
theorem dX3_addLaw_0 : decode cX3_addLaw 0 = .ok (.aload_n 0, 1) := by decide +kernel
theorem dX3_addLaw_1 : decode cX3_addLaw 1 = .ok (.getfield 49, 3) := by decide +kernel
theorem dX3_addLaw_4 : decode cX3_addLaw 4 = .ok (.bipush 6, 2) := by decide +kernel
theorem dX3_addLaw_6 : decode cX3_addLaw 6 = .ok (.if_icmp .ge 33, 3) := by decide +kernel
theorem dX3_addLaw_9 : decode cX3_addLaw 9 = .ok (.aload_n 0, 1) := by decide +kernel
theorem dX3_addLaw_10 : decode cX3_addLaw 10 = .ok (.getfield 9, 3) := by decide +kernel
theorem dX3_addLaw_13 : decode cX3_addLaw 13 = .ok (.aload_n 0, 1) := by decide +kernel
theorem dX3_addLaw_14 : decode cX3_addLaw 14 = .ok (.getfield 49, 3) := by decide +kernel
theorem dX3_addLaw_17 : decode cX3_addLaw 17 = .ok (.iload_n 1, 1) := by decide +kernel
theorem dX3_addLaw_18 : decode cX3_addLaw 18 = .ok (.iastore, 1) := by decide +kernel
theorem dX3_addLaw_19 : decode cX3_addLaw 19 = .ok (.aload_n 0, 1) := by decide +kernel
theorem dX3_addLaw_20 : decode cX3_addLaw 20 = .ok (.getfield 15, 3) := by decide +kernel
theorem dX3_addLaw_23 : decode cX3_addLaw 23 = .ok (.aload_n 0, 1) := by decide +kernel
theorem dX3_addLaw_24 : decode cX3_addLaw 24 = .ok (.getfield 49, 3) := by decide +kernel
theorem dX3_addLaw_27 : decode cX3_addLaw 27 = .ok (.iload_n 2, 1) := by decide +kernel
theorem dX3_addLaw_28 : decode cX3_addLaw 28 = .ok (.iastore, 1) := by decide +kernel
theorem dX3_addLaw_29 : decode cX3_addLaw 29 = .ok (.aload_n 0, 1) := by decide +kernel
theorem dX3_addLaw_30 : decode cX3_addLaw 30 = .ok (.dup, 1) := by decide +kernel
theorem dX3_addLaw_31 : decode cX3_addLaw 31 = .ok (.getfield 49, 3) := by decide +kernel
theorem dX3_addLaw_34 : decode cX3_addLaw 34 = .ok (.iconst 1, 1) := by decide +kernel
theorem dX3_addLaw_35 : decode cX3_addLaw 35 = .ok (.iadd, 1) := by decide +kernel
theorem dX3_addLaw_36 : decode cX3_addLaw 36 = .ok (.putfield 49, 3) := by decide +kernel
theorem dX3_addLaw_39 : decode cX3_addLaw 39 = .ok (.return_, 1) := by decide +kernel
theorem dX3_addSort_0 : decode cX3_addSort 0 = .ok (.aload_n 0, 1) := by decide +kernel
theorem dX3_addSort_1 : decode cX3_addSort 1 = .ok (.getfield 52, 3) := by decide +kernel
theorem dX3_addSort_4 : decode cX3_addSort 4 = .ok (.bipush 8, 2) := by decide +kernel
theorem dX3_addSort_6 : decode cX3_addSort 6 = .ok (.if_icmp .ge 64, 3) := by decide +kernel
theorem dX3_addSort_9 : decode cX3_addSort 9 = .ok (.aload_n 0, 1) := by decide +kernel
theorem dX3_addSort_10 : decode cX3_addSort 10 = .ok (.getfield 18, 3) := by decide +kernel
theorem dX3_addSort_13 : decode cX3_addSort 13 = .ok (.aload_n 0, 1) := by decide +kernel
theorem dX3_addSort_14 : decode cX3_addSort 14 = .ok (.getfield 52, 3) := by decide +kernel
theorem dX3_addSort_17 : decode cX3_addSort 17 = .ok (.iload_n 1, 1) := by decide +kernel
theorem dX3_addSort_18 : decode cX3_addSort 18 = .ok (.iastore, 1) := by decide +kernel
theorem dX3_addSort_19 : decode cX3_addSort 19 = .ok (.aload_n 0, 1) := by decide +kernel
theorem dX3_addSort_20 : decode cX3_addSort 20 = .ok (.getfield 21, 3) := by decide +kernel
theorem dX3_addSort_23 : decode cX3_addSort 23 = .ok (.aload_n 0, 1) := by decide +kernel
theorem dX3_addSort_24 : decode cX3_addSort 24 = .ok (.getfield 52, 3) := by decide +kernel
theorem dX3_addSort_27 : decode cX3_addSort 27 = .ok (.iload_n 2, 1) := by decide +kernel
theorem dX3_addSort_28 : decode cX3_addSort 28 = .ok (.iastore, 1) := by decide +kernel
theorem dX3_addSort_29 : decode cX3_addSort 29 = .ok (.aload_n 0, 1) := by decide +kernel
theorem dX3_addSort_30 : decode cX3_addSort 30 = .ok (.getfield 24, 3) := by decide +kernel
theorem dX3_addSort_33 : decode cX3_addSort 33 = .ok (.aload_n 0, 1) := by decide +kernel
theorem dX3_addSort_34 : decode cX3_addSort 34 = .ok (.getfield 52, 3) := by decide +kernel
theorem dX3_addSort_37 : decode cX3_addSort 37 = .ok (.iload_n 3, 1) := by decide +kernel
theorem dX3_addSort_38 : decode cX3_addSort 38 = .ok (.iastore, 1) := by decide +kernel
theorem dX3_addSort_39 : decode cX3_addSort 39 = .ok (.aload_n 0, 1) := by decide +kernel
theorem dX3_addSort_40 : decode cX3_addSort 40 = .ok (.getfield 27, 3) := by decide +kernel
theorem dX3_addSort_43 : decode cX3_addSort 43 = .ok (.aload_n 0, 1) := by decide +kernel
theorem dX3_addSort_44 : decode cX3_addSort 44 = .ok (.getfield 52, 3) := by decide +kernel
theorem dX3_addSort_47 : decode cX3_addSort 47 = .ok (.iload 4, 2) := by decide +kernel
theorem dX3_addSort_49 : decode cX3_addSort 49 = .ok (.iastore, 1) := by decide +kernel
theorem dX3_addSort_50 : decode cX3_addSort 50 = .ok (.aload_n 0, 1) := by decide +kernel
theorem dX3_addSort_51 : decode cX3_addSort 51 = .ok (.dup, 1) := by decide +kernel
theorem dX3_addSort_52 : decode cX3_addSort 52 = .ok (.getfield 55, 3) := by decide +kernel
theorem dX3_addSort_55 : decode cX3_addSort 55 = .ok (.iload_n 1, 1) := by decide +kernel
theorem dX3_addSort_56 : decode cX3_addSort 56 = .ok (.iadd, 1) := by decide +kernel
theorem dX3_addSort_57 : decode cX3_addSort 57 = .ok (.putfield 55, 3) := by decide +kernel
theorem dX3_addSort_60 : decode cX3_addSort 60 = .ok (.aload_n 0, 1) := by decide +kernel
theorem dX3_addSort_61 : decode cX3_addSort 61 = .ok (.dup, 1) := by decide +kernel
theorem dX3_addSort_62 : decode cX3_addSort 62 = .ok (.getfield 52, 3) := by decide +kernel
theorem dX3_addSort_65 : decode cX3_addSort 65 = .ok (.iconst 1, 1) := by decide +kernel
theorem dX3_addSort_66 : decode cX3_addSort 66 = .ok (.iadd, 1) := by decide +kernel
theorem dX3_addSort_67 : decode cX3_addSort 67 = .ok (.putfield 52, 3) := by decide +kernel
theorem dX3_addSort_70 : decode cX3_addSort 70 = .ok (.return_, 1) := by decide +kernel
theorem dX3_addPart_0 : decode cX3_addPart 0 = .ok (.aload_n 0, 1) := by decide +kernel
theorem dX3_addPart_1 : decode cX3_addPart 1 = .ok (.getfield 58, 3) := by decide +kernel
theorem dX3_addPart_4 : decode cX3_addPart 4 = .ok (.bipush 120, 2) := by decide +kernel
theorem dX3_addPart_6 : decode cX3_addPart 6 = .ok (.if_icmp .ge 33, 3) := by decide +kernel
theorem dX3_addPart_9 : decode cX3_addPart 9 = .ok (.aload_n 0, 1) := by decide +kernel
theorem dX3_addPart_10 : decode cX3_addPart 10 = .ok (.getfield 33, 3) := by decide +kernel
theorem dX3_addPart_13 : decode cX3_addPart 13 = .ok (.aload_n 0, 1) := by decide +kernel
theorem dX3_addPart_14 : decode cX3_addPart 14 = .ok (.getfield 58, 3) := by decide +kernel
theorem dX3_addPart_17 : decode cX3_addPart 17 = .ok (.iload_n 1, 1) := by decide +kernel
theorem dX3_addPart_18 : decode cX3_addPart 18 = .ok (.iastore, 1) := by decide +kernel
theorem dX3_addPart_19 : decode cX3_addPart 19 = .ok (.aload_n 0, 1) := by decide +kernel
theorem dX3_addPart_20 : decode cX3_addPart 20 = .ok (.getfield 36, 3) := by decide +kernel
theorem dX3_addPart_23 : decode cX3_addPart 23 = .ok (.aload_n 0, 1) := by decide +kernel
theorem dX3_addPart_24 : decode cX3_addPart 24 = .ok (.getfield 58, 3) := by decide +kernel
theorem dX3_addPart_27 : decode cX3_addPart 27 = .ok (.iload_n 2, 1) := by decide +kernel
theorem dX3_addPart_28 : decode cX3_addPart 28 = .ok (.iastore, 1) := by decide +kernel
theorem dX3_addPart_29 : decode cX3_addPart 29 = .ok (.aload_n 0, 1) := by decide +kernel
theorem dX3_addPart_30 : decode cX3_addPart 30 = .ok (.dup, 1) := by decide +kernel
theorem dX3_addPart_31 : decode cX3_addPart 31 = .ok (.getfield 58, 3) := by decide +kernel
theorem dX3_addPart_34 : decode cX3_addPart 34 = .ok (.iconst 1, 1) := by decide +kernel
theorem dX3_addPart_35 : decode cX3_addPart 35 = .ok (.iadd, 1) := by decide +kernel
theorem dX3_addPart_36 : decode cX3_addPart 36 = .ok (.putfield 58, 3) := by decide +kernel
theorem dX3_addPart_39 : decode cX3_addPart 39 = .ok (.return_, 1) := by decide +kernel
theorem dX3_hasState_0 : decode cX3_hasState 0 = .ok (.iload_n 1, 1) := by decide +kernel
theorem dX3_hasState_1 : decode cX3_hasState 1 = .ok (.ifCond .lt 15, 3) := by decide +kernel
theorem dX3_hasState_4 : decode cX3_hasState 4 = .ok (.iload_n 1, 1) := by decide +kernel
theorem dX3_hasState_5 : decode cX3_hasState 5 = .ok (.aload_n 0, 1) := by decide +kernel
theorem dX3_hasState_6 : decode cX3_hasState 6 = .ok (.getfield 49, 3) := by decide +kernel
theorem dX3_hasState_9 : decode cX3_hasState 9 = .ok (.if_icmp .ge 7, 3) := by decide +kernel
theorem dX3_hasState_12 : decode cX3_hasState 12 = .ok (.iconst 1, 1) := by decide +kernel
theorem dX3_hasState_13 : decode cX3_hasState 13 = .ok (.goto 4, 3) := by decide +kernel
theorem dX3_hasState_16 : decode cX3_hasState 16 = .ok (.iconst 0, 1) := by decide +kernel
theorem dX3_hasState_17 : decode cX3_hasState 17 = .ok (.ireturn, 1) := by decide +kernel
set_option maxRecDepth 20000 in
theorem ggX3_hasLeak_X8_isMonth : GoodIn wsX3_hasLeak wsX8_isMonth := goodIn_r _ [4, 5, 6, 3, 7] (by decide +kernel) (by decide +kernel)
set_option maxRecDepth 20000 in
theorem gX3_hasLeak_X8_isMonth_n74 : GoodIn wsX3_hasLeak (wsX8_isMonth) := ggX3_hasLeak_X8_isMonth
theorem dX3_hasLeak_0 : decode cX3_hasLeak 0 = .ok (.iload_n 1, 1) := by decide +kernel
theorem dX3_hasLeak_1 : decode cX3_hasLeak 1 = .ok (.invokestatic 74, 3) := by decide +kernel
theorem dX3_hasLeak_4 : decode cX3_hasLeak 4 = .ok (.ifCond .eq 17, 3) := by decide +kernel
theorem dX3_hasLeak_7 : decode cX3_hasLeak 7 = .ok (.aload_n 0, 1) := by decide +kernel
theorem dX3_hasLeak_8 : decode cX3_hasLeak 8 = .ok (.getfield 30, 3) := by decide +kernel
theorem dX3_hasLeak_11 : decode cX3_hasLeak 11 = .ok (.iload_n 1, 1) := by decide +kernel
theorem dX3_hasLeak_12 : decode cX3_hasLeak 12 = .ok (.iaload, 1) := by decide +kernel
theorem dX3_hasLeak_13 : decode cX3_hasLeak 13 = .ok (.iconst (-1), 1) := by decide +kernel
theorem dX3_hasLeak_14 : decode cX3_hasLeak 14 = .ok (.if_icmp .eq 7, 3) := by decide +kernel
theorem dX3_hasLeak_17 : decode cX3_hasLeak 17 = .ok (.iconst 1, 1) := by decide +kernel
theorem dX3_hasLeak_18 : decode cX3_hasLeak 18 = .ok (.goto 4, 3) := by decide +kernel
theorem dX3_hasLeak_21 : decode cX3_hasLeak 21 = .ok (.iconst 0, 1) := by decide +kernel
theorem dX3_hasLeak_22 : decode cX3_hasLeak 22 = .ok (.ireturn, 1) := by decide +kernel
set_option maxRecDepth 20000 in
theorem ggX3_leakOf_X3_hasLeak : GoodIn wsX3_leakOf wsX3_hasLeak := goodIn_r _ [6, 1, 7, 8, 9, 10, 11, 12, 13, 14, 15, 16, 17, 18, 19, 20, 21, 22, 23, 24, 25, 26, 27, 28] (by decide +kernel) (by decide +kernel)
set_option maxRecDepth 20000 in
theorem gX3_leakOf_X3_hasLeak : GoodIn wsX3_leakOf (wsV RX3 78 RX3 yX3_hasLeak wsX3_hasLeak) := goodIn_app (goodIn_of _ (by decide +kernel)) ggX3_leakOf_X3_hasLeak
theorem dX3_leakOf_0 : decode cX3_leakOf 0 = .ok (.aload_n 0, 1) := by decide +kernel
theorem dX3_leakOf_1 : decode cX3_leakOf 1 = .ok (.iload_n 1, 1) := by decide +kernel
theorem dX3_leakOf_2 : decode cX3_leakOf 2 = .ok (.invokevirtual 78, 3) := by decide +kernel
theorem dX3_leakOf_5 : decode cX3_leakOf 5 = .ok (.ifCond .eq 12, 3) := by decide +kernel
theorem dX3_leakOf_8 : decode cX3_leakOf 8 = .ok (.aload_n 0, 1) := by decide +kernel
theorem dX3_leakOf_9 : decode cX3_leakOf 9 = .ok (.getfield 30, 3) := by decide +kernel
theorem dX3_leakOf_12 : decode cX3_leakOf 12 = .ok (.iload_n 1, 1) := by decide +kernel
theorem dX3_leakOf_13 : decode cX3_leakOf 13 = .ok (.iaload, 1) := by decide +kernel
theorem dX3_leakOf_14 : decode cX3_leakOf 14 = .ok (.goto 4, 3) := by decide +kernel
theorem dX3_leakOf_17 : decode cX3_leakOf 17 = .ok (.iconst 0, 1) := by decide +kernel
theorem dX3_leakOf_18 : decode cX3_leakOf 18 = .ok (.ireturn, 1) := by decide +kernel
theorem dX3_canBeDrawnFrom_0 : decode cX3_canBeDrawnFrom 0 = .ok (.aload_n 0, 1) := by decide +kernel
theorem dX3_canBeDrawnFrom_1 : decode cX3_canBeDrawnFrom 1 = .ok (.getfield 49, 3) := by decide +kernel
theorem dX3_canBeDrawnFrom_4 : decode cX3_canBeDrawnFrom 4 = .ok (.ifCond .le 14, 3) := by decide +kernel
theorem dX3_canBeDrawnFrom_7 : decode cX3_canBeDrawnFrom 7 = .ok (.aload_n 0, 1) := by decide +kernel
theorem dX3_canBeDrawnFrom_8 : decode cX3_canBeDrawnFrom 8 = .ok (.getfield 52, 3) := by decide +kernel
theorem dX3_canBeDrawnFrom_11 : decode cX3_canBeDrawnFrom 11 = .ok (.ifCond .le 7, 3) := by decide +kernel
theorem dX3_canBeDrawnFrom_14 : decode cX3_canBeDrawnFrom 14 = .ok (.iconst 1, 1) := by decide +kernel
theorem dX3_canBeDrawnFrom_15 : decode cX3_canBeDrawnFrom 15 = .ok (.goto 4, 3) := by decide +kernel
theorem dX3_canBeDrawnFrom_18 : decode cX3_canBeDrawnFrom 18 = .ok (.iconst 0, 1) := by decide +kernel
theorem dX3_canBeDrawnFrom_19 : decode cX3_canBeDrawnFrom 19 = .ok (.ireturn, 1) := by decide +kernel
theorem dX3_oldAt_0 : decode cX3_oldAt 0 = .ok (.bipush 12, 2) := by decide +kernel
theorem dX3_oldAt_2 : decode cX3_oldAt 2 = .ok (.aload_n 0, 1) := by decide +kernel
theorem dX3_oldAt_3 : decode cX3_oldAt 3 = .ok (.getfield 9, 3) := by decide +kernel
theorem dX3_oldAt_6 : decode cX3_oldAt 6 = .ok (.iload_n 1, 1) := by decide +kernel
theorem dX3_oldAt_7 : decode cX3_oldAt 7 = .ok (.iaload, 1) := by decide +kernel
theorem dX3_oldAt_8 : decode cX3_oldAt 8 = .ok (.imul, 1) := by decide +kernel
theorem dX3_oldAt_9 : decode cX3_oldAt 9 = .ok (.bipush 9, 2) := by decide +kernel
theorem dX3_oldAt_11 : decode cX3_oldAt 11 = .ok (.iadd, 1) := by decide +kernel
theorem dX3_oldAt_12 : decode cX3_oldAt 12 = .ok (.iload_n 2, 1) := by decide +kernel
theorem dX3_oldAt_13 : decode cX3_oldAt 13 = .ok (.isub, 1) := by decide +kernel
theorem dX3_oldAt_14 : decode cX3_oldAt 14 = .ok (.ireturn, 1) := by decide +kernel
set_option maxRecDepth 20000 in
theorem ggX3_forcedAt_X3_oldAt : GoodIn wsX3_forcedAt wsX3_oldAt := goodIn_r _ [6, 7, 8, 9, 10, 11, 12, 13, 14, 15, 16, 17, 18, 19, 20, 21, 22, 23] (by decide +kernel) (by decide +kernel)
set_option maxRecDepth 20000 in
theorem gX3_forcedAt_X3_oldAt : GoodIn wsX3_forcedAt (wsV RX3 81 RX3 yX3_oldAt wsX3_oldAt) := goodIn_app (goodIn_of _ (by decide +kernel)) ggX3_forcedAt_X3_oldAt
theorem dX3_forcedAt_0 : decode cX3_forcedAt 0 = .ok (.bipush 12, 2) := by decide +kernel
theorem dX3_forcedAt_2 : decode cX3_forcedAt 2 = .ok (.aload_n 0, 1) := by decide +kernel
theorem dX3_forcedAt_3 : decode cX3_forcedAt 3 = .ok (.getfield 15, 3) := by decide +kernel
theorem dX3_forcedAt_6 : decode cX3_forcedAt 6 = .ok (.iload_n 1, 1) := by decide +kernel
theorem dX3_forcedAt_7 : decode cX3_forcedAt 7 = .ok (.iaload, 1) := by decide +kernel
theorem dX3_forcedAt_8 : decode cX3_forcedAt 8 = .ok (.imul, 1) := by decide +kernel
theorem dX3_forcedAt_9 : decode cX3_forcedAt 9 = .ok (.aload_n 0, 1) := by decide +kernel
theorem dX3_forcedAt_10 : decode cX3_forcedAt 10 = .ok (.iload_n 1, 1) := by decide +kernel
theorem dX3_forcedAt_11 : decode cX3_forcedAt 11 = .ok (.iload_n 2, 1) := by decide +kernel
theorem dX3_forcedAt_12 : decode cX3_forcedAt 12 = .ok (.invokevirtual 81, 3) := by decide +kernel
theorem dX3_forcedAt_15 : decode cX3_forcedAt 15 = .ok (.isub, 1) := by decide +kernel
theorem dX3_forcedAt_16 : decode cX3_forcedAt 16 = .ok (.ireturn, 1) := by decide +kernel
theorem dX3_sortAt_0 : decode cX3_sortAt 0 = .ok (.iconst 0, 1) := by decide +kernel
theorem dX3_sortAt_1 : decode cX3_sortAt 1 = .ok (.istore_n 2, 1) := by decide +kernel
theorem dX3_sortAt_2 : decode cX3_sortAt 2 = .ok (.iconst 0, 1) := by decide +kernel
theorem dX3_sortAt_3 : decode cX3_sortAt 3 = .ok (.istore_n 3, 1) := by decide +kernel
theorem dX3_sortAt_4 : decode cX3_sortAt 4 = .ok (.iload_n 3, 1) := by decide +kernel
theorem dX3_sortAt_5 : decode cX3_sortAt 5 = .ok (.aload_n 0, 1) := by decide +kernel
theorem dX3_sortAt_6 : decode cX3_sortAt 6 = .ok (.getfield 52, 3) := by decide +kernel
theorem dX3_sortAt_9 : decode cX3_sortAt 9 = .ok (.if_icmp .ge 25, 3) := by decide +kernel
theorem dX3_sortAt_12 : decode cX3_sortAt 12 = .ok (.iload_n 2, 1) := by decide +kernel
theorem dX3_sortAt_13 : decode cX3_sortAt 13 = .ok (.aload_n 0, 1) := by decide +kernel
theorem dX3_sortAt_14 : decode cX3_sortAt 14 = .ok (.getfield 18, 3) := by decide +kernel
theorem dX3_sortAt_17 : decode cX3_sortAt 17 = .ok (.iload_n 3, 1) := by decide +kernel
theorem dX3_sortAt_18 : decode cX3_sortAt 18 = .ok (.iaload, 1) := by decide +kernel
theorem dX3_sortAt_19 : decode cX3_sortAt 19 = .ok (.iadd, 1) := by decide +kernel
theorem dX3_sortAt_20 : decode cX3_sortAt 20 = .ok (.istore_n 2, 1) := by decide +kernel
theorem dX3_sortAt_21 : decode cX3_sortAt 21 = .ok (.iload_n 2, 1) := by decide +kernel
theorem dX3_sortAt_22 : decode cX3_sortAt 22 = .ok (.iload_n 1, 1) := by decide +kernel
theorem dX3_sortAt_23 : decode cX3_sortAt 23 = .ok (.if_icmp .le 5, 3) := by decide +kernel
theorem dX3_sortAt_26 : decode cX3_sortAt 26 = .ok (.iload_n 3, 1) := by decide +kernel
theorem dX3_sortAt_27 : decode cX3_sortAt 27 = .ok (.ireturn, 1) := by decide +kernel
theorem dX3_sortAt_28 : decode cX3_sortAt 28 = .ok (.iinc 3 1, 3) := by decide +kernel
theorem dX3_sortAt_31 : decode cX3_sortAt 31 = .ok (.goto (-27), 3) := by decide +kernel
theorem dX3_sortAt_34 : decode cX3_sortAt 34 = .ok (.iconst 0, 1) := by decide +kernel
theorem dX3_sortAt_35 : decode cX3_sortAt 35 = .ok (.ireturn, 1) := by decide +kernel
set_option maxRecDepth 20000 in
theorem ggX3_payFor_X3_partAt : GoodIn wsX3_payFor wsX3_partAt := goodIn_r _ [8, 9, 10, 11, 7, 12, 13, 14, 15, 16, 17, 18, 35, 36, 37, 38, 39, 40, 41, 42, 43, 44, 45, 46, 47, 48, 49, 50] (by decide +kernel) (by decide +kernel)
set_option maxRecDepth 20000 in
theorem gX3_payFor_X3_partAt : GoodIn wsX3_payFor (wsV RX3 85 RX3 yX3_partAt wsX3_partAt) := goodIn_app (goodIn_of _ (by decide +kernel)) ggX3_payFor_X3_partAt
set_option maxRecDepth 20000 in
theorem ggX3_payFor_X3_isTooFar : GoodIn wsX3_payFor wsX3_isTooFar := goodIn_r _ [21, 22, 23] (by decide +kernel) (by decide +kernel)
set_option maxRecDepth 20000 in
theorem gX3_payFor_X3_isTooFar : GoodIn wsX3_payFor (va_wsS RX3 89 yX3_isTooFar wsX3_isTooFar) := goodIn_app (goodIn_of _ (by decide +kernel)) ggX3_payFor_X3_isTooFar
set_option maxRecDepth 20000 in
theorem ggX3_payFor_X8_cutToWage : GoodIn wsX3_payFor wsX8_cutToWage := goodIn_r _ [26, 27, 28, 29, 30, 31, 32, 33, 34] (by decide +kernel) (by decide +kernel)
set_option maxRecDepth 20000 in
theorem gX3_payFor_X8_cutToWage_n93 : GoodIn wsX3_payFor (wsX8_cutToWage) := ggX3_payFor_X8_cutToWage
theorem dX3_payFor_0 : decode cX3_payFor 0 = .ok (.lconst 0, 1) := by decide +kernel
theorem dX3_payFor_1 : decode cX3_payFor 1 = .ok (.lstore 5, 2) := by decide +kernel
theorem dX3_payFor_3 : decode cX3_payFor 3 = .ok (.lconst 0, 1) := by decide +kernel
theorem dX3_payFor_4 : decode cX3_payFor 4 = .ok (.lstore 7, 2) := by decide +kernel
theorem dX3_payFor_6 : decode cX3_payFor 6 = .ok (.iconst 1, 1) := by decide +kernel
theorem dX3_payFor_7 : decode cX3_payFor 7 = .ok (.istore 9, 2) := by decide +kernel
theorem dX3_payFor_9 : decode cX3_payFor 9 = .ok (.iconst 0, 1) := by decide +kernel
theorem dX3_payFor_10 : decode cX3_payFor 10 = .ok (.istore 10, 2) := by decide +kernel
theorem dX3_payFor_12 : decode cX3_payFor 12 = .ok (.iload 10, 2) := by decide +kernel
theorem dX3_payFor_14 : decode cX3_payFor 14 = .ok (.aload_n 0, 1) := by decide +kernel
theorem dX3_payFor_15 : decode cX3_payFor 15 = .ok (.getfield 58, 3) := by decide +kernel
theorem dX3_payFor_18 : decode cX3_payFor 18 = .ok (.if_icmp .ge 130, 3) := by decide +kernel
theorem dX3_payFor_21 : decode cX3_payFor 21 = .ok (.aload_n 0, 1) := by decide +kernel
theorem dX3_payFor_22 : decode cX3_payFor 22 = .ok (.aload_n 0, 1) := by decide +kernel
theorem dX3_payFor_23 : decode cX3_payFor 23 = .ok (.getfield 36, 3) := by decide +kernel
theorem dX3_payFor_26 : decode cX3_payFor 26 = .ok (.iload 10, 2) := by decide +kernel
theorem dX3_payFor_28 : decode cX3_payFor 28 = .ok (.iaload, 1) := by decide +kernel
theorem dX3_payFor_29 : decode cX3_payFor 29 = .ok (.iload_n 1, 1) := by decide +kernel
theorem dX3_payFor_30 : decode cX3_payFor 30 = .ok (.iload_n 2, 1) := by decide +kernel
theorem dX3_payFor_31 : decode cX3_payFor 31 = .ok (.iload_n 3, 1) := by decide +kernel
theorem dX3_payFor_32 : decode cX3_payFor 32 = .ok (.iload 4, 2) := by decide +kernel
theorem dX3_payFor_34 : decode cX3_payFor 34 = .ok (.invokevirtual 85, 3) := by decide +kernel
theorem dX3_payFor_37 : decode cX3_payFor 37 = .ok (.i2l, 1) := by decide +kernel
theorem dX3_payFor_38 : decode cX3_payFor 38 = .ok (.lstore 11, 2) := by decide +kernel
theorem dX3_payFor_40 : decode cX3_payFor 40 = .ok (.aload_n 0, 1) := by decide +kernel
theorem dX3_payFor_41 : decode cX3_payFor 41 = .ok (.getfield 33, 3) := by decide +kernel
theorem dX3_payFor_44 : decode cX3_payFor 44 = .ok (.iload 10, 2) := by decide +kernel
theorem dX3_payFor_46 : decode cX3_payFor 46 = .ok (.iaload, 1) := by decide +kernel
theorem dX3_payFor_47 : decode cX3_payFor 47 = .ok (.iconst 2, 1) := by decide +kernel
theorem dX3_payFor_48 : decode cX3_payFor 48 = .ok (.if_icmp .ne 13, 3) := by decide +kernel
theorem dX3_payFor_51 : decode cX3_payFor 51 = .ok (.lload 7, 2) := by decide +kernel
theorem dX3_payFor_53 : decode cX3_payFor 53 = .ok (.lload 11, 2) := by decide +kernel
theorem dX3_payFor_55 : decode cX3_payFor 55 = .ok (.lmul, 1) := by decide +kernel
theorem dX3_payFor_56 : decode cX3_payFor 56 = .ok (.lstore 7, 2) := by decide +kernel
theorem dX3_payFor_58 : decode cX3_payFor 58 = .ok (.goto 66, 3) := by decide +kernel
theorem dX3_payFor_61 : decode cX3_payFor 61 = .ok (.aload_n 0, 1) := by decide +kernel
theorem dX3_payFor_62 : decode cX3_payFor 62 = .ok (.getfield 33, 3) := by decide +kernel
theorem dX3_payFor_65 : decode cX3_payFor 65 = .ok (.iload 10, 2) := by decide +kernel
theorem dX3_payFor_67 : decode cX3_payFor 67 = .ok (.iaload, 1) := by decide +kernel
theorem dX3_payFor_68 : decode cX3_payFor 68 = .ok (.iconst 3, 1) := by decide +kernel
theorem dX3_payFor_69 : decode cX3_payFor 69 = .ok (.if_icmp .ne 22, 3) := by decide +kernel
theorem dX3_payFor_72 : decode cX3_payFor 72 = .ok (.lload 11, 2) := by decide +kernel
theorem dX3_payFor_74 : decode cX3_payFor 74 = .ok (.lconst 0, 1) := by decide +kernel
theorem dX3_payFor_75 : decode cX3_payFor 75 = .ok (.lcmp, 1) := by decide +kernel
theorem dX3_payFor_76 : decode cX3_payFor 76 = .ok (.ifCond .ne 5, 3) := by decide +kernel
theorem dX3_payFor_79 : decode cX3_payFor 79 = .ok (.iconst 0, 1) := by decide +kernel
theorem dX3_payFor_80 : decode cX3_payFor 80 = .ok (.ireturn, 1) := by decide +kernel
theorem dX3_payFor_81 : decode cX3_payFor 81 = .ok (.lload 7, 2) := by decide +kernel
theorem dX3_payFor_83 : decode cX3_payFor 83 = .ok (.lload 11, 2) := by decide +kernel
theorem dX3_payFor_85 : decode cX3_payFor 85 = .ok (.ldiv, 1) := by decide +kernel
theorem dX3_payFor_86 : decode cX3_payFor 86 = .ok (.lstore 7, 2) := by decide +kernel
theorem dX3_payFor_88 : decode cX3_payFor 88 = .ok (.goto 36, 3) := by decide +kernel
theorem dX3_payFor_91 : decode cX3_payFor 91 = .ok (.lload 5, 2) := by decide +kernel
theorem dX3_payFor_93 : decode cX3_payFor 93 = .ok (.iload 9, 2) := by decide +kernel
theorem dX3_payFor_95 : decode cX3_payFor 95 = .ok (.i2l, 1) := by decide +kernel
theorem dX3_payFor_96 : decode cX3_payFor 96 = .ok (.lload 7, 2) := by decide +kernel
theorem dX3_payFor_98 : decode cX3_payFor 98 = .ok (.lmul, 1) := by decide +kernel
theorem dX3_payFor_99 : decode cX3_payFor 99 = .ok (.ladd, 1) := by decide +kernel
theorem dX3_payFor_100 : decode cX3_payFor 100 = .ok (.lstore 5, 2) := by decide +kernel
theorem dX3_payFor_102 : decode cX3_payFor 102 = .ok (.lload 11, 2) := by decide +kernel
theorem dX3_payFor_104 : decode cX3_payFor 104 = .ok (.lstore 7, 2) := by decide +kernel
theorem dX3_payFor_106 : decode cX3_payFor 106 = .ok (.aload_n 0, 1) := by decide +kernel
theorem dX3_payFor_107 : decode cX3_payFor 107 = .ok (.getfield 33, 3) := by decide +kernel
theorem dX3_payFor_110 : decode cX3_payFor 110 = .ok (.iload 10, 2) := by decide +kernel
theorem dX3_payFor_112 : decode cX3_payFor 112 = .ok (.iaload, 1) := by decide +kernel
theorem dX3_payFor_113 : decode cX3_payFor 113 = .ok (.iconst 1, 1) := by decide +kernel
theorem dX3_payFor_114 : decode cX3_payFor 114 = .ok (.if_icmp .ne 7, 3) := by decide +kernel
theorem dX3_payFor_117 : decode cX3_payFor 117 = .ok (.iconst (-1), 1) := by decide +kernel
theorem dX3_payFor_118 : decode cX3_payFor 118 = .ok (.goto 4, 3) := by decide +kernel
theorem dX3_payFor_121 : decode cX3_payFor 121 = .ok (.iconst 1, 1) := by decide +kernel
theorem dX3_payFor_122 : decode cX3_payFor 122 = .ok (.istore 9, 2) := by decide +kernel
theorem dX3_payFor_124 : decode cX3_payFor 124 = .ok (.lload 7, 2) := by decide +kernel
theorem dX3_payFor_126 : decode cX3_payFor 126 = .ok (.invokestatic 89, 3) := by decide +kernel
theorem dX3_payFor_129 : decode cX3_payFor 129 = .ok (.ifCond .ne 11, 3) := by decide +kernel
theorem dX3_payFor_132 : decode cX3_payFor 132 = .ok (.lload 5, 2) := by decide +kernel
theorem dX3_payFor_134 : decode cX3_payFor 134 = .ok (.invokestatic 89, 3) := by decide +kernel
theorem dX3_payFor_137 : decode cX3_payFor 137 = .ok (.ifCond .eq 5, 3) := by decide +kernel
theorem dX3_payFor_140 : decode cX3_payFor 140 = .ok (.iconst 0, 1) := by decide +kernel
theorem dX3_payFor_141 : decode cX3_payFor 141 = .ok (.ireturn, 1) := by decide +kernel
theorem dX3_payFor_142 : decode cX3_payFor 142 = .ok (.iinc 10 1, 3) := by decide +kernel
theorem dX3_payFor_145 : decode cX3_payFor 145 = .ok (.goto (-133), 3) := by decide +kernel
theorem dX3_payFor_148 : decode cX3_payFor 148 = .ok (.lload 5, 2) := by decide +kernel
theorem dX3_payFor_150 : decode cX3_payFor 150 = .ok (.iload 9, 2) := by decide +kernel
theorem dX3_payFor_152 : decode cX3_payFor 152 = .ok (.i2l, 1) := by decide +kernel
theorem dX3_payFor_153 : decode cX3_payFor 153 = .ok (.lload 7, 2) := by decide +kernel
theorem dX3_payFor_155 : decode cX3_payFor 155 = .ok (.lmul, 1) := by decide +kernel
theorem dX3_payFor_156 : decode cX3_payFor 156 = .ok (.ladd, 1) := by decide +kernel
theorem dX3_payFor_157 : decode cX3_payFor 157 = .ok (.lstore 5, 2) := by decide +kernel
theorem dX3_payFor_159 : decode cX3_payFor 159 = .ok (.lload 5, 2) := by decide +kernel
theorem dX3_payFor_161 : decode cX3_payFor 161 = .ok (.invokestatic 89, 3) := by decide +kernel
theorem dX3_payFor_164 : decode cX3_payFor 164 = .ok (.ifCond .eq 7, 3) := by decide +kernel
theorem dX3_payFor_167 : decode cX3_payFor 167 = .ok (.iconst 0, 1) := by decide +kernel
theorem dX3_payFor_168 : decode cX3_payFor 168 = .ok (.goto 8, 3) := by decide +kernel
theorem dX3_payFor_171 : decode cX3_payFor 171 = .ok (.lload 5, 2) := by decide +kernel
theorem dX3_payFor_173 : decode cX3_payFor 173 = .ok (.invokestatic 93, 3) := by decide +kernel
theorem dX3_payFor_176 : decode cX3_payFor 176 = .ok (.ireturn, 1) := by decide +kernel
set_option maxRecDepth 20000 in
theorem ggX3_partAt_X3_oldAt : GoodIn wsX3_partAt wsX3_oldAt := goodIn_r _ [5, 6, 12, 13, 14, 15, 16, 17, 18, 19, 20, 21, 22, 23, 24, 25, 26, 27] (by decide +kernel) (by decide +kernel)
set_option maxRecDepth 20000 in
theorem gX3_partAt_X3_oldAt : GoodIn wsX3_partAt (wsV RX3 81 RX3 yX3_oldAt wsX3_oldAt) := goodIn_app (goodIn_of _ (by decide +kernel)) ggX3_partAt_X3_oldAt
set_option maxRecDepth 20000 in
theorem ggX3_partAt_X3_forcedAt : GoodIn wsX3_partAt wsX3_forcedAt := goodIn_r _ [10, 11, 1, 2, 3, 4, 5, 6, 12, 13, 14, 15, 16, 17, 18, 19, 20, 21, 22, 23, 24, 25, 26, 27] (by decide +kernel) (by decide +kernel)
set_option maxRecDepth 20000 in
theorem gX3_partAt_X3_forcedAt : GoodIn wsX3_partAt (wsV RX3 97 RX3 yX3_forcedAt wsX3_forcedAt) := goodIn_app (goodIn_of _ (by decide +kernel)) ggX3_partAt_X3_forcedAt
theorem dX3_partAt_0 : decode cX3_partAt 0 = .ok (.iload_n 1, 1) := by decide +kernel
theorem dX3_partAt_1 : decode cX3_partAt 1 = .ok (.tableswitch 60 1000 1004 #[35, 37, 39, 42, 51], 35) := by decide +kernel
theorem dX3_partAt_36 : decode cX3_partAt 36 = .ok (.iload_n 2, 1) := by decide +kernel
theorem dX3_partAt_37 : decode cX3_partAt 37 = .ok (.ireturn, 1) := by decide +kernel
theorem dX3_partAt_38 : decode cX3_partAt 38 = .ok (.iload_n 3, 1) := by decide +kernel
theorem dX3_partAt_39 : decode cX3_partAt 39 = .ok (.ireturn, 1) := by decide +kernel
theorem dX3_partAt_40 : decode cX3_partAt 40 = .ok (.iload 4, 2) := by decide +kernel
theorem dX3_partAt_42 : decode cX3_partAt 42 = .ok (.ireturn, 1) := by decide +kernel
theorem dX3_partAt_43 : decode cX3_partAt 43 = .ok (.aload_n 0, 1) := by decide +kernel
theorem dX3_partAt_44 : decode cX3_partAt 44 = .ok (.iload 5, 2) := by decide +kernel
theorem dX3_partAt_46 : decode cX3_partAt 46 = .ok (.iload 4, 2) := by decide +kernel
theorem dX3_partAt_48 : decode cX3_partAt 48 = .ok (.invokevirtual 81, 3) := by decide +kernel
theorem dX3_partAt_51 : decode cX3_partAt 51 = .ok (.ireturn, 1) := by decide +kernel
theorem dX3_partAt_52 : decode cX3_partAt 52 = .ok (.aload_n 0, 1) := by decide +kernel
theorem dX3_partAt_53 : decode cX3_partAt 53 = .ok (.iload 5, 2) := by decide +kernel
theorem dX3_partAt_55 : decode cX3_partAt 55 = .ok (.iload 4, 2) := by decide +kernel
theorem dX3_partAt_57 : decode cX3_partAt 57 = .ok (.invokevirtual 97, 3) := by decide +kernel
theorem dX3_partAt_60 : decode cX3_partAt 60 = .ok (.ireturn, 1) := by decide +kernel
theorem dX3_partAt_61 : decode cX3_partAt 61 = .ok (.iload_n 1, 1) := by decide +kernel
theorem dX3_partAt_62 : decode cX3_partAt 62 = .ok (.ireturn, 1) := by decide +kernel
theorem dX3_isTooFar_0 : decode cX3_isTooFar 0 = .ok (.lload_n 0, 1) := by decide +kernel
theorem dX3_isTooFar_1 : decode cX3_isTooFar 1 = .ok (.ldc2_w 100, 3) := by decide +kernel
theorem dX3_isTooFar_4 : decode cX3_isTooFar 4 = .ok (.lcmp, 1) := by decide +kernel
theorem dX3_isTooFar_5 : decode cX3_isTooFar 5 = .ok (.ifCond .gt 11, 3) := by decide +kernel
theorem dX3_isTooFar_8 : decode cX3_isTooFar 8 = .ok (.lload_n 0, 1) := by decide +kernel
theorem dX3_isTooFar_9 : decode cX3_isTooFar 9 = .ok (.ldc2_w 102, 3) := by decide +kernel
theorem dX3_isTooFar_12 : decode cX3_isTooFar 12 = .ok (.lcmp, 1) := by decide +kernel
theorem dX3_isTooFar_13 : decode cX3_isTooFar 13 = .ok (.ifCond .ge 7, 3) := by decide +kernel
theorem dX3_isTooFar_16 : decode cX3_isTooFar 16 = .ok (.iconst 1, 1) := by decide +kernel
theorem dX3_isTooFar_17 : decode cX3_isTooFar 17 = .ok (.goto 4, 3) := by decide +kernel
theorem dX3_isTooFar_20 : decode cX3_isTooFar 20 = .ok (.iconst 0, 1) := by decide +kernel
theorem dX3_isTooFar_21 : decode cX3_isTooFar 21 = .ok (.ireturn, 1) := by decide +kernel
theorem dX4_stands_0 : decode cX4_stands 0 = .ok (.aload_n 0, 1) := by decide +kernel
theorem dX4_stands_1 : decode cX4_stands 1 = .ok (.getfield 9, 3) := by decide +kernel
theorem dX4_stands_4 : decode cX4_stands 4 = .ok (.iconst (-1), 1) := by decide +kernel
theorem dX4_stands_5 : decode cX4_stands 5 = .ok (.if_icmp .eq 7, 3) := by decide +kernel
theorem dX4_stands_8 : decode cX4_stands 8 = .ok (.iconst 1, 1) := by decide +kernel
theorem dX4_stands_9 : decode cX4_stands 9 = .ok (.goto 4, 3) := by decide +kernel
theorem dX4_stands_12 : decode cX4_stands 12 = .ok (.iconst 0, 1) := by decide +kernel
theorem dX4_stands_13 : decode cX4_stands 13 = .ok (.ireturn, 1) := by decide +kernel
set_option maxRecDepth 20000 in
theorem ggX4_make_J7_fill_d0a16 : GoodIn wsX4_make wsJ7_fill_d0a16 := goodIn_r _ [7] (by decide +kernel) (by decide +kernel)
set_option maxRecDepth 20000 in
theorem gX4_make_J7_fill_d0a16 : GoodIn wsX4_make (va_wsS RX4 22 yJ7_fill_d0a16 wsJ7_fill_d0a16) := goodIn_app (goodIn_of _ (by decide +kernel)) ggX4_make_J7_fill_d0a16
theorem dX4_make_0 : decode cX4_make 0 = .ok (.iload_n 2, 1) := by decide +kernel
theorem dX4_make_1 : decode cX4_make 1 = .ok (.ifCond .lt 27, 3) := by decide +kernel
theorem dX4_make_4 : decode cX4_make 4 = .ok (.iload_n 2, 1) := by decide +kernel
theorem dX4_make_5 : decode cX4_make 5 = .ok (.bipush 60, 2) := by decide +kernel
theorem dX4_make_7 : decode cX4_make 7 = .ok (.if_icmp .gt 21, 3) := by decide +kernel
theorem dX4_make_10 : decode cX4_make 10 = .ok (.aload_n 0, 1) := by decide +kernel
theorem dX4_make_11 : decode cX4_make 11 = .ok (.iload_n 1, 1) := by decide +kernel
theorem dX4_make_12 : decode cX4_make 12 = .ok (.putfield 9, 3) := by decide +kernel
theorem dX4_make_15 : decode cX4_make 15 = .ok (.aload_n 0, 1) := by decide +kernel
theorem dX4_make_16 : decode cX4_make 16 = .ok (.iload_n 2, 1) := by decide +kernel
theorem dX4_make_17 : decode cX4_make 17 = .ok (.putfield 19, 3) := by decide +kernel
theorem dX4_make_20 : decode cX4_make 20 = .ok (.aload_n 0, 1) := by decide +kernel
theorem dX4_make_21 : decode cX4_make 21 = .ok (.getfield 15, 3) := by decide +kernel
theorem dX4_make_24 : decode cX4_make 24 = .ok (.lconst 0, 1) := by decide +kernel
theorem dX4_make_25 : decode cX4_make 25 = .ok (.invokestatic 22, 3) := by decide +kernel
theorem dX4_make_28 : decode cX4_make 28 = .ok (.return_, 1) := by decide +kernel
theorem dX4_holds_0 : decode cX4_holds 0 = .ok (.iload_n 1, 1) := by decide +kernel
theorem dX4_holds_1 : decode cX4_holds 1 = .ok (.ifCond .lt 25, 3) := by decide +kernel
theorem dX4_holds_4 : decode cX4_holds 4 = .ok (.iload_n 2, 1) := by decide +kernel
theorem dX4_holds_5 : decode cX4_holds 5 = .ok (.ifCond .lt 21, 3) := by decide +kernel
theorem dX4_holds_8 : decode cX4_holds 8 = .ok (.iload_n 1, 1) := by decide +kernel
theorem dX4_holds_9 : decode cX4_holds 9 = .ok (.i2l, 1) := by decide +kernel
theorem dX4_holds_10 : decode cX4_holds 10 = .ok (.iload_n 2, 1) := by decide +kernel
theorem dX4_holds_11 : decode cX4_holds 11 = .ok (.i2l, 1) := by decide +kernel
theorem dX4_holds_12 : decode cX4_holds 12 = .ok (.ladd, 1) := by decide +kernel
theorem dX4_holds_13 : decode cX4_holds 13 = .ok (.aload_n 0, 1) := by decide +kernel
theorem dX4_holds_14 : decode cX4_holds 14 = .ok (.getfield 19, 3) := by decide +kernel
theorem dX4_holds_17 : decode cX4_holds 17 = .ok (.i2l, 1) := by decide +kernel
theorem dX4_holds_18 : decode cX4_holds 18 = .ok (.lcmp, 1) := by decide +kernel
theorem dX4_holds_19 : decode cX4_holds 19 = .ok (.ifCond .gt 7, 3) := by decide +kernel
theorem dX4_holds_22 : decode cX4_holds 22 = .ok (.iconst 1, 1) := by decide +kernel
theorem dX4_holds_23 : decode cX4_holds 23 = .ok (.goto 4, 3) := by decide +kernel
theorem dX4_holds_26 : decode cX4_holds 26 = .ok (.iconst 0, 1) := by decide +kernel
theorem dX4_holds_27 : decode cX4_holds 27 = .ok (.ireturn, 1) := by decide +kernel
theorem dX5_has_0 : decode cX5_has 0 = .ok (.iload_n 1, 1) := by decide +kernel
theorem dX5_has_1 : decode cX5_has 1 = .ok (.ifCond .lt 15, 3) := by decide +kernel
theorem dX5_has_4 : decode cX5_has 4 = .ok (.iload_n 1, 1) := by decide +kernel
theorem dX5_has_5 : decode cX5_has 5 = .ok (.aload_n 0, 1) := by decide +kernel
theorem dX5_has_6 : decode cX5_has 6 = .ok (.getfield 30, 3) := by decide +kernel
theorem dX5_has_9 : decode cX5_has 9 = .ok (.if_icmp .ge 7, 3) := by decide +kernel
theorem dX5_has_12 : decode cX5_has 12 = .ok (.iconst 1, 1) := by decide +kernel
theorem dX5_has_13 : decode cX5_has 13 = .ok (.goto 4, 3) := by decide +kernel
theorem dX5_has_16 : decode cX5_has 16 = .ok (.iconst 0, 1) := by decide +kernel
theorem dX5_has_17 : decode cX5_has 17 = .ok (.ireturn, 1) := by decide +kernel
theorem dX5_add_0 : decode cX5_add 0 = .ok (.aload_n 0, 1) := by decide +kernel
theorem dX5_add_1 : decode cX5_add 1 = .ok (.getfield 30, 3) := by decide +kernel
theorem dX5_add_4 : decode cX5_add 4 = .ok (.sipush 200, 3) := by decide +kernel
theorem dX5_add_7 : decode cX5_add 7 = .ok (.if_icmp .ge 76, 3) := by decide +kernel
theorem dX5_add_10 : decode cX5_add 10 = .ok (.aload_n 0, 1) := by decide +kernel
theorem dX5_add_11 : decode cX5_add 11 = .ok (.getfield 9, 3) := by decide +kernel
theorem dX5_add_14 : decode cX5_add 14 = .ok (.aload_n 0, 1) := by decide +kernel
theorem dX5_add_15 : decode cX5_add 15 = .ok (.getfield 30, 3) := by decide +kernel
theorem dX5_add_18 : decode cX5_add 18 = .ok (.iload_n 1, 1) := by decide +kernel
theorem dX5_add_19 : decode cX5_add 19 = .ok (.iastore, 1) := by decide +kernel
theorem dX5_add_20 : decode cX5_add 20 = .ok (.aload_n 0, 1) := by decide +kernel
theorem dX5_add_21 : decode cX5_add 21 = .ok (.getfield 15, 3) := by decide +kernel
theorem dX5_add_24 : decode cX5_add 24 = .ok (.aload_n 0, 1) := by decide +kernel
theorem dX5_add_25 : decode cX5_add 25 = .ok (.getfield 30, 3) := by decide +kernel
theorem dX5_add_28 : decode cX5_add 28 = .ok (.iload_n 2, 1) := by decide +kernel
theorem dX5_add_29 : decode cX5_add 29 = .ok (.iastore, 1) := by decide +kernel
theorem dX5_add_30 : decode cX5_add 30 = .ok (.aload_n 0, 1) := by decide +kernel
theorem dX5_add_31 : decode cX5_add 31 = .ok (.getfield 18, 3) := by decide +kernel
theorem dX5_add_34 : decode cX5_add 34 = .ok (.aload_n 0, 1) := by decide +kernel
theorem dX5_add_35 : decode cX5_add 35 = .ok (.getfield 30, 3) := by decide +kernel
theorem dX5_add_38 : decode cX5_add 38 = .ok (.iload_n 3, 1) := by decide +kernel
theorem dX5_add_39 : decode cX5_add 39 = .ok (.iastore, 1) := by decide +kernel
theorem dX5_add_40 : decode cX5_add 40 = .ok (.aload_n 0, 1) := by decide +kernel
theorem dX5_add_41 : decode cX5_add 41 = .ok (.getfield 21, 3) := by decide +kernel
theorem dX5_add_44 : decode cX5_add 44 = .ok (.aload_n 0, 1) := by decide +kernel
theorem dX5_add_45 : decode cX5_add 45 = .ok (.getfield 30, 3) := by decide +kernel
theorem dX5_add_48 : decode cX5_add 48 = .ok (.iload 4, 2) := by decide +kernel
theorem dX5_add_50 : decode cX5_add 50 = .ok (.iastore, 1) := by decide +kernel
theorem dX5_add_51 : decode cX5_add 51 = .ok (.aload_n 0, 1) := by decide +kernel
theorem dX5_add_52 : decode cX5_add 52 = .ok (.getfield 24, 3) := by decide +kernel
theorem dX5_add_55 : decode cX5_add 55 = .ok (.aload_n 0, 1) := by decide +kernel
theorem dX5_add_56 : decode cX5_add 56 = .ok (.getfield 30, 3) := by decide +kernel
theorem dX5_add_59 : decode cX5_add 59 = .ok (.iload 5, 2) := by decide +kernel
theorem dX5_add_61 : decode cX5_add 61 = .ok (.iastore, 1) := by decide +kernel
theorem dX5_add_62 : decode cX5_add 62 = .ok (.aload_n 0, 1) := by decide +kernel
theorem dX5_add_63 : decode cX5_add 63 = .ok (.getfield 27, 3) := by decide +kernel
theorem dX5_add_66 : decode cX5_add 66 = .ok (.aload_n 0, 1) := by decide +kernel
theorem dX5_add_67 : decode cX5_add 67 = .ok (.getfield 30, 3) := by decide +kernel
theorem dX5_add_70 : decode cX5_add 70 = .ok (.iload 6, 2) := by decide +kernel
theorem dX5_add_72 : decode cX5_add 72 = .ok (.iastore, 1) := by decide +kernel
theorem dX5_add_73 : decode cX5_add 73 = .ok (.aload_n 0, 1) := by decide +kernel
theorem dX5_add_74 : decode cX5_add 74 = .ok (.dup, 1) := by decide +kernel
theorem dX5_add_75 : decode cX5_add 75 = .ok (.getfield 30, 3) := by decide +kernel
theorem dX5_add_78 : decode cX5_add 78 = .ok (.iconst 1, 1) := by decide +kernel
theorem dX5_add_79 : decode cX5_add 79 = .ok (.iadd, 1) := by decide +kernel
theorem dX5_add_80 : decode cX5_add 80 = .ok (.putfield 30, 3) := by decide +kernel
theorem dX5_add_83 : decode cX5_add 83 = .ok (.return_, 1) := by decide +kernel
set_option maxRecDepth 20000 in
theorem ggX5_leave_X5_add : GoodIn wsX5_leave wsX5_add := goodIn_r _ [12, 1, 2, 3, 4, 5, 6, 7, 13, 14, 15, 16, 17, 18, 19] (by decide +kernel) (by decide +kernel)
set_option maxRecDepth 20000 in
theorem gX5_leave_X5_add : GoodIn wsX5_leave (wsV RX5 34 RX5 yX5_add wsX5_add) := goodIn_app (goodIn_of _ (by decide +kernel)) ggX5_leave_X5_add
theorem dX5_leave_0 : decode cX5_leave 0 = .ok (.aload_n 0, 1) := by decide +kernel
theorem dX5_leave_1 : decode cX5_leave 1 = .ok (.getfield 30, 3) := by decide +kernel
theorem dX5_leave_4 : decode cX5_leave 4 = .ok (.istore_n 2, 1) := by decide +kernel
theorem dX5_leave_5 : decode cX5_leave 5 = .ok (.aload_n 0, 1) := by decide +kernel
theorem dX5_leave_6 : decode cX5_leave 6 = .ok (.iconst 0, 1) := by decide +kernel
theorem dX5_leave_7 : decode cX5_leave 7 = .ok (.putfield 30, 3) := by decide +kernel
theorem dX5_leave_10 : decode cX5_leave 10 = .ok (.iconst 0, 1) := by decide +kernel
theorem dX5_leave_11 : decode cX5_leave 11 = .ok (.istore_n 3, 1) := by decide +kernel
theorem dX5_leave_12 : decode cX5_leave 12 = .ok (.iload_n 3, 1) := by decide +kernel
theorem dX5_leave_13 : decode cX5_leave 13 = .ok (.iload_n 2, 1) := by decide +kernel
theorem dX5_leave_14 : decode cX5_leave 14 = .ok (.if_icmp .ge 59, 3) := by decide +kernel
theorem dX5_leave_17 : decode cX5_leave 17 = .ok (.aload_n 0, 1) := by decide +kernel
theorem dX5_leave_18 : decode cX5_leave 18 = .ok (.getfield 9, 3) := by decide +kernel
theorem dX5_leave_21 : decode cX5_leave 21 = .ok (.iload_n 3, 1) := by decide +kernel
theorem dX5_leave_22 : decode cX5_leave 22 = .ok (.iaload, 1) := by decide +kernel
theorem dX5_leave_23 : decode cX5_leave 23 = .ok (.iload_n 1, 1) := by decide +kernel
theorem dX5_leave_24 : decode cX5_leave 24 = .ok (.if_icmp .ne 43, 3) := by decide +kernel
theorem dX5_leave_27 : decode cX5_leave 27 = .ok (.aload_n 0, 1) := by decide +kernel
theorem dX5_leave_28 : decode cX5_leave 28 = .ok (.aload_n 0, 1) := by decide +kernel
theorem dX5_leave_29 : decode cX5_leave 29 = .ok (.getfield 9, 3) := by decide +kernel
theorem dX5_leave_32 : decode cX5_leave 32 = .ok (.iload_n 3, 1) := by decide +kernel
theorem dX5_leave_33 : decode cX5_leave 33 = .ok (.iaload, 1) := by decide +kernel
theorem dX5_leave_34 : decode cX5_leave 34 = .ok (.aload_n 0, 1) := by decide +kernel
theorem dX5_leave_35 : decode cX5_leave 35 = .ok (.getfield 15, 3) := by decide +kernel
theorem dX5_leave_38 : decode cX5_leave 38 = .ok (.iload_n 3, 1) := by decide +kernel
theorem dX5_leave_39 : decode cX5_leave 39 = .ok (.iaload, 1) := by decide +kernel
theorem dX5_leave_40 : decode cX5_leave 40 = .ok (.aload_n 0, 1) := by decide +kernel
theorem dX5_leave_41 : decode cX5_leave 41 = .ok (.getfield 18, 3) := by decide +kernel
theorem dX5_leave_44 : decode cX5_leave 44 = .ok (.iload_n 3, 1) := by decide +kernel
theorem dX5_leave_45 : decode cX5_leave 45 = .ok (.iaload, 1) := by decide +kernel
theorem dX5_leave_46 : decode cX5_leave 46 = .ok (.aload_n 0, 1) := by decide +kernel
theorem dX5_leave_47 : decode cX5_leave 47 = .ok (.getfield 21, 3) := by decide +kernel
theorem dX5_leave_50 : decode cX5_leave 50 = .ok (.iload_n 3, 1) := by decide +kernel
theorem dX5_leave_51 : decode cX5_leave 51 = .ok (.iaload, 1) := by decide +kernel
theorem dX5_leave_52 : decode cX5_leave 52 = .ok (.aload_n 0, 1) := by decide +kernel
theorem dX5_leave_53 : decode cX5_leave 53 = .ok (.getfield 24, 3) := by decide +kernel
theorem dX5_leave_56 : decode cX5_leave 56 = .ok (.iload_n 3, 1) := by decide +kernel
theorem dX5_leave_57 : decode cX5_leave 57 = .ok (.iaload, 1) := by decide +kernel
theorem dX5_leave_58 : decode cX5_leave 58 = .ok (.aload_n 0, 1) := by decide +kernel
theorem dX5_leave_59 : decode cX5_leave 59 = .ok (.getfield 27, 3) := by decide +kernel
theorem dX5_leave_62 : decode cX5_leave 62 = .ok (.iload_n 3, 1) := by decide +kernel
theorem dX5_leave_63 : decode cX5_leave 63 = .ok (.iaload, 1) := by decide +kernel
theorem dX5_leave_64 : decode cX5_leave 64 = .ok (.invokevirtual 34, 3) := by decide +kernel
theorem dX5_leave_67 : decode cX5_leave 67 = .ok (.iinc 3 1, 3) := by decide +kernel
theorem dX5_leave_70 : decode cX5_leave 70 = .ok (.goto (-58), 3) := by decide +kernel
theorem dX5_leave_73 : decode cX5_leave 73 = .ok (.return_, 1) := by decide +kernel
theorem dX5_copyOf_0 : decode cX5_copyOf 0 = .ok (.aload_n 0, 1) := by decide +kernel
theorem dX5_copyOf_1 : decode cX5_copyOf 1 = .ok (.aload_n 1, 1) := by decide +kernel
theorem dX5_copyOf_2 : decode cX5_copyOf 2 = .ok (.getfield 30, 3) := by decide +kernel
theorem dX5_copyOf_5 : decode cX5_copyOf 5 = .ok (.putfield 30, 3) := by decide +kernel
theorem dX5_copyOf_8 : decode cX5_copyOf 8 = .ok (.aload_n 1, 1) := by decide +kernel
theorem dX5_copyOf_9 : decode cX5_copyOf 9 = .ok (.getfield 9, 3) := by decide +kernel
theorem dX5_copyOf_12 : decode cX5_copyOf 12 = .ok (.iconst 0, 1) := by decide +kernel
theorem dX5_copyOf_13 : decode cX5_copyOf 13 = .ok (.aload_n 0, 1) := by decide +kernel
theorem dX5_copyOf_14 : decode cX5_copyOf 14 = .ok (.getfield 9, 3) := by decide +kernel
theorem dX5_copyOf_17 : decode cX5_copyOf 17 = .ok (.iconst 0, 1) := by decide +kernel
theorem dX5_copyOf_18 : decode cX5_copyOf 18 = .ok (.aload_n 0, 1) := by decide +kernel
theorem dX5_copyOf_19 : decode cX5_copyOf 19 = .ok (.getfield 30, 3) := by decide +kernel
theorem dX5_copyOf_22 : decode cX5_copyOf 22 = .ok (.invokestatic 38, 3) := by decide +kernel
theorem dX5_copyOf_25 : decode cX5_copyOf 25 = .ok (.aload_n 1, 1) := by decide +kernel
theorem dX5_copyOf_26 : decode cX5_copyOf 26 = .ok (.getfield 15, 3) := by decide +kernel
theorem dX5_copyOf_29 : decode cX5_copyOf 29 = .ok (.iconst 0, 1) := by decide +kernel
theorem dX5_copyOf_30 : decode cX5_copyOf 30 = .ok (.aload_n 0, 1) := by decide +kernel
theorem dX5_copyOf_31 : decode cX5_copyOf 31 = .ok (.getfield 15, 3) := by decide +kernel
theorem dX5_copyOf_34 : decode cX5_copyOf 34 = .ok (.iconst 0, 1) := by decide +kernel
theorem dX5_copyOf_35 : decode cX5_copyOf 35 = .ok (.aload_n 0, 1) := by decide +kernel
theorem dX5_copyOf_36 : decode cX5_copyOf 36 = .ok (.getfield 30, 3) := by decide +kernel
theorem dX5_copyOf_39 : decode cX5_copyOf 39 = .ok (.invokestatic 38, 3) := by decide +kernel
theorem dX5_copyOf_42 : decode cX5_copyOf 42 = .ok (.aload_n 1, 1) := by decide +kernel
theorem dX5_copyOf_43 : decode cX5_copyOf 43 = .ok (.getfield 18, 3) := by decide +kernel
theorem dX5_copyOf_46 : decode cX5_copyOf 46 = .ok (.iconst 0, 1) := by decide +kernel
theorem dX5_copyOf_47 : decode cX5_copyOf 47 = .ok (.aload_n 0, 1) := by decide +kernel
theorem dX5_copyOf_48 : decode cX5_copyOf 48 = .ok (.getfield 18, 3) := by decide +kernel
theorem dX5_copyOf_51 : decode cX5_copyOf 51 = .ok (.iconst 0, 1) := by decide +kernel
theorem dX5_copyOf_52 : decode cX5_copyOf 52 = .ok (.aload_n 0, 1) := by decide +kernel
theorem dX5_copyOf_53 : decode cX5_copyOf 53 = .ok (.getfield 30, 3) := by decide +kernel
theorem dX5_copyOf_56 : decode cX5_copyOf 56 = .ok (.invokestatic 38, 3) := by decide +kernel
theorem dX5_copyOf_59 : decode cX5_copyOf 59 = .ok (.aload_n 1, 1) := by decide +kernel
theorem dX5_copyOf_60 : decode cX5_copyOf 60 = .ok (.getfield 21, 3) := by decide +kernel
theorem dX5_copyOf_63 : decode cX5_copyOf 63 = .ok (.iconst 0, 1) := by decide +kernel
theorem dX5_copyOf_64 : decode cX5_copyOf 64 = .ok (.aload_n 0, 1) := by decide +kernel
theorem dX5_copyOf_65 : decode cX5_copyOf 65 = .ok (.getfield 21, 3) := by decide +kernel
theorem dX5_copyOf_68 : decode cX5_copyOf 68 = .ok (.iconst 0, 1) := by decide +kernel
theorem dX5_copyOf_69 : decode cX5_copyOf 69 = .ok (.aload_n 0, 1) := by decide +kernel
theorem dX5_copyOf_70 : decode cX5_copyOf 70 = .ok (.getfield 30, 3) := by decide +kernel
theorem dX5_copyOf_73 : decode cX5_copyOf 73 = .ok (.invokestatic 38, 3) := by decide +kernel
theorem dX5_copyOf_76 : decode cX5_copyOf 76 = .ok (.aload_n 1, 1) := by decide +kernel
theorem dX5_copyOf_77 : decode cX5_copyOf 77 = .ok (.getfield 24, 3) := by decide +kernel
theorem dX5_copyOf_80 : decode cX5_copyOf 80 = .ok (.iconst 0, 1) := by decide +kernel
theorem dX5_copyOf_81 : decode cX5_copyOf 81 = .ok (.aload_n 0, 1) := by decide +kernel
theorem dX5_copyOf_82 : decode cX5_copyOf 82 = .ok (.getfield 24, 3) := by decide +kernel
theorem dX5_copyOf_85 : decode cX5_copyOf 85 = .ok (.iconst 0, 1) := by decide +kernel
theorem dX5_copyOf_86 : decode cX5_copyOf 86 = .ok (.aload_n 0, 1) := by decide +kernel
theorem dX5_copyOf_87 : decode cX5_copyOf 87 = .ok (.getfield 30, 3) := by decide +kernel
theorem dX5_copyOf_90 : decode cX5_copyOf 90 = .ok (.invokestatic 38, 3) := by decide +kernel
theorem dX5_copyOf_93 : decode cX5_copyOf 93 = .ok (.aload_n 1, 1) := by decide +kernel
theorem dX5_copyOf_94 : decode cX5_copyOf 94 = .ok (.getfield 27, 3) := by decide +kernel
theorem dX5_copyOf_97 : decode cX5_copyOf 97 = .ok (.iconst 0, 1) := by decide +kernel
theorem dX5_copyOf_98 : decode cX5_copyOf 98 = .ok (.aload_n 0, 1) := by decide +kernel
theorem dX5_copyOf_99 : decode cX5_copyOf 99 = .ok (.getfield 27, 3) := by decide +kernel
theorem dX5_copyOf_102 : decode cX5_copyOf 102 = .ok (.iconst 0, 1) := by decide +kernel
theorem dX5_copyOf_103 : decode cX5_copyOf 103 = .ok (.aload_n 0, 1) := by decide +kernel
theorem dX5_copyOf_104 : decode cX5_copyOf 104 = .ok (.getfield 30, 3) := by decide +kernel
theorem dX5_copyOf_107 : decode cX5_copyOf 107 = .ok (.invokestatic 38, 3) := by decide +kernel
theorem dX5_copyOf_110 : decode cX5_copyOf 110 = .ok (.return_, 1) := by decide +kernel
theorem dX6_clear_0 : decode cX6_clear 0 = .ok (.aload_n 0, 1) := by decide +kernel
theorem dX6_clear_1 : decode cX6_clear 1 = .ok (.lconst 0, 1) := by decide +kernel
theorem dX6_clear_2 : decode cX6_clear 2 = .ok (.putfield 9, 3) := by decide +kernel
theorem dX6_clear_5 : decode cX6_clear 5 = .ok (.aload_n 0, 1) := by decide +kernel
theorem dX6_clear_6 : decode cX6_clear 6 = .ok (.lconst 0, 1) := by decide +kernel
theorem dX6_clear_7 : decode cX6_clear 7 = .ok (.putfield 15, 3) := by decide +kernel
theorem dX6_clear_10 : decode cX6_clear 10 = .ok (.aload_n 0, 1) := by decide +kernel
theorem dX6_clear_11 : decode cX6_clear 11 = .ok (.lconst 0, 1) := by decide +kernel
theorem dX6_clear_12 : decode cX6_clear 12 = .ok (.putfield 18, 3) := by decide +kernel
theorem dX6_clear_15 : decode cX6_clear 15 = .ok (.aload_n 0, 1) := by decide +kernel
theorem dX6_clear_16 : decode cX6_clear 16 = .ok (.lconst 0, 1) := by decide +kernel
theorem dX6_clear_17 : decode cX6_clear 17 = .ok (.putfield 21, 3) := by decide +kernel
theorem dX6_clear_20 : decode cX6_clear 20 = .ok (.aload_n 0, 1) := by decide +kernel
theorem dX6_clear_21 : decode cX6_clear 21 = .ok (.lconst 0, 1) := by decide +kernel
theorem dX6_clear_22 : decode cX6_clear 22 = .ok (.putfield 24, 3) := by decide +kernel
theorem dX6_clear_25 : decode cX6_clear 25 = .ok (.aload_n 0, 1) := by decide +kernel
theorem dX6_clear_26 : decode cX6_clear 26 = .ok (.lconst 0, 1) := by decide +kernel
theorem dX6_clear_27 : decode cX6_clear 27 = .ok (.putfield 27, 3) := by decide +kernel
theorem dX6_clear_30 : decode cX6_clear 30 = .ok (.aload_n 0, 1) := by decide +kernel
theorem dX6_clear_31 : decode cX6_clear 31 = .ok (.lconst 0, 1) := by decide +kernel
theorem dX6_clear_32 : decode cX6_clear 32 = .ok (.putfield 30, 3) := by decide +kernel
theorem dX6_clear_35 : decode cX6_clear 35 = .ok (.aload_n 0, 1) := by decide +kernel
theorem dX6_clear_36 : decode cX6_clear 36 = .ok (.lconst 0, 1) := by decide +kernel
theorem dX6_clear_37 : decode cX6_clear 37 = .ok (.putfield 33, 3) := by decide +kernel
theorem dX6_clear_40 : decode cX6_clear 40 = .ok (.aload_n 0, 1) := by decide +kernel
theorem dX6_clear_41 : decode cX6_clear 41 = .ok (.lconst 0, 1) := by decide +kernel
theorem dX6_clear_42 : decode cX6_clear 42 = .ok (.putfield 36, 3) := by decide +kernel
theorem dX6_clear_45 : decode cX6_clear 45 = .ok (.aload_n 0, 1) := by decide +kernel
theorem dX6_clear_46 : decode cX6_clear 46 = .ok (.lconst 0, 1) := by decide +kernel
theorem dX6_clear_47 : decode cX6_clear 47 = .ok (.putfield 39, 3) := by decide +kernel
theorem dX6_clear_50 : decode cX6_clear 50 = .ok (.aload_n 0, 1) := by decide +kernel
theorem dX6_clear_51 : decode cX6_clear 51 = .ok (.lconst 0, 1) := by decide +kernel
theorem dX6_clear_52 : decode cX6_clear 52 = .ok (.putfield 42, 3) := by decide +kernel
theorem dX6_clear_55 : decode cX6_clear 55 = .ok (.return_, 1) := by decide +kernel
theorem dX6_take_0 : decode cX6_take 0 = .ok (.aload_n 1, 1) := by decide +kernel
theorem dX6_take_1 : decode cX6_take 1 = .ok (.getfield 45, 3) := by decide +kernel
theorem dX6_take_4 : decode cX6_take 4 = .ok (.iload_n 2, 1) := by decide +kernel
theorem dX6_take_5 : decode cX6_take 5 = .ok (.iaload, 1) := by decide +kernel
theorem dX6_take_6 : decode cX6_take 6 = .ok (.i2l, 1) := by decide +kernel
theorem dX6_take_7 : decode cX6_take 7 = .ok (.lstore 4, 2) := by decide +kernel
theorem dX6_take_9 : decode cX6_take 9 = .ok (.aload_n 1, 1) := by decide +kernel
theorem dX6_take_10 : decode cX6_take 10 = .ok (.getfield 50, 3) := by decide +kernel
theorem dX6_take_13 : decode cX6_take 13 = .ok (.iload_n 2, 1) := by decide +kernel
theorem dX6_take_14 : decode cX6_take 14 = .ok (.iaload, 1) := by decide +kernel
theorem dX6_take_15 : decode cX6_take 15 = .ok (.i2l, 1) := by decide +kernel
theorem dX6_take_16 : decode cX6_take 16 = .ok (.lstore 6, 2) := by decide +kernel
theorem dX6_take_18 : decode cX6_take 18 = .ok (.aload_n 0, 1) := by decide +kernel
theorem dX6_take_19 : decode cX6_take 19 = .ok (.dup, 1) := by decide +kernel
theorem dX6_take_20 : decode cX6_take 20 = .ok (.getfield 36, 3) := by decide +kernel
theorem dX6_take_23 : decode cX6_take 23 = .ok (.lload 4, 2) := by decide +kernel
theorem dX6_take_25 : decode cX6_take 25 = .ok (.lload 4, 2) := by decide +kernel
theorem dX6_take_27 : decode cX6_take 27 = .ok (.lmul, 1) := by decide +kernel
theorem dX6_take_28 : decode cX6_take 28 = .ok (.ladd, 1) := by decide +kernel
theorem dX6_take_29 : decode cX6_take 29 = .ok (.putfield 36, 3) := by decide +kernel
theorem dX6_take_32 : decode cX6_take 32 = .ok (.aload_n 0, 1) := by decide +kernel
theorem dX6_take_33 : decode cX6_take 33 = .ok (.dup, 1) := by decide +kernel
theorem dX6_take_34 : decode cX6_take 34 = .ok (.getfield 39, 3) := by decide +kernel
theorem dX6_take_37 : decode cX6_take 37 = .ok (.lload 4, 2) := by decide +kernel
theorem dX6_take_39 : decode cX6_take 39 = .ok (.lload 6, 2) := by decide +kernel
theorem dX6_take_41 : decode cX6_take 41 = .ok (.lmul, 1) := by decide +kernel
theorem dX6_take_42 : decode cX6_take 42 = .ok (.ladd, 1) := by decide +kernel
theorem dX6_take_43 : decode cX6_take 43 = .ok (.putfield 39, 3) := by decide +kernel
theorem dX6_take_46 : decode cX6_take 46 = .ok (.aload_n 0, 1) := by decide +kernel
theorem dX6_take_47 : decode cX6_take 47 = .ok (.dup, 1) := by decide +kernel
theorem dX6_take_48 : decode cX6_take 48 = .ok (.getfield 42, 3) := by decide +kernel
theorem dX6_take_51 : decode cX6_take 51 = .ok (.lload 6, 2) := by decide +kernel
theorem dX6_take_53 : decode cX6_take 53 = .ok (.lload 6, 2) := by decide +kernel
theorem dX6_take_55 : decode cX6_take 55 = .ok (.lmul, 1) := by decide +kernel
theorem dX6_take_56 : decode cX6_take 56 = .ok (.ladd, 1) := by decide +kernel
theorem dX6_take_57 : decode cX6_take 57 = .ok (.putfield 42, 3) := by decide +kernel
theorem dX6_take_60 : decode cX6_take 60 = .ok (.iload_n 3, 1) := by decide +kernel
theorem dX6_take_61 : decode cX6_take 61 = .ok (.ifCond .eq 54, 3) := by decide +kernel
theorem dX6_take_64 : decode cX6_take 64 = .ok (.aload_n 0, 1) := by decide +kernel
theorem dX6_take_65 : decode cX6_take 65 = .ok (.dup, 1) := by decide +kernel
theorem dX6_take_66 : decode cX6_take 66 = .ok (.getfield 9, 3) := by decide +kernel
theorem dX6_take_69 : decode cX6_take 69 = .ok (.lconst 1, 1) := by decide +kernel
theorem dX6_take_70 : decode cX6_take 70 = .ok (.ladd, 1) := by decide +kernel
theorem dX6_take_71 : decode cX6_take 71 = .ok (.putfield 9, 3) := by decide +kernel
theorem dX6_take_74 : decode cX6_take 74 = .ok (.aload_n 0, 1) := by decide +kernel
theorem dX6_take_75 : decode cX6_take 75 = .ok (.dup, 1) := by decide +kernel
theorem dX6_take_76 : decode cX6_take 76 = .ok (.getfield 15, 3) := by decide +kernel
theorem dX6_take_79 : decode cX6_take 79 = .ok (.lload 4, 2) := by decide +kernel
theorem dX6_take_81 : decode cX6_take 81 = .ok (.ladd, 1) := by decide +kernel
theorem dX6_take_82 : decode cX6_take 82 = .ok (.putfield 15, 3) := by decide +kernel
theorem dX6_take_85 : decode cX6_take 85 = .ok (.aload_n 0, 1) := by decide +kernel
theorem dX6_take_86 : decode cX6_take 86 = .ok (.dup, 1) := by decide +kernel
theorem dX6_take_87 : decode cX6_take 87 = .ok (.getfield 18, 3) := by decide +kernel
theorem dX6_take_90 : decode cX6_take 90 = .ok (.lload 6, 2) := by decide +kernel
theorem dX6_take_92 : decode cX6_take 92 = .ok (.ladd, 1) := by decide +kernel
theorem dX6_take_93 : decode cX6_take 93 = .ok (.putfield 18, 3) := by decide +kernel
theorem dX6_take_96 : decode cX6_take 96 = .ok (.aload_n 0, 1) := by decide +kernel
theorem dX6_take_97 : decode cX6_take 97 = .ok (.dup, 1) := by decide +kernel
theorem dX6_take_98 : decode cX6_take 98 = .ok (.getfield 21, 3) := by decide +kernel
theorem dX6_take_101 : decode cX6_take 101 = .ok (.aload_n 1, 1) := by decide +kernel
theorem dX6_take_102 : decode cX6_take 102 = .ok (.getfield 52, 3) := by decide +kernel
theorem dX6_take_105 : decode cX6_take 105 = .ok (.iload_n 2, 1) := by decide +kernel
theorem dX6_take_106 : decode cX6_take 106 = .ok (.iaload, 1) := by decide +kernel
theorem dX6_take_107 : decode cX6_take 107 = .ok (.i2l, 1) := by decide +kernel
theorem dX6_take_108 : decode cX6_take 108 = .ok (.ladd, 1) := by decide +kernel
theorem dX6_take_109 : decode cX6_take 109 = .ok (.putfield 21, 3) := by decide +kernel
theorem dX6_take_112 : decode cX6_take 112 = .ok (.goto 51, 3) := by decide +kernel
theorem dX6_take_115 : decode cX6_take 115 = .ok (.aload_n 0, 1) := by decide +kernel
theorem dX6_take_116 : decode cX6_take 116 = .ok (.dup, 1) := by decide +kernel
theorem dX6_take_117 : decode cX6_take 117 = .ok (.getfield 24, 3) := by decide +kernel
theorem dX6_take_120 : decode cX6_take 120 = .ok (.lconst 1, 1) := by decide +kernel
theorem dX6_take_121 : decode cX6_take 121 = .ok (.ladd, 1) := by decide +kernel
theorem dX6_take_122 : decode cX6_take 122 = .ok (.putfield 24, 3) := by decide +kernel
theorem dX6_take_125 : decode cX6_take 125 = .ok (.aload_n 0, 1) := by decide +kernel
theorem dX6_take_126 : decode cX6_take 126 = .ok (.dup, 1) := by decide +kernel
theorem dX6_take_127 : decode cX6_take 127 = .ok (.getfield 27, 3) := by decide +kernel
theorem dX6_take_130 : decode cX6_take 130 = .ok (.lload 4, 2) := by decide +kernel
theorem dX6_take_132 : decode cX6_take 132 = .ok (.ladd, 1) := by decide +kernel
theorem dX6_take_133 : decode cX6_take 133 = .ok (.putfield 27, 3) := by decide +kernel
theorem dX6_take_136 : decode cX6_take 136 = .ok (.aload_n 0, 1) := by decide +kernel
theorem dX6_take_137 : decode cX6_take 137 = .ok (.dup, 1) := by decide +kernel
theorem dX6_take_138 : decode cX6_take 138 = .ok (.getfield 30, 3) := by decide +kernel
theorem dX6_take_141 : decode cX6_take 141 = .ok (.lload 6, 2) := by decide +kernel
theorem dX6_take_143 : decode cX6_take 143 = .ok (.ladd, 1) := by decide +kernel
theorem dX6_take_144 : decode cX6_take 144 = .ok (.putfield 30, 3) := by decide +kernel
theorem dX6_take_147 : decode cX6_take 147 = .ok (.aload_n 0, 1) := by decide +kernel
theorem dX6_take_148 : decode cX6_take 148 = .ok (.dup, 1) := by decide +kernel
theorem dX6_take_149 : decode cX6_take 149 = .ok (.getfield 33, 3) := by decide +kernel
theorem dX6_take_152 : decode cX6_take 152 = .ok (.aload_n 1, 1) := by decide +kernel
theorem dX6_take_153 : decode cX6_take 153 = .ok (.getfield 52, 3) := by decide +kernel
theorem dX6_take_156 : decode cX6_take 156 = .ok (.iload_n 2, 1) := by decide +kernel
theorem dX6_take_157 : decode cX6_take 157 = .ok (.iaload, 1) := by decide +kernel
theorem dX6_take_158 : decode cX6_take 158 = .ok (.i2l, 1) := by decide +kernel
theorem dX6_take_159 : decode cX6_take 159 = .ok (.ladd, 1) := by decide +kernel
theorem dX6_take_160 : decode cX6_take 160 = .ok (.putfield 33, 3) := by decide +kernel
theorem dX6_take_163 : decode cX6_take 163 = .ok (.return_, 1) := by decide +kernel
theorem dX6_hasBoth_0 : decode cX6_hasBoth 0 = .ok (.aload_n 0, 1) := by decide +kernel
theorem dX6_hasBoth_1 : decode cX6_hasBoth 1 = .ok (.getfield 9, 3) := by decide +kernel
theorem dX6_hasBoth_4 : decode cX6_hasBoth 4 = .ok (.lconst 0, 1) := by decide +kernel
theorem dX6_hasBoth_5 : decode cX6_hasBoth 5 = .ok (.lcmp, 1) := by decide +kernel
theorem dX6_hasBoth_6 : decode cX6_hasBoth 6 = .ok (.ifCond .le 16, 3) := by decide +kernel
theorem dX6_hasBoth_9 : decode cX6_hasBoth 9 = .ok (.aload_n 0, 1) := by decide +kernel
theorem dX6_hasBoth_10 : decode cX6_hasBoth 10 = .ok (.getfield 24, 3) := by decide +kernel
theorem dX6_hasBoth_13 : decode cX6_hasBoth 13 = .ok (.lconst 0, 1) := by decide +kernel
theorem dX6_hasBoth_14 : decode cX6_hasBoth 14 = .ok (.lcmp, 1) := by decide +kernel
theorem dX6_hasBoth_15 : decode cX6_hasBoth 15 = .ok (.ifCond .le 7, 3) := by decide +kernel
theorem dX6_hasBoth_18 : decode cX6_hasBoth 18 = .ok (.iconst 1, 1) := by decide +kernel
theorem dX6_hasBoth_19 : decode cX6_hasBoth 19 = .ok (.goto 4, 3) := by decide +kernel
theorem dX6_hasBoth_22 : decode cX6_hasBoth 22 = .ok (.iconst 0, 1) := by decide +kernel
theorem dX6_hasBoth_23 : decode cX6_hasBoth 23 = .ok (.ireturn, 1) := by decide +kernel
set_option maxRecDepth 20000 in
theorem ggX6_hasSpan_X6_hasBoth : GoodIn wsX6_hasSpan wsX6_hasBoth := goodIn_r _ [8, 1, 2, 9, 10, 11, 12, 13, 14, 15, 16, 17, 18, 19] (by decide +kernel) (by decide +kernel)
set_option maxRecDepth 20000 in
theorem gX6_hasSpan_X6_hasBoth : GoodIn wsX6_hasSpan (wsV RX6 54 RX6 yX6_hasBoth wsX6_hasBoth) := goodIn_app (goodIn_of _ (by decide +kernel)) ggX6_hasSpan_X6_hasBoth
theorem dX6_hasSpan_0 : decode cX6_hasSpan 0 = .ok (.aload_n 0, 1) := by decide +kernel
theorem dX6_hasSpan_1 : decode cX6_hasSpan 1 = .ok (.invokevirtual 54, 3) := by decide +kernel
theorem dX6_hasSpan_4 : decode cX6_hasSpan 4 = .ok (.ifCond .eq 23, 3) := by decide +kernel
theorem dX6_hasSpan_7 : decode cX6_hasSpan 7 = .ok (.aload_n 0, 1) := by decide +kernel
theorem dX6_hasSpan_8 : decode cX6_hasSpan 8 = .ok (.getfield 9, 3) := by decide +kernel
theorem dX6_hasSpan_11 : decode cX6_hasSpan 11 = .ok (.aload_n 0, 1) := by decide +kernel
theorem dX6_hasSpan_12 : decode cX6_hasSpan 12 = .ok (.getfield 24, 3) := by decide +kernel
theorem dX6_hasSpan_15 : decode cX6_hasSpan 15 = .ok (.ladd, 1) := by decide +kernel
theorem dX6_hasSpan_16 : decode cX6_hasSpan 16 = .ok (.ldc2_w 58, 3) := by decide +kernel
theorem dX6_hasSpan_19 : decode cX6_hasSpan 19 = .ok (.lcmp, 1) := by decide +kernel
theorem dX6_hasSpan_20 : decode cX6_hasSpan 20 = .ok (.ifCond .lt 7, 3) := by decide +kernel
theorem dX6_hasSpan_23 : decode cX6_hasSpan 23 = .ok (.iconst 1, 1) := by decide +kernel
theorem dX6_hasSpan_24 : decode cX6_hasSpan 24 = .ok (.goto 4, 3) := by decide +kernel
theorem dX6_hasSpan_27 : decode cX6_hasSpan 27 = .ok (.iconst 0, 1) := by decide +kernel
theorem dX6_hasSpan_28 : decode cX6_hasSpan 28 = .ok (.ireturn, 1) := by decide +kernel
set_option maxRecDepth 20000 in
theorem ggX6_hasUsualSpan_X6_byMoved : GoodIn wsX6_hasUsualSpan wsX6_byMoved := goodIn_r _ [9, 10, 11, 12, 8, 13, 14, 15, 1, 2, 16, 17, 18, 19, 20, 21, 22, 23, 24, 25, 26, 27, 33, 34, 35, 36, 37, 38, 39, 40, 41, 42, 43] (by decide +kernel) (by decide +kernel)
set_option maxRecDepth 20000 in
theorem gX6_hasUsualSpan_X6_byMoved : GoodIn wsX6_hasUsualSpan (wsV RX6 60 RX6 yX6_byMoved wsX6_byMoved) := goodIn_app (goodIn_of _ (by decide +kernel)) ggX6_hasUsualSpan_X6_byMoved
set_option maxRecDepth 20000 in
theorem ggX6_hasUsualSpan_X6_hasSpan : GoodIn wsX6_hasUsualSpan wsX6_hasSpan := goodIn_r _ [31, 18, 19, 32, 24, 25, 26, 8, 27, 33, 34, 35, 36, 37, 38, 39, 40, 41, 42, 43] (by decide +kernel) (by decide +kernel)
set_option maxRecDepth 20000 in
theorem gX6_hasUsualSpan_X6_hasSpan : GoodIn wsX6_hasUsualSpan (wsV RX6 66 RX6 yX6_hasSpan wsX6_hasSpan) := goodIn_app (goodIn_of _ (by decide +kernel)) ggX6_hasUsualSpan_X6_hasSpan
theorem dX6_hasUsualSpan_0 : decode cX6_hasUsualSpan 0 = .ok (.aload_n 0, 1) := by decide +kernel
theorem dX6_hasUsualSpan_1 : decode cX6_hasUsualSpan 1 = .ok (.invokevirtual 60, 3) := by decide +kernel
theorem dX6_hasUsualSpan_4 : decode cX6_hasUsualSpan 4 = .ok (.lstore_n 1, 1) := by decide +kernel
theorem dX6_hasUsualSpan_5 : decode cX6_hasUsualSpan 5 = .ok (.lload_n 1, 1) := by decide +kernel
theorem dX6_hasUsualSpan_6 : decode cX6_hasUsualSpan 6 = .ok (.ldc2_w 64, 3) := by decide +kernel
theorem dX6_hasUsualSpan_9 : decode cX6_hasUsualSpan 9 = .ok (.lcmp, 1) := by decide +kernel
theorem dX6_hasUsualSpan_10 : decode cX6_hasUsualSpan 10 = .ok (.ifCond .eq 10, 3) := by decide +kernel
theorem dX6_hasUsualSpan_13 : decode cX6_hasUsualSpan 13 = .ok (.aload_n 0, 1) := by decide +kernel
theorem dX6_hasUsualSpan_14 : decode cX6_hasUsualSpan 14 = .ok (.invokevirtual 66, 3) := by decide +kernel
theorem dX6_hasUsualSpan_17 : decode cX6_hasUsualSpan 17 = .ok (.ifCond .ne 5, 3) := by decide +kernel
theorem dX6_hasUsualSpan_20 : decode cX6_hasUsualSpan 20 = .ok (.iconst 0, 1) := by decide +kernel
theorem dX6_hasUsualSpan_21 : decode cX6_hasUsualSpan 21 = .ok (.ireturn, 1) := by decide +kernel
theorem dX6_hasUsualSpan_22 : decode cX6_hasUsualSpan 22 = .ok (.lload_n 1, 1) := by decide +kernel
theorem dX6_hasUsualSpan_23 : decode cX6_hasUsualSpan 23 = .ok (.ldc2_w 69, 3) := by decide +kernel
theorem dX6_hasUsualSpan_26 : decode cX6_hasUsualSpan 26 = .ok (.ldiv, 1) := by decide +kernel
theorem dX6_hasUsualSpan_27 : decode cX6_hasUsualSpan 27 = .ok (.ldc2_w 71, 3) := by decide +kernel
theorem dX6_hasUsualSpan_30 : decode cX6_hasUsualSpan 30 = .ok (.lcmp, 1) := by decide +kernel
theorem dX6_hasUsualSpan_31 : decode cX6_hasUsualSpan 31 = .ok (.ifCond .lt 19, 3) := by decide +kernel
theorem dX6_hasUsualSpan_34 : decode cX6_hasUsualSpan 34 = .ok (.lload_n 1, 1) := by decide +kernel
theorem dX6_hasUsualSpan_35 : decode cX6_hasUsualSpan 35 = .ok (.ldc2_w 69, 3) := by decide +kernel
theorem dX6_hasUsualSpan_38 : decode cX6_hasUsualSpan 38 = .ok (.ldiv, 1) := by decide +kernel
theorem dX6_hasUsualSpan_39 : decode cX6_hasUsualSpan 39 = .ok (.ldc2_w 73, 3) := by decide +kernel
theorem dX6_hasUsualSpan_42 : decode cX6_hasUsualSpan 42 = .ok (.lcmp, 1) := by decide +kernel
theorem dX6_hasUsualSpan_43 : decode cX6_hasUsualSpan 43 = .ok (.ifCond .gt 7, 3) := by decide +kernel
theorem dX6_hasUsualSpan_46 : decode cX6_hasUsualSpan 46 = .ok (.iconst 1, 1) := by decide +kernel
theorem dX6_hasUsualSpan_47 : decode cX6_hasUsualSpan 47 = .ok (.goto 4, 3) := by decide +kernel
theorem dX6_hasUsualSpan_50 : decode cX6_hasUsualSpan 50 = .ok (.iconst 0, 1) := by decide +kernel
theorem dX6_hasUsualSpan_51 : decode cX6_hasUsualSpan 51 = .ok (.ireturn, 1) := by decide +kernel
theorem dX6_gapOf_0 : decode cX6_gapOf 0 = .ok (.lload_n 1, 1) := by decide +kernel
theorem dX6_gapOf_1 : decode cX6_gapOf 1 = .ok (.aload_n 0, 1) := by decide +kernel
theorem dX6_gapOf_2 : decode cX6_gapOf 2 = .ok (.getfield 24, 3) := by decide +kernel
theorem dX6_gapOf_5 : decode cX6_gapOf 5 = .ok (.lmul, 1) := by decide +kernel
theorem dX6_gapOf_6 : decode cX6_gapOf 6 = .ok (.lload_n 3, 1) := by decide +kernel
theorem dX6_gapOf_7 : decode cX6_gapOf 7 = .ok (.aload_n 0, 1) := by decide +kernel
theorem dX6_gapOf_8 : decode cX6_gapOf 8 = .ok (.getfield 9, 3) := by decide +kernel
theorem dX6_gapOf_11 : decode cX6_gapOf 11 = .ok (.lmul, 1) := by decide +kernel
theorem dX6_gapOf_12 : decode cX6_gapOf 12 = .ok (.lsub, 1) := by decide +kernel
theorem dX6_gapOf_13 : decode cX6_gapOf 13 = .ok (.lreturn, 1) := by decide +kernel
set_option maxRecDepth 20000 in
theorem ggX6_meanGap_X6_hasBoth : GoodIn wsX6_meanGap wsX6_hasBoth := goodIn_r _ [8, 1, 2, 18, 19, 20, 21, 22, 23, 24, 25, 26, 27, 28] (by decide +kernel) (by decide +kernel)
set_option maxRecDepth 20000 in
theorem gX6_meanGap_X6_hasBoth : GoodIn wsX6_meanGap (wsV RX6 54 RX6 yX6_hasBoth wsX6_hasBoth) := goodIn_app (goodIn_of _ (by decide +kernel)) ggX6_meanGap_X6_hasBoth
set_option maxRecDepth 20000 in
theorem ggX6_meanGap_X6_gapOf : GoodIn wsX6_meanGap wsX6_gapOf := goodIn_r _ [12, 2, 1, 18, 19, 20, 21, 22, 23, 24, 25, 26, 27, 28] (by decide +kernel) (by decide +kernel)
set_option maxRecDepth 20000 in
theorem gX6_meanGap_X6_gapOf : GoodIn wsX6_meanGap (wsV RX6 75 RX6 yX6_gapOf wsX6_gapOf) := goodIn_app (goodIn_of _ (by decide +kernel)) ggX6_meanGap_X6_gapOf
set_option maxRecDepth 20000 in
theorem ggX6_meanGap_X8_thousandths : GoodIn wsX6_meanGap wsX8_thousandths := goodIn_r _ [15, 16, 17] (by decide +kernel) (by decide +kernel)
set_option maxRecDepth 20000 in
theorem gX6_meanGap_X8_thousandths_n79 : GoodIn wsX6_meanGap (wsX8_thousandths) := ggX6_meanGap_X8_thousandths
theorem dX6_meanGap_0 : decode cX6_meanGap 0 = .ok (.aload_n 0, 1) := by decide +kernel
theorem dX6_meanGap_1 : decode cX6_meanGap 1 = .ok (.invokevirtual 54, 3) := by decide +kernel
theorem dX6_meanGap_4 : decode cX6_meanGap 4 = .ok (.ifCond .eq 24, 3) := by decide +kernel
theorem dX6_meanGap_7 : decode cX6_meanGap 7 = .ok (.aload_n 0, 1) := by decide +kernel
theorem dX6_meanGap_8 : decode cX6_meanGap 8 = .ok (.lload_n 1, 1) := by decide +kernel
theorem dX6_meanGap_9 : decode cX6_meanGap 9 = .ok (.lload_n 3, 1) := by decide +kernel
theorem dX6_meanGap_10 : decode cX6_meanGap 10 = .ok (.invokevirtual 75, 3) := by decide +kernel
theorem dX6_meanGap_13 : decode cX6_meanGap 13 = .ok (.aload_n 0, 1) := by decide +kernel
theorem dX6_meanGap_14 : decode cX6_meanGap 14 = .ok (.getfield 9, 3) := by decide +kernel
theorem dX6_meanGap_17 : decode cX6_meanGap 17 = .ok (.aload_n 0, 1) := by decide +kernel
theorem dX6_meanGap_18 : decode cX6_meanGap 18 = .ok (.getfield 24, 3) := by decide +kernel
theorem dX6_meanGap_21 : decode cX6_meanGap 21 = .ok (.lmul, 1) := by decide +kernel
theorem dX6_meanGap_22 : decode cX6_meanGap 22 = .ok (.invokestatic 79, 3) := by decide +kernel
theorem dX6_meanGap_25 : decode cX6_meanGap 25 = .ok (.goto 6, 3) := by decide +kernel
theorem dX6_meanGap_28 : decode cX6_meanGap 28 = .ok (.ldc2_w 64, 3) := by decide +kernel
theorem dX6_meanGap_31 : decode cX6_meanGap 31 = .ok (.lreturn, 1) := by decide +kernel
set_option maxRecDepth 20000 in
theorem ggX6_byMoved_X6_byMovedLess : GoodIn wsX6_byMoved wsX6_byMovedLess := goodIn_r _ [5, 6, 7, 8, 9, 10, 11, 12, 13, 14, 15, 16, 4, 17, 18, 19, 20, 21, 22, 23, 24, 25, 26, 27, 28, 29, 30, 31, 32] (by decide +kernel) (by decide +kernel)
set_option maxRecDepth 20000 in
theorem gX6_byMoved_X6_byMovedLess : GoodIn wsX6_byMoved (wsV RX6 82 RX6 yX6_byMovedLess wsX6_byMovedLess) := goodIn_app (goodIn_of _ (by decide +kernel)) ggX6_byMoved_X6_byMovedLess
theorem dX6_byMoved_0 : decode cX6_byMoved 0 = .ok (.aload_n 0, 1) := by decide +kernel
theorem dX6_byMoved_1 : decode cX6_byMoved 1 = .ok (.lconst 0, 1) := by decide +kernel
theorem dX6_byMoved_2 : decode cX6_byMoved 2 = .ok (.invokevirtual 82, 3) := by decide +kernel
theorem dX6_byMoved_5 : decode cX6_byMoved 5 = .ok (.lreturn, 1) := by decide +kernel
set_option maxRecDepth 20000 in
theorem ggX6_byMovedLess_X6_gapOf : GoodIn wsX6_byMovedLess wsX6_gapOf := goodIn_r _ [13, 8, 7, 18, 19, 20, 21, 22, 23, 24, 25, 26, 27, 28] (by decide +kernel) (by decide +kernel)
set_option maxRecDepth 20000 in
theorem gX6_byMovedLess_X6_gapOf : GoodIn wsX6_byMovedLess (wsV RX6 75 RX6 yX6_gapOf wsX6_gapOf) := goodIn_app (goodIn_of _ (by decide +kernel)) ggX6_byMovedLess_X6_gapOf
set_option maxRecDepth 20000 in
theorem ggX6_byMovedLess_X6_hasBoth : GoodIn wsX6_byMovedLess wsX6_hasBoth := goodIn_r _ [17, 7, 8, 18, 19, 20, 21, 22, 23, 24, 25, 26, 27, 28] (by decide +kernel) (by decide +kernel)
set_option maxRecDepth 20000 in
theorem gX6_byMovedLess_X6_hasBoth : GoodIn wsX6_byMovedLess (wsV RX6 54 RX6 yX6_hasBoth wsX6_hasBoth) := goodIn_app (goodIn_of _ (by decide +kernel)) ggX6_byMovedLess_X6_hasBoth
theorem dX6_byMovedLess_0 : decode cX6_byMovedLess 0 = .ok (.aload_n 0, 1) := by decide +kernel
theorem dX6_byMovedLess_1 : decode cX6_byMovedLess 1 = .ok (.aload_n 0, 1) := by decide +kernel
theorem dX6_byMovedLess_2 : decode cX6_byMovedLess 2 = .ok (.getfield 15, 3) := by decide +kernel
theorem dX6_byMovedLess_5 : decode cX6_byMovedLess 5 = .ok (.aload_n 0, 1) := by decide +kernel
theorem dX6_byMovedLess_6 : decode cX6_byMovedLess 6 = .ok (.getfield 27, 3) := by decide +kernel
theorem dX6_byMovedLess_9 : decode cX6_byMovedLess 9 = .ok (.invokevirtual 75, 3) := by decide +kernel
theorem dX6_byMovedLess_12 : decode cX6_byMovedLess 12 = .ok (.lstore_n 3, 1) := by decide +kernel
theorem dX6_byMovedLess_13 : decode cX6_byMovedLess 13 = .ok (.aload_n 0, 1) := by decide +kernel
theorem dX6_byMovedLess_14 : decode cX6_byMovedLess 14 = .ok (.invokevirtual 54, 3) := by decide +kernel
theorem dX6_byMovedLess_17 : decode cX6_byMovedLess 17 = .ok (.ifCond .eq 9, 3) := by decide +kernel
theorem dX6_byMovedLess_20 : decode cX6_byMovedLess 20 = .ok (.lload_n 3, 1) := by decide +kernel
theorem dX6_byMovedLess_21 : decode cX6_byMovedLess 21 = .ok (.lconst 0, 1) := by decide +kernel
theorem dX6_byMovedLess_22 : decode cX6_byMovedLess 22 = .ok (.lcmp, 1) := by decide +kernel
theorem dX6_byMovedLess_23 : decode cX6_byMovedLess 23 = .ok (.ifCond .ne 7, 3) := by decide +kernel
theorem dX6_byMovedLess_26 : decode cX6_byMovedLess 26 = .ok (.ldc2_w 64, 3) := by decide +kernel
theorem dX6_byMovedLess_29 : decode cX6_byMovedLess 29 = .ok (.lreturn, 1) := by decide +kernel
theorem dX6_byMovedLess_30 : decode cX6_byMovedLess 30 = .ok (.ldc2_w 69, 3) := by decide +kernel
theorem dX6_byMovedLess_33 : decode cX6_byMovedLess 33 = .ok (.aload_n 0, 1) := by decide +kernel
theorem dX6_byMovedLess_34 : decode cX6_byMovedLess 34 = .ok (.aload_n 0, 1) := by decide +kernel
theorem dX6_byMovedLess_35 : decode cX6_byMovedLess 35 = .ok (.getfield 18, 3) := by decide +kernel
theorem dX6_byMovedLess_38 : decode cX6_byMovedLess 38 = .ok (.aload_n 0, 1) := by decide +kernel
theorem dX6_byMovedLess_39 : decode cX6_byMovedLess 39 = .ok (.getfield 30, 3) := by decide +kernel
theorem dX6_byMovedLess_42 : decode cX6_byMovedLess 42 = .ok (.invokevirtual 75, 3) := by decide +kernel
theorem dX6_byMovedLess_45 : decode cX6_byMovedLess 45 = .ok (.lmul, 1) := by decide +kernel
theorem dX6_byMovedLess_46 : decode cX6_byMovedLess 46 = .ok (.lload_n 1, 1) := by decide +kernel
theorem dX6_byMovedLess_47 : decode cX6_byMovedLess 47 = .ok (.aload_n 0, 1) := by decide +kernel
theorem dX6_byMovedLess_48 : decode cX6_byMovedLess 48 = .ok (.getfield 9, 3) := by decide +kernel
theorem dX6_byMovedLess_51 : decode cX6_byMovedLess 51 = .ok (.lmul, 1) := by decide +kernel
theorem dX6_byMovedLess_52 : decode cX6_byMovedLess 52 = .ok (.aload_n 0, 1) := by decide +kernel
theorem dX6_byMovedLess_53 : decode cX6_byMovedLess 53 = .ok (.getfield 24, 3) := by decide +kernel
theorem dX6_byMovedLess_56 : decode cX6_byMovedLess 56 = .ok (.lmul, 1) := by decide +kernel
theorem dX6_byMovedLess_57 : decode cX6_byMovedLess 57 = .ok (.lsub, 1) := by decide +kernel
theorem dX6_byMovedLess_58 : decode cX6_byMovedLess 58 = .ok (.lload_n 3, 1) := by decide +kernel
theorem dX6_byMovedLess_59 : decode cX6_byMovedLess 59 = .ok (.ldiv, 1) := by decide +kernel
theorem dX6_byMovedLess_60 : decode cX6_byMovedLess 60 = .ok (.lreturn, 1) := by decide +kernel
set_option maxRecDepth 20000 in
theorem ggX6_strength_X6_hasSpan : GoodIn wsX6_strength wsX6_hasSpan := goodIn_r _ [14, 7, 8, 15, 16, 17, 18, 13, 19, 28, 29, 30, 31, 32, 33, 34, 35, 36, 37, 38] (by decide +kernel) (by decide +kernel)
set_option maxRecDepth 20000 in
theorem gX6_strength_X6_hasSpan : GoodIn wsX6_strength (wsV RX6 66 RX6 yX6_hasSpan wsX6_hasSpan) := goodIn_app (goodIn_of _ (by decide +kernel)) ggX6_strength_X6_hasSpan
set_option maxRecDepth 20000 in
theorem ggX6_strength_X6_gapOf : GoodIn wsX6_strength wsX6_gapOf := goodIn_r _ [23, 8, 7, 28, 29, 30, 31, 32, 33, 34, 35, 36, 37, 38] (by decide +kernel) (by decide +kernel)
set_option maxRecDepth 20000 in
theorem gX6_strength_X6_gapOf : GoodIn wsX6_strength (wsV RX6 75 RX6 yX6_gapOf wsX6_gapOf) := goodIn_app (goodIn_of _ (by decide +kernel)) ggX6_strength_X6_gapOf
set_option maxRecDepth 20000 in
theorem ggX6_strength_X6_withinOf : GoodIn wsX6_strength wsX6_withinOf := goodIn_r _ [27, 7, 8, 28, 29, 30, 31, 32, 33, 34, 35, 36, 37, 38] (by decide +kernel) (by decide +kernel)
set_option maxRecDepth 20000 in
theorem gX6_strength_X6_withinOf : GoodIn wsX6_strength (wsV RX6 86 RX6 yX6_withinOf wsX6_withinOf) := goodIn_app (goodIn_of _ (by decide +kernel)) ggX6_strength_X6_withinOf
theorem dX6_strength_0 : decode cX6_strength 0 = .ok (.aload_n 0, 1) := by decide +kernel
theorem dX6_strength_1 : decode cX6_strength 1 = .ok (.invokevirtual 66, 3) := by decide +kernel
theorem dX6_strength_4 : decode cX6_strength 4 = .ok (.ifCond .ne 7, 3) := by decide +kernel
theorem dX6_strength_7 : decode cX6_strength 7 = .ok (.ldc2_w 64, 3) := by decide +kernel
theorem dX6_strength_10 : decode cX6_strength 10 = .ok (.lreturn, 1) := by decide +kernel
theorem dX6_strength_11 : decode cX6_strength 11 = .ok (.aload_n 0, 1) := by decide +kernel
theorem dX6_strength_12 : decode cX6_strength 12 = .ok (.aload_n 0, 1) := by decide +kernel
theorem dX6_strength_13 : decode cX6_strength 13 = .ok (.getfield 15, 3) := by decide +kernel
theorem dX6_strength_16 : decode cX6_strength 16 = .ok (.aload_n 0, 1) := by decide +kernel
theorem dX6_strength_17 : decode cX6_strength 17 = .ok (.getfield 27, 3) := by decide +kernel
theorem dX6_strength_20 : decode cX6_strength 20 = .ok (.invokevirtual 75, 3) := by decide +kernel
theorem dX6_strength_23 : decode cX6_strength 23 = .ok (.lstore_n 1, 1) := by decide +kernel
theorem dX6_strength_24 : decode cX6_strength 24 = .ok (.aload_n 0, 1) := by decide +kernel
theorem dX6_strength_25 : decode cX6_strength 25 = .ok (.aload_n 0, 1) := by decide +kernel
theorem dX6_strength_26 : decode cX6_strength 26 = .ok (.getfield 15, 3) := by decide +kernel
theorem dX6_strength_29 : decode cX6_strength 29 = .ok (.aload_n 0, 1) := by decide +kernel
theorem dX6_strength_30 : decode cX6_strength 30 = .ok (.getfield 27, 3) := by decide +kernel
theorem dX6_strength_33 : decode cX6_strength 33 = .ok (.aload_n 0, 1) := by decide +kernel
theorem dX6_strength_34 : decode cX6_strength 34 = .ok (.getfield 36, 3) := by decide +kernel
theorem dX6_strength_37 : decode cX6_strength 37 = .ok (.invokevirtual 86, 3) := by decide +kernel
theorem dX6_strength_40 : decode cX6_strength 40 = .ok (.lstore_n 3, 1) := by decide +kernel
theorem dX6_strength_41 : decode cX6_strength 41 = .ok (.lload_n 3, 1) := by decide +kernel
theorem dX6_strength_42 : decode cX6_strength 42 = .ok (.lconst 0, 1) := by decide +kernel
theorem dX6_strength_43 : decode cX6_strength 43 = .ok (.lcmp, 1) := by decide +kernel
theorem dX6_strength_44 : decode cX6_strength 44 = .ok (.ifCond .ne 17, 3) := by decide +kernel
theorem dX6_strength_47 : decode cX6_strength 47 = .ok (.lload_n 1, 1) := by decide +kernel
theorem dX6_strength_48 : decode cX6_strength 48 = .ok (.lconst 0, 1) := by decide +kernel
theorem dX6_strength_49 : decode cX6_strength 49 = .ok (.lcmp, 1) := by decide +kernel
theorem dX6_strength_50 : decode cX6_strength 50 = .ok (.ifCond .ne 7, 3) := by decide +kernel
theorem dX6_strength_53 : decode cX6_strength 53 = .ok (.lconst 0, 1) := by decide +kernel
theorem dX6_strength_54 : decode cX6_strength 54 = .ok (.goto 6, 3) := by decide +kernel
theorem dX6_strength_57 : decode cX6_strength 57 = .ok (.ldc2_w 90, 3) := by decide +kernel
theorem dX6_strength_60 : decode cX6_strength 60 = .ok (.lreturn, 1) := by decide +kernel
theorem dX6_strength_61 : decode cX6_strength 61 = .ok (.ldc2_w 92, 3) := by decide +kernel
theorem dX6_strength_64 : decode cX6_strength 64 = .ok (.aload_n 0, 1) := by decide +kernel
theorem dX6_strength_65 : decode cX6_strength 65 = .ok (.getfield 9, 3) := by decide +kernel
theorem dX6_strength_68 : decode cX6_strength 68 = .ok (.aload_n 0, 1) := by decide +kernel
theorem dX6_strength_69 : decode cX6_strength 69 = .ok (.getfield 24, 3) := by decide +kernel
theorem dX6_strength_72 : decode cX6_strength 72 = .ok (.ladd, 1) := by decide +kernel
theorem dX6_strength_73 : decode cX6_strength 73 = .ok (.ldc2_w 94, 3) := by decide +kernel
theorem dX6_strength_76 : decode cX6_strength 76 = .ok (.lsub, 1) := by decide +kernel
theorem dX6_strength_77 : decode cX6_strength 77 = .ok (.lmul, 1) := by decide +kernel
theorem dX6_strength_78 : decode cX6_strength 78 = .ok (.lload_n 1, 1) := by decide +kernel
theorem dX6_strength_79 : decode cX6_strength 79 = .ok (.lmul, 1) := by decide +kernel
theorem dX6_strength_80 : decode cX6_strength 80 = .ok (.lload_n 1, 1) := by decide +kernel
theorem dX6_strength_81 : decode cX6_strength 81 = .ok (.lmul, 1) := by decide +kernel
theorem dX6_strength_82 : decode cX6_strength 82 = .ok (.aload_n 0, 1) := by decide +kernel
theorem dX6_strength_83 : decode cX6_strength 83 = .ok (.getfield 9, 3) := by decide +kernel
theorem dX6_strength_86 : decode cX6_strength 86 = .ok (.aload_n 0, 1) := by decide +kernel
theorem dX6_strength_87 : decode cX6_strength 87 = .ok (.getfield 24, 3) := by decide +kernel
theorem dX6_strength_90 : decode cX6_strength 90 = .ok (.ladd, 1) := by decide +kernel
theorem dX6_strength_91 : decode cX6_strength 91 = .ok (.lload_n 3, 1) := by decide +kernel
theorem dX6_strength_92 : decode cX6_strength 92 = .ok (.lmul, 1) := by decide +kernel
theorem dX6_strength_93 : decode cX6_strength 93 = .ok (.ldiv, 1) := by decide +kernel
theorem dX6_strength_94 : decode cX6_strength 94 = .ok (.lreturn, 1) := by decide +kernel
theorem dX6_withinOf_0 : decode cX6_withinOf 0 = .ok (.aload_n 0, 1) := by decide +kernel
theorem dX6_withinOf_1 : decode cX6_withinOf 1 = .ok (.getfield 9, 3) := by decide +kernel
theorem dX6_withinOf_4 : decode cX6_withinOf 4 = .ok (.aload_n 0, 1) := by decide +kernel
theorem dX6_withinOf_5 : decode cX6_withinOf 5 = .ok (.getfield 24, 3) := by decide +kernel
theorem dX6_withinOf_8 : decode cX6_withinOf 8 = .ok (.lmul, 1) := by decide +kernel
theorem dX6_withinOf_9 : decode cX6_withinOf 9 = .ok (.lload 5, 2) := by decide +kernel
theorem dX6_withinOf_11 : decode cX6_withinOf 11 = .ok (.lmul, 1) := by decide +kernel
theorem dX6_withinOf_12 : decode cX6_withinOf 12 = .ok (.lload_n 1, 1) := by decide +kernel
theorem dX6_withinOf_13 : decode cX6_withinOf 13 = .ok (.lload_n 1, 1) := by decide +kernel
theorem dX6_withinOf_14 : decode cX6_withinOf 14 = .ok (.lmul, 1) := by decide +kernel
theorem dX6_withinOf_15 : decode cX6_withinOf 15 = .ok (.aload_n 0, 1) := by decide +kernel
theorem dX6_withinOf_16 : decode cX6_withinOf 16 = .ok (.getfield 24, 3) := by decide +kernel
theorem dX6_withinOf_19 : decode cX6_withinOf 19 = .ok (.lmul, 1) := by decide +kernel
theorem dX6_withinOf_20 : decode cX6_withinOf 20 = .ok (.lsub, 1) := by decide +kernel
theorem dX6_withinOf_21 : decode cX6_withinOf 21 = .ok (.lload_n 3, 1) := by decide +kernel
theorem dX6_withinOf_22 : decode cX6_withinOf 22 = .ok (.lload_n 3, 1) := by decide +kernel
theorem dX6_withinOf_23 : decode cX6_withinOf 23 = .ok (.lmul, 1) := by decide +kernel
theorem dX6_withinOf_24 : decode cX6_withinOf 24 = .ok (.aload_n 0, 1) := by decide +kernel
theorem dX6_withinOf_25 : decode cX6_withinOf 25 = .ok (.getfield 9, 3) := by decide +kernel
theorem dX6_withinOf_28 : decode cX6_withinOf 28 = .ok (.lmul, 1) := by decide +kernel
theorem dX6_withinOf_29 : decode cX6_withinOf 29 = .ok (.lsub, 1) := by decide +kernel
theorem dX6_withinOf_30 : decode cX6_withinOf 30 = .ok (.lreturn, 1) := by decide +kernel
set_option maxRecDepth 20000 in
theorem ggX6_leftGap_X6_gapOf : GoodIn wsX6_leftGap wsX6_gapOf := goodIn_r _ [9, 10, 11, 12, 13, 14, 15, 16, 17, 18, 19, 20, 21, 22] (by decide +kernel) (by decide +kernel)
set_option maxRecDepth 20000 in
theorem gX6_leftGap_X6_gapOf : GoodIn wsX6_leftGap (wsV RX6 75 RX6 yX6_gapOf wsX6_gapOf) := goodIn_app (goodIn_of _ (by decide +kernel)) ggX6_leftGap_X6_gapOf
theorem dX6_leftGap_0 : decode cX6_leftGap 0 = .ok (.aload_n 0, 1) := by decide +kernel
theorem dX6_leftGap_1 : decode cX6_leftGap 1 = .ok (.aload_n 0, 1) := by decide +kernel
theorem dX6_leftGap_2 : decode cX6_leftGap 2 = .ok (.getfield 18, 3) := by decide +kernel
theorem dX6_leftGap_5 : decode cX6_leftGap 5 = .ok (.lload_n 1, 1) := by decide +kernel
theorem dX6_leftGap_6 : decode cX6_leftGap 6 = .ok (.aload_n 0, 1) := by decide +kernel
theorem dX6_leftGap_7 : decode cX6_leftGap 7 = .ok (.getfield 15, 3) := by decide +kernel
theorem dX6_leftGap_10 : decode cX6_leftGap 10 = .ok (.lmul, 1) := by decide +kernel
theorem dX6_leftGap_11 : decode cX6_leftGap 11 = .ok (.lsub, 1) := by decide +kernel
theorem dX6_leftGap_12 : decode cX6_leftGap 12 = .ok (.aload_n 0, 1) := by decide +kernel
theorem dX6_leftGap_13 : decode cX6_leftGap 13 = .ok (.getfield 30, 3) := by decide +kernel
theorem dX6_leftGap_16 : decode cX6_leftGap 16 = .ok (.lload_n 1, 1) := by decide +kernel
theorem dX6_leftGap_17 : decode cX6_leftGap 17 = .ok (.aload_n 0, 1) := by decide +kernel
theorem dX6_leftGap_18 : decode cX6_leftGap 18 = .ok (.getfield 27, 3) := by decide +kernel
theorem dX6_leftGap_21 : decode cX6_leftGap 21 = .ok (.lmul, 1) := by decide +kernel
theorem dX6_leftGap_22 : decode cX6_leftGap 22 = .ok (.lsub, 1) := by decide +kernel
theorem dX6_leftGap_23 : decode cX6_leftGap 23 = .ok (.invokevirtual 75, 3) := by decide +kernel
theorem dX6_leftGap_26 : decode cX6_leftGap 26 = .ok (.lreturn, 1) := by decide +kernel
set_option maxRecDepth 20000 in
theorem ggX6_leftWithin_X6_withinOf : GoodIn wsX6_leftWithin wsX6_withinOf := goodIn_r _ [13, 14, 15, 16, 17, 18, 19, 20, 21, 22, 23, 24, 25, 26] (by decide +kernel) (by decide +kernel)
set_option maxRecDepth 20000 in
theorem gX6_leftWithin_X6_withinOf : GoodIn wsX6_leftWithin (wsV RX6 86 RX6 yX6_withinOf wsX6_withinOf) := goodIn_app (goodIn_of _ (by decide +kernel)) ggX6_leftWithin_X6_withinOf
theorem dX6_leftWithin_0 : decode cX6_leftWithin 0 = .ok (.aload_n 0, 1) := by decide +kernel
theorem dX6_leftWithin_1 : decode cX6_leftWithin 1 = .ok (.getfield 42, 3) := by decide +kernel
theorem dX6_leftWithin_4 : decode cX6_leftWithin 4 = .ok (.ldc2_w 94, 3) := by decide +kernel
theorem dX6_leftWithin_7 : decode cX6_leftWithin 7 = .ok (.lload_n 1, 1) := by decide +kernel
theorem dX6_leftWithin_8 : decode cX6_leftWithin 8 = .ok (.lmul, 1) := by decide +kernel
theorem dX6_leftWithin_9 : decode cX6_leftWithin 9 = .ok (.aload_n 0, 1) := by decide +kernel
theorem dX6_leftWithin_10 : decode cX6_leftWithin 10 = .ok (.getfield 39, 3) := by decide +kernel
theorem dX6_leftWithin_13 : decode cX6_leftWithin 13 = .ok (.lmul, 1) := by decide +kernel
theorem dX6_leftWithin_14 : decode cX6_leftWithin 14 = .ok (.lsub, 1) := by decide +kernel
theorem dX6_leftWithin_15 : decode cX6_leftWithin 15 = .ok (.lload_n 1, 1) := by decide +kernel
theorem dX6_leftWithin_16 : decode cX6_leftWithin 16 = .ok (.lload_n 1, 1) := by decide +kernel
theorem dX6_leftWithin_17 : decode cX6_leftWithin 17 = .ok (.lmul, 1) := by decide +kernel
theorem dX6_leftWithin_18 : decode cX6_leftWithin 18 = .ok (.aload_n 0, 1) := by decide +kernel
theorem dX6_leftWithin_19 : decode cX6_leftWithin 19 = .ok (.getfield 36, 3) := by decide +kernel
theorem dX6_leftWithin_22 : decode cX6_leftWithin 22 = .ok (.lmul, 1) := by decide +kernel
theorem dX6_leftWithin_23 : decode cX6_leftWithin 23 = .ok (.ladd, 1) := by decide +kernel
theorem dX6_leftWithin_24 : decode cX6_leftWithin 24 = .ok (.lstore_n 3, 1) := by decide +kernel
theorem dX6_leftWithin_25 : decode cX6_leftWithin 25 = .ok (.aload_n 0, 1) := by decide +kernel
theorem dX6_leftWithin_26 : decode cX6_leftWithin 26 = .ok (.aload_n 0, 1) := by decide +kernel
theorem dX6_leftWithin_27 : decode cX6_leftWithin 27 = .ok (.getfield 18, 3) := by decide +kernel
theorem dX6_leftWithin_30 : decode cX6_leftWithin 30 = .ok (.lload_n 1, 1) := by decide +kernel
theorem dX6_leftWithin_31 : decode cX6_leftWithin 31 = .ok (.aload_n 0, 1) := by decide +kernel
theorem dX6_leftWithin_32 : decode cX6_leftWithin 32 = .ok (.getfield 15, 3) := by decide +kernel
theorem dX6_leftWithin_35 : decode cX6_leftWithin 35 = .ok (.lmul, 1) := by decide +kernel
theorem dX6_leftWithin_36 : decode cX6_leftWithin 36 = .ok (.lsub, 1) := by decide +kernel
theorem dX6_leftWithin_37 : decode cX6_leftWithin 37 = .ok (.aload_n 0, 1) := by decide +kernel
theorem dX6_leftWithin_38 : decode cX6_leftWithin 38 = .ok (.getfield 30, 3) := by decide +kernel
theorem dX6_leftWithin_41 : decode cX6_leftWithin 41 = .ok (.lload_n 1, 1) := by decide +kernel
theorem dX6_leftWithin_42 : decode cX6_leftWithin 42 = .ok (.aload_n 0, 1) := by decide +kernel
theorem dX6_leftWithin_43 : decode cX6_leftWithin 43 = .ok (.getfield 27, 3) := by decide +kernel
theorem dX6_leftWithin_46 : decode cX6_leftWithin 46 = .ok (.lmul, 1) := by decide +kernel
theorem dX6_leftWithin_47 : decode cX6_leftWithin 47 = .ok (.lsub, 1) := by decide +kernel
theorem dX6_leftWithin_48 : decode cX6_leftWithin 48 = .ok (.lload_n 3, 1) := by decide +kernel
theorem dX6_leftWithin_49 : decode cX6_leftWithin 49 = .ok (.invokevirtual 86, 3) := by decide +kernel
theorem dX6_leftWithin_52 : decode cX6_leftWithin 52 = .ok (.lreturn, 1) := by decide +kernel
set_option maxRecDepth 20000 in
theorem ggX6_keeps_X6_leftGap : GoodIn wsX6_keeps wsX6_leftGap := goodIn_r _ [8, 9, 10, 11, 12, 13, 14, 15, 7, 16, 2, 1, 17, 18, 19, 20, 21, 22, 23, 24, 25, 26, 27] (by decide +kernel) (by decide +kernel)
set_option maxRecDepth 20000 in
theorem gX6_keeps_X6_leftGap : GoodIn wsX6_keeps (wsV RX6 96 RX6 yX6_leftGap wsX6_leftGap) := goodIn_app (goodIn_of _ (by decide +kernel)) ggX6_keeps_X6_leftGap
theorem dX6_keeps_0 : decode cX6_keeps 0 = .ok (.aload_n 0, 1) := by decide +kernel
theorem dX6_keeps_1 : decode cX6_keeps 1 = .ok (.lload_n 1, 1) := by decide +kernel
theorem dX6_keeps_2 : decode cX6_keeps 2 = .ok (.invokevirtual 96, 3) := by decide +kernel
theorem dX6_keeps_5 : decode cX6_keeps 5 = .ok (.lstore 6, 2) := by decide +kernel
theorem dX6_keeps_7 : decode cX6_keeps 7 = .ok (.aload_n 0, 1) := by decide +kernel
theorem dX6_keeps_8 : decode cX6_keeps 8 = .ok (.getfield 9, 3) := by decide +kernel
theorem dX6_keeps_11 : decode cX6_keeps 11 = .ok (.aload_n 0, 1) := by decide +kernel
theorem dX6_keeps_12 : decode cX6_keeps 12 = .ok (.getfield 24, 3) := by decide +kernel
theorem dX6_keeps_15 : decode cX6_keeps 15 = .ok (.ladd, 1) := by decide +kernel
theorem dX6_keeps_16 : decode cX6_keeps 16 = .ok (.ldc2_w 94, 3) := by decide +kernel
theorem dX6_keeps_19 : decode cX6_keeps 19 = .ok (.lsub, 1) := by decide +kernel
theorem dX6_keeps_20 : decode cX6_keeps 20 = .ok (.lstore 8, 2) := by decide +kernel
theorem dX6_keeps_22 : decode cX6_keeps 22 = .ok (.lload 8, 2) := by decide +kernel
theorem dX6_keeps_24 : decode cX6_keeps 24 = .ok (.lconst 0, 1) := by decide +kernel
theorem dX6_keeps_25 : decode cX6_keeps 25 = .ok (.lcmp, 1) := by decide +kernel
theorem dX6_keeps_26 : decode cX6_keeps 26 = .ok (.ifCond .le 34, 3) := by decide +kernel
theorem dX6_keeps_29 : decode cX6_keeps 29 = .ok (.lload 6, 2) := by decide +kernel
theorem dX6_keeps_31 : decode cX6_keeps 31 = .ok (.lload 6, 2) := by decide +kernel
theorem dX6_keeps_33 : decode cX6_keeps 33 = .ok (.lmul, 1) := by decide +kernel
theorem dX6_keeps_34 : decode cX6_keeps 34 = .ok (.iload 5, 2) := by decide +kernel
theorem dX6_keeps_36 : decode cX6_keeps 36 = .ok (.i2l, 1) := by decide +kernel
theorem dX6_keeps_37 : decode cX6_keeps 37 = .ok (.aload_n 0, 1) := by decide +kernel
theorem dX6_keeps_38 : decode cX6_keeps 38 = .ok (.getfield 9, 3) := by decide +kernel
theorem dX6_keeps_41 : decode cX6_keeps 41 = .ok (.aload_n 0, 1) := by decide +kernel
theorem dX6_keeps_42 : decode cX6_keeps 42 = .ok (.getfield 24, 3) := by decide +kernel
theorem dX6_keeps_45 : decode cX6_keeps 45 = .ok (.ladd, 1) := by decide +kernel
theorem dX6_keeps_46 : decode cX6_keeps 46 = .ok (.lmul, 1) := by decide +kernel
theorem dX6_keeps_47 : decode cX6_keeps 47 = .ok (.lload_n 3, 1) := by decide +kernel
theorem dX6_keeps_48 : decode cX6_keeps 48 = .ok (.lmul, 1) := by decide +kernel
theorem dX6_keeps_49 : decode cX6_keeps 49 = .ok (.lload 8, 2) := by decide +kernel
theorem dX6_keeps_51 : decode cX6_keeps 51 = .ok (.ldiv, 1) := by decide +kernel
theorem dX6_keeps_52 : decode cX6_keeps 52 = .ok (.lcmp, 1) := by decide +kernel
theorem dX6_keeps_53 : decode cX6_keeps 53 = .ok (.ifCond .gt 7, 3) := by decide +kernel
theorem dX6_keeps_56 : decode cX6_keeps 56 = .ok (.iconst 1, 1) := by decide +kernel
theorem dX6_keeps_57 : decode cX6_keeps 57 = .ok (.goto 4, 3) := by decide +kernel
theorem dX6_keeps_60 : decode cX6_keeps 60 = .ok (.iconst 0, 1) := by decide +kernel
theorem dX6_keeps_61 : decode cX6_keeps 61 = .ok (.ireturn, 1) := by decide +kernel
set_option maxRecDepth 20000 in
theorem ggX6_inTrueSpan_X6_leftWithin : GoodIn wsX6_inTrueSpan wsX6_leftWithin := goodIn_r _ [5, 6, 7, 8, 9, 10, 11, 12, 13, 14, 15, 16, 4, 17, 18, 19, 32, 33, 34, 35, 36, 37, 38, 39, 40, 41, 42] (by decide +kernel) (by decide +kernel)
set_option maxRecDepth 20000 in
theorem gX6_inTrueSpan_X6_leftWithin : GoodIn wsX6_inTrueSpan (wsV RX6 99 RX6 yX6_leftWithin wsX6_leftWithin) := goodIn_app (goodIn_of _ (by decide +kernel)) ggX6_inTrueSpan_X6_leftWithin
set_option maxRecDepth 20000 in
theorem ggX6_inTrueSpan_X6_keeps : GoodIn wsX6_inTrueSpan wsX6_keeps := goodIn_r _ [23, 18, 19, 7, 24, 25, 26, 4, 27, 10, 11, 12, 13, 28, 29, 30, 31, 32, 33, 34, 35, 36, 37, 38, 39, 40, 41, 42] (by decide +kernel) (by decide +kernel)
set_option maxRecDepth 20000 in
theorem gX6_inTrueSpan_X6_keeps : GoodIn wsX6_inTrueSpan (wsV RX6 102 RX6 yX6_keeps wsX6_keeps) := goodIn_app (goodIn_of _ (by decide +kernel)) ggX6_inTrueSpan_X6_keeps
theorem dX6_inTrueSpan_0 : decode cX6_inTrueSpan 0 = .ok (.aload_n 0, 1) := by decide +kernel
theorem dX6_inTrueSpan_1 : decode cX6_inTrueSpan 1 = .ok (.lload_n 1, 1) := by decide +kernel
theorem dX6_inTrueSpan_2 : decode cX6_inTrueSpan 2 = .ok (.aload_n 0, 1) := by decide +kernel
theorem dX6_inTrueSpan_3 : decode cX6_inTrueSpan 3 = .ok (.lload_n 1, 1) := by decide +kernel
theorem dX6_inTrueSpan_4 : decode cX6_inTrueSpan 4 = .ok (.invokevirtual 99, 3) := by decide +kernel
theorem dX6_inTrueSpan_7 : decode cX6_inTrueSpan 7 = .ok (.iload_n 3, 1) := by decide +kernel
theorem dX6_inTrueSpan_8 : decode cX6_inTrueSpan 8 = .ok (.invokevirtual 102, 3) := by decide +kernel
theorem dX6_inTrueSpan_11 : decode cX6_inTrueSpan 11 = .ok (.ireturn, 1) := by decide +kernel
set_option maxRecDepth 20000 in
theorem ggX6_inUsualSpan_X6_byMoved : GoodIn wsX6_inUsualSpan wsX6_byMoved := goodIn_r _ [6, 7, 8, 9, 5, 10, 11, 12, 13, 1, 14, 15, 16, 17, 18, 19, 20, 21, 22, 23, 24, 25, 46, 47, 48, 49, 50, 51, 52, 53, 54, 55, 56] (by decide +kernel) (by decide +kernel)
set_option maxRecDepth 20000 in
theorem gX6_inUsualSpan_X6_byMoved : GoodIn wsX6_inUsualSpan (wsV RX6 60 RX6 yX6_byMoved wsX6_byMoved) := goodIn_app (goodIn_of _ (by decide +kernel)) ggX6_inUsualSpan_X6_byMoved
set_option maxRecDepth 20000 in
theorem ggX6_inUsualSpan_X6_leftWithin : GoodIn wsX6_inUsualSpan wsX6_leftWithin := goodIn_r _ [29, 30, 31, 32, 33, 14, 11, 15, 12, 34, 35, 36, 5, 37, 16, 17, 46, 47, 48, 49, 50, 51, 52, 53, 54, 55, 56] (by decide +kernel) (by decide +kernel)
set_option maxRecDepth 20000 in
theorem gX6_inUsualSpan_X6_leftWithin : GoodIn wsX6_inUsualSpan (wsV RX6 99 RX6 yX6_leftWithin wsX6_leftWithin) := goodIn_app (goodIn_of _ (by decide +kernel)) ggX6_inUsualSpan_X6_leftWithin
set_option maxRecDepth 20000 in
theorem ggX6_inUsualSpan_X6_keeps : GoodIn wsX6_inUsualSpan wsX6_keeps := goodIn_r _ [41, 16, 17, 31, 42, 43, 44, 5, 45, 14, 11, 15, 12, 18, 19, 20, 21, 46, 47, 48, 49, 50, 51, 52, 53, 54, 55, 56] (by decide +kernel) (by decide +kernel)
set_option maxRecDepth 20000 in
theorem gX6_inUsualSpan_X6_keeps : GoodIn wsX6_inUsualSpan (wsV RX6 102 RX6 yX6_keeps wsX6_keeps) := goodIn_app (goodIn_of _ (by decide +kernel)) ggX6_inUsualSpan_X6_keeps
theorem dX6_inUsualSpan_0 : decode cX6_inUsualSpan 0 = .ok (.aload_n 0, 1) := by decide +kernel
theorem dX6_inUsualSpan_1 : decode cX6_inUsualSpan 1 = .ok (.lload_n 1, 1) := by decide +kernel
theorem dX6_inUsualSpan_2 : decode cX6_inUsualSpan 2 = .ok (.aload_n 0, 1) := by decide +kernel
theorem dX6_inUsualSpan_3 : decode cX6_inUsualSpan 3 = .ok (.aload_n 0, 1) := by decide +kernel
theorem dX6_inUsualSpan_4 : decode cX6_inUsualSpan 4 = .ok (.invokevirtual 60, 3) := by decide +kernel
theorem dX6_inUsualSpan_7 : decode cX6_inUsualSpan 7 = .ok (.ldc2_w 69, 3) := by decide +kernel
theorem dX6_inUsualSpan_10 : decode cX6_inUsualSpan 10 = .ok (.ldiv, 1) := by decide +kernel
theorem dX6_inUsualSpan_11 : decode cX6_inUsualSpan 11 = .ok (.invokevirtual 99, 3) := by decide +kernel
theorem dX6_inUsualSpan_14 : decode cX6_inUsualSpan 14 = .ok (.iload_n 3, 1) := by decide +kernel
theorem dX6_inUsualSpan_15 : decode cX6_inUsualSpan 15 = .ok (.invokevirtual 102, 3) := by decide +kernel
theorem dX6_inUsualSpan_18 : decode cX6_inUsualSpan 18 = .ok (.ireturn, 1) := by decide +kernel
set_option maxRecDepth 20000 in
theorem ggX6_trueSpan_X6_spanBy : GoodIn wsX6_trueSpan wsX6_spanBy := goodIn_r _ [5, 6, 7, 8, 9, 4, 10, 11, 12, 13, 14, 15, 16, 17, 18, 19, 20, 21, 22, 23, 24, 25, 26, 27, 28, 29, 30, 31, 32, 33, 34, 35, 36, 37, 38, 39, 40, 41, 42, 43, 44, 45, 46, 47, 48, 49, 50, 51, 52, 53, 54, 55, 56, 57, 58, 59, 60, 61, 62, 63, 64, 65, 66, 67, 68, 69] (by decide +kernel) (by decide +kernel)
set_option maxRecDepth 20000 in
theorem gX6_trueSpan_X6_spanBy : GoodIn wsX6_trueSpan (wsV RX6 106 RX6 yX6_spanBy wsX6_spanBy) := goodIn_app (goodIn_of _ (by decide +kernel)) ggX6_trueSpan_X6_spanBy
theorem dX6_trueSpan_0 : decode cX6_trueSpan 0 = .ok (.aload_n 0, 1) := by decide +kernel
theorem dX6_trueSpan_1 : decode cX6_trueSpan 1 = .ok (.iload_n 1, 1) := by decide +kernel
theorem dX6_trueSpan_2 : decode cX6_trueSpan 2 = .ok (.iload_n 2, 1) := by decide +kernel
theorem dX6_trueSpan_3 : decode cX6_trueSpan 3 = .ok (.iconst 0, 1) := by decide +kernel
theorem dX6_trueSpan_4 : decode cX6_trueSpan 4 = .ok (.invokevirtual 106, 3) := by decide +kernel
theorem dX6_trueSpan_7 : decode cX6_trueSpan 7 = .ok (.ireturn, 1) := by decide +kernel
set_option maxRecDepth 20000 in
theorem ggX6_usualSpan_X6_spanBy : GoodIn wsX6_usualSpan wsX6_spanBy := goodIn_r _ [5, 6, 7, 8, 9, 4, 10, 11, 12, 13, 14, 15, 16, 17, 18, 19, 20, 21, 22, 23, 24, 25, 26, 27, 28, 29, 30, 31, 32, 33, 34, 35, 36, 37, 38, 39, 40, 41, 42, 43, 44, 45, 46, 47, 48, 49, 50, 51, 52, 53, 54, 55, 56, 57, 58, 59, 60, 61, 62, 63, 64, 65, 66, 67, 68, 69] (by decide +kernel) (by decide +kernel)
set_option maxRecDepth 20000 in
theorem gX6_usualSpan_X6_spanBy : GoodIn wsX6_usualSpan (wsV RX6 106 RX6 yX6_spanBy wsX6_spanBy) := goodIn_app (goodIn_of _ (by decide +kernel)) ggX6_usualSpan_X6_spanBy
theorem dX6_usualSpan_0 : decode cX6_usualSpan 0 = .ok (.aload_n 0, 1) := by decide +kernel
theorem dX6_usualSpan_1 : decode cX6_usualSpan 1 = .ok (.iload_n 1, 1) := by decide +kernel
theorem dX6_usualSpan_2 : decode cX6_usualSpan 2 = .ok (.iload_n 2, 1) := by decide +kernel
theorem dX6_usualSpan_3 : decode cX6_usualSpan 3 = .ok (.iconst 1, 1) := by decide +kernel
theorem dX6_usualSpan_4 : decode cX6_usualSpan 4 = .ok (.invokevirtual 106, 3) := by decide +kernel
theorem dX6_usualSpan_7 : decode cX6_usualSpan 7 = .ok (.ireturn, 1) := by decide +kernel
set_option maxRecDepth 20000 in
theorem ggX6_spanBy_X6_inUsualSpan : GoodIn wsX6_spanBy wsX6_inUsualSpan := goodIn_r _ [6, 7, 8, 9, 10, 5, 11, 12, 13, 14, 15, 16, 17, 18, 19, 20, 21, 22, 23, 24, 25, 26, 27, 28, 29, 30, 31, 32, 33, 34, 35, 36, 37, 38, 39, 40, 41, 42, 43, 44, 45, 46, 47, 48, 49, 50, 55, 56, 57, 58, 59, 60, 61, 62, 63, 64, 65] (by decide +kernel) (by decide +kernel)
set_option maxRecDepth 20000 in
theorem gX6_spanBy_X6_inUsualSpan : GoodIn wsX6_spanBy (wsV RX6 111 RX6 yX6_inUsualSpan wsX6_inUsualSpan) := goodIn_app (goodIn_of _ (by decide +kernel)) ggX6_spanBy_X6_inUsualSpan
set_option maxRecDepth 20000 in
theorem ggX6_spanBy_X6_inTrueSpan : GoodIn wsX6_spanBy wsX6_inTrueSpan := goodIn_r _ [54, 31, 32, 33, 5, 34, 35, 36, 37, 38, 19, 16, 20, 17, 39, 40, 41, 42, 21, 22, 43, 44, 45, 46, 47, 48, 49, 50, 23, 24, 25, 26, 55, 56, 57, 58, 59, 60, 61, 62, 63, 64, 65] (by decide +kernel) (by decide +kernel)
set_option maxRecDepth 20000 in
theorem gX6_spanBy_X6_inTrueSpan : GoodIn wsX6_spanBy (wsV RX6 115 RX6 yX6_inTrueSpan wsX6_inTrueSpan) := goodIn_app (goodIn_of _ (by decide +kernel)) ggX6_spanBy_X6_inTrueSpan
theorem dX6_spanBy_0 : decode cX6_spanBy 0 = .ok (.iconst 0, 1) := by decide +kernel
theorem dX6_spanBy_1 : decode cX6_spanBy 1 = .ok (.istore 4, 2) := by decide +kernel
theorem dX6_spanBy_3 : decode cX6_spanBy 3 = .ok (.ldc 110, 2) := by decide +kernel
theorem dX6_spanBy_5 : decode cX6_spanBy 5 = .ok (.istore 5, 2) := by decide +kernel
theorem dX6_spanBy_7 : decode cX6_spanBy 7 = .ok (.ldc 110, 2) := by decide +kernel
theorem dX6_spanBy_9 : decode cX6_spanBy 9 = .ok (.istore 6, 2) := by decide +kernel
theorem dX6_spanBy_11 : decode cX6_spanBy 11 = .ok (.bipush (-99), 2) := by decide +kernel
theorem dX6_spanBy_13 : decode cX6_spanBy 13 = .ok (.istore 7, 2) := by decide +kernel
theorem dX6_spanBy_15 : decode cX6_spanBy 15 = .ok (.iload 7, 2) := by decide +kernel
theorem dX6_spanBy_17 : decode cX6_spanBy 17 = .ok (.bipush 99, 2) := by decide +kernel
theorem dX6_spanBy_19 : decode cX6_spanBy 19 = .ok (.if_icmp .gt 59, 3) := by decide +kernel
theorem dX6_spanBy_22 : decode cX6_spanBy 22 = .ok (.iload_n 3, 1) := by decide +kernel
theorem dX6_spanBy_23 : decode cX6_spanBy 23 = .ok (.ifCond .eq 17, 3) := by decide +kernel
theorem dX6_spanBy_26 : decode cX6_spanBy 26 = .ok (.aload_n 0, 1) := by decide +kernel
theorem dX6_spanBy_27 : decode cX6_spanBy 27 = .ok (.iload 7, 2) := by decide +kernel
theorem dX6_spanBy_29 : decode cX6_spanBy 29 = .ok (.i2l, 1) := by decide +kernel
theorem dX6_spanBy_30 : decode cX6_spanBy 30 = .ok (.iload_n 1, 1) := by decide +kernel
theorem dX6_spanBy_31 : decode cX6_spanBy 31 = .ok (.invokevirtual 111, 3) := by decide +kernel
theorem dX6_spanBy_34 : decode cX6_spanBy 34 = .ok (.ifCond .eq 38, 3) := by decide +kernel
theorem dX6_spanBy_37 : decode cX6_spanBy 37 = .ok (.goto 14, 3) := by decide +kernel
theorem dX6_spanBy_40 : decode cX6_spanBy 40 = .ok (.aload_n 0, 1) := by decide +kernel
theorem dX6_spanBy_41 : decode cX6_spanBy 41 = .ok (.iload 7, 2) := by decide +kernel
theorem dX6_spanBy_43 : decode cX6_spanBy 43 = .ok (.i2l, 1) := by decide +kernel
theorem dX6_spanBy_44 : decode cX6_spanBy 44 = .ok (.iload_n 1, 1) := by decide +kernel
theorem dX6_spanBy_45 : decode cX6_spanBy 45 = .ok (.invokevirtual 115, 3) := by decide +kernel
theorem dX6_spanBy_48 : decode cX6_spanBy 48 = .ok (.ifCond .eq 24, 3) := by decide +kernel
theorem dX6_spanBy_51 : decode cX6_spanBy 51 = .ok (.iload 4, 2) := by decide +kernel
theorem dX6_spanBy_53 : decode cX6_spanBy 53 = .ok (.ifCond .ne 8, 3) := by decide +kernel
theorem dX6_spanBy_56 : decode cX6_spanBy 56 = .ok (.iload 7, 2) := by decide +kernel
theorem dX6_spanBy_58 : decode cX6_spanBy 58 = .ok (.goto 5, 3) := by decide +kernel
theorem dX6_spanBy_61 : decode cX6_spanBy 61 = .ok (.iload 5, 2) := by decide +kernel
theorem dX6_spanBy_63 : decode cX6_spanBy 63 = .ok (.istore 5, 2) := by decide +kernel
theorem dX6_spanBy_65 : decode cX6_spanBy 65 = .ok (.iload 7, 2) := by decide +kernel
theorem dX6_spanBy_67 : decode cX6_spanBy 67 = .ok (.istore 6, 2) := by decide +kernel
theorem dX6_spanBy_69 : decode cX6_spanBy 69 = .ok (.iinc 4 1, 3) := by decide +kernel
theorem dX6_spanBy_72 : decode cX6_spanBy 72 = .ok (.iinc 7 1, 3) := by decide +kernel
theorem dX6_spanBy_75 : decode cX6_spanBy 75 = .ok (.goto (-60), 3) := by decide +kernel
theorem dX6_spanBy_78 : decode cX6_spanBy 78 = .ok (.iload_n 2, 1) := by decide +kernel
theorem dX6_spanBy_79 : decode cX6_spanBy 79 = .ok (.tableswitch 34 0 2 #[25, 28, 31], 25) := by decide +kernel
theorem dX6_spanBy_104 : decode cX6_spanBy 104 = .ok (.iload 4, 2) := by decide +kernel
theorem dX6_spanBy_106 : decode cX6_spanBy 106 = .ok (.ireturn, 1) := by decide +kernel
theorem dX6_spanBy_107 : decode cX6_spanBy 107 = .ok (.iload 5, 2) := by decide +kernel
theorem dX6_spanBy_109 : decode cX6_spanBy 109 = .ok (.ireturn, 1) := by decide +kernel
theorem dX6_spanBy_110 : decode cX6_spanBy 110 = .ok (.iload 6, 2) := by decide +kernel
theorem dX6_spanBy_112 : decode cX6_spanBy 112 = .ok (.ireturn, 1) := by decide +kernel
theorem dX6_spanBy_113 : decode cX6_spanBy 113 = .ok (.iload 4, 2) := by decide +kernel
theorem dX6_spanBy_115 : decode cX6_spanBy 115 = .ok (.ifCond .le 19, 3) := by decide +kernel
theorem dX6_spanBy_118 : decode cX6_spanBy 118 = .ok (.iload 6, 2) := by decide +kernel
theorem dX6_spanBy_120 : decode cX6_spanBy 120 = .ok (.iload 5, 2) := by decide +kernel
theorem dX6_spanBy_122 : decode cX6_spanBy 122 = .ok (.isub, 1) := by decide +kernel
theorem dX6_spanBy_123 : decode cX6_spanBy 123 = .ok (.iconst 1, 1) := by decide +kernel
theorem dX6_spanBy_124 : decode cX6_spanBy 124 = .ok (.iadd, 1) := by decide +kernel
theorem dX6_spanBy_125 : decode cX6_spanBy 125 = .ok (.iload 4, 2) := by decide +kernel
theorem dX6_spanBy_127 : decode cX6_spanBy 127 = .ok (.if_icmp .ne 7, 3) := by decide +kernel
theorem dX6_spanBy_130 : decode cX6_spanBy 130 = .ok (.iconst 1, 1) := by decide +kernel
theorem dX6_spanBy_131 : decode cX6_spanBy 131 = .ok (.goto 4, 3) := by decide +kernel
theorem dX6_spanBy_134 : decode cX6_spanBy 134 = .ok (.iconst 0, 1) := by decide +kernel
theorem dX6_spanBy_135 : decode cX6_spanBy 135 = .ok (.ireturn, 1) := by decide +kernel
theorem dX7_addFour_0 : decode cX7_addFour 0 = .ok (.bipush 24, 2) := by decide +kernel
theorem dX7_addFour_2 : decode cX7_addFour 2 = .ok (.istore_n 2, 1) := by decide +kernel
theorem dX7_addFour_3 : decode cX7_addFour 3 = .ok (.iload_n 2, 1) := by decide +kernel
theorem dX7_addFour_4 : decode cX7_addFour 4 = .ok (.ifCond .lt 42, 3) := by decide +kernel
theorem dX7_addFour_7 : decode cX7_addFour 7 = .ok (.aload_n 0, 1) := by decide +kernel
theorem dX7_addFour_8 : decode cX7_addFour 8 = .ok (.getfield 19, 3) := by decide +kernel
theorem dX7_addFour_11 : decode cX7_addFour 11 = .ok (.sipush 600, 3) := by decide +kernel
theorem dX7_addFour_14 : decode cX7_addFour 14 = .ok (.if_icmp .ge 32, 3) := by decide +kernel
theorem dX7_addFour_17 : decode cX7_addFour 17 = .ok (.aload_n 0, 1) := by decide +kernel
theorem dX7_addFour_18 : decode cX7_addFour 18 = .ok (.getfield 9, 3) := by decide +kernel
theorem dX7_addFour_21 : decode cX7_addFour 21 = .ok (.aload_n 0, 1) := by decide +kernel
theorem dX7_addFour_22 : decode cX7_addFour 22 = .ok (.getfield 19, 3) := by decide +kernel
theorem dX7_addFour_25 : decode cX7_addFour 25 = .ok (.iload_n 1, 1) := by decide +kernel
theorem dX7_addFour_26 : decode cX7_addFour 26 = .ok (.iload_n 2, 1) := by decide +kernel
theorem dX7_addFour_27 : decode cX7_addFour 27 = .ok (.ishr, 1) := by decide +kernel
theorem dX7_addFour_28 : decode cX7_addFour 28 = .ok (.i2b, 1) := by decide +kernel
theorem dX7_addFour_29 : decode cX7_addFour 29 = .ok (.bastore, 1) := by decide +kernel
theorem dX7_addFour_30 : decode cX7_addFour 30 = .ok (.aload_n 0, 1) := by decide +kernel
theorem dX7_addFour_31 : decode cX7_addFour 31 = .ok (.dup, 1) := by decide +kernel
theorem dX7_addFour_32 : decode cX7_addFour 32 = .ok (.getfield 19, 3) := by decide +kernel
theorem dX7_addFour_35 : decode cX7_addFour 35 = .ok (.iconst 1, 1) := by decide +kernel
theorem dX7_addFour_36 : decode cX7_addFour 36 = .ok (.iadd, 1) := by decide +kernel
theorem dX7_addFour_37 : decode cX7_addFour 37 = .ok (.putfield 19, 3) := by decide +kernel
theorem dX7_addFour_40 : decode cX7_addFour 40 = .ok (.iinc 2 (-8), 3) := by decide +kernel
theorem dX7_addFour_43 : decode cX7_addFour 43 = .ok (.goto (-40), 3) := by decide +kernel
theorem dX7_addFour_46 : decode cX7_addFour 46 = .ok (.return_, 1) := by decide +kernel
set_option maxRecDepth 20000 in
theorem ggX7_passSemicolon_X7_refuse : GoodIn wsX7_passSemicolon wsX7_refuse := goodIn_r _ [7, 2, 8, 9, 29, 30, 31, 32, 33, 34, 35, 36] (by decide +kernel) (by decide +kernel)
set_option maxRecDepth 20000 in
theorem gX7_passSemicolon_X7_refuse : GoodIn wsX7_passSemicolon (wsV RX7 75 RX7 yX7_refuse wsX7_refuse) := goodIn_app (goodIn_of _ (by decide +kernel)) ggX7_passSemicolon_X7_refuse
set_option maxRecDepth 20000 in
theorem ggX7_passSemicolon_X7_step : GoodIn wsX7_passSemicolon wsX7_step := goodIn_r _ [13, 14, 15, 16, 8, 17, 1, 18, 19, 20, 21, 22, 23, 24, 6, 25, 26, 27, 28, 29, 30, 31, 32, 33, 34, 35, 36] (by decide +kernel) (by decide +kernel)
set_option maxRecDepth 20000 in
theorem gX7_passSemicolon_X7_step : GoodIn wsX7_passSemicolon (wsV RX7 33 RX7 yX7_step wsX7_step) := goodIn_app (goodIn_of _ (by decide +kernel)) ggX7_passSemicolon_X7_step
theorem dX7_passSemicolon_0 : decode cX7_passSemicolon 0 = .ok (.aload_n 0, 1) := by decide +kernel
theorem dX7_passSemicolon_1 : decode cX7_passSemicolon 1 = .ok (.getfield 36, 3) := by decide +kernel
theorem dX7_passSemicolon_4 : decode cX7_passSemicolon 4 = .ok (.iconst 3, 1) := by decide +kernel
theorem dX7_passSemicolon_5 : decode cX7_passSemicolon 5 = .ok (.if_icmp .eq 8, 3) := by decide +kernel
theorem dX7_passSemicolon_8 : decode cX7_passSemicolon 8 = .ok (.aload_n 0, 1) := by decide +kernel
theorem dX7_passSemicolon_9 : decode cX7_passSemicolon 9 = .ok (.iconst 1, 1) := by decide +kernel
theorem dX7_passSemicolon_10 : decode cX7_passSemicolon 10 = .ok (.invokevirtual 75, 3) := by decide +kernel
theorem dX7_passSemicolon_13 : decode cX7_passSemicolon 13 = .ok (.aload_n 0, 1) := by decide +kernel
theorem dX7_passSemicolon_14 : decode cX7_passSemicolon 14 = .ok (.getfield 22, 3) := by decide +kernel
theorem dX7_passSemicolon_17 : decode cX7_passSemicolon 17 = .ok (.ifCond .ne 7, 3) := by decide +kernel
theorem dX7_passSemicolon_20 : decode cX7_passSemicolon 20 = .ok (.aload_n 0, 1) := by decide +kernel
theorem dX7_passSemicolon_21 : decode cX7_passSemicolon 21 = .ok (.invokevirtual 33, 3) := by decide +kernel
theorem dX7_passSemicolon_24 : decode cX7_passSemicolon 24 = .ok (.return_, 1) := by decide +kernel
set_option maxRecDepth 20000 in
theorem ggX7_passNumber_X7_refuse : GoodIn wsX7_passNumber wsX7_refuse := goodIn_r _ [8, 3, 9, 10, 29, 30, 31, 32, 33, 34, 35, 36] (by decide +kernel) (by decide +kernel)
set_option maxRecDepth 20000 in
theorem gX7_passNumber_X7_refuse : GoodIn wsX7_passNumber (wsV RX7 75 RX7 yX7_refuse wsX7_refuse) := goodIn_app (goodIn_of _ (by decide +kernel)) ggX7_passNumber_X7_refuse
set_option maxRecDepth 20000 in
theorem ggX7_passNumber_X7_step : GoodIn wsX7_passNumber wsX7_step := goodIn_r _ [14, 15, 16, 17, 9, 2, 1, 18, 19, 20, 21, 22, 23, 24, 7, 25, 26, 27, 28, 29, 30, 31, 32, 33, 34, 35, 36] (by decide +kernel) (by decide +kernel)
set_option maxRecDepth 20000 in
theorem gX7_passNumber_X7_step : GoodIn wsX7_passNumber (wsV RX7 33 RX7 yX7_step wsX7_step) := goodIn_app (goodIn_of _ (by decide +kernel)) ggX7_passNumber_X7_step
theorem dX7_passNumber_0 : decode cX7_passNumber 0 = .ok (.aload_n 0, 1) := by decide +kernel
theorem dX7_passNumber_1 : decode cX7_passNumber 1 = .ok (.getfield 36, 3) := by decide +kernel
theorem dX7_passNumber_4 : decode cX7_passNumber 4 = .ok (.iconst 2, 1) := by decide +kernel
theorem dX7_passNumber_5 : decode cX7_passNumber 5 = .ok (.if_icmp .eq 11, 3) := by decide +kernel
theorem dX7_passNumber_8 : decode cX7_passNumber 8 = .ok (.aload_n 0, 1) := by decide +kernel
theorem dX7_passNumber_9 : decode cX7_passNumber 9 = .ok (.iconst 1, 1) := by decide +kernel
theorem dX7_passNumber_10 : decode cX7_passNumber 10 = .ok (.invokevirtual 75, 3) := by decide +kernel
theorem dX7_passNumber_13 : decode cX7_passNumber 13 = .ok (.goto 24, 3) := by decide +kernel
theorem dX7_passNumber_16 : decode cX7_passNumber 16 = .ok (.aload_n 0, 1) := by decide +kernel
theorem dX7_passNumber_17 : decode cX7_passNumber 17 = .ok (.getfield 116, 3) := by decide +kernel
theorem dX7_passNumber_20 : decode cX7_passNumber 20 = .ok (.iload_n 1, 1) := by decide +kernel
theorem dX7_passNumber_21 : decode cX7_passNumber 21 = .ok (.if_icmp .lt 11, 3) := by decide +kernel
theorem dX7_passNumber_24 : decode cX7_passNumber 24 = .ok (.aload_n 0, 1) := by decide +kernel
theorem dX7_passNumber_25 : decode cX7_passNumber 25 = .ok (.getfield 116, 3) := by decide +kernel
theorem dX7_passNumber_28 : decode cX7_passNumber 28 = .ok (.iload_n 2, 1) := by decide +kernel
theorem dX7_passNumber_29 : decode cX7_passNumber 29 = .ok (.if_icmp .le 8, 3) := by decide +kernel
theorem dX7_passNumber_32 : decode cX7_passNumber 32 = .ok (.aload_n 0, 1) := by decide +kernel
theorem dX7_passNumber_33 : decode cX7_passNumber 33 = .ok (.iconst 2, 1) := by decide +kernel
theorem dX7_passNumber_34 : decode cX7_passNumber 34 = .ok (.invokevirtual 75, 3) := by decide +kernel
theorem dX7_passNumber_37 : decode cX7_passNumber 37 = .ok (.aload_n 0, 1) := by decide +kernel
