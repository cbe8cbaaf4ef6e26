theorem dX0_init_0 : decode cX0_init 0 = .ok (.aload_n 0, 1) := by decide +kernel
theorem dX0_init_1 : decode cX0_init 1 = .ok (.invokespecial 1, 3) := by decide +kernel
theorem dX0_init_4 : decode cX0_init 4 = .ok (.return_, 1) := by decide +kernel
theorem dX0_from_0 : decode cX0_from 0 = .ok (.aload_n 0, 1) := by decide +kernel
theorem dX0_from_1 : decode cX0_from 1 = .ok (.iload_n 1, 1) := by decide +kernel
theorem dX0_from_2 : decode cX0_from 2 = .ok (.i2l, 1) := by decide +kernel
theorem dX0_from_3 : decode cX0_from 3 = .ok (.putfield 7, 3) := by decide +kernel
theorem dX0_from_6 : decode cX0_from 6 = .ok (.return_, 1) := by decide +kernel
theorem dX1_init_0 : decode cX1_init 0 = .ok (.aload_n 0, 1) := by decide +kernel
theorem dX1_init_1 : decode cX1_init 1 = .ok (.invokespecial 3, 3) := by decide +kernel
theorem dX1_init_4 : decode cX1_init 4 = .ok (.aload_n 0, 1) := by decide +kernel
theorem dX1_init_5 : decode cX1_init 5 = .ok (.bipush 72, 2) := by decide +kernel
theorem dX1_init_7 : decode cX1_init 7 = .ok (.newarray .long, 2) := by decide +kernel
theorem dX1_init_9 : decode cX1_init 9 = .ok (.putfield 11, 3) := by decide +kernel
theorem dX1_init_12 : decode cX1_init 12 = .ok (.aload_n 0, 1) := by decide +kernel
theorem dX1_init_13 : decode cX1_init 13 = .ok (.bipush 72, 2) := by decide +kernel
theorem dX1_init_15 : decode cX1_init 15 = .ok (.newarray .long, 2) := by decide +kernel
theorem dX1_init_17 : decode cX1_init 17 = .ok (.putfield 15, 3) := by decide +kernel
theorem dX1_init_20 : decode cX1_init 20 = .ok (.aload_n 0, 1) := by decide +kernel
theorem dX1_init_21 : decode cX1_init 21 = .ok (.bipush 72, 2) := by decide +kernel
theorem dX1_init_23 : decode cX1_init 23 = .ok (.newarray .long, 2) := by decide +kernel
theorem dX1_init_25 : decode cX1_init 25 = .ok (.putfield 18, 3) := by decide +kernel
theorem dX1_init_28 : decode cX1_init 28 = .ok (.return_, 1) := by decide +kernel
set_option maxRecDepth 20000 in
theorem ggX1_takeAll_J7_fill_d0a16 : GoodIn wsX1_takeAll wsJ7_fill_d0a16 := goodIn_r _ [12] (by decide +kernel) (by decide +kernel)
set_option maxRecDepth 20000 in
theorem gX1_takeAll_J7_fill_d0a16 : GoodIn wsX1_takeAll (va_wsS RX1 21 yJ7_fill_d0a16 wsJ7_fill_d0a16) := goodIn_app (goodIn_of _ (by decide +kernel)) ggX1_takeAll_J7_fill_d0a16
theorem dX1_takeAll_0 : decode cX1_takeAll 0 = .ok (.aload_n 0, 1) := by decide +kernel
theorem dX1_takeAll_1 : decode cX1_takeAll 1 = .ok (.getfield 11, 3) := by decide +kernel
theorem dX1_takeAll_4 : decode cX1_takeAll 4 = .ok (.lconst 0, 1) := by decide +kernel
theorem dX1_takeAll_5 : decode cX1_takeAll 5 = .ok (.invokestatic 21, 3) := by decide +kernel
theorem dX1_takeAll_8 : decode cX1_takeAll 8 = .ok (.aload_n 0, 1) := by decide +kernel
theorem dX1_takeAll_9 : decode cX1_takeAll 9 = .ok (.getfield 15, 3) := by decide +kernel
theorem dX1_takeAll_12 : decode cX1_takeAll 12 = .ok (.lconst 0, 1) := by decide +kernel
theorem dX1_takeAll_13 : decode cX1_takeAll 13 = .ok (.invokestatic 21, 3) := by decide +kernel
theorem dX1_takeAll_16 : decode cX1_takeAll 16 = .ok (.aload_n 0, 1) := by decide +kernel
theorem dX1_takeAll_17 : decode cX1_takeAll 17 = .ok (.getfield 18, 3) := by decide +kernel
theorem dX1_takeAll_20 : decode cX1_takeAll 20 = .ok (.lconst 0, 1) := by decide +kernel
theorem dX1_takeAll_21 : decode cX1_takeAll 21 = .ok (.invokestatic 21, 3) := by decide +kernel
theorem dX1_takeAll_24 : decode cX1_takeAll 24 = .ok (.iconst 0, 1) := by decide +kernel
theorem dX1_takeAll_25 : decode cX1_takeAll 25 = .ok (.istore_n 2, 1) := by decide +kernel
theorem dX1_takeAll_26 : decode cX1_takeAll 26 = .ok (.iload_n 2, 1) := by decide +kernel
theorem dX1_takeAll_27 : decode cX1_takeAll 27 = .ok (.aload_n 1, 1) := by decide +kernel
theorem dX1_takeAll_28 : decode cX1_takeAll 28 = .ok (.getfield 27, 3) := by decide +kernel
theorem dX1_takeAll_31 : decode cX1_takeAll 31 = .ok (.if_icmp .ge 80, 3) := by decide +kernel
theorem dX1_takeAll_111 : decode cX1_takeAll 111 = .ok (.return_, 1) := by decide +kernel
theorem dX1_filled_0 : decode cX1_filled 0 = .ok (.iconst 0, 1) := by decide +kernel
theorem dX1_filled_1 : decode cX1_filled 1 = .ok (.istore_n 1, 1) := by decide +kernel
theorem dX1_filled_2 : decode cX1_filled 2 = .ok (.iconst 0, 1) := by decide +kernel
theorem dX1_filled_3 : decode cX1_filled 3 = .ok (.istore_n 2, 1) := by decide +kernel
theorem dX1_filled_4 : decode cX1_filled 4 = .ok (.iload_n 2, 1) := by decide +kernel
theorem dX1_filled_5 : decode cX1_filled 5 = .ok (.bipush 72, 2) := by decide +kernel
theorem dX1_filled_7 : decode cX1_filled 7 = .ok (.if_icmp .ge 23, 3) := by decide +kernel
theorem dX1_filled_10 : decode cX1_filled 10 = .ok (.aload_n 0, 1) := by decide +kernel
theorem dX1_filled_11 : decode cX1_filled 11 = .ok (.getfield 11, 3) := by decide +kernel
theorem dX1_filled_14 : decode cX1_filled 14 = .ok (.iload_n 2, 1) := by decide +kernel
theorem dX1_filled_15 : decode cX1_filled 15 = .ok (.laload, 1) := by decide +kernel
theorem dX1_filled_16 : decode cX1_filled 16 = .ok (.lconst 0, 1) := by decide +kernel
theorem dX1_filled_17 : decode cX1_filled 17 = .ok (.lcmp, 1) := by decide +kernel
theorem dX1_filled_18 : decode cX1_filled 18 = .ok (.ifCond .le 6, 3) := by decide +kernel
theorem dX1_filled_24 : decode cX1_filled 24 = .ok (.iinc 2 1, 3) := by decide +kernel
theorem dX1_filled_27 : decode cX1_filled 27 = .ok (.goto (-23), 3) := by decide +kernel
theorem dX1_filled_30 : decode cX1_filled 30 = .ok (.iload_n 1, 1) := by decide +kernel
theorem dX1_filled_31 : decode cX1_filled 31 = .ok (.ireturn, 1) := by decide +kernel
set_option maxRecDepth 20000 in
theorem ggX1_slope_X8_thousandths : GoodIn wsX1_slope wsX8_thousandths := goodIn_r _ [6, 7, 8] (by decide +kernel) (by decide +kernel)
set_option maxRecDepth 20000 in
theorem gX1_slope_X8_thousandths_n44 : GoodIn wsX1_slope (wsX8_thousandths) := ggX1_slope_X8_thousandths
theorem dX1_slope_0 : decode cX1_slope 0 = .ok (.lconst 0, 1) := by decide +kernel
theorem dX1_slope_1 : decode cX1_slope 1 = .ok (.lstore_n 1, 1) := by decide +kernel
theorem dX1_slope_2 : decode cX1_slope 2 = .ok (.lconst 0, 1) := by decide +kernel
theorem dX1_slope_3 : decode cX1_slope 3 = .ok (.lstore_n 3, 1) := by decide +kernel
theorem dX1_slope_4 : decode cX1_slope 4 = .ok (.lconst 0, 1) := by decide +kernel
theorem dX1_slope_5 : decode cX1_slope 5 = .ok (.lstore 5, 2) := by decide +kernel
theorem dX1_slope_7 : decode cX1_slope 7 = .ok (.lconst 0, 1) := by decide +kernel
theorem dX1_slope_8 : decode cX1_slope 8 = .ok (.lstore 7, 2) := by decide +kernel
theorem dX1_slope_10 : decode cX1_slope 10 = .ok (.lconst 0, 1) := by decide +kernel
theorem dX1_slope_11 : decode cX1_slope 11 = .ok (.lstore 9, 2) := by decide +kernel
theorem dX1_slope_13 : decode cX1_slope 13 = .ok (.iconst 0, 1) := by decide +kernel
theorem dX1_slope_14 : decode cX1_slope 14 = .ok (.istore 11, 2) := by decide +kernel
theorem dX1_slope_16 : decode cX1_slope 16 = .ok (.iload 11, 2) := by decide +kernel
theorem dX1_slope_18 : decode cX1_slope 18 = .ok (.bipush 72, 2) := by decide +kernel
theorem dX1_slope_20 : decode cX1_slope 20 = .ok (.if_icmp .ge 109, 3) := by decide +kernel
theorem dX1_slope_23 : decode cX1_slope 23 = .ok (.aload_n 0, 1) := by decide +kernel
theorem dX1_slope_24 : decode cX1_slope 24 = .ok (.getfield 11, 3) := by decide +kernel
theorem dX1_slope_27 : decode cX1_slope 27 = .ok (.iload 11, 2) := by decide +kernel
theorem dX1_slope_29 : decode cX1_slope 29 = .ok (.laload, 1) := by decide +kernel
theorem dX1_slope_30 : decode cX1_slope 30 = .ok (.lconst 0, 1) := by decide +kernel
theorem dX1_slope_31 : decode cX1_slope 31 = .ok (.lcmp, 1) := by decide +kernel
theorem dX1_slope_32 : decode cX1_slope 32 = .ok (.ifCond .le 91, 3) := by decide +kernel
theorem dX1_slope_123 : decode cX1_slope 123 = .ok (.iinc 11 1, 3) := by decide +kernel
theorem dX1_slope_126 : decode cX1_slope 126 = .ok (.goto (-110), 3) := by decide +kernel
theorem dX1_slope_129 : decode cX1_slope 129 = .ok (.lload_n 1, 1) := by decide +kernel
theorem dX1_slope_130 : decode cX1_slope 130 = .ok (.lload 7, 2) := by decide +kernel
theorem dX1_slope_132 : decode cX1_slope 132 = .ok (.lmul, 1) := by decide +kernel
theorem dX1_slope_133 : decode cX1_slope 133 = .ok (.lload_n 3, 1) := by decide +kernel
theorem dX1_slope_134 : decode cX1_slope 134 = .ok (.lload 5, 2) := by decide +kernel
theorem dX1_slope_136 : decode cX1_slope 136 = .ok (.lmul, 1) := by decide +kernel
theorem dX1_slope_137 : decode cX1_slope 137 = .ok (.lsub, 1) := by decide +kernel
theorem dX1_slope_138 : decode cX1_slope 138 = .ok (.lload_n 1, 1) := by decide +kernel
theorem dX1_slope_139 : decode cX1_slope 139 = .ok (.lload 9, 2) := by decide +kernel
theorem dX1_slope_141 : decode cX1_slope 141 = .ok (.lmul, 1) := by decide +kernel
theorem dX1_slope_142 : decode cX1_slope 142 = .ok (.lload_n 3, 1) := by decide +kernel
theorem dX1_slope_143 : decode cX1_slope 143 = .ok (.lload_n 3, 1) := by decide +kernel
theorem dX1_slope_144 : decode cX1_slope 144 = .ok (.lmul, 1) := by decide +kernel
theorem dX1_slope_145 : decode cX1_slope 145 = .ok (.lsub, 1) := by decide +kernel
theorem dX1_slope_146 : decode cX1_slope 146 = .ok (.invokestatic 44, 3) := by decide +kernel
theorem dX1_slope_149 : decode cX1_slope 149 = .ok (.lreturn, 1) := by decide +kernel
set_option maxRecDepth 20000 in
theorem ggX2_init_X3_init : GoodIn wsX2_init wsX3_init := goodIn_r _ [14, 15, 2, 3, 16, 17, 18, 19, 20, 21, 22, 23, 24, 25, 26, 27, 28, 29, 39, 40, 41, 42, 43, 44, 45, 46, 47, 48, 49, 50, 51, 52, 53, 54] (by decide +kernel) (by decide +kernel)
set_option maxRecDepth 20000 in
theorem gX2_init_X3_init : GoodIn wsX2_init (wsX3_init) := ggX2_init_X3_init
set_option maxRecDepth 20000 in
theorem ggX2_init_X5_init : GoodIn wsX2_init wsX5_init := goodIn_r _ [31, 32, 2, 3, 16, 33, 34, 35, 36, 37, 38, 57, 58, 59, 60, 61, 62, 63] (by decide +kernel) (by decide +kernel)
set_option maxRecDepth 20000 in
theorem gX2_init_X5_init_n18 : GoodIn wsX2_init (wsX5_init) := ggX2_init_X5_init
theorem dX2_init_0 : decode cX2_init 0 = .ok (.aload_n 0, 1) := by decide +kernel
theorem dX2_init_1 : decode cX2_init 1 = .ok (.invokespecial 1, 3) := by decide +kernel
theorem dX2_init_4 : decode cX2_init 4 = .ok (.aload_n 0, 1) := by decide +kernel
theorem dX2_init_5 : decode cX2_init 5 = .ok (.new 7, 3) := by decide +kernel
theorem dX2_init_8 : decode cX2_init 8 = .ok (.dup, 1) := by decide +kernel
theorem dX2_init_9 : decode cX2_init 9 = .ok (.invokespecial 9, 3) := by decide +kernel
theorem dX2_init_12 : decode cX2_init 12 = .ok (.putfield 10, 3) := by decide +kernel
theorem dX2_init_15 : decode cX2_init 15 = .ok (.aload_n 0, 1) := by decide +kernel
theorem dX2_init_16 : decode cX2_init 16 = .ok (.new 16, 3) := by decide +kernel
theorem dX2_init_19 : decode cX2_init 19 = .ok (.dup, 1) := by decide +kernel
theorem dX2_init_20 : decode cX2_init 20 = .ok (.invokespecial 18, 3) := by decide +kernel
theorem dX2_init_23 : decode cX2_init 23 = .ok (.putfield 19, 3) := by decide +kernel
theorem dX2_init_26 : decode cX2_init 26 = .ok (.return_, 1) := by decide +kernel
set_option maxRecDepth 20000 in
theorem ggX3_init_J7_fill_53178 : GoodIn wsX3_init wsJ7_fill_53178 := goodIn_r _ [17] (by decide +kernel) (by decide +kernel)
set_option maxRecDepth 20000 in
theorem gX3_init_J7_fill_53178 : GoodIn wsX3_init (va_wsS RX3 39 yJ7_fill_53178 wsJ7_fill_53178) := goodIn_app (goodIn_of _ (by decide +kernel)) ggX3_init_J7_fill_53178
theorem dX3_init_0 : decode cX3_init 0 = .ok (.aload_n 0, 1) := by decide +kernel
theorem dX3_init_1 : decode cX3_init 1 = .ok (.invokespecial 3, 3) := by decide +kernel
theorem dX3_init_4 : decode cX3_init 4 = .ok (.aload_n 0, 1) := by decide +kernel
theorem dX3_init_5 : decode cX3_init 5 = .ok (.bipush 6, 2) := by decide +kernel
theorem dX3_init_7 : decode cX3_init 7 = .ok (.newarray .int, 2) := by decide +kernel
theorem dX3_init_9 : decode cX3_init 9 = .ok (.putfield 9, 3) := by decide +kernel
theorem dX3_init_12 : decode cX3_init 12 = .ok (.aload_n 0, 1) := by decide +kernel
theorem dX3_init_13 : decode cX3_init 13 = .ok (.bipush 6, 2) := by decide +kernel
theorem dX3_init_15 : decode cX3_init 15 = .ok (.newarray .int, 2) := by decide +kernel
theorem dX3_init_17 : decode cX3_init 17 = .ok (.putfield 15, 3) := by decide +kernel
theorem dX3_init_20 : decode cX3_init 20 = .ok (.aload_n 0, 1) := by decide +kernel
theorem dX3_init_21 : decode cX3_init 21 = .ok (.bipush 8, 2) := by decide +kernel
theorem dX3_init_23 : decode cX3_init 23 = .ok (.newarray .int, 2) := by decide +kernel
theorem dX3_init_25 : decode cX3_init 25 = .ok (.putfield 18, 3) := by decide +kernel
theorem dX3_init_28 : decode cX3_init 28 = .ok (.aload_n 0, 1) := by decide +kernel
theorem dX3_init_29 : decode cX3_init 29 = .ok (.bipush 8, 2) := by decide +kernel
theorem dX3_init_31 : decode cX3_init 31 = .ok (.newarray .int, 2) := by decide +kernel
theorem dX3_init_33 : decode cX3_init 33 = .ok (.putfield 21, 3) := by decide +kernel
theorem dX3_init_36 : decode cX3_init 36 = .ok (.aload_n 0, 1) := by decide +kernel
theorem dX3_init_37 : decode cX3_init 37 = .ok (.bipush 8, 2) := by decide +kernel
theorem dX3_init_39 : decode cX3_init 39 = .ok (.newarray .int, 2) := by decide +kernel
theorem dX3_init_41 : decode cX3_init 41 = .ok (.putfield 24, 3) := by decide +kernel
theorem dX3_init_44 : decode cX3_init 44 = .ok (.aload_n 0, 1) := by decide +kernel
theorem dX3_init_45 : decode cX3_init 45 = .ok (.bipush 8, 2) := by decide +kernel
theorem dX3_init_47 : decode cX3_init 47 = .ok (.newarray .int, 2) := by decide +kernel
theorem dX3_init_49 : decode cX3_init 49 = .ok (.putfield 27, 3) := by decide +kernel
theorem dX3_init_52 : decode cX3_init 52 = .ok (.aload_n 0, 1) := by decide +kernel
theorem dX3_init_53 : decode cX3_init 53 = .ok (.bipush 13, 2) := by decide +kernel
theorem dX3_init_55 : decode cX3_init 55 = .ok (.newarray .int, 2) := by decide +kernel
theorem dX3_init_57 : decode cX3_init 57 = .ok (.putfield 30, 3) := by decide +kernel
theorem dX3_init_60 : decode cX3_init 60 = .ok (.aload_n 0, 1) := by decide +kernel
theorem dX3_init_61 : decode cX3_init 61 = .ok (.bipush 120, 2) := by decide +kernel
theorem dX3_init_63 : decode cX3_init 63 = .ok (.newarray .int, 2) := by decide +kernel
theorem dX3_init_65 : decode cX3_init 65 = .ok (.putfield 33, 3) := by decide +kernel
theorem dX3_init_68 : decode cX3_init 68 = .ok (.aload_n 0, 1) := by decide +kernel
theorem dX3_init_69 : decode cX3_init 69 = .ok (.bipush 120, 2) := by decide +kernel
theorem dX3_init_71 : decode cX3_init 71 = .ok (.newarray .int, 2) := by decide +kernel
theorem dX3_init_73 : decode cX3_init 73 = .ok (.putfield 36, 3) := by decide +kernel
theorem dX3_init_76 : decode cX3_init 76 = .ok (.aload_n 0, 1) := by decide +kernel
theorem dX3_init_77 : decode cX3_init 77 = .ok (.getfield 30, 3) := by decide +kernel
theorem dX3_init_80 : decode cX3_init 80 = .ok (.iconst (-1), 1) := by decide +kernel
theorem dX3_init_81 : decode cX3_init 81 = .ok (.invokestatic 39, 3) := by decide +kernel
theorem dX3_init_84 : decode cX3_init 84 = .ok (.return_, 1) := by decide +kernel
set_option maxRecDepth 20000 in
theorem ggX3_clear_J7_fill_53178 : GoodIn wsX3_clear wsJ7_fill_53178 := goodIn_r _ [12] (by decide +kernel) (by decide +kernel)
set_option maxRecDepth 20000 in
theorem gX3_clear_J7_fill_53178 : GoodIn wsX3_clear (va_wsS RX3 39 yJ7_fill_53178 wsJ7_fill_53178) := goodIn_app (goodIn_of _ (by decide +kernel)) ggX3_clear_J7_fill_53178
theorem dX3_clear_0 : decode cX3_clear 0 = .ok (.aload_n 0, 1) := by decide +kernel
theorem dX3_clear_1 : decode cX3_clear 1 = .ok (.iconst 0, 1) := by decide +kernel
theorem dX3_clear_2 : decode cX3_clear 2 = .ok (.putfield 45, 3) := by decide +kernel
theorem dX3_clear_5 : decode cX3_clear 5 = .ok (.aload_n 0, 1) := by decide +kernel
theorem dX3_clear_6 : decode cX3_clear 6 = .ok (.iconst 0, 1) := by decide +kernel
theorem dX3_clear_7 : decode cX3_clear 7 = .ok (.putfield 49, 3) := by decide +kernel
theorem dX3_clear_10 : decode cX3_clear 10 = .ok (.aload_n 0, 1) := by decide +kernel
theorem dX3_clear_11 : decode cX3_clear 11 = .ok (.iconst 0, 1) := by decide +kernel
theorem dX3_clear_12 : decode cX3_clear 12 = .ok (.putfield 52, 3) := by decide +kernel
theorem dX3_clear_15 : decode cX3_clear 15 = .ok (.aload_n 0, 1) := by decide +kernel
theorem dX3_clear_16 : decode cX3_clear 16 = .ok (.iconst 0, 1) := by decide +kernel
theorem dX3_clear_17 : decode cX3_clear 17 = .ok (.putfield 55, 3) := by decide +kernel
theorem dX3_clear_20 : decode cX3_clear 20 = .ok (.aload_n 0, 1) := by decide +kernel
theorem dX3_clear_21 : decode cX3_clear 21 = .ok (.iconst 0, 1) := by decide +kernel
theorem dX3_clear_22 : decode cX3_clear 22 = .ok (.putfield 58, 3) := by decide +kernel
theorem dX3_clear_25 : decode cX3_clear 25 = .ok (.aload_n 0, 1) := by decide +kernel
theorem dX3_clear_26 : decode cX3_clear 26 = .ok (.iconst 0, 1) := by decide +kernel
theorem dX3_clear_27 : decode cX3_clear 27 = .ok (.putfield 61, 3) := by decide +kernel
theorem dX3_clear_30 : decode cX3_clear 30 = .ok (.aload_n 0, 1) := by decide +kernel
theorem dX3_clear_31 : decode cX3_clear 31 = .ok (.iconst 0, 1) := by decide +kernel
theorem dX3_clear_32 : decode cX3_clear 32 = .ok (.putfield 64, 3) := by decide +kernel
theorem dX3_clear_35 : decode cX3_clear 35 = .ok (.aload_n 0, 1) := by decide +kernel
theorem dX3_clear_36 : decode cX3_clear 36 = .ok (.getfield 30, 3) := by decide +kernel
theorem dX3_clear_39 : decode cX3_clear 39 = .ok (.iconst (-1), 1) := by decide +kernel
theorem dX3_clear_40 : decode cX3_clear 40 = .ok (.invokestatic 39, 3) := by decide +kernel
theorem dX3_clear_43 : decode cX3_clear 43 = .ok (.return_, 1) := by decide +kernel
theorem dX3_copyOf_0 : decode cX3_copyOf 0 = .ok (.aload_n 0, 1) := by decide +kernel
theorem dX3_copyOf_1 : decode cX3_copyOf 1 = .ok (.aload_n 1, 1) := by decide +kernel
theorem dX3_copyOf_2 : decode cX3_copyOf 2 = .ok (.getfield 45, 3) := by decide +kernel
theorem dX3_copyOf_5 : decode cX3_copyOf 5 = .ok (.putfield 45, 3) := by decide +kernel
theorem dX3_copyOf_8 : decode cX3_copyOf 8 = .ok (.aload_n 0, 1) := by decide +kernel
theorem dX3_copyOf_9 : decode cX3_copyOf 9 = .ok (.aload_n 1, 1) := by decide +kernel
theorem dX3_copyOf_10 : decode cX3_copyOf 10 = .ok (.getfield 49, 3) := by decide +kernel
theorem dX3_copyOf_13 : decode cX3_copyOf 13 = .ok (.putfield 49, 3) := by decide +kernel
theorem dX3_copyOf_16 : decode cX3_copyOf 16 = .ok (.aload_n 0, 1) := by decide +kernel
theorem dX3_copyOf_17 : decode cX3_copyOf 17 = .ok (.aload_n 1, 1) := by decide +kernel
theorem dX3_copyOf_18 : decode cX3_copyOf 18 = .ok (.getfield 52, 3) := by decide +kernel
theorem dX3_copyOf_21 : decode cX3_copyOf 21 = .ok (.putfield 52, 3) := by decide +kernel
theorem dX3_copyOf_24 : decode cX3_copyOf 24 = .ok (.aload_n 0, 1) := by decide +kernel
theorem dX3_copyOf_25 : decode cX3_copyOf 25 = .ok (.aload_n 1, 1) := by decide +kernel
theorem dX3_copyOf_26 : decode cX3_copyOf 26 = .ok (.getfield 55, 3) := by decide +kernel
theorem dX3_copyOf_29 : decode cX3_copyOf 29 = .ok (.putfield 55, 3) := by decide +kernel
theorem dX3_copyOf_32 : decode cX3_copyOf 32 = .ok (.aload_n 0, 1) := by decide +kernel
theorem dX3_copyOf_33 : decode cX3_copyOf 33 = .ok (.aload_n 1, 1) := by decide +kernel
theorem dX3_copyOf_34 : decode cX3_copyOf 34 = .ok (.getfield 58, 3) := by decide +kernel
theorem dX3_copyOf_37 : decode cX3_copyOf 37 = .ok (.putfield 58, 3) := by decide +kernel
theorem dX3_copyOf_40 : decode cX3_copyOf 40 = .ok (.aload_n 0, 1) := by decide +kernel
theorem dX3_copyOf_41 : decode cX3_copyOf 41 = .ok (.aload_n 1, 1) := by decide +kernel
theorem dX3_copyOf_42 : decode cX3_copyOf 42 = .ok (.getfield 61, 3) := by decide +kernel
theorem dX3_copyOf_45 : decode cX3_copyOf 45 = .ok (.putfield 61, 3) := by decide +kernel
theorem dX3_copyOf_48 : decode cX3_copyOf 48 = .ok (.aload_n 0, 1) := by decide +kernel
theorem dX3_copyOf_49 : decode cX3_copyOf 49 = .ok (.aload_n 1, 1) := by decide +kernel
theorem dX3_copyOf_50 : decode cX3_copyOf 50 = .ok (.getfield 64, 3) := by decide +kernel
theorem dX3_copyOf_53 : decode cX3_copyOf 53 = .ok (.putfield 64, 3) := by decide +kernel
theorem dX3_copyOf_56 : decode cX3_copyOf 56 = .ok (.aload_n 1, 1) := by decide +kernel
theorem dX3_copyOf_57 : decode cX3_copyOf 57 = .ok (.getfield 9, 3) := by decide +kernel
theorem dX3_copyOf_60 : decode cX3_copyOf 60 = .ok (.iconst 0, 1) := by decide +kernel
theorem dX3_copyOf_61 : decode cX3_copyOf 61 = .ok (.aload_n 0, 1) := by decide +kernel
theorem dX3_copyOf_62 : decode cX3_copyOf 62 = .ok (.getfield 9, 3) := by decide +kernel
theorem dX3_copyOf_65 : decode cX3_copyOf 65 = .ok (.iconst 0, 1) := by decide +kernel
theorem dX3_copyOf_66 : decode cX3_copyOf 66 = .ok (.bipush 6, 2) := by decide +kernel
theorem dX3_copyOf_68 : decode cX3_copyOf 68 = .ok (.invokestatic 68, 3) := by decide +kernel
theorem dX3_copyOf_71 : decode cX3_copyOf 71 = .ok (.aload_n 1, 1) := by decide +kernel
theorem dX3_copyOf_72 : decode cX3_copyOf 72 = .ok (.getfield 15, 3) := by decide +kernel
theorem dX3_copyOf_75 : decode cX3_copyOf 75 = .ok (.iconst 0, 1) := by decide +kernel
theorem dX3_copyOf_76 : decode cX3_copyOf 76 = .ok (.aload_n 0, 1) := by decide +kernel
theorem dX3_copyOf_77 : decode cX3_copyOf 77 = .ok (.getfield 15, 3) := by decide +kernel
theorem dX3_copyOf_80 : decode cX3_copyOf 80 = .ok (.iconst 0, 1) := by decide +kernel
theorem dX3_copyOf_81 : decode cX3_copyOf 81 = .ok (.bipush 6, 2) := by decide +kernel
theorem dX3_copyOf_83 : decode cX3_copyOf 83 = .ok (.invokestatic 68, 3) := by decide +kernel
theorem dX3_copyOf_86 : decode cX3_copyOf 86 = .ok (.aload_n 1, 1) := by decide +kernel
theorem dX3_copyOf_87 : decode cX3_copyOf 87 = .ok (.getfield 18, 3) := by decide +kernel
theorem dX3_copyOf_90 : decode cX3_copyOf 90 = .ok (.iconst 0, 1) := by decide +kernel
theorem dX3_copyOf_91 : decode cX3_copyOf 91 = .ok (.aload_n 0, 1) := by decide +kernel
theorem dX3_copyOf_92 : decode cX3_copyOf 92 = .ok (.getfield 18, 3) := by decide +kernel
theorem dX3_copyOf_95 : decode cX3_copyOf 95 = .ok (.iconst 0, 1) := by decide +kernel
theorem dX3_copyOf_96 : decode cX3_copyOf 96 = .ok (.bipush 8, 2) := by decide +kernel
theorem dX3_copyOf_98 : decode cX3_copyOf 98 = .ok (.invokestatic 68, 3) := by decide +kernel
theorem dX3_copyOf_101 : decode cX3_copyOf 101 = .ok (.aload_n 1, 1) := by decide +kernel
theorem dX3_copyOf_102 : decode cX3_copyOf 102 = .ok (.getfield 21, 3) := by decide +kernel
theorem dX3_copyOf_105 : decode cX3_copyOf 105 = .ok (.iconst 0, 1) := by decide +kernel
theorem dX3_copyOf_106 : decode cX3_copyOf 106 = .ok (.aload_n 0, 1) := by decide +kernel
theorem dX3_copyOf_107 : decode cX3_copyOf 107 = .ok (.getfield 21, 3) := by decide +kernel
theorem dX3_copyOf_110 : decode cX3_copyOf 110 = .ok (.iconst 0, 1) := by decide +kernel
theorem dX3_copyOf_111 : decode cX3_copyOf 111 = .ok (.bipush 8, 2) := by decide +kernel
theorem dX3_copyOf_113 : decode cX3_copyOf 113 = .ok (.invokestatic 68, 3) := by decide +kernel
theorem dX3_copyOf_116 : decode cX3_copyOf 116 = .ok (.aload_n 1, 1) := by decide +kernel
theorem dX3_copyOf_117 : decode cX3_copyOf 117 = .ok (.getfield 24, 3) := by decide +kernel
theorem dX3_copyOf_120 : decode cX3_copyOf 120 = .ok (.iconst 0, 1) := by decide +kernel
theorem dX3_copyOf_121 : decode cX3_copyOf 121 = .ok (.aload_n 0, 1) := by decide +kernel
theorem dX3_copyOf_122 : decode cX3_copyOf 122 = .ok (.getfield 24, 3) := by decide +kernel
theorem dX3_copyOf_125 : decode cX3_copyOf 125 = .ok (.iconst 0, 1) := by decide +kernel
theorem dX3_copyOf_126 : decode cX3_copyOf 126 = .ok (.bipush 8, 2) := by decide +kernel
theorem dX3_copyOf_128 : decode cX3_copyOf 128 = .ok (.invokestatic 68, 3) := by decide +kernel
theorem dX3_copyOf_131 : decode cX3_copyOf 131 = .ok (.aload_n 1, 1) := by decide +kernel
theorem dX3_copyOf_132 : decode cX3_copyOf 132 = .ok (.getfield 27, 3) := by decide +kernel
theorem dX3_copyOf_135 : decode cX3_copyOf 135 = .ok (.iconst 0, 1) := by decide +kernel
theorem dX3_copyOf_136 : decode cX3_copyOf 136 = .ok (.aload_n 0, 1) := by decide +kernel
theorem dX3_copyOf_137 : decode cX3_copyOf 137 = .ok (.getfield 27, 3) := by decide +kernel
theorem dX3_copyOf_140 : decode cX3_copyOf 140 = .ok (.iconst 0, 1) := by decide +kernel
theorem dX3_copyOf_141 : decode cX3_copyOf 141 = .ok (.bipush 8, 2) := by decide +kernel
theorem dX3_copyOf_143 : decode cX3_copyOf 143 = .ok (.invokestatic 68, 3) := by decide +kernel
theorem dX3_copyOf_146 : decode cX3_copyOf 146 = .ok (.aload_n 1, 1) := by decide +kernel
theorem dX3_copyOf_147 : decode cX3_copyOf 147 = .ok (.getfield 30, 3) := by decide +kernel
theorem dX3_copyOf_150 : decode cX3_copyOf 150 = .ok (.iconst 0, 1) := by decide +kernel
theorem dX3_copyOf_151 : decode cX3_copyOf 151 = .ok (.aload_n 0, 1) := by decide +kernel
theorem dX3_copyOf_152 : decode cX3_copyOf 152 = .ok (.getfield 30, 3) := by decide +kernel
theorem dX3_copyOf_155 : decode cX3_copyOf 155 = .ok (.iconst 0, 1) := by decide +kernel
theorem dX3_copyOf_156 : decode cX3_copyOf 156 = .ok (.bipush 13, 2) := by decide +kernel
theorem dX3_copyOf_158 : decode cX3_copyOf 158 = .ok (.invokestatic 68, 3) := by decide +kernel
theorem dX3_copyOf_161 : decode cX3_copyOf 161 = .ok (.aload_n 1, 1) := by decide +kernel
theorem dX3_copyOf_162 : decode cX3_copyOf 162 = .ok (.getfield 33, 3) := by decide +kernel
theorem dX3_copyOf_165 : decode cX3_copyOf 165 = .ok (.iconst 0, 1) := by decide +kernel
theorem dX3_copyOf_166 : decode cX3_copyOf 166 = .ok (.aload_n 0, 1) := by decide +kernel
theorem dX3_copyOf_167 : decode cX3_copyOf 167 = .ok (.getfield 33, 3) := by decide +kernel
theorem dX3_copyOf_170 : decode cX3_copyOf 170 = .ok (.iconst 0, 1) := by decide +kernel
theorem dX3_copyOf_171 : decode cX3_copyOf 171 = .ok (.bipush 120, 2) := by decide +kernel
theorem dX3_copyOf_173 : decode cX3_copyOf 173 = .ok (.invokestatic 68, 3) := by decide +kernel
theorem dX3_copyOf_176 : decode cX3_copyOf 176 = .ok (.aload_n 1, 1) := by decide +kernel
theorem dX3_copyOf_177 : decode cX3_copyOf 177 = .ok (.getfield 36, 3) := by decide +kernel
theorem dX3_copyOf_180 : decode cX3_copyOf 180 = .ok (.iconst 0, 1) := by decide +kernel
theorem dX3_copyOf_181 : decode cX3_copyOf 181 = .ok (.aload_n 0, 1) := by decide +kernel
theorem dX3_copyOf_182 : decode cX3_copyOf 182 = .ok (.getfield 36, 3) := by decide +kernel
theorem dX3_copyOf_185 : decode cX3_copyOf 185 = .ok (.iconst 0, 1) := by decide +kernel
theorem dX3_copyOf_186 : decode cX3_copyOf 186 = .ok (.bipush 120, 2) := by decide +kernel
theorem dX3_copyOf_188 : decode cX3_copyOf 188 = .ok (.invokestatic 68, 3) := by decide +kernel
theorem dX3_copyOf_191 : decode cX3_copyOf 191 = .ok (.return_, 1) := by decide +kernel
theorem dX3_hasState_0 : decode cX3_hasState 0 = .ok (.iload_n 1, 1) := by decide +kernel
theorem dX3_hasState_1 : decode cX3_hasState 1 = .ok (.ifCond .lt 15, 3) := by decide +kernel
theorem dX3_hasState_4 : decode cX3_hasState 4 = .ok (.iload_n 1, 1) := by decide +kernel
theorem dX3_hasState_5 : decode cX3_hasState 5 = .ok (.aload_n 0, 1) := by decide +kernel
theorem dX3_hasState_6 : decode cX3_hasState 6 = .ok (.getfield 49, 3) := by decide +kernel
theorem dX3_hasState_9 : decode cX3_hasState 9 = .ok (.if_icmp .ge 7, 3) := by decide +kernel
theorem dX3_hasState_16 : decode cX3_hasState 16 = .ok (.iconst 0, 1) := by decide +kernel
theorem dX3_hasState_17 : decode cX3_hasState 17 = .ok (.ireturn, 1) := by decide +kernel
theorem dX3_canBeDrawnFrom_0 : decode cX3_canBeDrawnFrom 0 = .ok (.aload_n 0, 1) := by decide +kernel
theorem dX3_canBeDrawnFrom_1 : decode cX3_canBeDrawnFrom 1 = .ok (.getfield 49, 3) := by decide +kernel
theorem dX3_canBeDrawnFrom_4 : decode cX3_canBeDrawnFrom 4 = .ok (.ifCond .le 14, 3) := by decide +kernel
theorem dX3_canBeDrawnFrom_18 : decode cX3_canBeDrawnFrom 18 = .ok (.iconst 0, 1) := by decide +kernel
theorem dX3_canBeDrawnFrom_19 : decode cX3_canBeDrawnFrom 19 = .ok (.ireturn, 1) := by decide +kernel
theorem dX4_init_0 : decode cX4_init 0 = .ok (.aload_n 0, 1) := by decide +kernel
theorem dX4_init_1 : decode cX4_init 1 = .ok (.invokespecial 3, 3) := by decide +kernel
theorem dX4_init_4 : decode cX4_init 4 = .ok (.aload_n 0, 1) := by decide +kernel
theorem dX4_init_5 : decode cX4_init 5 = .ok (.iconst (-1), 1) := by decide +kernel
theorem dX4_init_6 : decode cX4_init 6 = .ok (.putfield 9, 3) := by decide +kernel
theorem dX4_init_9 : decode cX4_init 9 = .ok (.aload_n 0, 1) := by decide +kernel
theorem dX4_init_10 : decode cX4_init 10 = .ok (.bipush 60, 2) := by decide +kernel
theorem dX4_init_12 : decode cX4_init 12 = .ok (.newarray .long, 2) := by decide +kernel
theorem dX4_init_14 : decode cX4_init 14 = .ok (.putfield 15, 3) := by decide +kernel
theorem dX4_init_17 : decode cX4_init 17 = .ok (.return_, 1) := by decide +kernel
theorem dX4_stands_0 : decode cX4_stands 0 = .ok (.aload_n 0, 1) := by decide +kernel
theorem dX4_stands_1 : decode cX4_stands 1 = .ok (.getfield 9, 3) := by decide +kernel
theorem dX4_stands_4 : decode cX4_stands 4 = .ok (.iconst (-1), 1) := by decide +kernel
theorem dX4_stands_5 : decode cX4_stands 5 = .ok (.if_icmp .eq 7, 3) := by decide +kernel
theorem dX4_stands_12 : decode cX4_stands 12 = .ok (.iconst 0, 1) := by decide +kernel
theorem dX4_stands_13 : decode cX4_stands 13 = .ok (.ireturn, 1) := by decide +kernel
set_option maxRecDepth 20000 in
theorem ggX4_make_J7_fill_d0a16 : GoodIn wsX4_make wsJ7_fill_d0a16 := goodIn_r _ [7] (by decide +kernel) (by decide +kernel)
set_option maxRecDepth 20000 in
theorem gX4_make_J7_fill_d0a16 : GoodIn wsX4_make (va_wsS RX4 22 yJ7_fill_d0a16 wsJ7_fill_d0a16) := goodIn_app (goodIn_of _ (by decide +kernel)) ggX4_make_J7_fill_d0a16
theorem dX4_make_0 : decode cX4_make 0 = .ok (.iload_n 2, 1) := by decide +kernel
theorem dX4_make_1 : decode cX4_make 1 = .ok (.ifCond .lt 27, 3) := by decide +kernel
theorem dX4_make_4 : decode cX4_make 4 = .ok (.iload_n 2, 1) := by decide +kernel
theorem dX4_make_5 : decode cX4_make 5 = .ok (.bipush 60, 2) := by decide +kernel
theorem dX4_make_7 : decode cX4_make 7 = .ok (.if_icmp .gt 21, 3) := by decide +kernel
theorem dX4_make_10 : decode cX4_make 10 = .ok (.aload_n 0, 1) := by decide +kernel
theorem dX4_make_11 : decode cX4_make 11 = .ok (.iload_n 1, 1) := by decide +kernel
theorem dX4_make_12 : decode cX4_make 12 = .ok (.putfield 9, 3) := by decide +kernel
theorem dX4_make_15 : decode cX4_make 15 = .ok (.aload_n 0, 1) := by decide +kernel
theorem dX4_make_16 : decode cX4_make 16 = .ok (.iload_n 2, 1) := by decide +kernel
theorem dX4_make_17 : decode cX4_make 17 = .ok (.putfield 19, 3) := by decide +kernel
theorem dX4_make_20 : decode cX4_make 20 = .ok (.aload_n 0, 1) := by decide +kernel
theorem dX4_make_21 : decode cX4_make 21 = .ok (.getfield 15, 3) := by decide +kernel
theorem dX4_make_24 : decode cX4_make 24 = .ok (.lconst 0, 1) := by decide +kernel
theorem dX4_make_25 : decode cX4_make 25 = .ok (.invokestatic 22, 3) := by decide +kernel
theorem dX4_make_28 : decode cX4_make 28 = .ok (.return_, 1) := by decide +kernel
theorem dX5_init_0 : decode cX5_init 0 = .ok (.aload_n 0, 1) := by decide +kernel
theorem dX5_init_1 : decode cX5_init 1 = .ok (.invokespecial 3, 3) := by decide +kernel
theorem dX5_init_4 : decode cX5_init 4 = .ok (.aload_n 0, 1) := by decide +kernel
theorem dX5_init_5 : decode cX5_init 5 = .ok (.sipush 200, 3) := by decide +kernel
theorem dX5_init_8 : decode cX5_init 8 = .ok (.newarray .int, 2) := by decide +kernel
theorem dX5_init_10 : decode cX5_init 10 = .ok (.putfield 9, 3) := by decide +kernel
theorem dX5_init_13 : decode cX5_init 13 = .ok (.aload_n 0, 1) := by decide +kernel
theorem dX5_init_14 : decode cX5_init 14 = .ok (.sipush 200, 3) := by decide +kernel
theorem dX5_init_17 : decode cX5_init 17 = .ok (.newarray .int, 2) := by decide +kernel
theorem dX5_init_19 : decode cX5_init 19 = .ok (.putfield 15, 3) := by decide +kernel
theorem dX5_init_22 : decode cX5_init 22 = .ok (.aload_n 0, 1) := by decide +kernel
theorem dX5_init_23 : decode cX5_init 23 = .ok (.sipush 200, 3) := by decide +kernel
theorem dX5_init_26 : decode cX5_init 26 = .ok (.newarray .int, 2) := by decide +kernel
theorem dX5_init_28 : decode cX5_init 28 = .ok (.putfield 18, 3) := by decide +kernel
theorem dX5_init_31 : decode cX5_init 31 = .ok (.aload_n 0, 1) := by decide +kernel
theorem dX5_init_32 : decode cX5_init 32 = .ok (.sipush 200, 3) := by decide +kernel
theorem dX5_init_35 : decode cX5_init 35 = .ok (.newarray .int, 2) := by decide +kernel
theorem dX5_init_37 : decode cX5_init 37 = .ok (.putfield 21, 3) := by decide +kernel
theorem dX5_init_40 : decode cX5_init 40 = .ok (.aload_n 0, 1) := by decide +kernel
theorem dX5_init_41 : decode cX5_init 41 = .ok (.sipush 200, 3) := by decide +kernel
theorem dX5_init_44 : decode cX5_init 44 = .ok (.newarray .int, 2) := by decide +kernel
theorem dX5_init_46 : decode cX5_init 46 = .ok (.putfield 24, 3) := by decide +kernel
theorem dX5_init_49 : decode cX5_init 49 = .ok (.aload_n 0, 1) := by decide +kernel
theorem dX5_init_50 : decode cX5_init 50 = .ok (.sipush 200, 3) := by decide +kernel
theorem dX5_init_53 : decode cX5_init 53 = .ok (.newarray .int, 2) := by decide +kernel
theorem dX5_init_55 : decode cX5_init 55 = .ok (.putfield 27, 3) := by decide +kernel
theorem dX5_init_58 : decode cX5_init 58 = .ok (.return_, 1) := by decide +kernel
theorem dX5_has_0 : decode cX5_has 0 = .ok (.iload_n 1, 1) := by decide +kernel
theorem dX5_has_1 : decode cX5_has 1 = .ok (.ifCond .lt 15, 3) := by decide +kernel
theorem dX5_has_4 : decode cX5_has 4 = .ok (.iload_n 1, 1) := by decide +kernel
theorem dX5_has_5 : decode cX5_has 5 = .ok (.aload_n 0, 1) := by decide +kernel
theorem dX5_has_6 : decode cX5_has 6 = .ok (.getfield 30, 3) := by decide +kernel
theorem dX5_has_9 : decode cX5_has 9 = .ok (.if_icmp .ge 7, 3) := by decide +kernel
theorem dX5_has_16 : decode cX5_has 16 = .ok (.iconst 0, 1) := by decide +kernel
theorem dX5_has_17 : decode cX5_has 17 = .ok (.ireturn, 1) := by decide +kernel
theorem dX5_copyOf_0 : decode cX5_copyOf 0 = .ok (.aload_n 0, 1) := by decide +kernel
theorem dX5_copyOf_1 : decode cX5_copyOf 1 = .ok (.aload_n 1, 1) := by decide +kernel
theorem dX5_copyOf_2 : decode cX5_copyOf 2 = .ok (.getfield 30, 3) := by decide +kernel
theorem dX5_copyOf_5 : decode cX5_copyOf 5 = .ok (.putfield 30, 3) := by decide +kernel
theorem dX5_copyOf_8 : decode cX5_copyOf 8 = .ok (.aload_n 1, 1) := by decide +kernel
theorem dX5_copyOf_9 : decode cX5_copyOf 9 = .ok (.getfield 9, 3) := by decide +kernel
theorem dX5_copyOf_12 : decode cX5_copyOf 12 = .ok (.iconst 0, 1) := by decide +kernel
theorem dX5_copyOf_13 : decode cX5_copyOf 13 = .ok (.aload_n 0, 1) := by decide +kernel
theorem dX5_copyOf_14 : decode cX5_copyOf 14 = .ok (.getfield 9, 3) := by decide +kernel
theorem dX5_copyOf_17 : decode cX5_copyOf 17 = .ok (.iconst 0, 1) := by decide +kernel
theorem dX5_copyOf_18 : decode cX5_copyOf 18 = .ok (.aload_n 0, 1) := by decide +kernel
theorem dX5_copyOf_19 : decode cX5_copyOf 19 = .ok (.getfield 30, 3) := by decide +kernel
theorem dX5_copyOf_22 : decode cX5_copyOf 22 = .ok (.invokestatic 38, 3) := by decide +kernel
theorem dX5_copyOf_25 : decode cX5_copyOf 25 = .ok (.aload_n 1, 1) := by decide +kernel
theorem dX5_copyOf_26 : decode cX5_copyOf 26 = .ok (.getfield 15, 3) := by decide +kernel
theorem dX5_copyOf_29 : decode cX5_copyOf 29 = .ok (.iconst 0, 1) := by decide +kernel
theorem dX5_copyOf_30 : decode cX5_copyOf 30 = .ok (.aload_n 0, 1) := by decide +kernel
theorem dX5_copyOf_31 : decode cX5_copyOf 31 = .ok (.getfield 15, 3) := by decide +kernel
theorem dX5_copyOf_34 : decode cX5_copyOf 34 = .ok (.iconst 0, 1) := by decide +kernel
theorem dX5_copyOf_35 : decode cX5_copyOf 35 = .ok (.aload_n 0, 1) := by decide +kernel
theorem dX5_copyOf_36 : decode cX5_copyOf 36 = .ok (.getfield 30, 3) := by decide +kernel
theorem dX5_copyOf_39 : decode cX5_copyOf 39 = .ok (.invokestatic 38, 3) := by decide +kernel
theorem dX5_copyOf_42 : decode cX5_copyOf 42 = .ok (.aload_n 1, 1) := by decide +kernel
theorem dX5_copyOf_43 : decode cX5_copyOf 43 = .ok (.getfield 18, 3) := by decide +kernel
theorem dX5_copyOf_46 : decode cX5_copyOf 46 = .ok (.iconst 0, 1) := by decide +kernel
theorem dX5_copyOf_47 : decode cX5_copyOf 47 = .ok (.aload_n 0, 1) := by decide +kernel
theorem dX5_copyOf_48 : decode cX5_copyOf 48 = .ok (.getfield 18, 3) := by decide +kernel
theorem dX5_copyOf_51 : decode cX5_copyOf 51 = .ok (.iconst 0, 1) := by decide +kernel
theorem dX5_copyOf_52 : decode cX5_copyOf 52 = .ok (.aload_n 0, 1) := by decide +kernel
theorem dX5_copyOf_53 : decode cX5_copyOf 53 = .ok (.getfield 30, 3) := by decide +kernel
theorem dX5_copyOf_56 : decode cX5_copyOf 56 = .ok (.invokestatic 38, 3) := by decide +kernel
theorem dX5_copyOf_59 : decode cX5_copyOf 59 = .ok (.aload_n 1, 1) := by decide +kernel
theorem dX5_copyOf_60 : decode cX5_copyOf 60 = .ok (.getfield 21, 3) := by decide +kernel
theorem dX5_copyOf_63 : decode cX5_copyOf 63 = .ok (.iconst 0, 1) := by decide +kernel
theorem dX5_copyOf_64 : decode cX5_copyOf 64 = .ok (.aload_n 0, 1) := by decide +kernel
theorem dX5_copyOf_65 : decode cX5_copyOf 65 = .ok (.getfield 21, 3) := by decide +kernel
theorem dX5_copyOf_68 : decode cX5_copyOf 68 = .ok (.iconst 0, 1) := by decide +kernel
theorem dX5_copyOf_69 : decode cX5_copyOf 69 = .ok (.aload_n 0, 1) := by decide +kernel
theorem dX5_copyOf_70 : decode cX5_copyOf 70 = .ok (.getfield 30, 3) := by decide +kernel
theorem dX5_copyOf_73 : decode cX5_copyOf 73 = .ok (.invokestatic 38, 3) := by decide +kernel
theorem dX5_copyOf_76 : decode cX5_copyOf 76 = .ok (.aload_n 1, 1) := by decide +kernel
theorem dX5_copyOf_77 : decode cX5_copyOf 77 = .ok (.getfield 24, 3) := by decide +kernel
theorem dX5_copyOf_80 : decode cX5_copyOf 80 = .ok (.iconst 0, 1) := by decide +kernel
theorem dX5_copyOf_81 : decode cX5_copyOf 81 = .ok (.aload_n 0, 1) := by decide +kernel
theorem dX5_copyOf_82 : decode cX5_copyOf 82 = .ok (.getfield 24, 3) := by decide +kernel
theorem dX5_copyOf_85 : decode cX5_copyOf 85 = .ok (.iconst 0, 1) := by decide +kernel
theorem dX5_copyOf_86 : decode cX5_copyOf 86 = .ok (.aload_n 0, 1) := by decide +kernel
theorem dX5_copyOf_87 : decode cX5_copyOf 87 = .ok (.getfield 30, 3) := by decide +kernel
theorem dX5_copyOf_90 : decode cX5_copyOf 90 = .ok (.invokestatic 38, 3) := by decide +kernel
theorem dX5_copyOf_93 : decode cX5_copyOf 93 = .ok (.aload_n 1, 1) := by decide +kernel
theorem dX5_copyOf_94 : decode cX5_copyOf 94 = .ok (.getfield 27, 3) := by decide +kernel
theorem dX5_copyOf_97 : decode cX5_copyOf 97 = .ok (.iconst 0, 1) := by decide +kernel
theorem dX5_copyOf_98 : decode cX5_copyOf 98 = .ok (.aload_n 0, 1) := by decide +kernel
theorem dX5_copyOf_99 : decode cX5_copyOf 99 = .ok (.getfield 27, 3) := by decide +kernel
theorem dX5_copyOf_102 : decode cX5_copyOf 102 = .ok (.iconst 0, 1) := by decide +kernel
theorem dX5_copyOf_103 : decode cX5_copyOf 103 = .ok (.aload_n 0, 1) := by decide +kernel
theorem dX5_copyOf_104 : decode cX5_copyOf 104 = .ok (.getfield 30, 3) := by decide +kernel
theorem dX5_copyOf_107 : decode cX5_copyOf 107 = .ok (.invokestatic 38, 3) := by decide +kernel
theorem dX5_copyOf_110 : decode cX5_copyOf 110 = .ok (.return_, 1) := by decide +kernel
theorem dX6_init_0 : decode cX6_init 0 = .ok (.aload_n 0, 1) := by decide +kernel
theorem dX6_init_1 : decode cX6_init 1 = .ok (.invokespecial 3, 3) := by decide +kernel
theorem dX6_init_4 : decode cX6_init 4 = .ok (.return_, 1) := by decide +kernel
theorem dX6_clear_0 : decode cX6_clear 0 = .ok (.aload_n 0, 1) := by decide +kernel
theorem dX6_clear_1 : decode cX6_clear 1 = .ok (.lconst 0, 1) := by decide +kernel
theorem dX6_clear_2 : decode cX6_clear 2 = .ok (.putfield 9, 3) := by decide +kernel
theorem dX6_clear_5 : decode cX6_clear 5 = .ok (.aload_n 0, 1) := by decide +kernel
theorem dX6_clear_6 : decode cX6_clear 6 = .ok (.lconst 0, 1) := by decide +kernel
theorem dX6_clear_7 : decode cX6_clear 7 = .ok (.putfield 15, 3) := by decide +kernel
theorem dX6_clear_10 : decode cX6_clear 10 = .ok (.aload_n 0, 1) := by decide +kernel
theorem dX6_clear_11 : decode cX6_clear 11 = .ok (.lconst 0, 1) := by decide +kernel
theorem dX6_clear_12 : decode cX6_clear 12 = .ok (.putfield 18, 3) := by decide +kernel
theorem dX6_clear_15 : decode cX6_clear 15 = .ok (.aload_n 0, 1) := by decide +kernel
theorem dX6_clear_16 : decode cX6_clear 16 = .ok (.lconst 0, 1) := by decide +kernel
theorem dX6_clear_17 : decode cX6_clear 17 = .ok (.putfield 21, 3) := by decide +kernel
theorem dX6_clear_20 : decode cX6_clear 20 = .ok (.aload_n 0, 1) := by decide +kernel
theorem dX6_clear_21 : decode cX6_clear 21 = .ok (.lconst 0, 1) := by decide +kernel
theorem dX6_clear_22 : decode cX6_clear 22 = .ok (.putfield 24, 3) := by decide +kernel
theorem dX6_clear_25 : decode cX6_clear 25 = .ok (.aload_n 0, 1) := by decide +kernel
theorem dX6_clear_26 : decode cX6_clear 26 = .ok (.lconst 0, 1) := by decide +kernel
theorem dX6_clear_27 : decode cX6_clear 27 = .ok (.putfield 27, 3) := by decide +kernel
theorem dX6_clear_30 : decode cX6_clear 30 = .ok (.aload_n 0, 1) := by decide +kernel
theorem dX6_clear_31 : decode cX6_clear 31 = .ok (.lconst 0, 1) := by decide +kernel
theorem dX6_clear_32 : decode cX6_clear 32 = .ok (.putfield 30, 3) := by decide +kernel
theorem dX6_clear_35 : decode cX6_clear 35 = .ok (.aload_n 0, 1) := by decide +kernel
theorem dX6_clear_36 : decode cX6_clear 36 = .ok (.lconst 0, 1) := by decide +kernel
theorem dX6_clear_37 : decode cX6_clear 37 = .ok (.putfield 33, 3) := by decide +kernel
theorem dX6_clear_40 : decode cX6_clear 40 = .ok (.aload_n 0, 1) := by decide +kernel
theorem dX6_clear_41 : decode cX6_clear 41 = .ok (.lconst 0, 1) := by decide +kernel
theorem dX6_clear_42 : decode cX6_clear 42 = .ok (.putfield 36, 3) := by decide +kernel
theorem dX6_clear_45 : decode cX6_clear 45 = .ok (.aload_n 0, 1) := by decide +kernel
theorem dX6_clear_46 : decode cX6_clear 46 = .ok (.lconst 0, 1) := by decide +kernel
theorem dX6_clear_47 : decode cX6_clear 47 = .ok (.putfield 39, 3) := by decide +kernel
theorem dX6_clear_50 : decode cX6_clear 50 = .ok (.aload_n 0, 1) := by decide +kernel
theorem dX6_clear_51 : decode cX6_clear 51 = .ok (.lconst 0, 1) := by decide +kernel
theorem dX6_clear_52 : decode cX6_clear 52 = .ok (.putfield 42, 3) := by decide +kernel
theorem dX6_clear_55 : decode cX6_clear 55 = .ok (.return_, 1) := by decide +kernel
theorem dX6_hasBoth_0 : decode cX6_hasBoth 0 = .ok (.aload_n 0, 1) := by decide +kernel
theorem dX6_hasBoth_1 : decode cX6_hasBoth 1 = .ok (.getfield 9, 3) := by decide +kernel
theorem dX6_hasBoth_4 : decode cX6_hasBoth 4 = .ok (.lconst 0, 1) := by decide +kernel
theorem dX6_hasBoth_5 : decode cX6_hasBoth 5 = .ok (.lcmp, 1) := by decide +kernel
theorem dX6_hasBoth_6 : decode cX6_hasBoth 6 = .ok (.ifCond .le 16, 3) := by decide +kernel
theorem dX6_hasBoth_22 : decode cX6_hasBoth 22 = .ok (.iconst 0, 1) := by decide +kernel
theorem dX6_hasBoth_23 : decode cX6_hasBoth 23 = .ok (.ireturn, 1) := by decide +kernel
set_option maxRecDepth 20000 in
theorem ggX6_hasSpan_X6_hasBoth : GoodIn wsX6_hasSpan wsX6_hasBoth := goodIn_r _ [8, 1, 2, 9, 10, 11, 12, 13, 14, 15, 16, 17, 18, 19] (by decide +kernel) (by decide +kernel)
set_option maxRecDepth 20000 in
theorem gX6_hasSpan_X6_hasBoth : GoodIn wsX6_hasSpan (wsV RX6 54 RX6 yX6_hasBoth wsX6_hasBoth) := goodIn_app (goodIn_of _ (by decide +kernel)) ggX6_hasSpan_X6_hasBoth
theorem dX6_hasSpan_0 : decode cX6_hasSpan 0 = .ok (.aload_n 0, 1) := by decide +kernel
theorem dX6_hasSpan_1 : decode cX6_hasSpan 1 = .ok (.invokevirtual 54, 3) := by decide +kernel
theorem dX6_hasSpan_4 : decode cX6_hasSpan 4 = .ok (.ifCond .eq 23, 3) := by decide +kernel
theorem dX6_hasSpan_27 : decode cX6_hasSpan 27 = .ok (.iconst 0, 1) := by decide +kernel
theorem dX6_hasSpan_28 : decode cX6_hasSpan 28 = .ok (.ireturn, 1) := by decide +kernel
set_option maxRecDepth 20000 in
theorem ggX6_hasUsualSpan_X6_byMoved : GoodIn wsX6_hasUsualSpan wsX6_byMoved := goodIn_r _ [9, 10, 11, 12, 8, 13, 14, 15, 1, 2, 16, 17, 18, 19, 20, 21, 22, 23, 24, 25, 26, 27, 33, 34, 35, 36, 37, 38, 39, 40, 41, 42, 43] (by decide +kernel) (by decide +kernel)
set_option maxRecDepth 20000 in
theorem gX6_hasUsualSpan_X6_byMoved : GoodIn wsX6_hasUsualSpan (wsV RX6 60 RX6 yX6_byMoved wsX6_byMoved) := goodIn_app (goodIn_of _ (by decide +kernel)) ggX6_hasUsualSpan_X6_byMoved
theorem dX6_hasUsualSpan_0 : decode cX6_hasUsualSpan 0 = .ok (.aload_n 0, 1) := by decide +kernel
theorem dX6_hasUsualSpan_1 : decode cX6_hasUsualSpan 1 = .ok (.invokevirtual 60, 3) := by decide +kernel
theorem dX6_hasUsualSpan_4 : decode cX6_hasUsualSpan 4 = .ok (.lstore_n 1, 1) := by decide +kernel
theorem dX6_hasUsualSpan_5 : decode cX6_hasUsualSpan 5 = .ok (.lload_n 1, 1) := by decide +kernel
theorem dX6_hasUsualSpan_6 : decode cX6_hasUsualSpan 6 = .ok (.ldc2_w 64, 3) := by decide +kernel
theorem dX6_hasUsualSpan_9 : decode cX6_hasUsualSpan 9 = .ok (.lcmp, 1) := by decide +kernel
theorem dX6_hasUsualSpan_10 : decode cX6_hasUsualSpan 10 = .ok (.ifCond .eq 10, 3) := by decide +kernel
theorem dX6_hasUsualSpan_20 : decode cX6_hasUsualSpan 20 = .ok (.iconst 0, 1) := by decide +kernel
theorem dX6_hasUsualSpan_21 : decode cX6_hasUsualSpan 21 = .ok (.ireturn, 1) := by decide +kernel
theorem dX6_gapOf_0 : decode cX6_gapOf 0 = .ok (.lload_n 1, 1) := by decide +kernel
theorem dX6_gapOf_1 : decode cX6_gapOf 1 = .ok (.aload_n 0, 1) := by decide +kernel
theorem dX6_gapOf_2 : decode cX6_gapOf 2 = .ok (.getfield 24, 3) := by decide +kernel
theorem dX6_gapOf_5 : decode cX6_gapOf 5 = .ok (.lmul, 1) := by decide +kernel
theorem dX6_gapOf_6 : decode cX6_gapOf 6 = .ok (.lload_n 3, 1) := by decide +kernel
theorem dX6_gapOf_7 : decode cX6_gapOf 7 = .ok (.aload_n 0, 1) := by decide +kernel
theorem dX6_gapOf_8 : decode cX6_gapOf 8 = .ok (.getfield 9, 3) := by decide +kernel
theorem dX6_gapOf_11 : decode cX6_gapOf 11 = .ok (.lmul, 1) := by decide +kernel
theorem dX6_gapOf_12 : decode cX6_gapOf 12 = .ok (.lsub, 1) := by decide +kernel
theorem dX6_gapOf_13 : decode cX6_gapOf 13 = .ok (.lreturn, 1) := by decide +kernel
set_option maxRecDepth 20000 in
theorem ggX6_meanGap_X6_hasBoth : GoodIn wsX6_meanGap wsX6_hasBoth := goodIn_r _ [8, 1, 2, 18, 19, 20, 21, 22, 23, 24, 25, 26, 27, 28] (by decide +kernel) (by decide +kernel)
set_option maxRecDepth 20000 in
theorem gX6_meanGap_X6_hasBoth : GoodIn wsX6_meanGap (wsV RX6 54 RX6 yX6_hasBoth wsX6_hasBoth) := goodIn_app (goodIn_of _ (by decide +kernel)) ggX6_meanGap_X6_hasBoth
theorem dX6_meanGap_0 : decode cX6_meanGap 0 = .ok (.aload_n 0, 1) := by decide +kernel
theorem dX6_meanGap_1 : decode cX6_meanGap 1 = .ok (.invokevirtual 54, 3) := by decide +kernel
theorem dX6_meanGap_4 : decode cX6_meanGap 4 = .ok (.ifCond .eq 24, 3) := by decide +kernel
theorem dX6_meanGap_28 : decode cX6_meanGap 28 = .ok (.ldc2_w 64, 3) := by decide +kernel
theorem dX6_meanGap_31 : decode cX6_meanGap 31 = .ok (.lreturn, 1) := by decide +kernel
set_option maxRecDepth 20000 in
theorem ggX6_byMoved_X6_byMovedLess : GoodIn wsX6_byMoved wsX6_byMovedLess := goodIn_r _ [5, 6, 7, 8, 9, 10, 11, 12, 13, 14, 15, 16, 4, 17, 18, 19, 20, 21, 22, 23, 24, 25, 26, 27, 28, 29, 30, 31, 32] (by decide +kernel) (by decide +kernel)
set_option maxRecDepth 20000 in
theorem gX6_byMoved_X6_byMovedLess : GoodIn wsX6_byMoved (wsV RX6 82 RX6 yX6_byMovedLess wsX6_byMovedLess) := goodIn_app (goodIn_of _ (by decide +kernel)) ggX6_byMoved_X6_byMovedLess
theorem dX6_byMoved_0 : decode cX6_byMoved 0 = .ok (.aload_n 0, 1) := by decide +kernel
theorem dX6_byMoved_1 : decode cX6_byMoved 1 = .ok (.lconst 0, 1) := by decide +kernel
theorem dX6_byMoved_2 : decode cX6_byMoved 2 = .ok (.invokevirtual 82, 3) := by decide +kernel
theorem dX6_byMoved_5 : decode cX6_byMoved 5 = .ok (.lreturn, 1) := by decide +kernel
set_option maxRecDepth 20000 in
theorem ggX6_byMovedLess_X6_gapOf : GoodIn wsX6_byMovedLess wsX6_gapOf := goodIn_r _ [13, 8, 7, 18, 19, 20, 21, 22, 23, 24, 25, 26, 27, 28] (by decide +kernel) (by decide +kernel)
set_option maxRecDepth 20000 in
theorem gX6_byMovedLess_X6_gapOf : GoodIn wsX6_byMovedLess (wsV RX6 75 RX6 yX6_gapOf wsX6_gapOf) := goodIn_app (goodIn_of _ (by decide +kernel)) ggX6_byMovedLess_X6_gapOf
set_option maxRecDepth 20000 in
theorem ggX6_byMovedLess_X6_hasBoth : GoodIn wsX6_byMovedLess wsX6_hasBoth := goodIn_r _ [17, 7, 8, 18, 19, 20, 21, 22, 23, 24, 25, 26, 27, 28] (by decide +kernel) (by decide +kernel)
set_option maxRecDepth 20000 in
theorem gX6_byMovedLess_X6_hasBoth : GoodIn wsX6_byMovedLess (wsV RX6 54 RX6 yX6_hasBoth wsX6_hasBoth) := goodIn_app (goodIn_of _ (by decide +kernel)) ggX6_byMovedLess_X6_hasBoth
theorem dX6_byMovedLess_0 : decode cX6_byMovedLess 0 = .ok (.aload_n 0, 1) := by decide +kernel
theorem dX6_byMovedLess_1 : decode cX6_byMovedLess 1 = .ok (.aload_n 0, 1) := by decide +kernel
theorem dX6_byMovedLess_2 : decode cX6_byMovedLess 2 = .ok (.getfield 15, 3) := by decide +kernel
theorem dX6_byMovedLess_5 : decode cX6_byMovedLess 5 = .ok (.aload_n 0, 1) := by decide +kernel
theorem dX6_byMovedLess_6 : decode cX6_byMovedLess 6 = .ok (.getfield 27, 3) := by decide +kernel
theorem dX6_byMovedLess_9 : decode cX6_byMovedLess 9 = .ok (.invokevirtual 75, 3) := by decide +kernel
theorem dX6_byMovedLess_12 : decode cX6_byMovedLess 12 = .ok (.lstore_n 3, 1) := by decide +kernel
theorem dX6_byMovedLess_13 : decode cX6_byMovedLess 13 = .ok (.aload_n 0, 1) := by decide +kernel
theorem dX6_byMovedLess_14 : decode cX6_byMovedLess 14 = .ok (.invokevirtual 54, 3) := by decide +kernel
theorem dX6_byMovedLess_17 : decode cX6_byMovedLess 17 = .ok (.ifCond .eq 9, 3) := by decide +kernel
theorem dX6_byMovedLess_26 : decode cX6_byMovedLess 26 = .ok (.ldc2_w 64, 3) := by decide +kernel
theorem dX6_byMovedLess_29 : decode cX6_byMovedLess 29 = .ok (.lreturn, 1) := by decide +kernel
set_option maxRecDepth 20000 in
theorem ggX6_strength_X6_hasSpan : GoodIn wsX6_strength wsX6_hasSpan := goodIn_r _ [14, 7, 8, 15, 16, 17, 18, 13, 19, 28, 29, 30, 31, 32, 33, 34, 35, 36, 37, 38] (by decide +kernel) (by decide +kernel)
set_option maxRecDepth 20000 in
theorem gX6_strength_X6_hasSpan : GoodIn wsX6_strength (wsV RX6 66 RX6 yX6_hasSpan wsX6_hasSpan) := goodIn_app (goodIn_of _ (by decide +kernel)) ggX6_strength_X6_hasSpan
theorem dX6_strength_0 : decode cX6_strength 0 = .ok (.aload_n 0, 1) := by decide +kernel
theorem dX6_strength_1 : decode cX6_strength 1 = .ok (.invokevirtual 66, 3) := by decide +kernel
theorem dX6_strength_4 : decode cX6_strength 4 = .ok (.ifCond .ne 7, 3) := by decide +kernel
theorem dX6_strength_7 : decode cX6_strength 7 = .ok (.ldc2_w 64, 3) := by decide +kernel
theorem dX6_strength_10 : decode cX6_strength 10 = .ok (.lreturn, 1) := by decide +kernel
theorem dX7_init_0 : decode cX7_init 0 = .ok (.aload_n 0, 1) := by decide +kernel
theorem dX7_init_1 : decode cX7_init 1 = .ok (.invokespecial 3, 3) := by decide +kernel
theorem dX7_init_4 : decode cX7_init 4 = .ok (.aload_n 0, 1) := by decide +kernel
theorem dX7_init_5 : decode cX7_init 5 = .ok (.sipush 600, 3) := by decide +kernel
theorem dX7_init_8 : decode cX7_init 8 = .ok (.newarray .byte, 2) := by decide +kernel
theorem dX7_init_10 : decode cX7_init 10 = .ok (.putfield 9, 3) := by decide +kernel
theorem dX7_init_13 : decode cX7_init 13 = .ok (.aload_n 0, 1) := by decide +kernel
theorem dX7_init_14 : decode cX7_init 14 = .ok (.iconst (-1), 1) := by decide +kernel
theorem dX7_init_15 : decode cX7_init 15 = .ok (.putfield 15, 3) := by decide +kernel
theorem dX7_init_18 : decode cX7_init 18 = .ok (.return_, 1) := by decide +kernel
theorem dX7_addFour_0 : decode cX7_addFour 0 = .ok (.bipush 24, 2) := by decide +kernel
theorem dX7_addFour_2 : decode cX7_addFour 2 = .ok (.istore_n 2, 1) := by decide +kernel
theorem dX7_addFour_3 : decode cX7_addFour 3 = .ok (.iload_n 2, 1) := by decide +kernel
theorem dX7_addFour_4 : decode cX7_addFour 4 = .ok (.ifCond .lt 42, 3) := by decide +kernel
theorem dX7_addFour_7 : decode cX7_addFour 7 = .ok (.aload_n 0, 1) := by decide +kernel
theorem dX7_addFour_8 : decode cX7_addFour 8 = .ok (.getfield 19, 3) := by decide +kernel
theorem dX7_addFour_11 : decode cX7_addFour 11 = .ok (.sipush 600, 3) := by decide +kernel
theorem dX7_addFour_14 : decode cX7_addFour 14 = .ok (.if_icmp .ge 32, 3) := by decide +kernel
theorem dX7_addFour_17 : decode cX7_addFour 17 = .ok (.aload_n 0, 1) := by decide +kernel
theorem dX7_addFour_18 : decode cX7_addFour 18 = .ok (.getfield 9, 3) := by decide +kernel
theorem dX7_addFour_21 : decode cX7_addFour 21 = .ok (.aload_n 0, 1) := by decide +kernel
theorem dX7_addFour_22 : decode cX7_addFour 22 = .ok (.getfield 19, 3) := by decide +kernel
theorem dX7_addFour_25 : decode cX7_addFour 25 = .ok (.iload_n 1, 1) := by decide +kernel
theorem dX7_addFour_26 : decode cX7_addFour 26 = .ok (.iload_n 2, 1) := by decide +kernel
theorem dX7_addFour_27 : decode cX7_addFour 27 = .ok (.ishr, 1) := by decide +kernel
theorem dX7_addFour_28 : decode cX7_addFour 28 = .ok (.i2b, 1) := by decide +kernel
theorem dX7_addFour_29 : decode cX7_addFour 29 = .ok (.bastore, 1) := by decide +kernel
theorem dX7_addFour_30 : decode cX7_addFour 30 = .ok (.aload_n 0, 1) := by decide +kernel
theorem dX7_addFour_31 : decode cX7_addFour 31 = .ok (.dup, 1) := by decide +kernel
theorem dX7_addFour_32 : decode cX7_addFour 32 = .ok (.getfield 19, 3) := by decide +kernel
theorem dX7_addFour_35 : decode cX7_addFour 35 = .ok (.iconst 1, 1) := by decide +kernel
theorem dX7_addFour_36 : decode cX7_addFour 36 = .ok (.iadd, 1) := by decide +kernel
theorem dX7_addFour_37 : decode cX7_addFour 37 = .ok (.putfield 19, 3) := by decide +kernel
theorem dX7_addFour_40 : decode cX7_addFour 40 = .ok (.iinc 2 (-8), 3) := by decide +kernel
theorem dX7_addFour_43 : decode cX7_addFour 43 = .ok (.goto (-40), 3) := by decide +kernel
theorem dX7_addFour_46 : decode cX7_addFour 46 = .ok (.return_, 1) := by decide +kernel
set_option maxRecDepth 20000 in
theorem ggX7_readInto_X3_clear : GoodIn wsX7_readInto wsX3_clear := goodIn_r _ [10, 11, 12, 13, 14, 15, 16, 17, 18, 19, 20, 21, 22, 196, 197, 198, 199, 200, 201, 202, 203, 204, 205, 206, 207, 208, 209, 210, 211] (by decide +kernel) (by decide +kernel)
set_option maxRecDepth 20000 in
theorem gX7_readInto_X3_clear : GoodIn wsX7_readInto (wsV RX7 28 RX3 yX3_clear wsX3_clear) := goodIn_app (goodIn_of _ (by decide +kernel)) ggX7_readInto_X3_clear
set_option maxRecDepth 20000 in
theorem ggX7_readInto_X7_step : GoodIn wsX7_readInto wsX7_step := goodIn_r _ [27, 3, 28, 29, 30, 31, 4, 32, 33, 34, 35, 36, 37, 38, 26, 39, 40, 41, 42, 188, 189, 190, 191, 192, 193, 194, 195] (by decide +kernel) (by decide +kernel)
set_option maxRecDepth 20000 in
theorem gX7_readInto_X7_step : GoodIn wsX7_readInto (wsV RX7 33 RX7 yX7_step wsX7_step) := goodIn_app (goodIn_of _ (by decide +kernel)) ggX7_readInto_X7_step
theorem dX7_readInto_0 : decode cX7_readInto 0 = .ok (.aload_n 0, 1) := by decide +kernel
theorem dX7_readInto_1 : decode cX7_readInto 1 = .ok (.iconst 0, 1) := by decide +kernel
theorem dX7_readInto_2 : decode cX7_readInto 2 = .ok (.putfield 22, 3) := by decide +kernel
theorem dX7_readInto_5 : decode cX7_readInto 5 = .ok (.aload_n 0, 1) := by decide +kernel
theorem dX7_readInto_6 : decode cX7_readInto 6 = .ok (.iconst (-1), 1) := by decide +kernel
theorem dX7_readInto_7 : decode cX7_readInto 7 = .ok (.putfield 15, 3) := by decide +kernel
theorem dX7_readInto_10 : decode cX7_readInto 10 = .ok (.aload_n 0, 1) := by decide +kernel
theorem dX7_readInto_11 : decode cX7_readInto 11 = .ok (.iconst 0, 1) := by decide +kernel
theorem dX7_readInto_12 : decode cX7_readInto 12 = .ok (.putfield 25, 3) := by decide +kernel
theorem dX7_readInto_15 : decode cX7_readInto 15 = .ok (.aload_n 1, 1) := by decide +kernel
theorem dX7_readInto_16 : decode cX7_readInto 16 = .ok (.invokevirtual 28, 3) := by decide +kernel
theorem dX7_readInto_19 : decode cX7_readInto 19 = .ok (.aload_n 0, 1) := by decide +kernel
theorem dX7_readInto_20 : decode cX7_readInto 20 = .ok (.invokevirtual 33, 3) := by decide +kernel
theorem dX7_readInto_23 : decode cX7_readInto 23 = .ok (.iconst 0, 1) := by decide +kernel
theorem dX7_readInto_24 : decode cX7_readInto 24 = .ok (.istore_n 2, 1) := by decide +kernel
theorem dX7_readInto_25 : decode cX7_readInto 25 = .ok (.iload_n 2, 1) := by decide +kernel
theorem dX7_readInto_26 : decode cX7_readInto 26 = .ok (.sipush 600, 3) := by decide +kernel
theorem dX7_readInto_29 : decode cX7_readInto 29 = .ok (.if_icmp .ge 38, 3) := by decide +kernel
theorem dX7_readInto_32 : decode cX7_readInto 32 = .ok (.aload_n 0, 1) := by decide +kernel
theorem dX7_readInto_33 : decode cX7_readInto 33 = .ok (.getfield 36, 3) := by decide +kernel
theorem dX7_readInto_36 : decode cX7_readInto 36 = .ok (.ifCond .eq 31, 3) := by decide +kernel
theorem dX7_readInto_67 : decode cX7_readInto 67 = .ok (.return_, 1) := by decide +kernel
theorem dX7_step_0 : decode cX7_step 0 = .ok (.aload_n 0, 1) := by decide +kernel
theorem dX7_step_1 : decode cX7_step 1 = .ok (.getfield 25, 3) := by decide +kernel
theorem dX7_step_4 : decode cX7_step 4 = .ok (.aload_n 0, 1) := by decide +kernel
theorem dX7_step_5 : decode cX7_step 5 = .ok (.getfield 19, 3) := by decide +kernel
theorem dX7_step_8 : decode cX7_step 8 = .ok (.if_icmp .ge 44, 3) := by decide +kernel
theorem dX7_step_52 : decode cX7_step 52 = .ok (.aload_n 0, 1) := by decide +kernel
theorem dX7_step_53 : decode cX7_step 53 = .ok (.aload_n 0, 1) := by decide +kernel
theorem dX7_step_54 : decode cX7_step 54 = .ok (.getfield 25, 3) := by decide +kernel
theorem dX7_step_57 : decode cX7_step 57 = .ok (.putfield 170, 3) := by decide +kernel
theorem dX7_step_60 : decode cX7_step 60 = .ok (.aload_n 0, 1) := by decide +kernel
theorem dX7_step_61 : decode cX7_step 61 = .ok (.iconst 0, 1) := by decide +kernel
theorem dX7_step_62 : decode cX7_step 62 = .ok (.putfield 116, 3) := by decide +kernel
theorem dX7_step_65 : decode cX7_step 65 = .ok (.aload_n 0, 1) := by decide +kernel
theorem dX7_step_66 : decode cX7_step 66 = .ok (.getfield 25, 3) := by decide +kernel
theorem dX7_step_69 : decode cX7_step 69 = .ok (.aload_n 0, 1) := by decide +kernel
theorem dX7_step_70 : decode cX7_step 70 = .ok (.getfield 19, 3) := by decide +kernel
theorem dX7_step_73 : decode cX7_step 73 = .ok (.if_icmp .lt 11, 3) := by decide +kernel
theorem dX7_step_76 : decode cX7_step 76 = .ok (.aload_n 0, 1) := by decide +kernel
theorem dX7_step_77 : decode cX7_step 77 = .ok (.iconst 0, 1) := by decide +kernel
theorem dX7_step_78 : decode cX7_step 78 = .ok (.putfield 36, 3) := by decide +kernel
theorem dX7_step_81 : decode cX7_step 81 = .ok (.goto 183, 3) := by decide +kernel
theorem dX7_step_264 : decode cX7_step 264 = .ok (.return_, 1) := by decide +kernel
set_option maxRecDepth 20000 in
theorem ggX8_init_X7_init : GoodIn wsX8_init wsX7_init := goodIn_r _ [37, 38, 2, 3, 39, 40, 41, 87, 88, 89, 90, 91, 92, 93, 94] (by decide +kernel) (by decide +kernel)
set_option maxRecDepth 20000 in
theorem gX8_init_X7_init_n9 : GoodIn wsX8_init (wsX7_init) := ggX8_init_X7_init
set_option maxRecDepth 20000 in
theorem ggX8_init_X3_init : GoodIn wsX8_init wsX3_init := goodIn_r _ [44, 45, 2, 3, 46, 47, 48, 49, 50, 51, 52, 53, 54, 55, 56, 57, 58, 59, 105, 106, 107, 108, 109, 110, 111, 112, 113, 114, 115, 116, 117, 118, 119, 120] (by decide +kernel) (by decide +kernel)
set_option maxRecDepth 20000 in
theorem gX8_init_X3_init : GoodIn wsX8_init (wsX3_init) := ggX8_init_X3_init
set_option maxRecDepth 20000 in
theorem ggX8_init_X5_init : GoodIn wsX8_init wsX5_init := goodIn_r _ [61, 62, 2, 3, 46, 63, 64, 65, 66, 67, 68, 121, 122, 123, 124, 125, 126, 127] (by decide +kernel) (by decide +kernel)
set_option maxRecDepth 20000 in
theorem gX8_init_X5_init_n28 : GoodIn wsX8_init (wsX5_init) := ggX8_init_X5_init
set_option maxRecDepth 20000 in
theorem ggX8_init_X0_init : GoodIn wsX8_init wsX0_init := goodIn_r _ [70, 71, 2, 3] (by decide +kernel) (by decide +kernel)
set_option maxRecDepth 20000 in
theorem gX8_init_X0_init_n38 : GoodIn wsX8_init (wsX0_init) := ggX8_init_X0_init
set_option maxRecDepth 20000 in
theorem ggX8_init_X6_init : GoodIn wsX8_init wsX6_init := goodIn_r _ [73, 74, 2, 3] (by decide +kernel) (by decide +kernel)
set_option maxRecDepth 20000 in
theorem gX8_init_X6_init_n45 : GoodIn wsX8_init (wsX6_init) := ggX8_init_X6_init
set_option maxRecDepth 20000 in
theorem ggX8_init_X1_init : GoodIn wsX8_init wsX1_init := goodIn_r _ [76, 77, 2, 3, 78, 79, 80, 81, 140, 141, 142] (by decide +kernel) (by decide +kernel)
set_option maxRecDepth 20000 in
theorem gX8_init_X1_init_n52 : GoodIn wsX8_init (wsX1_init) := ggX8_init_X1_init
set_option maxRecDepth 20000 in
theorem ggX8_init_X4_init : GoodIn wsX8_init wsX4_init := goodIn_r _ [83, 84, 2, 3, 85, 78, 86, 143, 144, 145] (by decide +kernel) (by decide +kernel)
set_option maxRecDepth 20000 in
theorem gX8_init_X4_init_n69 : GoodIn wsX8_init (wsX4_init) := ggX8_init_X4_init
theorem dX8_init_0 : decode cX8_init 0 = .ok (.aload_n 0, 1) := by decide +kernel
theorem dX8_init_1 : decode cX8_init 1 = .ok (.invokespecial 1, 3) := by decide +kernel
theorem dX8_init_4 : decode cX8_init 4 = .ok (.aload_n 0, 1) := by decide +kernel
theorem dX8_init_5 : decode cX8_init 5 = .ok (.new 7, 3) := by decide +kernel
theorem dX8_init_8 : decode cX8_init 8 = .ok (.dup, 1) := by decide +kernel
theorem dX8_init_9 : decode cX8_init 9 = .ok (.invokespecial 9, 3) := by decide +kernel
theorem dX8_init_12 : decode cX8_init 12 = .ok (.putfield 10, 3) := by decide +kernel
theorem dX8_init_15 : decode cX8_init 15 = .ok (.aload_n 0, 1) := by decide +kernel
theorem dX8_init_16 : decode cX8_init 16 = .ok (.new 16, 3) := by decide +kernel
theorem dX8_init_19 : decode cX8_init 19 = .ok (.dup, 1) := by decide +kernel
theorem dX8_init_20 : decode cX8_init 20 = .ok (.invokespecial 18, 3) := by decide +kernel
theorem dX8_init_23 : decode cX8_init 23 = .ok (.putfield 19, 3) := by decide +kernel
theorem dX8_init_26 : decode cX8_init 26 = .ok (.aload_n 0, 1) := by decide +kernel
theorem dX8_init_27 : decode cX8_init 27 = .ok (.new 16, 3) := by decide +kernel
theorem dX8_init_30 : decode cX8_init 30 = .ok (.dup, 1) := by decide +kernel
theorem dX8_init_31 : decode cX8_init 31 = .ok (.invokespecial 18, 3) := by decide +kernel
theorem dX8_init_34 : decode cX8_init 34 = .ok (.putfield 23, 3) := by decide +kernel
theorem dX8_init_37 : decode cX8_init 37 = .ok (.aload_n 0, 1) := by decide +kernel
theorem dX8_init_38 : decode cX8_init 38 = .ok (.new 26, 3) := by decide +kernel
theorem dX8_init_41 : decode cX8_init 41 = .ok (.dup, 1) := by decide +kernel
theorem dX8_init_42 : decode cX8_init 42 = .ok (.invokespecial 28, 3) := by decide +kernel
theorem dX8_init_45 : decode cX8_init 45 = .ok (.putfield 29, 3) := by decide +kernel
theorem dX8_init_48 : decode cX8_init 48 = .ok (.aload_n 0, 1) := by decide +kernel
theorem dX8_init_49 : decode cX8_init 49 = .ok (.new 26, 3) := by decide +kernel
theorem dX8_init_52 : decode cX8_init 52 = .ok (.dup, 1) := by decide +kernel
theorem dX8_init_53 : decode cX8_init 53 = .ok (.invokespecial 28, 3) := by decide +kernel
theorem dX8_init_56 : decode cX8_init 56 = .ok (.putfield 33, 3) := by decide +kernel
theorem dX8_init_59 : decode cX8_init 59 = .ok (.aload_n 0, 1) := by decide +kernel
theorem dX8_init_60 : decode cX8_init 60 = .ok (.new 36, 3) := by decide +kernel
theorem dX8_init_63 : decode cX8_init 63 = .ok (.dup, 1) := by decide +kernel
theorem dX8_init_64 : decode cX8_init 64 = .ok (.invokespecial 38, 3) := by decide +kernel
theorem dX8_init_67 : decode cX8_init 67 = .ok (.putfield 39, 3) := by decide +kernel
theorem dX8_init_70 : decode cX8_init 70 = .ok (.aload_n 0, 1) := by decide +kernel
theorem dX8_init_71 : decode cX8_init 71 = .ok (.new 43, 3) := by decide +kernel
theorem dX8_init_74 : decode cX8_init 74 = .ok (.dup, 1) := by decide +kernel
theorem dX8_init_75 : decode cX8_init 75 = .ok (.invokespecial 45, 3) := by decide +kernel
theorem dX8_init_78 : decode cX8_init 78 = .ok (.putfield 46, 3) := by decide +kernel
theorem dX8_init_81 : decode cX8_init 81 = .ok (.aload_n 0, 1) := by decide +kernel
theorem dX8_init_82 : decode cX8_init 82 = .ok (.new 50, 3) := by decide +kernel
theorem dX8_init_85 : decode cX8_init 85 = .ok (.dup, 1) := by decide +kernel
theorem dX8_init_86 : decode cX8_init 86 = .ok (.invokespecial 52, 3) := by decide +kernel
theorem dX8_init_89 : decode cX8_init 89 = .ok (.putfield 53, 3) := by decide +kernel
theorem dX8_init_92 : decode cX8_init 92 = .ok (.aload_n 0, 1) := by decide +kernel
theorem dX8_init_93 : decode cX8_init 93 = .ok (.iconst 3, 1) := by decide +kernel
theorem dX8_init_94 : decode cX8_init 94 = .ok (.anewarray 57, 3) := by decide +kernel
theorem dX8_init_97 : decode cX8_init 97 = .ok (.putfield 59, 3) := by decide +kernel
theorem dX8_init_100 : decode cX8_init 100 = .ok (.aload_n 0, 1) := by decide +kernel
theorem dX8_init_101 : decode cX8_init 101 = .ok (.iconst 4, 1) := by decide +kernel
theorem dX8_init_102 : decode cX8_init 102 = .ok (.anewarray 63, 3) := by decide +kernel
theorem dX8_init_105 : decode cX8_init 105 = .ok (.putfield 65, 3) := by decide +kernel
theorem dX8_init_108 : decode cX8_init 108 = .ok (.iconst 0, 1) := by decide +kernel
theorem dX8_init_109 : decode cX8_init 109 = .ok (.istore_n 1, 1) := by decide +kernel
theorem dX8_init_110 : decode cX8_init 110 = .ok (.iload_n 1, 1) := by decide +kernel
theorem dX8_init_111 : decode cX8_init 111 = .ok (.iconst 4, 1) := by decide +kernel
theorem dX8_init_112 : decode cX8_init 112 = .ok (.if_icmp .ge 22, 3) := by decide +kernel
theorem dX8_init_115 : decode cX8_init 115 = .ok (.aload_n 0, 1) := by decide +kernel
theorem dX8_init_116 : decode cX8_init 116 = .ok (.getfield 65, 3) := by decide +kernel
theorem dX8_init_119 : decode cX8_init 119 = .ok (.iload_n 1, 1) := by decide +kernel
theorem dX8_init_120 : decode cX8_init 120 = .ok (.new 63, 3) := by decide +kernel
theorem dX8_init_123 : decode cX8_init 123 = .ok (.dup, 1) := by decide +kernel
theorem dX8_init_124 : decode cX8_init 124 = .ok (.invokespecial 69, 3) := by decide +kernel
theorem dX8_init_127 : decode cX8_init 127 = .ok (.aastore, 1) := by decide +kernel
theorem dX8_init_128 : decode cX8_init 128 = .ok (.iinc 1 1, 3) := by decide +kernel
theorem dX8_init_131 : decode cX8_init 131 = .ok (.goto (-21), 3) := by decide +kernel
theorem dX8_init_134 : decode cX8_init 134 = .ok (.return_, 1) := by decide +kernel
set_option maxRecDepth 20000 in
theorem ggX8_feed_X7_addFour : GoodIn wsX8_feed wsX7_addFour := goodIn_r _ [7, 8, 9, 20, 21, 22, 23, 24, 25, 26, 27] (by decide +kernel) (by decide +kernel)
set_option maxRecDepth 20000 in
theorem gX8_feed_X7_addFour : GoodIn wsX8_feed (wsV RX8 74 RX7 yX7_addFour wsX7_addFour) := goodIn_app (goodIn_of _ (by decide +kernel)) ggX8_feed_X7_addFour
theorem dX8_feed_0 : decode cX8_feed 0 = .ok (.aload_n 0, 1) := by decide +kernel
theorem dX8_feed_1 : decode cX8_feed 1 = .ok (.getfield 10, 3) := by decide +kernel
theorem dX8_feed_4 : decode cX8_feed 4 = .ok (.getfield 70, 3) := by decide +kernel
theorem dX8_feed_7 : decode cX8_feed 7 = .ok (.bipush 20, 2) := by decide +kernel
theorem dX8_feed_9 : decode cX8_feed 9 = .ok (.iadd, 1) := by decide +kernel
theorem dX8_feed_10 : decode cX8_feed 10 = .ok (.sipush 600, 3) := by decide +kernel
theorem dX8_feed_13 : decode cX8_feed 13 = .ok (.if_icmp .le 5, 3) := by decide +kernel
theorem dX8_feed_18 : decode cX8_feed 18 = .ok (.aload_n 0, 1) := by decide +kernel
theorem dX8_feed_19 : decode cX8_feed 19 = .ok (.getfield 10, 3) := by decide +kernel
theorem dX8_feed_22 : decode cX8_feed 22 = .ok (.iload_n 1, 1) := by decide +kernel
theorem dX8_feed_23 : decode cX8_feed 23 = .ok (.invokevirtual 74, 3) := by decide +kernel
theorem dX8_feed_26 : decode cX8_feed 26 = .ok (.aload_n 0, 1) := by decide +kernel
theorem dX8_feed_27 : decode cX8_feed 27 = .ok (.getfield 10, 3) := by decide +kernel
theorem dX8_feed_30 : decode cX8_feed 30 = .ok (.iload_n 2, 1) := by decide +kernel
theorem dX8_feed_31 : decode cX8_feed 31 = .ok (.invokevirtual 74, 3) := by decide +kernel
theorem dX8_feed_34 : decode cX8_feed 34 = .ok (.aload_n 0, 1) := by decide +kernel
theorem dX8_feed_35 : decode cX8_feed 35 = .ok (.getfield 10, 3) := by decide +kernel
theorem dX8_feed_38 : decode cX8_feed 38 = .ok (.iload_n 3, 1) := by decide +kernel
theorem dX8_feed_39 : decode cX8_feed 39 = .ok (.invokevirtual 74, 3) := by decide +kernel
theorem dX8_feed_42 : decode cX8_feed 42 = .ok (.aload_n 0, 1) := by decide +kernel
theorem dX8_feed_43 : decode cX8_feed 43 = .ok (.getfield 10, 3) := by decide +kernel
theorem dX8_feed_46 : decode cX8_feed 46 = .ok (.iload 4, 2) := by decide +kernel
theorem dX8_feed_48 : decode cX8_feed 48 = .ok (.invokevirtual 74, 3) := by decide +kernel
theorem dX8_feed_51 : decode cX8_feed 51 = .ok (.aload_n 0, 1) := by decide +kernel
theorem dX8_feed_52 : decode cX8_feed 52 = .ok (.getfield 10, 3) := by decide +kernel
theorem dX8_feed_55 : decode cX8_feed 55 = .ok (.iload 5, 2) := by decide +kernel
theorem dX8_feed_57 : decode cX8_feed 57 = .ok (.invokevirtual 74, 3) := by decide +kernel
theorem dX8_feed_60 : decode cX8_feed 60 = .ok (.aload_n 0, 1) := by decide +kernel
theorem dX8_feed_61 : decode cX8_feed 61 = .ok (.getfield 10, 3) := by decide +kernel
theorem dX8_feed_64 : decode cX8_feed 64 = .ok (.getfield 70, 3) := by decide +kernel
theorem dX8_feed_67 : decode cX8_feed 67 = .ok (.ireturn, 1) := by decide +kernel
theorem dX8_end_0 : decode cX8_end 0 = .ok (.iload_n 1, 1) := by decide +kernel
theorem dX8_end_1 : decode cX8_end 1 = .ok (.ifCond .lt 14, 3) := by decide +kernel
theorem dX8_end_4 : decode cX8_end 4 = .ok (.iload_n 1, 1) := by decide +kernel
theorem dX8_end_5 : decode cX8_end 5 = .ok (.aload_n 0, 1) := by decide +kernel
theorem dX8_end_6 : decode cX8_end 6 = .ok (.getfield 10, 3) := by decide +kernel
theorem dX8_end_9 : decode cX8_end 9 = .ok (.getfield 70, 3) := by decide +kernel
theorem dX8_end_12 : decode cX8_end 12 = .ok (.if_icmp .le 5, 3) := by decide +kernel
theorem dX8_end_15 : decode cX8_end 15 = .ok (.iconst (-1), 1) := by decide +kernel
theorem dX8_end_16 : decode cX8_end 16 = .ok (.ireturn, 1) := by decide +kernel
theorem dX8_end_17 : decode cX8_end 17 = .ok (.aload_n 0, 1) := by decide +kernel
theorem dX8_end_18 : decode cX8_end 18 = .ok (.getfield 10, 3) := by decide +kernel
theorem dX8_end_21 : decode cX8_end 21 = .ok (.iload_n 1, 1) := by decide +kernel
theorem dX8_end_22 : decode cX8_end 22 = .ok (.putfield 70, 3) := by decide +kernel
theorem dX8_end_25 : decode cX8_end 25 = .ok (.iload_n 1, 1) := by decide +kernel
theorem dX8_end_26 : decode cX8_end 26 = .ok (.ireturn, 1) := by decide +kernel
set_option maxRecDepth 20000 in
theorem ggX8_land_X7_readInto : GoodIn wsX8_land wsX7_readInto := goodIn_r _ [11, 12, 13, 14, 15, 16, 17, 18, 19, 20, 21, 22, 23, 24, 25, 26, 27, 28, 29, 30, 31, 32, 33, 34, 35, 36, 10, 37, 38, 39, 40, 41, 42, 43, 44, 45, 46, 47, 48, 49, 50, 51, 52, 53, 54, 55, 56, 57, 58, 59, 60, 61, 62, 63, 64, 65, 66, 67, 68, 69, 70, 71, 72, 73, 74, 75, 76, 77, 78, 79, 80, 81, 82, 83, 84, 85, 86, 87, 88, 89, 90, 91, 92, 93, 94, 95, 96, 97, 98, 99, 100, 101, 102, 103, 104, 105, 106, 107, 108, 109, 110, 111, 112, 113, 114, 115, 116, 117, 118, 119, 120, 121, 122, 123, 124, 125, 126, 127, 128, 129, 130, 131, 132, 133, 134, 135, 136, 137, 138, 139, 140, 141, 142, 143, 144, 145, 146, 147, 148, 149, 150, 151, 152, 153, 154, 155, 156, 157, 158, 159, 160, 161, 162, 163, 164, 165, 166, 167, 168, 169, 170, 171, 172, 173, 174, 175, 176, 177, 178, 179, 180, 181, 182, 183, 184, 185, 186, 187, 188, 189, 190, 191, 192, 193, 194, 195, 196, 197, 208, 209, 210, 211, 212, 213, 214, 215, 216, 217, 218, 219, 220, 221, 222, 223, 224, 225, 226, 227, 228, 229, 230, 231] (by decide +kernel) (by decide +kernel)
set_option maxRecDepth 20000 in
theorem gX8_land_X7_readInto : GoodIn wsX8_land (wsV RX8 78 RX7 yX7_readInto wsX7_readInto) := goodIn_app (goodIn_of _ (by decide +kernel)) ggX8_land_X7_readInto
theorem dX8_land_0 : decode cX8_land 0 = .ok (.aload_n 0, 1) := by decide +kernel
theorem dX8_land_1 : decode cX8_land 1 = .ok (.getfield 10, 3) := by decide +kernel
theorem dX8_land_4 : decode cX8_land 4 = .ok (.aload_n 0, 1) := by decide +kernel
theorem dX8_land_5 : decode cX8_land 5 = .ok (.getfield 23, 3) := by decide +kernel
theorem dX8_land_8 : decode cX8_land 8 = .ok (.invokevirtual 78, 3) := by decide +kernel
theorem dX8_land_11 : decode cX8_land 11 = .ok (.aload_n 0, 1) := by decide +kernel
theorem dX8_land_12 : decode cX8_land 12 = .ok (.getfield 10, 3) := by decide +kernel
theorem dX8_land_15 : decode cX8_land 15 = .ok (.getfield 82, 3) := by decide +kernel
theorem dX8_land_18 : decode cX8_land 18 = .ok (.ifCond .eq 6, 3) := by decide +kernel
theorem dX8_land_24 : decode cX8_land 24 = .ok (.aload_n 0, 1) := by decide +kernel
theorem dX8_land_25 : decode cX8_land 25 = .ok (.getfield 10, 3) := by decide +kernel
theorem dX8_land_28 : decode cX8_land 28 = .ok (.iconst 0, 1) := by decide +kernel
theorem dX8_land_29 : decode cX8_land 29 = .ok (.putfield 70, 3) := by decide +kernel
theorem dX8_land_32 : decode cX8_land 32 = .ok (.aload_n 0, 1) := by decide +kernel
theorem dX8_land_33 : decode cX8_land 33 = .ok (.getfield 19, 3) := by decide +kernel
theorem dX8_land_36 : decode cX8_land 36 = .ok (.astore_n 1, 1) := by decide +kernel
theorem dX8_land_37 : decode cX8_land 37 = .ok (.aload_n 0, 1) := by decide +kernel
theorem dX8_land_38 : decode cX8_land 38 = .ok (.aload_n 0, 1) := by decide +kernel
theorem dX8_land_39 : decode cX8_land 39 = .ok (.getfield 23, 3) := by decide +kernel
theorem dX8_land_42 : decode cX8_land 42 = .ok (.putfield 19, 3) := by decide +kernel
theorem dX8_land_45 : decode cX8_land 45 = .ok (.aload_n 0, 1) := by decide +kernel
theorem dX8_land_46 : decode cX8_land 46 = .ok (.aload_n 1, 1) := by decide +kernel
theorem dX8_land_47 : decode cX8_land 47 = .ok (.putfield 23, 3) := by decide +kernel
theorem dX8_land_50 : decode cX8_land 50 = .ok (.aload_n 0, 1) := by decide +kernel
theorem dX8_land_51 : decode cX8_land 51 = .ok (.getfield 19, 3) := by decide +kernel
theorem dX8_land_54 : decode cX8_land 54 = .ok (.getfield 85, 3) := by decide +kernel
theorem dX8_land_57 : decode cX8_land 57 = .ok (.ireturn, 1) := by decide +kernel
theorem dX8_fault_0 : decode cX8_fault 0 = .ok (.iload_n 1, 1) := by decide +kernel
theorem dX8_fault_1 : decode cX8_fault 1 = .ok (.ifCond .ne 11, 3) := by decide +kernel
theorem dX8_fault_4 : decode cX8_fault 4 = .ok (.aload_n 0, 1) := by decide +kernel
theorem dX8_fault_5 : decode cX8_fault 5 = .ok (.getfield 10, 3) := by decide +kernel
theorem dX8_fault_8 : decode cX8_fault 8 = .ok (.getfield 82, 3) := by decide +kernel
theorem dX8_fault_11 : decode cX8_fault 11 = .ok (.ireturn, 1) := by decide +kernel
theorem dX8_fault_12 : decode cX8_fault 12 = .ok (.iload_n 1, 1) := by decide +kernel
theorem dX8_fault_13 : decode cX8_fault 13 = .ok (.iconst 1, 1) := by decide +kernel
theorem dX8_fault_14 : decode cX8_fault 14 = .ok (.if_icmp .ne 13, 3) := by decide +kernel
theorem dX8_fault_17 : decode cX8_fault 17 = .ok (.aload_n 0, 1) := by decide +kernel
theorem dX8_fault_18 : decode cX8_fault 18 = .ok (.getfield 10, 3) := by decide +kernel
theorem dX8_fault_21 : decode cX8_fault 21 = .ok (.getfield 88, 3) := by decide +kernel
theorem dX8_fault_24 : decode cX8_fault 24 = .ok (.goto 4, 3) := by decide +kernel
theorem dX8_fault_27 : decode cX8_fault 27 = .ok (.iconst (-1), 1) := by decide +kernel
theorem dX8_fault_28 : decode cX8_fault 28 = .ok (.ireturn, 1) := by decide +kernel
set_option maxRecDepth 20000 in
theorem ggX8_forced_X3_hasState : GoodIn wsX8_forced wsX3_hasState := goodIn_r _ [6, 7, 35, 36, 37, 38, 39, 40, 41, 42, 43, 44, 45, 46, 47, 48, 49, 50] (by decide +kernel) (by decide +kernel)
set_option maxRecDepth 20000 in
theorem gX8_forced_X3_hasState : GoodIn wsX8_forced (wsV RX8 91 RX3 yX3_hasState wsX3_hasState) := goodIn_app (goodIn_of _ (by decide +kernel)) ggX8_forced_X3_hasState
theorem dX8_forced_0 : decode cX8_forced 0 = .ok (.aload_n 0, 1) := by decide +kernel
theorem dX8_forced_1 : decode cX8_forced 1 = .ok (.getfield 19, 3) := by decide +kernel
theorem dX8_forced_4 : decode cX8_forced 4 = .ok (.iload_n 1, 1) := by decide +kernel
theorem dX8_forced_5 : decode cX8_forced 5 = .ok (.invokevirtual 91, 3) := by decide +kernel
theorem dX8_forced_8 : decode cX8_forced 8 = .ok (.ifCond .eq 10, 3) := by decide +kernel
theorem dX8_forced_18 : decode cX8_forced 18 = .ok (.bipush (-2), 2) := by decide +kernel
theorem dX8_forced_20 : decode cX8_forced 20 = .ok (.ireturn, 1) := by decide +kernel
set_option maxRecDepth 20000 in
theorem ggX8_old_X3_hasState : GoodIn wsX8_old wsX3_hasState := goodIn_r _ [6, 7, 30, 31, 32, 33, 34, 35, 36, 37, 38, 39, 40, 41, 42, 43, 44, 45] (by decide +kernel) (by decide +kernel)
set_option maxRecDepth 20000 in
theorem gX8_old_X3_hasState : GoodIn wsX8_old (wsV RX8 91 RX3 yX3_hasState wsX3_hasState) := goodIn_app (goodIn_of _ (by decide +kernel)) ggX8_old_X3_hasState
theorem dX8_old_0 : decode cX8_old 0 = .ok (.aload_n 0, 1) := by decide +kernel
theorem dX8_old_1 : decode cX8_old 1 = .ok (.getfield 19, 3) := by decide +kernel
theorem dX8_old_4 : decode cX8_old 4 = .ok (.iload_n 1, 1) := by decide +kernel
theorem dX8_old_5 : decode cX8_old 5 = .ok (.invokevirtual 91, 3) := by decide +kernel
theorem dX8_old_8 : decode cX8_old 8 = .ok (.ifCond .eq 10, 3) := by decide +kernel
theorem dX8_old_18 : decode cX8_old 18 = .ok (.bipush (-2), 2) := by decide +kernel
theorem dX8_old_20 : decode cX8_old 20 = .ok (.ireturn, 1) := by decide +kernel
set_option maxRecDepth 20000 in
theorem ggX8_wage_X8_within : GoodIn wsX8_wage wsX8_within := goodIn_r _ [5] (by decide +kernel) (by decide +kernel)
set_option maxRecDepth 20000 in
theorem gX8_wage_X8_within : GoodIn wsX8_wage (va_wsS RX8 105 yX8_within wsX8_within) := goodIn_app (goodIn_of _ (by decide +kernel)) ggX8_wage_X8_within
set_option maxRecDepth 20000 in
theorem ggX8_wage_X8_isMonth : GoodIn wsX8_wage wsX8_isMonth := goodIn_r _ [8, 2, 3, 4, 5] (by decide +kernel) (by decide +kernel)
set_option maxRecDepth 20000 in
theorem gX8_wage_X8_isMonth : GoodIn wsX8_wage (va_wsS RX8 95 yX8_isMonth wsX8_isMonth) := goodIn_app (goodIn_of _ (by decide +kernel)) ggX8_wage_X8_isMonth
set_option maxRecDepth 20000 in
theorem ggX8_wage_X3_hasState : GoodIn wsX8_wage wsX3_hasState := goodIn_r _ [13, 14, 61, 62, 63, 64, 65, 66, 67, 68, 69, 70, 71, 72, 73, 74, 75, 76] (by decide +kernel) (by decide +kernel)
set_option maxRecDepth 20000 in
theorem gX8_wage_X3_hasState : GoodIn wsX8_wage (wsV RX8 91 RX3 yX3_hasState wsX3_hasState) := goodIn_app (goodIn_of _ (by decide +kernel)) ggX8_wage_X3_hasState
theorem dX8_wage_0 : decode cX8_wage 0 = .ok (.iload_n 1, 1) := by decide +kernel
theorem dX8_wage_1 : decode cX8_wage 1 = .ok (.iconst 0, 1) := by decide +kernel
theorem dX8_wage_2 : decode cX8_wage 2 = .ok (.sipush 300, 3) := by decide +kernel
theorem dX8_wage_5 : decode cX8_wage 5 = .ok (.invokestatic 105, 3) := by decide +kernel
theorem dX8_wage_8 : decode cX8_wage 8 = .ok (.ifCond .eq 14, 3) := by decide +kernel
theorem dX8_wage_11 : decode cX8_wage 11 = .ok (.iload_n 2, 1) := by decide +kernel
theorem dX8_wage_12 : decode cX8_wage 12 = .ok (.iconst 0, 1) := by decide +kernel
theorem dX8_wage_13 : decode cX8_wage 13 = .ok (.sipush 999, 3) := by decide +kernel
theorem dX8_wage_16 : decode cX8_wage 16 = .ok (.invokestatic 105, 3) := by decide +kernel
theorem dX8_wage_19 : decode cX8_wage 19 = .ok (.ifCond .ne 6, 3) := by decide +kernel
theorem dX8_wage_22 : decode cX8_wage 22 = .ok (.bipush (-2), 2) := by decide +kernel
theorem dX8_wage_24 : decode cX8_wage 24 = .ok (.ireturn, 1) := by decide +kernel
theorem dX8_wage_25 : decode cX8_wage 25 = .ok (.iload_n 3, 1) := by decide +kernel
theorem dX8_wage_26 : decode cX8_wage 26 = .ok (.invokestatic 95, 3) := by decide +kernel
theorem dX8_wage_29 : decode cX8_wage 29 = .ok (.ifCond .eq 15, 3) := by decide +kernel
theorem dX8_wage_32 : decode cX8_wage 32 = .ok (.aload_n 0, 1) := by decide +kernel
theorem dX8_wage_33 : decode cX8_wage 33 = .ok (.getfield 19, 3) := by decide +kernel
theorem dX8_wage_36 : decode cX8_wage 36 = .ok (.iload 4, 2) := by decide +kernel
theorem dX8_wage_38 : decode cX8_wage 38 = .ok (.invokevirtual 91, 3) := by decide +kernel
theorem dX8_wage_41 : decode cX8_wage 41 = .ok (.ifCond .ne 6, 3) := by decide +kernel
theorem dX8_wage_44 : decode cX8_wage 44 = .ok (.bipush (-2), 2) := by decide +kernel
theorem dX8_wage_46 : decode cX8_wage 46 = .ok (.ireturn, 1) := by decide +kernel
set_option maxRecDepth 20000 in
theorem ggX8_draw_X8_isSeed : GoodIn wsX8_draw wsX8_isSeed := goodIn_r _ [6, 7, 8, 9, 5, 10] (by decide +kernel) (by decide +kernel)
set_option maxRecDepth 20000 in
theorem gX8_draw_X8_isSeed : GoodIn wsX8_draw (va_wsS RX8 113 yX8_isSeed wsX8_isSeed) := goodIn_app (goodIn_of _ (by decide +kernel)) ggX8_draw_X8_isSeed
set_option maxRecDepth 20000 in
theorem ggX8_draw_X8_within : GoodIn wsX8_draw wsX8_within := goodIn_r _ [10] (by decide +kernel) (by decide +kernel)
set_option maxRecDepth 20000 in
theorem gX8_draw_X8_within : GoodIn wsX8_draw (va_wsS RX8 105 yX8_within wsX8_within) := goodIn_app (goodIn_of _ (by decide +kernel)) ggX8_draw_X8_within
set_option maxRecDepth 20000 in
theorem ggX8_draw_X3_canBeDrawnFrom : GoodIn wsX8_draw wsX3_canBeDrawnFrom := goodIn_r _ [15, 16, 17, 130, 131, 132, 133, 134, 135, 136, 137, 138, 139, 140, 141, 142, 143, 144, 145] (by decide +kernel) (by decide +kernel)
set_option maxRecDepth 20000 in
theorem gX8_draw_X3_canBeDrawnFrom : GoodIn wsX8_draw (wsV RX8 116 RX3 yX3_canBeDrawnFrom wsX3_canBeDrawnFrom) := goodIn_app (goodIn_of _ (by decide +kernel)) ggX8_draw_X3_canBeDrawnFrom
theorem dX8_draw_0 : decode cX8_draw 0 = .ok (.iload_n 1, 1) := by decide +kernel
theorem dX8_draw_1 : decode cX8_draw 1 = .ok (.invokestatic 113, 3) := by decide +kernel
theorem dX8_draw_4 : decode cX8_draw 4 = .ok (.ifCond .eq 14, 3) := by decide +kernel
theorem dX8_draw_7 : decode cX8_draw 7 = .ok (.iload_n 2, 1) := by decide +kernel
theorem dX8_draw_8 : decode cX8_draw 8 = .ok (.iconst 1, 1) := by decide +kernel
theorem dX8_draw_9 : decode cX8_draw 9 = .ok (.sipush 200, 3) := by decide +kernel
theorem dX8_draw_12 : decode cX8_draw 12 = .ok (.invokestatic 105, 3) := by decide +kernel
theorem dX8_draw_15 : decode cX8_draw 15 = .ok (.ifCond .ne 6, 3) := by decide +kernel
theorem dX8_draw_18 : decode cX8_draw 18 = .ok (.bipush (-2), 2) := by decide +kernel
theorem dX8_draw_20 : decode cX8_draw 20 = .ok (.ireturn, 1) := by decide +kernel
theorem dX8_draw_21 : decode cX8_draw 21 = .ok (.aload_n 0, 1) := by decide +kernel
theorem dX8_draw_22 : decode cX8_draw 22 = .ok (.getfield 19, 3) := by decide +kernel
theorem dX8_draw_25 : decode cX8_draw 25 = .ok (.invokevirtual 116, 3) := by decide +kernel
theorem dX8_draw_28 : decode cX8_draw 28 = .ok (.ifCond .ne 6, 3) := by decide +kernel
theorem dX8_draw_31 : decode cX8_draw 31 = .ok (.bipush (-6), 2) := by decide +kernel
theorem dX8_draw_33 : decode cX8_draw 33 = .ok (.ireturn, 1) := by decide +kernel
set_option maxRecDepth 20000 in
theorem ggX8_sheet_X8_tellSheet : GoodIn wsX8_sheet wsX8_tellSheet := goodIn_r _ [5, 6, 7, 8, 9, 10, 11, 12, 13, 14, 15, 16, 17, 18, 19, 20, 21, 22, 23, 24, 25, 26, 27, 28, 29, 30, 31, 32, 33, 34, 35, 36, 37, 38, 39, 40, 41, 42, 43, 44, 45, 46, 47, 48, 49, 50, 51, 52, 53, 54, 55, 56, 57] (by decide +kernel) (by decide +kernel)
set_option maxRecDepth 20000 in
theorem gX8_sheet_X8_tellSheet : GoodIn wsX8_sheet (wsV RX8 179 RX8 yX8_tellSheet wsX8_tellSheet) := goodIn_app (goodIn_of _ (by decide +kernel)) ggX8_sheet_X8_tellSheet
theorem dX8_sheet_0 : decode cX8_sheet 0 = .ok (.aload_n 0, 1) := by decide +kernel
theorem dX8_sheet_1 : decode cX8_sheet 1 = .ok (.iload_n 1, 1) := by decide +kernel
theorem dX8_sheet_2 : decode cX8_sheet 2 = .ok (.i2l, 1) := by decide +kernel
theorem dX8_sheet_3 : decode cX8_sheet 3 = .ok (.iload_n 2, 1) := by decide +kernel
theorem dX8_sheet_4 : decode cX8_sheet 4 = .ok (.i2l, 1) := by decide +kernel
theorem dX8_sheet_5 : decode cX8_sheet 5 = .ok (.iload_n 3, 1) := by decide +kernel
theorem dX8_sheet_6 : decode cX8_sheet 6 = .ok (.i2l, 1) := by decide +kernel
theorem dX8_sheet_7 : decode cX8_sheet 7 = .ok (.iload 4, 2) := by decide +kernel
theorem dX8_sheet_9 : decode cX8_sheet 9 = .ok (.i2l, 1) := by decide +kernel
theorem dX8_sheet_10 : decode cX8_sheet 10 = .ok (.invokevirtual 179, 3) := by decide +kernel
theorem dX8_sheet_13 : decode cX8_sheet 13 = .ok (.ireturn, 1) := by decide +kernel
theorem dX8_tellSheet_0 : decode cX8_tellSheet 0 = .ok (.lload_n 1, 1) := by decide +kernel
theorem dX8_tellSheet_1 : decode cX8_tellSheet 1 = .ok (.lconst 0, 1) := by decide +kernel
theorem dX8_tellSheet_2 : decode cX8_tellSheet 2 = .ok (.lcmp, 1) := by decide +kernel
theorem dX8_tellSheet_3 : decode cX8_tellSheet 3 = .ok (.ifCond .lt 30, 3) := by decide +kernel
theorem dX8_tellSheet_6 : decode cX8_tellSheet 6 = .ok (.lload_n 1, 1) := by decide +kernel
theorem dX8_tellSheet_7 : decode cX8_tellSheet 7 = .ok (.aload_n 0, 1) := by decide +kernel
theorem dX8_tellSheet_8 : decode cX8_tellSheet 8 = .ok (.getfield 19, 3) := by decide +kernel
theorem dX8_tellSheet_11 : decode cX8_tellSheet 11 = .ok (.getfield 134, 3) := by decide +kernel
theorem dX8_tellSheet_14 : decode cX8_tellSheet 14 = .ok (.i2l, 1) := by decide +kernel
theorem dX8_tellSheet_15 : decode cX8_tellSheet 15 = .ok (.lcmp, 1) := by decide +kernel
theorem dX8_tellSheet_16 : decode cX8_tellSheet 16 = .ok (.ifCond .ge 17, 3) := by decide +kernel
theorem dX8_tellSheet_33 : decode cX8_tellSheet 33 = .ok (.bipush (-2), 2) := by decide +kernel
theorem dX8_tellSheet_35 : decode cX8_tellSheet 35 = .ok (.ireturn, 1) := by decide +kernel
set_option maxRecDepth 20000 in
theorem ggX8_told_X5_has : GoodIn wsX8_told wsX5_has := goodIn_r _ [12, 13, 24, 25, 26, 27, 28, 29, 30] (by decide +kernel) (by decide +kernel)
set_option maxRecDepth 20000 in
theorem gX8_told_X5_has : GoodIn wsX8_told (wsV RX8 189 RX5 yX5_has wsX5_has) := goodIn_app (goodIn_of _ (by decide +kernel)) ggX8_told_X5_has
theorem dX8_told_0 : decode cX8_told 0 = .ok (.aload_n 0, 1) := by decide +kernel
theorem dX8_told_1 : decode cX8_told 1 = .ok (.getfield 29, 3) := by decide +kernel
theorem dX8_told_4 : decode cX8_told 4 = .ok (.iload_n 1, 1) := by decide +kernel
theorem dX8_told_5 : decode cX8_told 5 = .ok (.invokevirtual 189, 3) := by decide +kernel
theorem dX8_told_8 : decode cX8_told 8 = .ok (.ifCond .ne 5, 3) := by decide +kernel
theorem dX8_told_11 : decode cX8_told 11 = .ok (.iconst (-1), 1) := by decide +kernel
theorem dX8_told_12 : decode cX8_told 12 = .ok (.ireturn, 1) := by decide +kernel
set_option maxRecDepth 20000 in
theorem ggX8_would_X8_isPlaced : GoodIn wsX8_would wsX8_isPlaced := goodIn_r _ [13, 2, 3, 14, 15, 16, 17, 18, 19, 20, 21, 22, 23, 24, 25, 42, 43, 44, 45, 46, 47, 48, 49, 50, 51, 52, 53, 54, 55, 56, 57, 58, 59, 60, 61, 62, 63, 64, 65, 66, 67, 68, 69, 70, 71, 72, 73, 74] (by decide +kernel) (by decide +kernel)
set_option maxRecDepth 20000 in
theorem gX8_would_X8_isPlaced : GoodIn wsX8_would (wsV RX8 206 RX8 yX8_isPlaced wsX8_isPlaced) := goodIn_app (goodIn_of _ (by decide +kernel)) ggX8_would_X8_isPlaced
theorem dX8_would_0 : decode cX8_would 0 = .ok (.aload_n 0, 1) := by decide +kernel
theorem dX8_would_1 : decode cX8_would 1 = .ok (.aload_n 0, 1) := by decide +kernel
theorem dX8_would_2 : decode cX8_would 2 = .ok (.getfield 29, 3) := by decide +kernel
theorem dX8_would_5 : decode cX8_would 5 = .ok (.iload_n 1, 1) := by decide +kernel
theorem dX8_would_6 : decode cX8_would 6 = .ok (.invokevirtual 206, 3) := by decide +kernel
theorem dX8_would_9 : decode cX8_would 9 = .ok (.ifCond .eq 10, 3) := by decide +kernel
theorem dX8_would_19 : decode cX8_would 19 = .ok (.bipush (-2), 2) := by decide +kernel
theorem dX8_would_21 : decode cX8_would 21 = .ok (.ireturn, 1) := by decide +kernel
set_option maxRecDepth 20000 in
theorem ggX8_worth_X8_isPlaced : GoodIn wsX8_worth wsX8_isPlaced := goodIn_r _ [7, 8, 9, 10, 11, 12, 13, 14, 15, 16, 17, 18, 19, 20, 21, 68, 69, 70, 71, 72, 73, 74, 75, 76, 77, 78, 79, 80, 81, 82, 83, 84, 85, 86, 87, 88, 89, 90, 91, 92, 93, 94, 95, 96, 97, 98, 99, 100] (by decide +kernel) (by decide +kernel)
set_option maxRecDepth 20000 in
theorem gX8_worth_X8_isPlaced : GoodIn wsX8_worth (wsV RX8 206 RX8 yX8_isPlaced wsX8_isPlaced) := goodIn_app (goodIn_of _ (by decide +kernel)) ggX8_worth_X8_isPlaced
theorem dX8_worth_0 : decode cX8_worth 0 = .ok (.aload_n 0, 1) := by decide +kernel
theorem dX8_worth_1 : decode cX8_worth 1 = .ok (.aload_n 0, 1) := by decide +kernel
theorem dX8_worth_2 : decode cX8_worth 2 = .ok (.getfield 29, 3) := by decide +kernel
theorem dX8_worth_5 : decode cX8_worth 5 = .ok (.iload_n 1, 1) := by decide +kernel
theorem dX8_worth_6 : decode cX8_worth 6 = .ok (.invokevirtual 206, 3) := by decide +kernel
theorem dX8_worth_9 : decode cX8_worth 9 = .ok (.ifCond .eq 15, 3) := by decide +kernel
theorem dX8_worth_24 : decode cX8_worth 24 = .ok (.ldc 214, 2) := by decide +kernel
theorem dX8_worth_26 : decode cX8_worth 26 = .ok (.ireturn, 1) := by decide +kernel
set_option maxRecDepth 20000 in
theorem ggX8_month_X8_within : GoodIn wsX8_month wsX8_within := goodIn_r _ [7] (by decide +kernel) (by decide +kernel)
set_option maxRecDepth 20000 in
theorem gX8_month_X8_within : GoodIn wsX8_month (va_wsS RX8 105 yX8_within wsX8_within) := goodIn_app (goodIn_of _ (by decide +kernel)) ggX8_month_X8_within
theorem dX8_month_0 : decode cX8_month 0 = .ok (.iload_n 1, 1) := by decide +kernel
theorem dX8_month_1 : decode cX8_month 1 = .ok (.iconst 0, 1) := by decide +kernel
theorem dX8_month_2 : decode cX8_month 2 = .ok (.bipush 12, 2) := by decide +kernel
theorem dX8_month_4 : decode cX8_month 4 = .ok (.invokestatic 105, 3) := by decide +kernel
theorem dX8_month_7 : decode cX8_month 7 = .ok (.ifCond .eq 12, 3) := by decide +kernel
theorem dX8_month_10 : decode cX8_month 10 = .ok (.iload_n 2, 1) := by decide +kernel
theorem dX8_month_11 : decode cX8_month 11 = .ok (.iconst 0, 1) := by decide +kernel
theorem dX8_month_12 : decode cX8_month 12 = .ok (.iconst 3, 1) := by decide +kernel
theorem dX8_month_13 : decode cX8_month 13 = .ok (.invokestatic 105, 3) := by decide +kernel
theorem dX8_month_16 : decode cX8_month 16 = .ok (.ifCond .ne 5, 3) := by decide +kernel
theorem dX8_month_19 : decode cX8_month 19 = .ok (.iconst (-1), 1) := by decide +kernel
theorem dX8_month_20 : decode cX8_month 20 = .ok (.ireturn, 1) := by decide +kernel
theorem dX8_month_21 : decode cX8_month 21 = .ok (.iconst 0, 1) := by decide +kernel
theorem dX8_month_22 : decode cX8_month 22 = .ok (.istore_n 3, 1) := by decide +kernel
theorem dX8_month_23 : decode cX8_month 23 = .ok (.iconst 0, 1) := by decide +kernel
theorem dX8_month_24 : decode cX8_month 24 = .ok (.istore 4, 2) := by decide +kernel
theorem dX8_month_26 : decode cX8_month 26 = .ok (.iload 4, 2) := by decide +kernel
theorem dX8_month_28 : decode cX8_month 28 = .ok (.aload_n 0, 1) := by decide +kernel
theorem dX8_month_29 : decode cX8_month 29 = .ok (.getfield 29, 3) := by decide +kernel
theorem dX8_month_32 : decode cX8_month 32 = .ok (.getfield 127, 3) := by decide +kernel
theorem dX8_month_35 : decode cX8_month 35 = .ok (.if_icmp .ge 37, 3) := by decide +kernel
theorem dX8_month_72 : decode cX8_month 72 = .ok (.iload_n 3, 1) := by decide +kernel
theorem dX8_month_73 : decode cX8_month 73 = .ok (.ireturn, 1) := by decide +kernel
set_option maxRecDepth 20000 in
theorem ggX8_plain_X8_plainOf : GoodIn wsX8_plain wsX8_plainOf := goodIn_r _ [5, 6, 7, 8, 9, 10, 11, 12, 13, 14, 15, 16, 17, 18, 19, 20, 21, 22, 23, 24, 25, 26, 27, 28, 29, 30, 31, 32, 33, 34, 35, 36, 37, 38, 4, 39, 40, 41, 46, 47, 48, 49, 50, 51, 52, 53, 54, 55, 56, 57, 58, 59, 60, 61, 62, 63, 64, 65, 66, 67, 68, 69, 70, 71, 72, 73] (by decide +kernel) (by decide +kernel)
set_option maxRecDepth 20000 in
theorem gX8_plain_X8_plainOf : GoodIn wsX8_plain (wsV RX8 221 RX8 yX8_plainOf wsX8_plainOf) := goodIn_app (goodIn_of _ (by decide +kernel)) ggX8_plain_X8_plainOf
set_option maxRecDepth 20000 in
theorem ggX8_plain_X8_toFace : GoodIn wsX8_plain wsX8_toFace := goodIn_r _ [44, 40, 45] (by decide +kernel) (by decide +kernel)
set_option maxRecDepth 20000 in
theorem gX8_plain_X8_toFace : GoodIn wsX8_plain (va_wsS RX8 225 yX8_toFace wsX8_toFace) := goodIn_app (goodIn_of _ (by decide +kernel)) ggX8_plain_X8_toFace
theorem dX8_plain_0 : decode cX8_plain 0 = .ok (.aload_n 0, 1) := by decide +kernel
theorem dX8_plain_1 : decode cX8_plain 1 = .ok (.invokevirtual 221, 3) := by decide +kernel
theorem dX8_plain_4 : decode cX8_plain 4 = .ok (.invokestatic 225, 3) := by decide +kernel
theorem dX8_plain_7 : decode cX8_plain 7 = .ok (.lreturn, 1) := by decide +kernel
set_option maxRecDepth 20000 in
theorem ggX8_plainOf_X6_clear : GoodIn wsX8_plainOf wsX6_clear := goodIn_r _ [13, 14, 15, 16, 17, 18, 19, 20, 21, 22, 23, 24, 55, 56, 57, 58, 59, 60, 61, 62, 63, 64, 65] (by decide +kernel) (by decide +kernel)
set_option maxRecDepth 20000 in
theorem gX8_plainOf_X6_clear : GoodIn wsX8_plainOf (wsV RX8 229 RX6 yX6_clear wsX6_clear) := goodIn_app (goodIn_of _ (by decide +kernel)) ggX8_plainOf_X6_clear
set_option maxRecDepth 20000 in
theorem ggX8_plainOf_X8_thousandths : GoodIn wsX8_plainOf wsX8_thousandths := goodIn_r _ [35, 36, 37] (by decide +kernel) (by decide +kernel)
set_option maxRecDepth 20000 in
theorem gX8_plainOf_X8_thousandths : GoodIn wsX8_plainOf (va_wsS RX8 249 yX8_thousandths wsX8_thousandths) := goodIn_app (goodIn_of _ (by decide +kernel)) ggX8_plainOf_X8_thousandths
theorem dX8_plainOf_0 : decode cX8_plainOf 0 = .ok (.aload_n 0, 1) := by decide +kernel
theorem dX8_plainOf_1 : decode cX8_plainOf 1 = .ok (.getfield 46, 3) := by decide +kernel
theorem dX8_plainOf_4 : decode cX8_plainOf 4 = .ok (.invokevirtual 229, 3) := by decide +kernel
theorem dX8_plainOf_7 : decode cX8_plainOf 7 = .ok (.iconst 0, 1) := by decide +kernel
theorem dX8_plainOf_8 : decode cX8_plainOf 8 = .ok (.istore_n 1, 1) := by decide +kernel
theorem dX8_plainOf_9 : decode cX8_plainOf 9 = .ok (.iload_n 1, 1) := by decide +kernel
theorem dX8_plainOf_10 : decode cX8_plainOf 10 = .ok (.aload_n 0, 1) := by decide +kernel
theorem dX8_plainOf_11 : decode cX8_plainOf 11 = .ok (.getfield 29, 3) := by decide +kernel
theorem dX8_plainOf_14 : decode cX8_plainOf 14 = .ok (.getfield 127, 3) := by decide +kernel
theorem dX8_plainOf_17 : decode cX8_plainOf 17 = .ok (.if_icmp .ge 22, 3) := by decide +kernel
theorem dX8_plainOf_39 : decode cX8_plainOf 39 = .ok (.aload_n 0, 1) := by decide +kernel
theorem dX8_plainOf_40 : decode cX8_plainOf 40 = .ok (.getfield 46, 3) := by decide +kernel
theorem dX8_plainOf_43 : decode cX8_plainOf 43 = .ok (.getfield 236, 3) := by decide +kernel
theorem dX8_plainOf_46 : decode cX8_plainOf 46 = .ok (.lstore_n 1, 1) := by decide +kernel
theorem dX8_plainOf_47 : decode cX8_plainOf 47 = .ok (.lload_n 1, 1) := by decide +kernel
theorem dX8_plainOf_48 : decode cX8_plainOf 48 = .ok (.aload_n 0, 1) := by decide +kernel
theorem dX8_plainOf_49 : decode cX8_plainOf 49 = .ok (.getfield 46, 3) := by decide +kernel
theorem dX8_plainOf_52 : decode cX8_plainOf 52 = .ok (.getfield 239, 3) := by decide +kernel
theorem dX8_plainOf_55 : decode cX8_plainOf 55 = .ok (.lmul, 1) := by decide +kernel
theorem dX8_plainOf_56 : decode cX8_plainOf 56 = .ok (.aload_n 0, 1) := by decide +kernel
theorem dX8_plainOf_57 : decode cX8_plainOf 57 = .ok (.getfield 46, 3) := by decide +kernel
theorem dX8_plainOf_60 : decode cX8_plainOf 60 = .ok (.getfield 242, 3) := by decide +kernel
theorem dX8_plainOf_63 : decode cX8_plainOf 63 = .ok (.aload_n 0, 1) := by decide +kernel
theorem dX8_plainOf_64 : decode cX8_plainOf 64 = .ok (.getfield 46, 3) := by decide +kernel
theorem dX8_plainOf_67 : decode cX8_plainOf 67 = .ok (.getfield 244, 3) := by decide +kernel
theorem dX8_plainOf_70 : decode cX8_plainOf 70 = .ok (.lmul, 1) := by decide +kernel
theorem dX8_plainOf_71 : decode cX8_plainOf 71 = .ok (.lsub, 1) := by decide +kernel
theorem dX8_plainOf_72 : decode cX8_plainOf 72 = .ok (.lstore_n 3, 1) := by decide +kernel
theorem dX8_plainOf_73 : decode cX8_plainOf 73 = .ok (.lload_n 1, 1) := by decide +kernel
theorem dX8_plainOf_74 : decode cX8_plainOf 74 = .ok (.aload_n 0, 1) := by decide +kernel
theorem dX8_plainOf_75 : decode cX8_plainOf 75 = .ok (.getfield 46, 3) := by decide +kernel
theorem dX8_plainOf_78 : decode cX8_plainOf 78 = .ok (.getfield 246, 3) := by decide +kernel
theorem dX8_plainOf_81 : decode cX8_plainOf 81 = .ok (.lmul, 1) := by decide +kernel
theorem dX8_plainOf_82 : decode cX8_plainOf 82 = .ok (.aload_n 0, 1) := by decide +kernel
theorem dX8_plainOf_83 : decode cX8_plainOf 83 = .ok (.getfield 46, 3) := by decide +kernel
theorem dX8_plainOf_86 : decode cX8_plainOf 86 = .ok (.getfield 242, 3) := by decide +kernel
theorem dX8_plainOf_89 : decode cX8_plainOf 89 = .ok (.aload_n 0, 1) := by decide +kernel
theorem dX8_plainOf_90 : decode cX8_plainOf 90 = .ok (.getfield 46, 3) := by decide +kernel
theorem dX8_plainOf_93 : decode cX8_plainOf 93 = .ok (.getfield 242, 3) := by decide +kernel
theorem dX8_plainOf_96 : decode cX8_plainOf 96 = .ok (.lmul, 1) := by decide +kernel
theorem dX8_plainOf_97 : decode cX8_plainOf 97 = .ok (.lsub, 1) := by decide +kernel
theorem dX8_plainOf_98 : decode cX8_plainOf 98 = .ok (.lstore 5, 2) := by decide +kernel
theorem dX8_plainOf_100 : decode cX8_plainOf 100 = .ok (.lload_n 3, 1) := by decide +kernel
theorem dX8_plainOf_101 : decode cX8_plainOf 101 = .ok (.lload 5, 2) := by decide +kernel
theorem dX8_plainOf_103 : decode cX8_plainOf 103 = .ok (.invokestatic 249, 3) := by decide +kernel
theorem dX8_plainOf_106 : decode cX8_plainOf 106 = .ok (.lreturn, 1) := by decide +kernel
set_option maxRecDepth 20000 in
theorem ggX8_by_X8_divided : GoodIn wsX8_by wsX8_divided := goodIn_r _ [6, 7, 8, 9, 10, 11, 12, 13, 14, 15, 16, 17, 18, 19, 20, 21, 22, 23, 24, 25, 26, 27, 5, 28, 29, 30, 31, 32, 33, 34, 35, 36, 37, 38, 39, 40, 41, 65, 66, 67, 68, 69, 70, 71, 72, 73, 74, 75, 76, 77, 78, 79, 80, 81, 82, 83, 84, 85, 86, 87, 88, 89, 90, 91, 92] (by decide +kernel) (by decide +kernel)
set_option maxRecDepth 20000 in
theorem gX8_by_X8_divided : GoodIn wsX8_by (wsV RX8 253 RX8 yX8_divided wsX8_divided) := goodIn_app (goodIn_of _ (by decide +kernel)) ggX8_by_X8_divided
set_option maxRecDepth 20000 in
theorem ggX8_by_X6_byMoved : GoodIn wsX8_by wsX6_byMoved := goodIn_r _ [45, 46, 47, 48, 13, 49, 16, 20, 50, 51, 17, 21, 15, 19, 52, 53, 54, 55, 56, 57, 58, 59, 82, 83, 84, 85, 86, 87, 88, 89, 90, 91, 92] (by decide +kernel) (by decide +kernel)
set_option maxRecDepth 20000 in
theorem gX8_by_X6_byMoved : GoodIn wsX8_by (wsV RX8 257 RX6 yX6_byMoved wsX6_byMoved) := goodIn_app (goodIn_of _ (by decide +kernel)) ggX8_by_X6_byMoved
set_option maxRecDepth 20000 in
theorem ggX8_by_X8_toFace : GoodIn wsX8_by wsX8_toFace := goodIn_r _ [62, 63, 64] (by decide +kernel) (by decide +kernel)
set_option maxRecDepth 20000 in
theorem gX8_by_X8_toFace : GoodIn wsX8_by (va_wsS RX8 225 yX8_toFace wsX8_toFace) := goodIn_app (goodIn_of _ (by decide +kernel)) ggX8_by_X8_toFace
theorem dX8_by_0 : decode cX8_by 0 = .ok (.aload_n 0, 1) := by decide +kernel
theorem dX8_by_1 : decode cX8_by 1 = .ok (.aload_n 0, 1) := by decide +kernel
theorem dX8_by_2 : decode cX8_by 2 = .ok (.getfield 29, 3) := by decide +kernel
theorem dX8_by_5 : decode cX8_by 5 = .ok (.iload_n 1, 1) := by decide +kernel
theorem dX8_by_6 : decode cX8_by 6 = .ok (.invokevirtual 253, 3) := by decide +kernel
theorem dX8_by_9 : decode cX8_by 9 = .ok (.invokevirtual 257, 3) := by decide +kernel
theorem dX8_by_12 : decode cX8_by 12 = .ok (.invokestatic 225, 3) := by decide +kernel
theorem dX8_by_15 : decode cX8_by 15 = .ok (.lreturn, 1) := by decide +kernel
set_option maxRecDepth 20000 in
theorem ggX8_many_X8_manyOf : GoodIn wsX8_many wsX8_manyOf := goodIn_r _ [5, 6, 7, 8, 9, 10, 11, 12, 13, 14, 15, 16, 17, 18, 19, 20, 21, 22, 23, 24, 25, 26, 27, 28, 29, 4, 30, 31, 32, 37, 38, 39, 40, 41, 42, 43, 44, 45, 46, 47, 48, 49, 50, 51, 52, 53, 54, 55, 56] (by decide +kernel) (by decide +kernel)
set_option maxRecDepth 20000 in
theorem gX8_many_X8_manyOf : GoodIn wsX8_many (wsV RX8 260 RX8 yX8_manyOf wsX8_manyOf) := goodIn_app (goodIn_of _ (by decide +kernel)) ggX8_many_X8_manyOf
set_option maxRecDepth 20000 in
theorem ggX8_many_X8_toFace : GoodIn wsX8_many wsX8_toFace := goodIn_r _ [35, 31, 36] (by decide +kernel) (by decide +kernel)
set_option maxRecDepth 20000 in
theorem gX8_many_X8_toFace : GoodIn wsX8_many (va_wsS RX8 225 yX8_toFace wsX8_toFace) := goodIn_app (goodIn_of _ (by decide +kernel)) ggX8_many_X8_toFace
theorem dX8_many_0 : decode cX8_many 0 = .ok (.aload_n 0, 1) := by decide +kernel
theorem dX8_many_1 : decode cX8_many 1 = .ok (.invokevirtual 260, 3) := by decide +kernel
theorem dX8_many_4 : decode cX8_many 4 = .ok (.invokestatic 225, 3) := by decide +kernel
theorem dX8_many_7 : decode cX8_many 7 = .ok (.lreturn, 1) := by decide +kernel
set_option maxRecDepth 20000 in
theorem ggX8_manyOf_X1_takeAll : GoodIn wsX8_manyOf wsX1_takeAll := goodIn_r _ [7, 8, 9, 10, 11, 12, 13, 14, 15, 16, 17, 18, 19, 39, 40, 41, 42, 43, 44, 45, 46, 47, 48] (by decide +kernel) (by decide +kernel)
set_option maxRecDepth 20000 in
theorem gX8_manyOf_X1_takeAll : GoodIn wsX8_manyOf (wsV RX8 263 RX1 yX1_takeAll wsX1_takeAll) := goodIn_app (goodIn_of _ (by decide +kernel)) ggX8_manyOf_X1_takeAll
set_option maxRecDepth 20000 in
theorem ggX8_manyOf_X1_slope : GoodIn wsX8_manyOf wsX1_slope := goodIn_r _ [23, 8, 9, 10, 24, 25, 26, 27, 28, 39, 40, 41] (by decide +kernel) (by decide +kernel)
set_option maxRecDepth 20000 in
theorem gX8_manyOf_X1_slope : GoodIn wsX8_manyOf (wsV RX8 266 RX1 yX1_slope wsX1_slope) := goodIn_app (goodIn_of _ (by decide +kernel)) ggX8_manyOf_X1_slope
theorem dX8_manyOf_0 : decode cX8_manyOf 0 = .ok (.aload_n 0, 1) := by decide +kernel
theorem dX8_manyOf_1 : decode cX8_manyOf 1 = .ok (.getfield 53, 3) := by decide +kernel
theorem dX8_manyOf_4 : decode cX8_manyOf 4 = .ok (.aload_n 0, 1) := by decide +kernel
theorem dX8_manyOf_5 : decode cX8_manyOf 5 = .ok (.getfield 29, 3) := by decide +kernel
theorem dX8_manyOf_8 : decode cX8_manyOf 8 = .ok (.invokevirtual 263, 3) := by decide +kernel
theorem dX8_manyOf_11 : decode cX8_manyOf 11 = .ok (.aload_n 0, 1) := by decide +kernel
theorem dX8_manyOf_12 : decode cX8_manyOf 12 = .ok (.getfield 53, 3) := by decide +kernel
theorem dX8_manyOf_15 : decode cX8_manyOf 15 = .ok (.invokevirtual 266, 3) := by decide +kernel
theorem dX8_manyOf_18 : decode cX8_manyOf 18 = .ok (.lreturn, 1) := by decide +kernel
set_option maxRecDepth 20000 in
theorem ggX8_groups_X1_takeAll : GoodIn wsX8_groups wsX1_takeAll := goodIn_r _ [7, 8, 9, 10, 11, 12, 13, 14, 15, 16, 17, 18, 19, 34, 35, 36, 37, 38, 39, 40, 41, 42, 43] (by decide +kernel) (by decide +kernel)
set_option maxRecDepth 20000 in
theorem gX8_groups_X1_takeAll : GoodIn wsX8_groups (wsV RX8 263 RX1 yX1_takeAll wsX1_takeAll) := goodIn_app (goodIn_of _ (by decide +kernel)) ggX8_groups_X1_takeAll
set_option maxRecDepth 20000 in
theorem ggX8_groups_X1_filled : GoodIn wsX8_groups wsX1_filled := goodIn_r _ [23, 8, 34, 35, 36] (by decide +kernel) (by decide +kernel)
set_option maxRecDepth 20000 in
theorem gX8_groups_X1_filled : GoodIn wsX8_groups (wsV RX8 269 RX1 yX1_filled wsX1_filled) := goodIn_app (goodIn_of _ (by decide +kernel)) ggX8_groups_X1_filled
theorem dX8_groups_0 : decode cX8_groups 0 = .ok (.aload_n 0, 1) := by decide +kernel
theorem dX8_groups_1 : decode cX8_groups 1 = .ok (.getfield 53, 3) := by decide +kernel
theorem dX8_groups_4 : decode cX8_groups 4 = .ok (.aload_n 0, 1) := by decide +kernel
theorem dX8_groups_5 : decode cX8_groups 5 = .ok (.getfield 29, 3) := by decide +kernel
theorem dX8_groups_8 : decode cX8_groups 8 = .ok (.invokevirtual 263, 3) := by decide +kernel
theorem dX8_groups_11 : decode cX8_groups 11 = .ok (.aload_n 0, 1) := by decide +kernel
theorem dX8_groups_12 : decode cX8_groups 12 = .ok (.getfield 53, 3) := by decide +kernel
theorem dX8_groups_15 : decode cX8_groups 15 = .ok (.invokevirtual 269, 3) := by decide +kernel
theorem dX8_groups_18 : decode cX8_groups 18 = .ok (.ireturn, 1) := by decide +kernel
set_option maxRecDepth 20000 in
theorem ggX8_moves_X8_divided : GoodIn wsX8_moves wsX8_divided := goodIn_r _ [8, 9, 10, 11, 12, 13, 14, 15, 16, 17, 18, 19, 20, 21, 22, 23, 24, 25, 26, 27, 28, 29, 7, 30, 31, 32, 33, 34, 35, 36, 37, 38, 39, 40, 41, 42, 43, 65, 66, 67, 68, 69, 70, 71, 72, 73, 74, 86, 87, 88, 89, 90, 91, 92, 75, 76, 77, 78, 79, 80, 81, 82, 83, 84, 85] (by decide +kernel) (by decide +kernel)
set_option maxRecDepth 20000 in
theorem gX8_moves_X8_divided : GoodIn wsX8_moves (wsV RX8 253 RX8 yX8_divided wsX8_divided) := goodIn_app (goodIn_of _ (by decide +kernel)) ggX8_moves_X8_divided
set_option maxRecDepth 20000 in
theorem ggX8_moves_X6_meanGap : GoodIn wsX8_moves wsX6_meanGap := goodIn_r _ [47, 17, 21, 48, 49, 50, 51, 15, 52, 53, 54, 55, 56, 57, 7, 58, 59, 60, 75, 76, 77, 78, 79, 80, 81, 82, 83, 84, 85] (by decide +kernel) (by decide +kernel)
set_option maxRecDepth 20000 in
theorem gX8_moves_X6_meanGap : GoodIn wsX8_moves (wsV RX8 276 RX6 yX6_meanGap wsX6_meanGap) := goodIn_app (goodIn_of _ (by decide +kernel)) ggX8_moves_X6_meanGap
set_option maxRecDepth 20000 in
theorem ggX8_moves_X8_toFace : GoodIn wsX8_moves wsX8_toFace := goodIn_r _ [63, 59, 64] (by decide +kernel) (by decide +kernel)
set_option maxRecDepth 20000 in
theorem gX8_moves_X8_toFace : GoodIn wsX8_moves (va_wsS RX8 225 yX8_toFace wsX8_toFace) := goodIn_app (goodIn_of _ (by decide +kernel)) ggX8_moves_X8_toFace
theorem dX8_moves_0 : decode cX8_moves 0 = .ok (.aload_n 0, 1) := by decide +kernel
theorem dX8_moves_1 : decode cX8_moves 1 = .ok (.aload_n 0, 1) := by decide +kernel
theorem dX8_moves_2 : decode cX8_moves 2 = .ok (.getfield 29, 3) := by decide +kernel
theorem dX8_moves_5 : decode cX8_moves 5 = .ok (.iload_n 1, 1) := by decide +kernel
theorem dX8_moves_6 : decode cX8_moves 6 = .ok (.invokevirtual 253, 3) := by decide +kernel
theorem dX8_moves_9 : decode cX8_moves 9 = .ok (.astore_n 2, 1) := by decide +kernel
theorem dX8_moves_10 : decode cX8_moves 10 = .ok (.aload_n 2, 1) := by decide +kernel
theorem dX8_moves_11 : decode cX8_moves 11 = .ok (.aload_n 2, 1) := by decide +kernel
theorem dX8_moves_12 : decode cX8_moves 12 = .ok (.getfield 242, 3) := by decide +kernel
theorem dX8_moves_15 : decode cX8_moves 15 = .ok (.aload_n 2, 1) := by decide +kernel
theorem dX8_moves_16 : decode cX8_moves 16 = .ok (.getfield 273, 3) := by decide +kernel
theorem dX8_moves_19 : decode cX8_moves 19 = .ok (.invokevirtual 276, 3) := by decide +kernel
theorem dX8_moves_22 : decode cX8_moves 22 = .ok (.invokestatic 225, 3) := by decide +kernel
theorem dX8_moves_25 : decode cX8_moves 25 = .ok (.lreturn, 1) := by decide +kernel
set_option maxRecDepth 20000 in
theorem ggX8_strong_X8_divided : GoodIn wsX8_strong wsX8_divided := goodIn_r _ [6, 7, 8, 9, 10, 11, 12, 13, 14, 15, 16, 17, 18, 19, 20, 21, 22, 23, 24, 25, 26, 27, 5, 28, 29, 30, 31, 32, 33, 34, 35, 36, 37, 38, 39, 40, 41, 72, 73, 74, 75, 76, 77, 78, 79, 80, 81, 82, 83, 84, 85, 86, 87, 88, 89, 90, 91, 92, 93, 94, 95, 96, 97, 98, 99] (by decide +kernel) (by decide +kernel)
set_option maxRecDepth 20000 in
theorem gX8_strong_X8_divided : GoodIn wsX8_strong (wsV RX8 253 RX8 yX8_divided wsX8_divided) := goodIn_app (goodIn_of _ (by decide +kernel)) ggX8_strong_X8_divided
set_option maxRecDepth 20000 in
theorem ggX8_strong_X6_strength : GoodIn wsX8_strong wsX6_strength := goodIn_r _ [45, 46, 16, 20, 23, 47, 48, 15, 19, 49, 50, 51, 52, 13, 53, 54, 55, 56, 57, 58, 59, 60, 61, 62, 63, 64, 65, 66, 89, 90, 91, 92, 93, 94, 95, 96, 97, 98, 99] (by decide +kernel) (by decide +kernel)
set_option maxRecDepth 20000 in
theorem gX8_strong_X6_strength : GoodIn wsX8_strong (wsV RX8 279 RX6 yX6_strength wsX6_strength) := goodIn_app (goodIn_of _ (by decide +kernel)) ggX8_strong_X6_strength
set_option maxRecDepth 20000 in
theorem ggX8_strong_X8_toFace : GoodIn wsX8_strong wsX8_toFace := goodIn_r _ [69, 70, 71] (by decide +kernel) (by decide +kernel)
set_option maxRecDepth 20000 in
theorem gX8_strong_X8_toFace : GoodIn wsX8_strong (va_wsS RX8 225 yX8_toFace wsX8_toFace) := goodIn_app (goodIn_of _ (by decide +kernel)) ggX8_strong_X8_toFace
theorem dX8_strong_0 : decode cX8_strong 0 = .ok (.aload_n 0, 1) := by decide +kernel
theorem dX8_strong_1 : decode cX8_strong 1 = .ok (.aload_n 0, 1) := by decide +kernel
theorem dX8_strong_2 : decode cX8_strong 2 = .ok (.getfield 29, 3) := by decide +kernel
theorem dX8_strong_5 : decode cX8_strong 5 = .ok (.iload_n 1, 1) := by decide +kernel
theorem dX8_strong_6 : decode cX8_strong 6 = .ok (.invokevirtual 253, 3) := by decide +kernel
theorem dX8_strong_9 : decode cX8_strong 9 = .ok (.invokevirtual 279, 3) := by decide +kernel
theorem dX8_strong_12 : decode cX8_strong 12 = .ok (.invokestatic 225, 3) := by decide +kernel
theorem dX8_strong_15 : decode cX8_strong 15 = .ok (.lreturn, 1) := by decide +kernel
set_option maxRecDepth 20000 in
theorem ggX8_strongest_X8_divided : GoodIn wsX8_strongest wsX8_divided := goodIn_r _ [7, 8, 9, 10, 11, 12, 13, 14, 15, 16, 17, 18, 19, 20, 21, 22, 23, 24, 25, 26, 27, 28, 6, 29, 30, 31, 32, 33, 34, 35, 36, 37, 38, 39, 40, 41, 42, 68, 69, 70, 71, 72, 73, 74, 75, 76, 77, 78, 79, 80, 81, 82, 83, 84, 85, 86, 87, 88, 89, 90, 91, 92, 93, 94, 95] (by decide +kernel) (by decide +kernel)
set_option maxRecDepth 20000 in
theorem gX8_strongest_X8_divided : GoodIn wsX8_strongest (wsV RX8 253 RX8 yX8_divided wsX8_divided) := goodIn_app (goodIn_of _ (by decide +kernel)) ggX8_strongest_X8_divided
set_option maxRecDepth 20000 in
theorem ggX8_strongest_X6_strength : GoodIn wsX8_strongest wsX6_strength := goodIn_r _ [46, 47, 17, 21, 24, 48, 49, 16, 20, 50, 51, 52, 53, 14, 54, 55, 56, 57, 58, 59, 60, 61, 62, 63, 64, 65, 66, 67, 85, 86, 87, 88, 89, 90, 91, 92, 93, 94, 95] (by decide +kernel) (by decide +kernel)
set_option maxRecDepth 20000 in
theorem gX8_strongest_X6_strength : GoodIn wsX8_strongest (wsV RX8 279 RX6 yX6_strength wsX6_strength) := goodIn_app (goodIn_of _ (by decide +kernel)) ggX8_strongest_X6_strength
theorem dX8_strongest_0 : decode cX8_strongest 0 = .ok (.iconst (-1), 1) := by decide +kernel
theorem dX8_strongest_1 : decode cX8_strongest 1 = .ok (.istore_n 1, 1) := by decide +kernel
theorem dX8_strongest_2 : decode cX8_strongest 2 = .ok (.ldc2_w 282, 3) := by decide +kernel
theorem dX8_strongest_5 : decode cX8_strongest 5 = .ok (.lstore_n 2, 1) := by decide +kernel
theorem dX8_strongest_6 : decode cX8_strongest 6 = .ok (.iconst 1, 1) := by decide +kernel
theorem dX8_strongest_7 : decode cX8_strongest 7 = .ok (.istore 4, 2) := by decide +kernel
theorem dX8_strongest_9 : decode cX8_strongest 9 = .ok (.iload 4, 2) := by decide +kernel
theorem dX8_strongest_11 : decode cX8_strongest 11 = .ok (.bipush 12, 2) := by decide +kernel
theorem dX8_strongest_13 : decode cX8_strongest 13 = .ok (.if_icmp .gt 41, 3) := by decide +kernel
theorem dX8_strongest_16 : decode cX8_strongest 16 = .ok (.aload_n 0, 1) := by decide +kernel
theorem dX8_strongest_17 : decode cX8_strongest 17 = .ok (.aload_n 0, 1) := by decide +kernel
theorem dX8_strongest_18 : decode cX8_strongest 18 = .ok (.getfield 29, 3) := by decide +kernel
theorem dX8_strongest_21 : decode cX8_strongest 21 = .ok (.iconst 1, 1) := by decide +kernel
theorem dX8_strongest_22 : decode cX8_strongest 22 = .ok (.iload 4, 2) := by decide +kernel
theorem dX8_strongest_24 : decode cX8_strongest 24 = .ok (.iconst 1, 1) := by decide +kernel
theorem dX8_strongest_25 : decode cX8_strongest 25 = .ok (.isub, 1) := by decide +kernel
theorem dX8_strongest_26 : decode cX8_strongest 26 = .ok (.ishl, 1) := by decide +kernel
theorem dX8_strongest_27 : decode cX8_strongest 27 = .ok (.invokevirtual 253, 3) := by decide +kernel
theorem dX8_strongest_30 : decode cX8_strongest 30 = .ok (.invokevirtual 279, 3) := by decide +kernel
theorem dX8_strongest_33 : decode cX8_strongest 33 = .ok (.lstore 5, 2) := by decide +kernel
theorem dX8_strongest_35 : decode cX8_strongest 35 = .ok (.lload 5, 2) := by decide +kernel
theorem dX8_strongest_37 : decode cX8_strongest 37 = .ok (.lload_n 2, 1) := by decide +kernel
theorem dX8_strongest_38 : decode cX8_strongest 38 = .ok (.lcmp, 1) := by decide +kernel
theorem dX8_strongest_39 : decode cX8_strongest 39 = .ok (.ifCond .le 9, 3) := by decide +kernel
theorem dX8_strongest_48 : decode cX8_strongest 48 = .ok (.iinc 4 1, 3) := by decide +kernel
theorem dX8_strongest_51 : decode cX8_strongest 51 = .ok (.goto (-42), 3) := by decide +kernel
theorem dX8_strongest_54 : decode cX8_strongest 54 = .ok (.iload_n 1, 1) := by decide +kernel
theorem dX8_strongest_55 : decode cX8_strongest 55 = .ok (.ireturn, 1) := by decide +kernel
set_option maxRecDepth 20000 in
theorem ggX8_span_X8_within : GoodIn wsX8_span wsX8_within := goodIn_r _ [6] (by decide +kernel) (by decide +kernel)
set_option maxRecDepth 20000 in
theorem gX8_span_X8_within : GoodIn wsX8_span (va_wsS RX8 105 yX8_within wsX8_within) := goodIn_app (goodIn_of _ (by decide +kernel)) ggX8_span_X8_within
set_option maxRecDepth 20000 in
theorem ggX8_span_X8_divided : GoodIn wsX8_span wsX8_divided := goodIn_r _ [10, 11, 12, 13, 14, 15, 16, 17, 18, 19, 20, 21, 22, 23, 24, 25, 26, 27, 28, 29, 30, 31, 5, 32, 3, 4, 6, 33, 34, 35, 36, 37, 38, 39, 40, 41, 42, 100, 101, 102, 103, 104, 105, 106, 107, 108, 109, 110, 111, 112, 113, 114, 115, 116, 117, 118, 119, 120, 121, 122, 123, 124, 125, 126, 127] (by decide +kernel) (by decide +kernel)
set_option maxRecDepth 20000 in
theorem gX8_span_X8_divided : GoodIn wsX8_span (wsV RX8 253 RX8 yX8_divided wsX8_divided) := goodIn_app (goodIn_of _ (by decide +kernel)) ggX8_span_X8_divided
set_option maxRecDepth 20000 in
theorem ggX8_span_X6_hasSpan : GoodIn wsX8_span wsX6_hasSpan := goodIn_r _ [46, 19, 23, 47, 48, 49, 50, 17, 51, 117, 118, 119, 120, 121, 122, 123, 124, 125, 126, 127] (by decide +kernel) (by decide +kernel)
set_option maxRecDepth 20000 in
theorem gX8_span_X6_hasSpan : GoodIn wsX8_span (wsV RX8 284 RX6 yX6_hasSpan wsX6_hasSpan) := goodIn_app (goodIn_of _ (by decide +kernel)) ggX8_span_X6_hasSpan
theorem dX8_span_0 : decode cX8_span 0 = .ok (.iload_n 2, 1) := by decide +kernel
theorem dX8_span_1 : decode cX8_span 1 = .ok (.iconst 1, 1) := by decide +kernel
theorem dX8_span_2 : decode cX8_span 2 = .ok (.bipush 10, 2) := by decide +kernel
theorem dX8_span_4 : decode cX8_span 4 = .ok (.invokestatic 105, 3) := by decide +kernel
theorem dX8_span_7 : decode cX8_span 7 = .ok (.ifCond .eq 12, 3) := by decide +kernel
theorem dX8_span_10 : decode cX8_span 10 = .ok (.iload_n 3, 1) := by decide +kernel
theorem dX8_span_11 : decode cX8_span 11 = .ok (.iconst 0, 1) := by decide +kernel
theorem dX8_span_12 : decode cX8_span 12 = .ok (.iconst 3, 1) := by decide +kernel
theorem dX8_span_13 : decode cX8_span 13 = .ok (.invokestatic 105, 3) := by decide +kernel
theorem dX8_span_16 : decode cX8_span 16 = .ok (.ifCond .ne 6, 3) := by decide +kernel
theorem dX8_span_19 : decode cX8_span 19 = .ok (.ldc 214, 2) := by decide +kernel
theorem dX8_span_21 : decode cX8_span 21 = .ok (.ireturn, 1) := by decide +kernel
theorem dX8_span_22 : decode cX8_span 22 = .ok (.aload_n 0, 1) := by decide +kernel
theorem dX8_span_23 : decode cX8_span 23 = .ok (.aload_n 0, 1) := by decide +kernel
theorem dX8_span_24 : decode cX8_span 24 = .ok (.getfield 29, 3) := by decide +kernel
theorem dX8_span_27 : decode cX8_span 27 = .ok (.iload_n 1, 1) := by decide +kernel
theorem dX8_span_28 : decode cX8_span 28 = .ok (.invokevirtual 253, 3) := by decide +kernel
theorem dX8_span_31 : decode cX8_span 31 = .ok (.astore 4, 2) := by decide +kernel
theorem dX8_span_33 : decode cX8_span 33 = .ok (.aload 4, 2) := by decide +kernel
theorem dX8_span_35 : decode cX8_span 35 = .ok (.invokevirtual 284, 3) := by decide +kernel
theorem dX8_span_38 : decode cX8_span 38 = .ok (.ifCond .eq 13, 3) := by decide +kernel
theorem dX8_span_51 : decode cX8_span 51 = .ok (.ldc 214, 2) := by decide +kernel
theorem dX8_span_53 : decode cX8_span 53 = .ok (.ireturn, 1) := by decide +kernel
set_option maxRecDepth 20000 in
theorem ggX8_usual_X8_within : GoodIn wsX8_usual wsX8_within := goodIn_r _ [6] (by decide +kernel) (by decide +kernel)
set_option maxRecDepth 20000 in
theorem gX8_usual_X8_within : GoodIn wsX8_usual (va_wsS RX8 105 yX8_within wsX8_within) := goodIn_app (goodIn_of _ (by decide +kernel)) ggX8_usual_X8_within
set_option maxRecDepth 20000 in
theorem ggX8_usual_X8_divided : GoodIn wsX8_usual wsX8_divided := goodIn_r _ [10, 11, 12, 13, 14, 15, 16, 17, 18, 19, 20, 21, 22, 23, 24, 25, 26, 27, 28, 29, 30, 31, 5, 32, 3, 4, 6, 33, 34, 35, 36, 37, 38, 39, 40, 41, 42, 106, 107, 108, 109, 110, 111, 112, 113, 114, 115, 116, 117, 118, 119, 120, 121, 122, 123, 124, 125, 126, 127, 128, 129, 130, 131, 132, 133] (by decide +kernel) (by decide +kernel)
set_option maxRecDepth 20000 in
theorem gX8_usual_X8_divided : GoodIn wsX8_usual (wsV RX8 253 RX8 yX8_divided wsX8_divided) := goodIn_app (goodIn_of _ (by decide +kernel)) ggX8_usual_X8_divided
set_option maxRecDepth 20000 in
theorem ggX8_usual_X6_hasUsualSpan : GoodIn wsX8_usual wsX6_hasUsualSpan := goodIn_r _ [46, 47, 48, 49, 50, 51, 52, 53, 17, 54, 55, 56, 57, 58, 20, 24, 21, 25, 19, 23, 59, 60, 61, 62, 63, 64, 65, 66, 67, 68, 69, 70, 71, 123, 124, 125, 126, 127, 128, 129, 130, 131, 132, 133] (by decide +kernel) (by decide +kernel)
set_option maxRecDepth 20000 in
theorem gX8_usual_X6_hasUsualSpan : GoodIn wsX8_usual (wsV RX8 290 RX6 yX6_hasUsualSpan wsX6_hasUsualSpan) := goodIn_app (goodIn_of _ (by decide +kernel)) ggX8_usual_X6_hasUsualSpan
theorem dX8_usual_0 : decode cX8_usual 0 = .ok (.iload_n 2, 1) := by decide +kernel
theorem dX8_usual_1 : decode cX8_usual 1 = .ok (.iconst 1, 1) := by decide +kernel
theorem dX8_usual_2 : decode cX8_usual 2 = .ok (.bipush 10, 2) := by decide +kernel
theorem dX8_usual_4 : decode cX8_usual 4 = .ok (.invokestatic 105, 3) := by decide +kernel
theorem dX8_usual_7 : decode cX8_usual 7 = .ok (.ifCond .eq 12, 3) := by decide +kernel
theorem dX8_usual_10 : decode cX8_usual 10 = .ok (.iload_n 3, 1) := by decide +kernel
theorem dX8_usual_11 : decode cX8_usual 11 = .ok (.iconst 0, 1) := by decide +kernel
theorem dX8_usual_12 : decode cX8_usual 12 = .ok (.iconst 3, 1) := by decide +kernel
theorem dX8_usual_13 : decode cX8_usual 13 = .ok (.invokestatic 105, 3) := by decide +kernel
theorem dX8_usual_16 : decode cX8_usual 16 = .ok (.ifCond .ne 6, 3) := by decide +kernel
theorem dX8_usual_19 : decode cX8_usual 19 = .ok (.ldc 214, 2) := by decide +kernel
theorem dX8_usual_21 : decode cX8_usual 21 = .ok (.ireturn, 1) := by decide +kernel
theorem dX8_usual_22 : decode cX8_usual 22 = .ok (.aload_n 0, 1) := by decide +kernel
theorem dX8_usual_23 : decode cX8_usual 23 = .ok (.aload_n 0, 1) := by decide +kernel
theorem dX8_usual_24 : decode cX8_usual 24 = .ok (.getfield 29, 3) := by decide +kernel
theorem dX8_usual_27 : decode cX8_usual 27 = .ok (.iload_n 1, 1) := by decide +kernel
theorem dX8_usual_28 : decode cX8_usual 28 = .ok (.invokevirtual 253, 3) := by decide +kernel
theorem dX8_usual_31 : decode cX8_usual 31 = .ok (.astore 4, 2) := by decide +kernel
theorem dX8_usual_33 : decode cX8_usual 33 = .ok (.aload 4, 2) := by decide +kernel
theorem dX8_usual_35 : decode cX8_usual 35 = .ok (.invokevirtual 290, 3) := by decide +kernel
theorem dX8_usual_38 : decode cX8_usual 38 = .ok (.ifCond .eq 13, 3) := by decide +kernel
theorem dX8_usual_51 : decode cX8_usual 51 = .ok (.ldc 214, 2) := by decide +kernel
theorem dX8_usual_53 : decode cX8_usual 53 = .ok (.ireturn, 1) := by decide +kernel
set_option maxRecDepth 20000 in
theorem ggX8_kept_X8_within : GoodIn wsX8_kept wsX8_within := goodIn_r _ [5] (by decide +kernel) (by decide +kernel)
set_option maxRecDepth 20000 in
theorem gX8_kept_X8_within : GoodIn wsX8_kept (va_wsS RX8 105 yX8_within wsX8_within) := goodIn_app (goodIn_of _ (by decide +kernel)) ggX8_kept_X8_within
set_option maxRecDepth 20000 in
theorem ggX8_kept_X8_divided : GoodIn wsX8_kept wsX8_divided := goodIn_r _ [9, 10, 11, 12, 13, 14, 15, 16, 17, 18, 19, 20, 21, 22, 23, 24, 25, 26, 27, 28, 29, 30, 4, 31, 2, 3, 5, 32, 33, 34, 35, 36, 37, 38, 39, 40, 41, 76, 77, 78, 79, 80, 81, 82, 83, 84, 85, 86, 87, 88, 89, 90, 91, 92, 93, 94, 95, 96, 97, 98, 99, 100, 101, 102, 103] (by decide +kernel) (by decide +kernel)
set_option maxRecDepth 20000 in
theorem gX8_kept_X8_divided : GoodIn wsX8_kept (wsV RX8 253 RX8 yX8_divided wsX8_divided) := goodIn_app (goodIn_of _ (by decide +kernel)) ggX8_kept_X8_divided
set_option maxRecDepth 20000 in
theorem ggX8_kept_X6_hasSpan : GoodIn wsX8_kept wsX6_hasSpan := goodIn_r _ [45, 18, 22, 46, 47, 48, 49, 16, 50, 93, 94, 95, 96, 97, 98, 99, 100, 101, 102, 103] (by decide +kernel) (by decide +kernel)
set_option maxRecDepth 20000 in
theorem gX8_kept_X6_hasSpan : GoodIn wsX8_kept (wsV RX8 284 RX6 yX6_hasSpan wsX6_hasSpan) := goodIn_app (goodIn_of _ (by decide +kernel)) ggX8_kept_X6_hasSpan
theorem dX8_kept_0 : decode cX8_kept 0 = .ok (.iload_n 2, 1) := by decide +kernel
theorem dX8_kept_1 : decode cX8_kept 1 = .ok (.iconst 1, 1) := by decide +kernel
theorem dX8_kept_2 : decode cX8_kept 2 = .ok (.bipush 10, 2) := by decide +kernel
theorem dX8_kept_4 : decode cX8_kept 4 = .ok (.invokestatic 105, 3) := by decide +kernel
theorem dX8_kept_7 : decode cX8_kept 7 = .ok (.ifCond .eq 14, 3) := by decide +kernel
theorem dX8_kept_10 : decode cX8_kept 10 = .ok (.iload_n 3, 1) := by decide +kernel
theorem dX8_kept_11 : decode cX8_kept 11 = .ok (.bipush (-99), 2) := by decide +kernel
theorem dX8_kept_13 : decode cX8_kept 13 = .ok (.bipush 99, 2) := by decide +kernel
theorem dX8_kept_15 : decode cX8_kept 15 = .ok (.invokestatic 105, 3) := by decide +kernel
theorem dX8_kept_18 : decode cX8_kept 18 = .ok (.ifCond .ne 6, 3) := by decide +kernel
theorem dX8_kept_21 : decode cX8_kept 21 = .ok (.bipush (-2), 2) := by decide +kernel
theorem dX8_kept_23 : decode cX8_kept 23 = .ok (.ireturn, 1) := by decide +kernel
theorem dX8_kept_24 : decode cX8_kept 24 = .ok (.aload_n 0, 1) := by decide +kernel
theorem dX8_kept_25 : decode cX8_kept 25 = .ok (.aload_n 0, 1) := by decide +kernel
theorem dX8_kept_26 : decode cX8_kept 26 = .ok (.getfield 29, 3) := by decide +kernel
theorem dX8_kept_29 : decode cX8_kept 29 = .ok (.iload_n 1, 1) := by decide +kernel
theorem dX8_kept_30 : decode cX8_kept 30 = .ok (.invokevirtual 253, 3) := by decide +kernel
theorem dX8_kept_33 : decode cX8_kept 33 = .ok (.astore 4, 2) := by decide +kernel
theorem dX8_kept_35 : decode cX8_kept 35 = .ok (.aload 4, 2) := by decide +kernel
theorem dX8_kept_37 : decode cX8_kept 37 = .ok (.invokevirtual 284, 3) := by decide +kernel
theorem dX8_kept_40 : decode cX8_kept 40 = .ok (.ifCond .ne 6, 3) := by decide +kernel
theorem dX8_kept_43 : decode cX8_kept 43 = .ok (.bipush (-2), 2) := by decide +kernel
theorem dX8_kept_45 : decode cX8_kept 45 = .ok (.ireturn, 1) := by decide +kernel
set_option maxRecDepth 20000 in
theorem ggX8_hats_X8_isSeed : GoodIn wsX8_hats wsX8_isSeed := goodIn_r _ [7, 8, 9, 10, 6, 11] (by decide +kernel) (by decide +kernel)
set_option maxRecDepth 20000 in
theorem gX8_hats_X8_isSeed : GoodIn wsX8_hats (va_wsS RX8 113 yX8_isSeed wsX8_isSeed) := goodIn_app (goodIn_of _ (by decide +kernel)) ggX8_hats_X8_isSeed
set_option maxRecDepth 20000 in
theorem ggX8_hats_X8_within : GoodIn wsX8_hats wsX8_within := goodIn_r _ [11] (by decide +kernel) (by decide +kernel)
set_option maxRecDepth 20000 in
theorem gX8_hats_X8_within : GoodIn wsX8_hats (va_wsS RX8 105 yX8_within wsX8_within) := goodIn_app (goodIn_of _ (by decide +kernel)) ggX8_hats_X8_within
set_option maxRecDepth 20000 in
theorem ggX8_hats_X8_plainOf : GoodIn wsX8_hats wsX8_plainOf := goodIn_r _ [15, 16, 17, 18, 19, 20, 21, 22, 23, 24, 25, 26, 27, 28, 29, 30, 31, 32, 33, 34, 35, 36, 37, 38, 39, 40, 41, 42, 43, 44, 45, 46, 47, 48, 6, 49, 1, 50, 128, 129, 130, 131, 132, 133, 134, 135, 136, 137, 138, 139, 140, 141, 142, 143, 144, 145, 146, 147, 148, 149, 150, 151, 152, 153, 154, 155] (by decide +kernel) (by decide +kernel)
set_option maxRecDepth 20000 in
theorem gX8_hats_X8_plainOf : GoodIn wsX8_hats (wsV RX8 221 RX8 yX8_plainOf wsX8_plainOf) := goodIn_app (goodIn_of _ (by decide +kernel)) ggX8_hats_X8_plainOf
set_option maxRecDepth 20000 in
theorem ggX8_hats_X0_from : GoodIn wsX8_hats wsX0_from := goodIn_r _ [55, 56, 156] (by decide +kernel) (by decide +kernel)
set_option maxRecDepth 20000 in
theorem gX8_hats_X0_from : GoodIn wsX8_hats (wsV RX8 124 RX0 yX0_from wsX0_from) := goodIn_app (goodIn_of _ (by decide +kernel)) ggX8_hats_X0_from
set_option maxRecDepth 20000 in
theorem ggX8_hats_X8_drawHat : GoodIn wsX8_hats wsX8_drawHat := goodIn_r _ [60, 16, 17, 18, 3, 24, 25, 26, 27, 28, 29, 30, 31, 32, 33, 34, 35, 36, 37, 38, 39, 61, 62, 63, 54, 64, 65, 56, 66, 67, 68, 40, 41, 42, 43, 44, 45, 46, 128, 129, 130, 131, 132, 133, 134, 135, 136, 137, 138, 139, 140, 141, 142, 143, 144, 145, 146, 147, 148, 149, 150, 151, 152, 153, 154, 155, 156] (by decide +kernel) (by decide +kernel)
set_option maxRecDepth 20000 in
theorem gX8_hats_X8_drawHat : GoodIn wsX8_hats (wsV RX8 300 RX8 yX8_drawHat wsX8_drawHat) := goodIn_app (goodIn_of _ (by decide +kernel)) ggX8_hats_X8_drawHat
set_option maxRecDepth 20000 in
theorem ggX8_hats_X8_hatCounts : GoodIn wsX8_hats wsX8_hatCounts := goodIn_r _ [72, 16, 1, 73, 74, 75, 76, 50, 77, 78, 79, 27, 80, 81, 82, 83, 84, 30, 34, 85, 86, 31, 35, 29, 33, 87, 88, 89, 90, 91, 92, 93, 94, 95, 96, 97, 98, 99, 100, 101, 102, 103, 104, 105, 106, 107, 108, 109, 110, 111, 112, 113, 114, 39, 115, 38, 37, 116, 117, 118, 119, 120, 121, 122, 123, 124, 125, 126, 127, 128, 129, 130, 131, 132, 133, 134, 135, 136, 137, 145, 146, 147, 148, 149, 150, 151, 152, 153, 154, 155] (by decide +kernel) (by decide +kernel)
set_option maxRecDepth 20000 in
theorem gX8_hats_X8_hatCounts : GoodIn wsX8_hats (wsV RX8 303 RX8 yX8_hatCounts wsX8_hatCounts) := goodIn_app (goodIn_of _ (by decide +kernel)) ggX8_hats_X8_hatCounts
theorem dX8_hats_0 : decode cX8_hats 0 = .ok (.iload_n 1, 1) := by decide +kernel
theorem dX8_hats_1 : decode cX8_hats 1 = .ok (.invokestatic 113, 3) := by decide +kernel
theorem dX8_hats_4 : decode cX8_hats 4 = .ok (.ifCond .eq 13, 3) := by decide +kernel
theorem dX8_hats_7 : decode cX8_hats 7 = .ok (.iload_n 2, 1) := by decide +kernel
theorem dX8_hats_8 : decode cX8_hats 8 = .ok (.iconst 1, 1) := by decide +kernel
theorem dX8_hats_9 : decode cX8_hats 9 = .ok (.bipush 40, 2) := by decide +kernel
theorem dX8_hats_11 : decode cX8_hats 11 = .ok (.invokestatic 105, 3) := by decide +kernel
theorem dX8_hats_14 : decode cX8_hats 14 = .ok (.ifCond .ne 6, 3) := by decide +kernel
theorem dX8_hats_17 : decode cX8_hats 17 = .ok (.bipush (-2), 2) := by decide +kernel
theorem dX8_hats_19 : decode cX8_hats 19 = .ok (.ireturn, 1) := by decide +kernel
theorem dX8_hats_20 : decode cX8_hats 20 = .ok (.iload_n 3, 1) := by decide +kernel
theorem dX8_hats_21 : decode cX8_hats 21 = .ok (.iconst 1, 1) := by decide +kernel
theorem dX8_hats_22 : decode cX8_hats 22 = .ok (.bipush 10, 2) := by decide +kernel
theorem dX8_hats_24 : decode cX8_hats 24 = .ok (.invokestatic 105, 3) := by decide +kernel
theorem dX8_hats_27 : decode cX8_hats 27 = .ok (.ifCond .eq 13, 3) := by decide +kernel
theorem dX8_hats_30 : decode cX8_hats 30 = .ok (.iload 4, 2) := by decide +kernel
theorem dX8_hats_32 : decode cX8_hats 32 = .ok (.iconst 0, 1) := by decide +kernel
theorem dX8_hats_33 : decode cX8_hats 33 = .ok (.iconst 2, 1) := by decide +kernel
theorem dX8_hats_34 : decode cX8_hats 34 = .ok (.invokestatic 105, 3) := by decide +kernel
theorem dX8_hats_37 : decode cX8_hats 37 = .ok (.ifCond .ne 6, 3) := by decide +kernel
theorem dX8_hats_40 : decode cX8_hats 40 = .ok (.bipush (-2), 2) := by decide +kernel
theorem dX8_hats_42 : decode cX8_hats 42 = .ok (.ireturn, 1) := by decide +kernel
theorem dX8_hats_43 : decode cX8_hats 43 = .ok (.aload_n 0, 1) := by decide +kernel
theorem dX8_hats_44 : decode cX8_hats 44 = .ok (.invokevirtual 221, 3) := by decide +kernel
theorem dX8_hats_47 : decode cX8_hats 47 = .ok (.lstore 5, 2) := by decide +kernel
theorem dX8_hats_49 : decode cX8_hats 49 = .ok (.iload 4, 2) := by decide +kernel
theorem dX8_hats_51 : decode cX8_hats 51 = .ok (.iconst 1, 1) := by decide +kernel
theorem dX8_hats_52 : decode cX8_hats 52 = .ok (.if_icmp .ne 15, 3) := by decide +kernel
theorem dX8_hats_55 : decode cX8_hats 55 = .ok (.lload 5, 2) := by decide +kernel
theorem dX8_hats_57 : decode cX8_hats 57 = .ok (.ldc2_w 282, 3) := by decide +kernel
theorem dX8_hats_60 : decode cX8_hats 60 = .ok (.lcmp, 1) := by decide +kernel
theorem dX8_hats_61 : decode cX8_hats 61 = .ok (.ifCond .ne 6, 3) := by decide +kernel
theorem dX8_hats_64 : decode cX8_hats 64 = .ok (.ldc 214, 2) := by decide +kernel
theorem dX8_hats_66 : decode cX8_hats 66 = .ok (.ireturn, 1) := by decide +kernel
theorem dX8_hats_67 : decode cX8_hats 67 = .ok (.aload_n 0, 1) := by decide +kernel
theorem dX8_hats_68 : decode cX8_hats 68 = .ok (.getfield 39, 3) := by decide +kernel
theorem dX8_hats_71 : decode cX8_hats 71 = .ok (.iload_n 1, 1) := by decide +kernel
theorem dX8_hats_72 : decode cX8_hats 72 = .ok (.invokevirtual 124, 3) := by decide +kernel
theorem dX8_hats_75 : decode cX8_hats 75 = .ok (.iconst 0, 1) := by decide +kernel
theorem dX8_hats_76 : decode cX8_hats 76 = .ok (.istore 7, 2) := by decide +kernel
theorem dX8_hats_78 : decode cX8_hats 78 = .ok (.iconst 0, 1) := by decide +kernel
theorem dX8_hats_79 : decode cX8_hats 79 = .ok (.istore 8, 2) := by decide +kernel
theorem dX8_hats_81 : decode cX8_hats 81 = .ok (.iload 8, 2) := by decide +kernel
theorem dX8_hats_83 : decode cX8_hats 83 = .ok (.iload_n 2, 1) := by decide +kernel
theorem dX8_hats_84 : decode cX8_hats 84 = .ok (.if_icmp .ge 28, 3) := by decide +kernel
theorem dX8_hats_87 : decode cX8_hats 87 = .ok (.aload_n 0, 1) := by decide +kernel
theorem dX8_hats_88 : decode cX8_hats 88 = .ok (.invokevirtual 300, 3) := by decide +kernel
theorem dX8_hats_91 : decode cX8_hats 91 = .ok (.aload_n 0, 1) := by decide +kernel
theorem dX8_hats_92 : decode cX8_hats 92 = .ok (.iload_n 3, 1) := by decide +kernel
theorem dX8_hats_93 : decode cX8_hats 93 = .ok (.iload 4, 2) := by decide +kernel
theorem dX8_hats_95 : decode cX8_hats 95 = .ok (.lload 5, 2) := by decide +kernel
theorem dX8_hats_97 : decode cX8_hats 97 = .ok (.invokevirtual 303, 3) := by decide +kernel
theorem dX8_hats_100 : decode cX8_hats 100 = .ok (.ifCond .eq 6, 3) := by decide +kernel
theorem dX8_hats_106 : decode cX8_hats 106 = .ok (.iinc 8 1, 3) := by decide +kernel
theorem dX8_hats_109 : decode cX8_hats 109 = .ok (.goto (-28), 3) := by decide +kernel
theorem dX8_hats_112 : decode cX8_hats 112 = .ok (.iload 7, 2) := by decide +kernel
theorem dX8_hats_114 : decode cX8_hats 114 = .ok (.ireturn, 1) := by decide +kernel
set_option maxRecDepth 20000 in
theorem ggX8_drawHat_X6_clear : GoodIn wsX8_drawHat wsX6_clear := goodIn_r _ [9, 10, 11, 12, 13, 14, 15, 16, 17, 18, 19, 20, 55, 56, 57, 58, 59, 60, 61, 62, 63, 64, 65] (by decide +kernel) (by decide +kernel)
set_option maxRecDepth 20000 in
theorem gX8_drawHat_X6_clear : GoodIn wsX8_drawHat (wsV RX8 229 RX6 yX6_clear wsX6_clear) := goodIn_app (goodIn_of _ (by decide +kernel)) ggX8_drawHat_X6_clear
theorem dX8_drawHat_0 : decode cX8_drawHat 0 = .ok (.aload_n 0, 1) := by decide +kernel
theorem dX8_drawHat_1 : decode cX8_drawHat 1 = .ok (.getfield 46, 3) := by decide +kernel
theorem dX8_drawHat_4 : decode cX8_drawHat 4 = .ok (.invokevirtual 229, 3) := by decide +kernel
theorem dX8_drawHat_7 : decode cX8_drawHat 7 = .ok (.iconst 0, 1) := by decide +kernel
theorem dX8_drawHat_8 : decode cX8_drawHat 8 = .ok (.istore_n 1, 1) := by decide +kernel
theorem dX8_drawHat_9 : decode cX8_drawHat 9 = .ok (.iload_n 1, 1) := by decide +kernel
theorem dX8_drawHat_10 : decode cX8_drawHat 10 = .ok (.aload_n 0, 1) := by decide +kernel
theorem dX8_drawHat_11 : decode cX8_drawHat 11 = .ok (.getfield 29, 3) := by decide +kernel
theorem dX8_drawHat_14 : decode cX8_drawHat 14 = .ok (.getfield 127, 3) := by decide +kernel
theorem dX8_drawHat_17 : decode cX8_drawHat 17 = .ok (.if_icmp .ge 38, 3) := by decide +kernel
theorem dX8_drawHat_55 : decode cX8_drawHat 55 = .ok (.return_, 1) := by decide +kernel
set_option maxRecDepth 20000 in
theorem ggX8_hatCounts_X6_byMoved : GoodIn wsX8_hatCounts wsX6_byMoved := goodIn_r _ [12, 13, 14, 15, 11, 16, 17, 18, 19, 20, 21, 22, 23, 24, 25, 26, 27, 28, 29, 30, 31, 32, 79, 80, 81, 82, 83, 84, 85, 86, 87, 88, 89] (by decide +kernel) (by decide +kernel)
set_option maxRecDepth 20000 in
theorem gX8_hatCounts_X6_byMoved : GoodIn wsX8_hatCounts (wsV RX8 257 RX6 yX6_byMoved wsX6_byMoved) := goodIn_app (goodIn_of _ (by decide +kernel)) ggX8_hatCounts_X6_byMoved
theorem dX8_hatCounts_0 : decode cX8_hatCounts 0 = .ok (.aload_n 0, 1) := by decide +kernel
theorem dX8_hatCounts_1 : decode cX8_hatCounts 1 = .ok (.getfield 46, 3) := by decide +kernel
theorem dX8_hatCounts_4 : decode cX8_hatCounts 4 = .ok (.invokevirtual 257, 3) := by decide +kernel
theorem dX8_hatCounts_7 : decode cX8_hatCounts 7 = .ok (.lstore 5, 2) := by decide +kernel
theorem dX8_hatCounts_9 : decode cX8_hatCounts 9 = .ok (.lload 5, 2) := by decide +kernel
theorem dX8_hatCounts_11 : decode cX8_hatCounts 11 = .ok (.ldc2_w 282, 3) := by decide +kernel
theorem dX8_hatCounts_14 : decode cX8_hatCounts 14 = .ok (.lcmp, 1) := by decide +kernel
theorem dX8_hatCounts_15 : decode cX8_hatCounts 15 = .ok (.ifCond .ne 5, 3) := by decide +kernel
theorem dX8_hatCounts_18 : decode cX8_hatCounts 18 = .ok (.iconst 0, 1) := by decide +kernel
theorem dX8_hatCounts_19 : decode cX8_hatCounts 19 = .ok (.ireturn, 1) := by decide +kernel
set_option maxRecDepth 20000 in
theorem ggX8_leak_X8_divided : GoodIn wsX8_leak wsX8_divided := goodIn_r _ [8, 9, 10, 11, 12, 13, 14, 15, 16, 17, 18, 19, 20, 21, 22, 23, 24, 25, 26, 27, 28, 29, 7, 30, 31, 32, 33, 34, 35, 36, 37, 38, 39, 40, 41, 42, 43, 65, 66, 67, 68, 69, 70, 71, 72, 73, 74, 86, 87, 88, 89, 90, 91, 92, 75, 76, 77, 78, 79, 80, 81, 82, 83, 84, 85] (by decide +kernel) (by decide +kernel)
set_option maxRecDepth 20000 in
theorem gX8_leak_X8_divided : GoodIn wsX8_leak (wsV RX8 253 RX8 yX8_divided wsX8_divided) := goodIn_app (goodIn_of _ (by decide +kernel)) ggX8_leak_X8_divided
set_option maxRecDepth 20000 in
theorem ggX8_leak_X6_meanGap : GoodIn wsX8_leak wsX6_meanGap := goodIn_r _ [47, 17, 21, 48, 49, 50, 51, 15, 52, 53, 54, 55, 56, 57, 7, 58, 59, 60, 75, 76, 77, 78, 79, 80, 81, 82, 83, 84, 85] (by decide +kernel) (by decide +kernel)
set_option maxRecDepth 20000 in
theorem gX8_leak_X6_meanGap : GoodIn wsX8_leak (wsV RX8 276 RX6 yX6_meanGap wsX6_meanGap) := goodIn_app (goodIn_of _ (by decide +kernel)) ggX8_leak_X6_meanGap
set_option maxRecDepth 20000 in
theorem ggX8_leak_X8_toFace : GoodIn wsX8_leak wsX8_toFace := goodIn_r _ [63, 59, 64] (by decide +kernel) (by decide +kernel)
set_option maxRecDepth 20000 in
theorem gX8_leak_X8_toFace : GoodIn wsX8_leak (va_wsS RX8 225 yX8_toFace wsX8_toFace) := goodIn_app (goodIn_of _ (by decide +kernel)) ggX8_leak_X8_toFace
theorem dX8_leak_0 : decode cX8_leak 0 = .ok (.aload_n 0, 1) := by decide +kernel
theorem dX8_leak_1 : decode cX8_leak 1 = .ok (.aload_n 0, 1) := by decide +kernel
theorem dX8_leak_2 : decode cX8_leak 2 = .ok (.getfield 29, 3) := by decide +kernel
theorem dX8_leak_5 : decode cX8_leak 5 = .ok (.iload_n 1, 1) := by decide +kernel
theorem dX8_leak_6 : decode cX8_leak 6 = .ok (.invokevirtual 253, 3) := by decide +kernel
theorem dX8_leak_9 : decode cX8_leak 9 = .ok (.astore_n 2, 1) := by decide +kernel
theorem dX8_leak_10 : decode cX8_leak 10 = .ok (.aload_n 2, 1) := by decide +kernel
theorem dX8_leak_11 : decode cX8_leak 11 = .ok (.aload_n 2, 1) := by decide +kernel
theorem dX8_leak_12 : decode cX8_leak 12 = .ok (.getfield 244, 3) := by decide +kernel
theorem dX8_leak_15 : decode cX8_leak 15 = .ok (.aload_n 2, 1) := by decide +kernel
theorem dX8_leak_16 : decode cX8_leak 16 = .ok (.getfield 315, 3) := by decide +kernel
theorem dX8_leak_19 : decode cX8_leak 19 = .ok (.invokevirtual 276, 3) := by decide +kernel
theorem dX8_leak_22 : decode cX8_leak 22 = .ok (.invokestatic 225, 3) := by decide +kernel
theorem dX8_leak_25 : decode cX8_leak 25 = .ok (.lreturn, 1) := by decide +kernel
set_option maxRecDepth 20000 in
theorem ggX8_leaked_X8_within : GoodIn wsX8_leaked wsX8_within := goodIn_r _ [8] (by decide +kernel) (by decide +kernel)
set_option maxRecDepth 20000 in
theorem gX8_leaked_X8_within : GoodIn wsX8_leaked (va_wsS RX8 105 yX8_within wsX8_within) := goodIn_app (goodIn_of _ (by decide +kernel)) ggX8_leaked_X8_within
set_option maxRecDepth 20000 in
theorem ggX8_leaked_X8_divided : GoodIn wsX8_leaked wsX8_divided := goodIn_r _ [12, 13, 14, 15, 16, 17, 18, 19, 20, 21, 22, 23, 24, 25, 26, 27, 28, 29, 30, 31, 32, 33, 7, 34, 5, 6, 8, 35, 36, 37, 38, 39, 40, 41, 42, 43, 44, 63, 64, 65, 66, 67, 68, 69, 70, 71, 72, 73, 74, 75, 76, 77, 78, 79, 80, 81, 82, 83, 84, 85, 86, 87, 88, 89, 90] (by decide +kernel) (by decide +kernel)
set_option maxRecDepth 20000 in
theorem gX8_leaked_X8_divided : GoodIn wsX8_leaked (wsV RX8 253 RX8 yX8_divided wsX8_divided) := goodIn_app (goodIn_of _ (by decide +kernel)) ggX8_leaked_X8_divided
set_option maxRecDepth 20000 in
theorem ggX8_leaked_X6_byMovedLess : GoodIn wsX8_leaked wsX6_byMovedLess := goodIn_r _ [48, 22, 26, 49, 50, 23, 27, 21, 25, 51, 52, 53, 19, 54, 55, 56, 57, 58, 80, 81, 82, 83, 84, 85, 86, 87, 88, 89, 90] (by decide +kernel) (by decide +kernel)
set_option maxRecDepth 20000 in
theorem gX8_leaked_X6_byMovedLess : GoodIn wsX8_leaked (wsV RX8 322 RX6 yX6_byMovedLess wsX6_byMovedLess) := goodIn_app (goodIn_of _ (by decide +kernel)) ggX8_leaked_X6_byMovedLess
set_option maxRecDepth 20000 in
theorem ggX8_leaked_X8_toFace : GoodIn wsX8_leaked wsX8_toFace := goodIn_r _ [61, 62, 3] (by decide +kernel) (by decide +kernel)
set_option maxRecDepth 20000 in
theorem gX8_leaked_X8_toFace : GoodIn wsX8_leaked (va_wsS RX8 225 yX8_toFace wsX8_toFace) := goodIn_app (goodIn_of _ (by decide +kernel)) ggX8_leaked_X8_toFace
theorem dX8_leaked_0 : decode cX8_leaked 0 = .ok (.iload_n 2, 1) := by decide +kernel
theorem dX8_leaked_1 : decode cX8_leaked 1 = .ok (.ldc_w 318, 3) := by decide +kernel
theorem dX8_leaked_4 : decode cX8_leaked 4 = .ok (.ldc_w 319, 3) := by decide +kernel
theorem dX8_leaked_7 : decode cX8_leaked 7 = .ok (.invokestatic 105, 3) := by decide +kernel
theorem dX8_leaked_10 : decode cX8_leaked 10 = .ok (.ifCond .ne 7, 3) := by decide +kernel
theorem dX8_leaked_13 : decode cX8_leaked 13 = .ok (.ldc2_w 320, 3) := by decide +kernel
theorem dX8_leaked_16 : decode cX8_leaked 16 = .ok (.lreturn, 1) := by decide +kernel
theorem dX8_leaked_17 : decode cX8_leaked 17 = .ok (.aload_n 0, 1) := by decide +kernel
theorem dX8_leaked_18 : decode cX8_leaked 18 = .ok (.aload_n 0, 1) := by decide +kernel
theorem dX8_leaked_19 : decode cX8_leaked 19 = .ok (.getfield 29, 3) := by decide +kernel
theorem dX8_leaked_22 : decode cX8_leaked 22 = .ok (.iload_n 1, 1) := by decide +kernel
theorem dX8_leaked_23 : decode cX8_leaked 23 = .ok (.invokevirtual 253, 3) := by decide +kernel
theorem dX8_leaked_26 : decode cX8_leaked 26 = .ok (.iload_n 2, 1) := by decide +kernel
theorem dX8_leaked_27 : decode cX8_leaked 27 = .ok (.i2l, 1) := by decide +kernel
theorem dX8_leaked_28 : decode cX8_leaked 28 = .ok (.invokevirtual 322, 3) := by decide +kernel
theorem dX8_leaked_31 : decode cX8_leaked 31 = .ok (.invokestatic 225, 3) := by decide +kernel
theorem dX8_leaked_34 : decode cX8_leaked 34 = .ok (.lreturn, 1) := by decide +kernel
set_option maxRecDepth 20000 in
theorem ggX8_homes_X8_divided : GoodIn wsX8_homes wsX8_divided := goodIn_r _ [8, 9, 10, 11, 12, 13, 14, 15, 16, 17, 18, 19, 20, 21, 22, 23, 24, 25, 26, 27, 28, 29, 7, 30, 31, 32, 33, 34, 35, 36, 37, 38, 39, 40, 41, 42, 43, 65, 66, 67, 68, 69, 70, 71, 72, 73, 74, 86, 87, 88, 89, 90, 91, 92, 75, 76, 77, 78, 79, 80, 81, 82, 83, 84, 85] (by decide +kernel) (by decide +kernel)
set_option maxRecDepth 20000 in
theorem gX8_homes_X8_divided : GoodIn wsX8_homes (wsV RX8 253 RX8 yX8_divided wsX8_divided) := goodIn_app (goodIn_of _ (by decide +kernel)) ggX8_homes_X8_divided
set_option maxRecDepth 20000 in
theorem ggX8_homes_X6_meanGap : GoodIn wsX8_homes wsX6_meanGap := goodIn_r _ [47, 17, 21, 48, 49, 50, 51, 15, 52, 53, 54, 55, 56, 57, 7, 58, 59, 60, 75, 76, 77, 78, 79, 80, 81, 82, 83, 84, 85] (by decide +kernel) (by decide +kernel)
set_option maxRecDepth 20000 in
theorem gX8_homes_X6_meanGap : GoodIn wsX8_homes (wsV RX8 276 RX6 yX6_meanGap wsX6_meanGap) := goodIn_app (goodIn_of _ (by decide +kernel)) ggX8_homes_X6_meanGap
set_option maxRecDepth 20000 in
theorem ggX8_homes_X8_toFace : GoodIn wsX8_homes wsX8_toFace := goodIn_r _ [63, 59, 64] (by decide +kernel) (by decide +kernel)
set_option maxRecDepth 20000 in
theorem gX8_homes_X8_toFace : GoodIn wsX8_homes (va_wsS RX8 225 yX8_toFace wsX8_toFace) := goodIn_app (goodIn_of _ (by decide +kernel)) ggX8_homes_X8_toFace
theorem dX8_homes_0 : decode cX8_homes 0 = .ok (.aload_n 0, 1) := by decide +kernel
theorem dX8_homes_1 : decode cX8_homes 1 = .ok (.aload_n 0, 1) := by decide +kernel
theorem dX8_homes_2 : decode cX8_homes 2 = .ok (.getfield 29, 3) := by decide +kernel
theorem dX8_homes_5 : decode cX8_homes 5 = .ok (.iload_n 1, 1) := by decide +kernel
theorem dX8_homes_6 : decode cX8_homes 6 = .ok (.invokevirtual 253, 3) := by decide +kernel
theorem dX8_homes_9 : decode cX8_homes 9 = .ok (.astore_n 2, 1) := by decide +kernel
theorem dX8_homes_10 : decode cX8_homes 10 = .ok (.aload_n 2, 1) := by decide +kernel
theorem dX8_homes_11 : decode cX8_homes 11 = .ok (.aload_n 2, 1) := by decide +kernel
theorem dX8_homes_12 : decode cX8_homes 12 = .ok (.getfield 325, 3) := by decide +kernel
theorem dX8_homes_15 : decode cX8_homes 15 = .ok (.aload_n 2, 1) := by decide +kernel
theorem dX8_homes_16 : decode cX8_homes 16 = .ok (.getfield 327, 3) := by decide +kernel
theorem dX8_homes_19 : decode cX8_homes 19 = .ok (.invokevirtual 276, 3) := by decide +kernel
theorem dX8_homes_22 : decode cX8_homes 22 = .ok (.invokestatic 225, 3) := by decide +kernel
theorem dX8_homes_25 : decode cX8_homes 25 = .ok (.lreturn, 1) := by decide +kernel
set_option maxRecDepth 20000 in
theorem ggX8_whom_X8_within : GoodIn wsX8_whom wsX8_within := goodIn_r _ [6] (by decide +kernel) (by decide +kernel)
set_option maxRecDepth 20000 in
theorem gX8_whom_X8_within : GoodIn wsX8_whom (va_wsS RX8 105 yX8_within wsX8_within) := goodIn_app (goodIn_of _ (by decide +kernel)) ggX8_whom_X8_within
theorem dX8_whom_0 : decode cX8_whom 0 = .ok (.iload_n 1, 1) := by decide +kernel
theorem dX8_whom_1 : decode cX8_whom 1 = .ok (.iconst 0, 1) := by decide +kernel
theorem dX8_whom_2 : decode cX8_whom 2 = .ok (.iconst 1, 1) := by decide +kernel
theorem dX8_whom_3 : decode cX8_whom 3 = .ok (.invokestatic 105, 3) := by decide +kernel
theorem dX8_whom_6 : decode cX8_whom 6 = .ok (.ifCond .ne 5, 3) := by decide +kernel
theorem dX8_whom_9 : decode cX8_whom 9 = .ok (.iconst (-1), 1) := by decide +kernel
theorem dX8_whom_10 : decode cX8_whom 10 = .ok (.ireturn, 1) := by decide +kernel
theorem dX8_whom_11 : decode cX8_whom 11 = .ok (.iconst 0, 1) := by decide +kernel
theorem dX8_whom_12 : decode cX8_whom 12 = .ok (.istore_n 2, 1) := by decide +kernel
theorem dX8_whom_13 : decode cX8_whom 13 = .ok (.iconst 0, 1) := by decide +kernel
theorem dX8_whom_14 : decode cX8_whom 14 = .ok (.istore_n 3, 1) := by decide +kernel
theorem dX8_whom_15 : decode cX8_whom 15 = .ok (.iload_n 3, 1) := by decide +kernel
theorem dX8_whom_16 : decode cX8_whom 16 = .ok (.aload_n 0, 1) := by decide +kernel
theorem dX8_whom_17 : decode cX8_whom 17 = .ok (.getfield 29, 3) := by decide +kernel
theorem dX8_whom_20 : decode cX8_whom 20 = .ok (.getfield 127, 3) := by decide +kernel
theorem dX8_whom_23 : decode cX8_whom 23 = .ok (.if_icmp .ge 40, 3) := by decide +kernel
theorem dX8_whom_63 : decode cX8_whom 63 = .ok (.iload_n 2, 1) := by decide +kernel
theorem dX8_whom_64 : decode cX8_whom 64 = .ok (.ireturn, 1) := by decide +kernel
set_option maxRecDepth 20000 in
theorem ggX8_truth_X8_truthOf : GoodIn wsX8_truth wsX8_truthOf := goodIn_r _ [6, 7, 8, 9, 10, 11, 5, 12, 13, 14, 15, 16, 17, 18, 19, 20, 21, 22, 23, 24, 25, 26, 27, 28, 29, 30, 31, 32, 33, 34, 35, 36, 37, 38, 39, 40, 41, 42, 43, 44, 45, 46, 47, 48, 49, 50, 51, 52, 53, 54, 55, 56, 57, 58, 59, 60, 61, 62, 63, 64, 65, 66, 67, 68, 69, 70, 71, 72, 73, 74, 75, 76, 77, 78, 79, 80, 81, 82, 97, 98, 99, 100, 101, 102, 103, 87, 88, 89, 90, 91, 92, 93, 94, 95, 96, 104, 105, 106, 107, 108, 109, 110, 111, 112, 113, 114, 115, 116, 117, 118, 119] (by decide +kernel) (by decide +kernel)
set_option maxRecDepth 20000 in
theorem gX8_truth_X8_truthOf : GoodIn wsX8_truth (wsV RX8 330 RX8 yX8_truthOf wsX8_truthOf) := goodIn_app (goodIn_of _ (by decide +kernel)) ggX8_truth_X8_truthOf
set_option maxRecDepth 20000 in
theorem ggX8_truth_X8_toFace : GoodIn wsX8_truth wsX8_toFace := goodIn_r _ [85, 8, 86] (by decide +kernel) (by decide +kernel)
set_option maxRecDepth 20000 in
theorem gX8_truth_X8_toFace : GoodIn wsX8_truth (va_wsS RX8 225 yX8_toFace wsX8_toFace) := goodIn_app (goodIn_of _ (by decide +kernel)) ggX8_truth_X8_toFace
theorem dX8_truth_0 : decode cX8_truth 0 = .ok (.aload_n 0, 1) := by decide +kernel
theorem dX8_truth_1 : decode cX8_truth 1 = .ok (.aload_n 0, 1) := by decide +kernel
theorem dX8_truth_2 : decode cX8_truth 2 = .ok (.getfield 29, 3) := by decide +kernel
theorem dX8_truth_5 : decode cX8_truth 5 = .ok (.iload_n 1, 1) := by decide +kernel
theorem dX8_truth_6 : decode cX8_truth 6 = .ok (.invokevirtual 330, 3) := by decide +kernel
theorem dX8_truth_9 : decode cX8_truth 9 = .ok (.invokestatic 225, 3) := by decide +kernel
theorem dX8_truth_12 : decode cX8_truth 12 = .ok (.lreturn, 1) := by decide +kernel
set_option maxRecDepth 20000 in
theorem ggX8_truthOf_X8_thousandths : GoodIn wsX8_truthOf wsX8_thousandths := goodIn_r _ [76, 2, 77] (by decide +kernel) (by decide +kernel)
set_option maxRecDepth 20000 in
theorem gX8_truthOf_X8_thousandths : GoodIn wsX8_truthOf (va_wsS RX8 249 yX8_thousandths wsX8_thousandths) := goodIn_app (goodIn_of _ (by decide +kernel)) ggX8_truthOf_X8_thousandths
theorem dX8_truthOf_0 : decode cX8_truthOf 0 = .ok (.lconst 0, 1) := by decide +kernel
theorem dX8_truthOf_1 : decode cX8_truthOf 1 = .ok (.lstore_n 3, 1) := by decide +kernel
theorem dX8_truthOf_2 : decode cX8_truthOf 2 = .ok (.lconst 0, 1) := by decide +kernel
theorem dX8_truthOf_3 : decode cX8_truthOf 3 = .ok (.lstore 5, 2) := by decide +kernel
theorem dX8_truthOf_5 : decode cX8_truthOf 5 = .ok (.iconst 0, 1) := by decide +kernel
theorem dX8_truthOf_6 : decode cX8_truthOf 6 = .ok (.istore 7, 2) := by decide +kernel
theorem dX8_truthOf_8 : decode cX8_truthOf 8 = .ok (.iload 7, 2) := by decide +kernel
theorem dX8_truthOf_10 : decode cX8_truthOf 10 = .ok (.aload_n 1, 1) := by decide +kernel
theorem dX8_truthOf_11 : decode cX8_truthOf 11 = .ok (.getfield 127, 3) := by decide +kernel
theorem dX8_truthOf_14 : decode cX8_truthOf 14 = .ok (.if_icmp .ge 57, 3) := by decide +kernel
theorem dX8_truthOf_71 : decode cX8_truthOf 71 = .ok (.lload_n 3, 1) := by decide +kernel
theorem dX8_truthOf_72 : decode cX8_truthOf 72 = .ok (.lload 5, 2) := by decide +kernel
theorem dX8_truthOf_74 : decode cX8_truthOf 74 = .ok (.invokestatic 249, 3) := by decide +kernel
theorem dX8_truthOf_77 : decode cX8_truthOf 77 = .ok (.lreturn, 1) := by decide +kernel
set_option maxRecDepth 20000 in
theorem ggX8_leans_X8_leanOf : GoodIn wsX8_leans wsX8_leanOf := goodIn_r _ [5, 6, 7, 8, 9, 10, 4, 11, 12, 13, 14, 15, 16, 17, 18, 19, 20, 21, 22, 23, 24, 25, 26, 27, 28, 29, 30, 31, 32, 33, 34, 35, 36, 37, 38, 39, 40, 41, 42, 43, 44, 45, 46, 47, 48, 49, 50, 51, 52, 53, 54, 55, 56, 57, 58, 59, 60, 61, 62, 63, 64, 65, 66, 67, 68, 69, 70, 71, 72, 73, 74, 75, 76, 77, 78, 79, 80, 81, 82, 83, 84, 85, 86, 87, 88, 89, 90, 91, 92, 93, 94, 95, 96, 97, 98, 99, 100, 101, 102, 103, 104, 105, 106, 107, 108, 109, 110, 111, 112, 113, 114, 115, 116, 117, 118, 119, 120, 121, 122, 123, 124, 125, 126, 127, 128, 129, 130, 131, 132, 133, 134, 135, 136, 137, 138, 139, 140, 141, 142, 143, 144, 145, 146, 147, 148, 149, 150, 151, 152, 153, 154, 155, 156, 157, 158, 159, 160, 161, 162, 163, 164, 165, 166, 167, 168, 169, 170, 171, 172, 173, 174, 175, 176, 177, 178, 179, 180, 185, 186, 187, 188, 189, 190, 191, 192, 193, 194, 195, 196, 197, 198, 199, 200, 201, 202, 203, 204, 205, 206, 207, 208, 209, 210, 211, 212, 213, 214, 215, 216, 217, 218, 219, 220, 221, 222, 223, 224, 225, 226, 227, 228, 229, 230, 231] (by decide +kernel) (by decide +kernel)
set_option maxRecDepth 20000 in
theorem gX8_leans_X8_leanOf : GoodIn wsX8_leans (wsV RX8 334 RX8 yX8_leanOf wsX8_leanOf) := goodIn_app (goodIn_of _ (by decide +kernel)) ggX8_leans_X8_leanOf
set_option maxRecDepth 20000 in
theorem ggX8_leans_X8_toFace : GoodIn wsX8_leans wsX8_toFace := goodIn_r _ [183, 7, 184] (by decide +kernel) (by decide +kernel)
set_option maxRecDepth 20000 in
theorem gX8_leans_X8_toFace : GoodIn wsX8_leans (va_wsS RX8 225 yX8_toFace wsX8_toFace) := goodIn_app (goodIn_of _ (by decide +kernel)) ggX8_leans_X8_toFace
theorem dX8_leans_0 : decode cX8_leans 0 = .ok (.aload_n 0, 1) := by decide +kernel
theorem dX8_leans_1 : decode cX8_leans 1 = .ok (.iload_n 1, 1) := by decide +kernel
theorem dX8_leans_2 : decode cX8_leans 2 = .ok (.iload_n 2, 1) := by decide +kernel
theorem dX8_leans_3 : decode cX8_leans 3 = .ok (.invokevirtual 334, 3) := by decide +kernel
theorem dX8_leans_6 : decode cX8_leans 6 = .ok (.invokestatic 225, 3) := by decide +kernel
theorem dX8_leans_9 : decode cX8_leans 9 = .ok (.lreturn, 1) := by decide +kernel
set_option maxRecDepth 20000 in
theorem ggX8_leanOf_X8_estimateOf : GoodIn wsX8_leanOf wsX8_estimateOf := goodIn_r _ [7, 1, 2, 8, 9, 10, 6, 11, 12, 13, 14, 15, 16, 17, 18, 19, 20, 21, 22, 23, 24, 25, 26, 27, 28, 29, 30, 31, 32, 33, 34, 35, 36, 37, 38, 39, 40, 41, 42, 43, 44, 45, 46, 47, 48, 49, 50, 51, 52, 53, 54, 55, 56, 57, 58, 59, 60, 61, 62, 63, 64, 65, 66, 67, 68, 69, 70, 71, 72, 73, 74, 75, 76, 77, 78, 79, 80, 81, 82, 83, 84, 85, 86, 87, 88, 89, 90, 91, 92, 93, 94, 95, 96, 97, 98, 99, 100, 101, 102, 103, 177, 178, 179, 180, 181, 182, 183, 184, 185, 186, 187, 188, 189, 190, 191, 192, 193, 194, 195, 196, 197, 198, 199, 200, 201, 202, 203, 204, 205, 206, 207] (by decide +kernel) (by decide +kernel)
set_option maxRecDepth 20000 in
theorem gX8_leanOf_X8_estimateOf : GoodIn wsX8_leanOf (wsV RX8 338 RX8 yX8_estimateOf wsX8_estimateOf) := goodIn_app (goodIn_of _ (by decide +kernel)) ggX8_leanOf_X8_estimateOf
set_option maxRecDepth 20000 in
theorem ggX8_leanOf_X8_truthOf : GoodIn wsX8_leanOf wsX8_truthOf := goodIn_r _ [107, 13, 2, 108, 109, 110, 6, 111, 112, 113, 50, 114, 115, 116, 117, 118, 119, 120, 121, 122, 123, 124, 125, 126, 127, 128, 129, 130, 131, 132, 133, 134, 135, 136, 137, 138, 139, 140, 141, 142, 143, 144, 145, 146, 147, 148, 149, 150, 151, 152, 153, 154, 155, 156, 157, 158, 159, 160, 161, 162, 163, 164, 165, 166, 167, 168, 169, 170, 171, 172, 173, 174, 175, 176, 42, 43, 44, 45, 187, 188, 189, 190, 191, 192, 193, 177, 178, 179, 180, 181, 182, 183, 184, 185, 186, 208, 209, 210, 211, 212, 213, 214, 215, 216, 217, 218, 219, 220, 221, 222, 223] (by decide +kernel) (by decide +kernel)
set_option maxRecDepth 20000 in
theorem gX8_leanOf_X8_truthOf : GoodIn wsX8_leanOf (wsV RX8 330 RX8 yX8_truthOf wsX8_truthOf) := goodIn_app (goodIn_of _ (by decide +kernel)) ggX8_leanOf_X8_truthOf
theorem dX8_leanOf_0 : decode cX8_leanOf 0 = .ok (.aload_n 0, 1) := by decide +kernel
theorem dX8_leanOf_1 : decode cX8_leanOf 1 = .ok (.iload_n 1, 1) := by decide +kernel
theorem dX8_leanOf_2 : decode cX8_leanOf 2 = .ok (.iload_n 2, 1) := by decide +kernel
theorem dX8_leanOf_3 : decode cX8_leanOf 3 = .ok (.invokevirtual 338, 3) := by decide +kernel
theorem dX8_leanOf_6 : decode cX8_leanOf 6 = .ok (.lstore_n 3, 1) := by decide +kernel
theorem dX8_leanOf_7 : decode cX8_leanOf 7 = .ok (.aload_n 0, 1) := by decide +kernel
theorem dX8_leanOf_8 : decode cX8_leanOf 8 = .ok (.aload_n 0, 1) := by decide +kernel
theorem dX8_leanOf_9 : decode cX8_leanOf 9 = .ok (.getfield 29, 3) := by decide +kernel
theorem dX8_leanOf_12 : decode cX8_leanOf 12 = .ok (.iconst 1, 1) := by decide +kernel
theorem dX8_leanOf_13 : decode cX8_leanOf 13 = .ok (.invokevirtual 330, 3) := by decide +kernel
theorem dX8_leanOf_16 : decode cX8_leanOf 16 = .ok (.lstore 5, 2) := by decide +kernel
theorem dX8_leanOf_18 : decode cX8_leanOf 18 = .ok (.lload_n 3, 1) := by decide +kernel
theorem dX8_leanOf_19 : decode cX8_leanOf 19 = .ok (.ldc2_w 282, 3) := by decide +kernel
theorem dX8_leanOf_22 : decode cX8_leanOf 22 = .ok (.lcmp, 1) := by decide +kernel
theorem dX8_leanOf_23 : decode cX8_leanOf 23 = .ok (.ifCond .eq 12, 3) := by decide +kernel
theorem dX8_leanOf_35 : decode cX8_leanOf 35 = .ok (.ldc2_w 282, 3) := by decide +kernel
theorem dX8_leanOf_38 : decode cX8_leanOf 38 = .ok (.goto 7, 3) := by decide +kernel
theorem dX8_leanOf_45 : decode cX8_leanOf 45 = .ok (.lreturn, 1) := by decide +kernel
set_option maxRecDepth 20000 in
theorem ggX8_estimateOf_X8_plainOf : GoodIn wsX8_estimateOf wsX8_plainOf := goodIn_r _ [7, 8, 1, 9, 10, 11, 12, 13, 14, 15, 16, 17, 18, 19, 20, 21, 22, 23, 24, 25, 26, 27, 28, 29, 30, 31, 32, 33, 34, 35, 36, 37, 38, 39, 6, 40, 2, 41, 100, 101, 102, 103, 104, 105, 106, 107, 108, 109, 110, 111, 112, 113, 114, 115, 116, 117, 118, 119, 120, 121, 122, 123, 124, 125, 126, 127] (by decide +kernel) (by decide +kernel)
set_option maxRecDepth 20000 in
theorem gX8_estimateOf_X8_plainOf : GoodIn wsX8_estimateOf (wsV RX8 221 RX8 yX8_plainOf wsX8_plainOf) := goodIn_app (goodIn_of _ (by decide +kernel)) ggX8_estimateOf_X8_plainOf
set_option maxRecDepth 20000 in
theorem ggX8_estimateOf_X8_divided : GoodIn wsX8_estimateOf wsX8_divided := goodIn_r _ [45, 8, 9, 46, 15, 16, 17, 18, 19, 20, 21, 22, 23, 24, 25, 26, 27, 28, 29, 30, 47, 48, 6, 49, 50, 51, 52, 53, 54, 55, 31, 32, 33, 34, 35, 36, 37, 100, 101, 102, 103, 104, 105, 106, 107, 108, 109, 110, 111, 112, 113, 114, 115, 116, 117, 118, 119, 120, 121, 122, 123, 124, 125, 126, 127] (by decide +kernel) (by decide +kernel)
set_option maxRecDepth 20000 in
theorem gX8_estimateOf_X8_divided : GoodIn wsX8_estimateOf (wsV RX8 253 RX8 yX8_divided wsX8_divided) := goodIn_app (goodIn_of _ (by decide +kernel)) ggX8_estimateOf_X8_divided
set_option maxRecDepth 20000 in
theorem ggX8_estimateOf_X6_byMoved : GoodIn wsX8_estimateOf wsX6_byMoved := goodIn_r _ [59, 60, 61, 62, 18, 63, 21, 25, 64, 65, 22, 26, 20, 24, 66, 67, 68, 69, 70, 71, 72, 73, 117, 118, 119, 120, 121, 122, 123, 124, 125, 126, 127] (by decide +kernel) (by decide +kernel)
set_option maxRecDepth 20000 in
theorem gX8_estimateOf_X6_byMoved : GoodIn wsX8_estimateOf (wsV RX8 257 RX6 yX6_byMoved wsX6_byMoved) := goodIn_app (goodIn_of _ (by decide +kernel)) ggX8_estimateOf_X6_byMoved
set_option maxRecDepth 20000 in
theorem ggX8_estimateOf_X8_manyOf : GoodIn wsX8_estimateOf wsX8_manyOf := goodIn_r _ [77, 78, 1, 79, 80, 81, 82, 83, 84, 85, 86, 87, 88, 89, 90, 91, 92, 93, 94, 95, 96, 97, 98, 99, 39, 6, 40, 2, 41, 100, 101, 102, 103, 104, 105, 106, 107, 108, 109, 128, 129, 130, 110, 111, 112, 113, 114, 115, 116] (by decide +kernel) (by decide +kernel)
set_option maxRecDepth 20000 in
theorem gX8_estimateOf_X8_manyOf : GoodIn wsX8_estimateOf (wsV RX8 260 RX8 yX8_manyOf wsX8_manyOf) := goodIn_app (goodIn_of _ (by decide +kernel)) ggX8_estimateOf_X8_manyOf
theorem dX8_estimateOf_0 : decode cX8_estimateOf 0 = .ok (.iload_n 1, 1) := by decide +kernel
theorem dX8_estimateOf_1 : decode cX8_estimateOf 1 = .ok (.tableswitch 50 0 2 #[27, 32, 45], 27) := by decide +kernel
theorem dX8_estimateOf_28 : decode cX8_estimateOf 28 = .ok (.aload_n 0, 1) := by decide +kernel
theorem dX8_estimateOf_29 : decode cX8_estimateOf 29 = .ok (.invokevirtual 221, 3) := by decide +kernel
theorem dX8_estimateOf_32 : decode cX8_estimateOf 32 = .ok (.lreturn, 1) := by decide +kernel
theorem dX8_estimateOf_33 : decode cX8_estimateOf 33 = .ok (.aload_n 0, 1) := by decide +kernel
theorem dX8_estimateOf_34 : decode cX8_estimateOf 34 = .ok (.aload_n 0, 1) := by decide +kernel
theorem dX8_estimateOf_35 : decode cX8_estimateOf 35 = .ok (.getfield 29, 3) := by decide +kernel
theorem dX8_estimateOf_38 : decode cX8_estimateOf 38 = .ok (.iload_n 2, 1) := by decide +kernel
theorem dX8_estimateOf_39 : decode cX8_estimateOf 39 = .ok (.invokevirtual 253, 3) := by decide +kernel
theorem dX8_estimateOf_42 : decode cX8_estimateOf 42 = .ok (.invokevirtual 257, 3) := by decide +kernel
theorem dX8_estimateOf_45 : decode cX8_estimateOf 45 = .ok (.lreturn, 1) := by decide +kernel
theorem dX8_estimateOf_46 : decode cX8_estimateOf 46 = .ok (.aload_n 0, 1) := by decide +kernel
theorem dX8_estimateOf_47 : decode cX8_estimateOf 47 = .ok (.invokevirtual 260, 3) := by decide +kernel
theorem dX8_estimateOf_50 : decode cX8_estimateOf 50 = .ok (.lreturn, 1) := by decide +kernel
theorem dX8_estimateOf_51 : decode cX8_estimateOf 51 = .ok (.ldc2_w 282, 3) := by decide +kernel
theorem dX8_estimateOf_54 : decode cX8_estimateOf 54 = .ok (.lreturn, 1) := by decide +kernel
set_option maxRecDepth 20000 in
theorem ggX8_least_X8_leanOf : GoodIn wsX8_least wsX8_leanOf := goodIn_r _ [10, 11, 1, 12, 13, 14, 9, 15, 16, 17, 18, 19, 20, 21, 22, 23, 24, 25, 26, 27, 28, 29, 30, 31, 32, 33, 34, 35, 36, 37, 38, 39, 40, 41, 42, 43, 44, 45, 46, 47, 48, 49, 50, 51, 52, 53, 54, 55, 56, 57, 58, 59, 60, 61, 62, 63, 64, 65, 66, 67, 68, 69, 70, 71, 72, 73, 74, 75, 76, 77, 78, 79, 80, 81, 82, 83, 84, 85, 86, 87, 88, 89, 90, 91, 92, 93, 94, 95, 96, 97, 98, 99, 100, 101, 102, 103, 104, 105, 106, 107, 108, 109, 110, 111, 112, 113, 114, 115, 116, 117, 118, 119, 120, 121, 122, 123, 124, 125, 126, 127, 128, 129, 130, 131, 132, 133, 134, 135, 136, 137, 138, 139, 140, 141, 142, 143, 144, 145, 146, 147, 148, 149, 150, 151, 152, 153, 154, 155, 156, 4, 157, 158, 159, 160, 161, 162, 163, 164, 165, 166, 167, 168, 169, 170, 171, 172, 173, 174, 175, 176, 177, 178, 179, 180, 181, 182, 183, 184, 185, 186, 187, 188, 189, 190, 191, 192, 193, 194, 195, 196, 197, 198, 199, 200, 201, 202, 203, 204, 205, 206, 207, 208, 209, 210, 211, 212, 213, 214, 215, 216, 217, 218, 219, 220, 221, 222, 223, 224, 225, 226, 227, 228, 229, 230] (by decide +kernel) (by decide +kernel)
set_option maxRecDepth 20000 in
theorem gX8_least_X8_leanOf : GoodIn wsX8_least (wsV RX8 334 RX8 yX8_leanOf wsX8_leanOf) := goodIn_app (goodIn_of _ (by decide +kernel)) ggX8_least_X8_leanOf
theorem dX8_least_0 : decode cX8_least 0 = .ok (.iconst (-1), 1) := by decide +kernel
theorem dX8_least_1 : decode cX8_least 1 = .ok (.istore_n 2, 1) := by decide +kernel
theorem dX8_least_2 : decode cX8_least 2 = .ok (.lconst 0, 1) := by decide +kernel
theorem dX8_least_3 : decode cX8_least 3 = .ok (.lstore_n 3, 1) := by decide +kernel
theorem dX8_least_4 : decode cX8_least 4 = .ok (.iconst 0, 1) := by decide +kernel
theorem dX8_least_5 : decode cX8_least 5 = .ok (.istore 5, 2) := by decide +kernel
theorem dX8_least_7 : decode cX8_least 7 = .ok (.iload 5, 2) := by decide +kernel
theorem dX8_least_9 : decode cX8_least 9 = .ok (.iconst 2, 1) := by decide +kernel
theorem dX8_least_10 : decode cX8_least 10 = .ok (.if_icmp .gt 51, 3) := by decide +kernel
theorem dX8_least_13 : decode cX8_least 13 = .ok (.aload_n 0, 1) := by decide +kernel
theorem dX8_least_14 : decode cX8_least 14 = .ok (.iload 5, 2) := by decide +kernel
theorem dX8_least_16 : decode cX8_least 16 = .ok (.iload_n 1, 1) := by decide +kernel
theorem dX8_least_17 : decode cX8_least 17 = .ok (.invokevirtual 334, 3) := by decide +kernel
theorem dX8_least_20 : decode cX8_least 20 = .ok (.lstore 6, 2) := by decide +kernel
theorem dX8_least_22 : decode cX8_least 22 = .ok (.lload 6, 2) := by decide +kernel
theorem dX8_least_24 : decode cX8_least 24 = .ok (.ldc2_w 282, 3) := by decide +kernel
theorem dX8_least_27 : decode cX8_least 27 = .ok (.lcmp, 1) := by decide +kernel
theorem dX8_least_28 : decode cX8_least 28 = .ok (.ifCond .eq 27, 3) := by decide +kernel
theorem dX8_least_55 : decode cX8_least 55 = .ok (.iinc 5 1, 3) := by decide +kernel
theorem dX8_least_58 : decode cX8_least 58 = .ok (.goto (-51), 3) := by decide +kernel
theorem dX8_least_61 : decode cX8_least 61 = .ok (.iload_n 2, 1) := by decide +kernel
theorem dX8_least_62 : decode cX8_least 62 = .ok (.ireturn, 1) := by decide +kernel
set_option maxRecDepth 20000 in
theorem ggX8_beside_X8_isPlaced : GoodIn wsX8_beside wsX8_isPlaced := goodIn_r _ [12, 6, 5, 13, 14, 15, 16, 17, 18, 19, 20, 21, 22, 23, 24, 67, 68, 69, 70, 71, 72, 73, 74, 75, 76, 77, 78, 79, 80, 81, 82, 83, 84, 85, 86, 87, 88, 89, 90, 91, 92, 93, 94, 95, 96, 97, 98, 99] (by decide +kernel) (by decide +kernel)
set_option maxRecDepth 20000 in
theorem gX8_beside_X8_isPlaced : GoodIn wsX8_beside (wsV RX8 206 RX8 yX8_isPlaced wsX8_isPlaced) := goodIn_app (goodIn_of _ (by decide +kernel)) ggX8_beside_X8_isPlaced
theorem dX8_beside_0 : decode cX8_beside 0 = .ok (.aload_n 0, 1) := by decide +kernel
theorem dX8_beside_1 : decode cX8_beside 1 = .ok (.aload_n 0, 1) := by decide +kernel
theorem dX8_beside_2 : decode cX8_beside 2 = .ok (.getfield 29, 3) := by decide +kernel
theorem dX8_beside_5 : decode cX8_beside 5 = .ok (.iload_n 1, 1) := by decide +kernel
theorem dX8_beside_6 : decode cX8_beside 6 = .ok (.invokevirtual 206, 3) := by decide +kernel
