theorem adX9_sheet_8 : (decode cX9_sheet 8 = .ok (.iload_n 2, 1)) ∧ (decode cX9_sheet 9 = .ok (.i2l, 1)) ∧ (decode cX9_sheet 10 = .ok (.iload_n 3, 1)) ∧ (decode cX9_sheet 11 = .ok (.i2l, 1)) ∧ (decode cX9_sheet 12 = .ok (.iload 4, 2)) ∧ (decode cX9_sheet 14 = .ok (.i2l, 1)) ∧ (decode cX9_sheet 15 = .ok (.invokevirtual 356, 3)) ∧ (decode cX9_sheet 18 = .ok (.ireturn, 1)) := by decide +kernel
theorem dX9_sheet_8 : decode cX9_sheet 8 = .ok (.iload_n 2, 1) := adX9_sheet_8.1
theorem dX9_sheet_9 : decode cX9_sheet 9 = .ok (.i2l, 1) := adX9_sheet_8.2.1
theorem dX9_sheet_10 : decode cX9_sheet 10 = .ok (.iload_n 3, 1) := adX9_sheet_8.2.2.1
theorem dX9_sheet_11 : decode cX9_sheet 11 = .ok (.i2l, 1) := adX9_sheet_8.2.2.2.1
theorem dX9_sheet_12 : decode cX9_sheet 12 = .ok (.iload 4, 2) := adX9_sheet_8.2.2.2.2.1
theorem dX9_sheet_14 : decode cX9_sheet 14 = .ok (.i2l, 1) := adX9_sheet_8.2.2.2.2.2.1
theorem dX9_sheet_15 : decode cX9_sheet 15 = .ok (.invokevirtual 356, 3) := adX9_sheet_8.2.2.2.2.2.2.1
theorem dX9_sheet_18 : decode cX9_sheet 18 = .ok (.ireturn, 1) := adX9_sheet_8.2.2.2.2.2.2.2
set_option maxRecDepth 20000 in
theorem ggX9_sheets_X9_isSlot : GoodIn wsX9_sheets wsX9_isSlot := goodIn_r _ [8, 9, 10, 11, 7, 12] (by decide +kernel) (by decide +kernel)
set_option maxRecDepth 20000 in
theorem gX9_sheets_X9_isSlot : GoodIn wsX9_sheets (va_wsS RX9 134 yX9_isSlot wsX9_isSlot) := goodIn_app (goodIn_of _ (by decide +kernel)) ggX9_sheets_X9_isSlot
set_option maxRecDepth 20000 in
theorem ggX9_sheets_X9_tells : GoodIn wsX9_sheets wsX9_tells := goodIn_r _ [16, 17, 18, 19, 20, 21, 22, 23, 24, 25, 26, 27, 10, 11, 7, 12, 28, 29, 30, 31, 32, 33, 34, 35, 36, 37, 38, 39, 40, 41, 42, 43, 44, 45, 46, 47, 48, 49, 50, 51, 52, 53, 54, 55, 56, 57, 58, 59, 60, 61, 62, 63, 64, 65, 66, 67, 68, 69, 70, 71, 72, 73, 74, 75, 76, 77, 78, 79, 80, 81, 82, 83, 84, 85, 86, 87] (by decide +kernel) (by decide +kernel)
set_option maxRecDepth 20000 in
theorem gX9_sheets_X9_tells : GoodIn wsX9_sheets (wsV RX9 356 RX9 yX9_tells wsX9_tells) := goodIn_app (goodIn_of _ (by decide +kernel)) ggX9_sheets_X9_tells
theorem adX9_sheets_0 : (decode cX9_sheets 0 = .ok (.aload_n 0, 1)) ∧ (decode cX9_sheets 1 = .ok (.iconst 0, 1)) ∧ (decode cX9_sheets 2 = .ok (.putfield 125, 3)) ∧ (decode cX9_sheets 5 = .ok (.iload_n 1, 1)) ∧ (decode cX9_sheets 6 = .ok (.invokestatic 134, 3)) ∧ (decode cX9_sheets 9 = .ok (.ifCond .ne 6, 3)) ∧ (decode cX9_sheets 12 = .ok (.bipush (-2), 2)) ∧ (decode cX9_sheets 14 = .ok (.ireturn, 1)) := by decide +kernel
theorem dX9_sheets_0 : decode cX9_sheets 0 = .ok (.aload_n 0, 1) := adX9_sheets_0.1
theorem dX9_sheets_1 : decode cX9_sheets 1 = .ok (.iconst 0, 1) := adX9_sheets_0.2.1
theorem dX9_sheets_2 : decode cX9_sheets 2 = .ok (.putfield 125, 3) := adX9_sheets_0.2.2.1
theorem dX9_sheets_5 : decode cX9_sheets 5 = .ok (.iload_n 1, 1) := adX9_sheets_0.2.2.2.1
theorem dX9_sheets_6 : decode cX9_sheets 6 = .ok (.invokestatic 134, 3) := adX9_sheets_0.2.2.2.2.1
theorem dX9_sheets_9 : decode cX9_sheets 9 = .ok (.ifCond .ne 6, 3) := adX9_sheets_0.2.2.2.2.2.1
theorem dX9_sheets_12 : decode cX9_sheets 12 = .ok (.bipush (-2), 2) := adX9_sheets_0.2.2.2.2.2.2.1
theorem dX9_sheets_14 : decode cX9_sheets 14 = .ok (.ireturn, 1) := adX9_sheets_0.2.2.2.2.2.2.2
theorem adX9_sheets_15 : (decode cX9_sheets 15 = .ok (.aload_n 0, 1)) ∧ (decode cX9_sheets 16 = .ok (.getfield 7, 3)) ∧ (decode cX9_sheets 19 = .ok (.iload_n 1, 1)) ∧ (decode cX9_sheets 20 = .ok (.iaload, 1)) ∧ (decode cX9_sheets 21 = .ok (.iconst (-1), 1)) ∧ (decode cX9_sheets 22 = .ok (.if_icmp .ne 6, 3)) ∧ (decode cX9_sheets 25 = .ok (.bipush (-6), 2)) ∧ (decode cX9_sheets 27 = .ok (.ireturn, 1)) := by decide +kernel
theorem dX9_sheets_15 : decode cX9_sheets 15 = .ok (.aload_n 0, 1) := adX9_sheets_15.1
theorem dX9_sheets_16 : decode cX9_sheets 16 = .ok (.getfield 7, 3) := adX9_sheets_15.2.1
theorem dX9_sheets_19 : decode cX9_sheets 19 = .ok (.iload_n 1, 1) := adX9_sheets_15.2.2.1
theorem dX9_sheets_20 : decode cX9_sheets 20 = .ok (.iaload, 1) := adX9_sheets_15.2.2.2.1
theorem dX9_sheets_21 : decode cX9_sheets 21 = .ok (.iconst (-1), 1) := adX9_sheets_15.2.2.2.2.1
theorem dX9_sheets_22 : decode cX9_sheets 22 = .ok (.if_icmp .ne 6, 3) := adX9_sheets_15.2.2.2.2.2.1
theorem dX9_sheets_25 : decode cX9_sheets 25 = .ok (.bipush (-6), 2) := adX9_sheets_15.2.2.2.2.2.2.1
theorem dX9_sheets_27 : decode cX9_sheets 27 = .ok (.ireturn, 1) := adX9_sheets_15.2.2.2.2.2.2.2
theorem adX9_sheets_28 : (decode cX9_sheets 28 = .ok (.iconst 0, 1)) ∧ (decode cX9_sheets 29 = .ok (.istore_n 2, 1)) ∧ (decode cX9_sheets 30 = .ok (.bipush 60, 2)) ∧ (decode cX9_sheets 32 = .ok (.iload_n 1, 1)) ∧ (decode cX9_sheets 33 = .ok (.imul, 1)) ∧ (decode cX9_sheets 34 = .ok (.istore_n 3, 1)) ∧ (decode cX9_sheets 35 = .ok (.iconst 4, 1)) ∧ (decode cX9_sheets 36 = .ok (.iload_n 2, 1)) := by decide +kernel
theorem dX9_sheets_28 : decode cX9_sheets 28 = .ok (.iconst 0, 1) := adX9_sheets_28.1
theorem dX9_sheets_29 : decode cX9_sheets 29 = .ok (.istore_n 2, 1) := adX9_sheets_28.2.1
theorem dX9_sheets_30 : decode cX9_sheets 30 = .ok (.bipush 60, 2) := adX9_sheets_28.2.2.1
theorem dX9_sheets_32 : decode cX9_sheets 32 = .ok (.iload_n 1, 1) := adX9_sheets_28.2.2.2.1
theorem dX9_sheets_33 : decode cX9_sheets 33 = .ok (.imul, 1) := adX9_sheets_28.2.2.2.2.1
theorem dX9_sheets_34 : decode cX9_sheets 34 = .ok (.istore_n 3, 1) := adX9_sheets_28.2.2.2.2.2.1
theorem dX9_sheets_35 : decode cX9_sheets 35 = .ok (.iconst 4, 1) := adX9_sheets_28.2.2.2.2.2.2.1
theorem dX9_sheets_36 : decode cX9_sheets 36 = .ok (.iload_n 2, 1) := adX9_sheets_28.2.2.2.2.2.2.2
theorem adX9_sheets_37 : (decode cX9_sheets 37 = .ok (.imul, 1)) ∧ (decode cX9_sheets 38 = .ok (.iconst 3, 1)) ∧ (decode cX9_sheets 39 = .ok (.iadd, 1)) ∧ (decode cX9_sheets 40 = .ok (.aload_n 0, 1)) ∧ (decode cX9_sheets 41 = .ok (.getfield 13, 3)) ∧ (decode cX9_sheets 44 = .ok (.iload_n 1, 1)) ∧ (decode cX9_sheets 45 = .ok (.iaload, 1)) ∧ (decode cX9_sheets 46 = .ok (.if_icmp .ge 51, 3)) := by decide +kernel
theorem dX9_sheets_37 : decode cX9_sheets 37 = .ok (.imul, 1) := adX9_sheets_37.1
theorem dX9_sheets_38 : decode cX9_sheets 38 = .ok (.iconst 3, 1) := adX9_sheets_37.2.1
theorem dX9_sheets_39 : decode cX9_sheets 39 = .ok (.iadd, 1) := adX9_sheets_37.2.2.1
theorem dX9_sheets_40 : decode cX9_sheets 40 = .ok (.aload_n 0, 1) := adX9_sheets_37.2.2.2.1
theorem dX9_sheets_41 : decode cX9_sheets 41 = .ok (.getfield 13, 3) := adX9_sheets_37.2.2.2.2.1
theorem dX9_sheets_44 : decode cX9_sheets 44 = .ok (.iload_n 1, 1) := adX9_sheets_37.2.2.2.2.2.1
theorem dX9_sheets_45 : decode cX9_sheets 45 = .ok (.iaload, 1) := adX9_sheets_37.2.2.2.2.2.2.1
theorem dX9_sheets_46 : decode cX9_sheets 46 = .ok (.if_icmp .ge 51, 3) := adX9_sheets_37.2.2.2.2.2.2.2
theorem adX9_sheets_49 : (decode cX9_sheets 49 = .ok (.aload_n 0, 1)) ∧ (decode cX9_sheets 50 = .ok (.aload_n 0, 1)) ∧ (decode cX9_sheets 51 = .ok (.getfield 16, 3)) ∧ (decode cX9_sheets 54 = .ok (.iload_n 3, 1)) ∧ (decode cX9_sheets 55 = .ok (.laload, 1)) ∧ (decode cX9_sheets 56 = .ok (.aload_n 0, 1)) ∧ (decode cX9_sheets 57 = .ok (.getfield 16, 3)) ∧ (decode cX9_sheets 60 = .ok (.iload_n 3, 1)) := by decide +kernel
theorem dX9_sheets_49 : decode cX9_sheets 49 = .ok (.aload_n 0, 1) := adX9_sheets_49.1
theorem dX9_sheets_50 : decode cX9_sheets 50 = .ok (.aload_n 0, 1) := adX9_sheets_49.2.1
theorem dX9_sheets_51 : decode cX9_sheets 51 = .ok (.getfield 16, 3) := adX9_sheets_49.2.2.1
theorem dX9_sheets_54 : decode cX9_sheets 54 = .ok (.iload_n 3, 1) := adX9_sheets_49.2.2.2.1
theorem dX9_sheets_55 : decode cX9_sheets 55 = .ok (.laload, 1) := adX9_sheets_49.2.2.2.2.1
theorem dX9_sheets_56 : decode cX9_sheets 56 = .ok (.aload_n 0, 1) := adX9_sheets_49.2.2.2.2.2.1
theorem dX9_sheets_57 : decode cX9_sheets 57 = .ok (.getfield 16, 3) := adX9_sheets_49.2.2.2.2.2.2.1
theorem dX9_sheets_60 : decode cX9_sheets 60 = .ok (.iload_n 3, 1) := adX9_sheets_49.2.2.2.2.2.2.2
theorem adX9_sheets_61 : (decode cX9_sheets 61 = .ok (.iconst 1, 1)) ∧ (decode cX9_sheets 62 = .ok (.iadd, 1)) ∧ (decode cX9_sheets 63 = .ok (.laload, 1)) ∧ (decode cX9_sheets 64 = .ok (.aload_n 0, 1)) ∧ (decode cX9_sheets 65 = .ok (.getfield 16, 3)) ∧ (decode cX9_sheets 68 = .ok (.iload_n 3, 1)) ∧ (decode cX9_sheets 69 = .ok (.iconst 2, 1)) ∧ (decode cX9_sheets 70 = .ok (.iadd, 1)) := by decide +kernel
theorem dX9_sheets_61 : decode cX9_sheets 61 = .ok (.iconst 1, 1) := adX9_sheets_61.1
theorem dX9_sheets_62 : decode cX9_sheets 62 = .ok (.iadd, 1) := adX9_sheets_61.2.1
theorem dX9_sheets_63 : decode cX9_sheets 63 = .ok (.laload, 1) := adX9_sheets_61.2.2.1
theorem dX9_sheets_64 : decode cX9_sheets 64 = .ok (.aload_n 0, 1) := adX9_sheets_61.2.2.2.1
theorem dX9_sheets_65 : decode cX9_sheets 65 = .ok (.getfield 16, 3) := adX9_sheets_61.2.2.2.2.1
theorem dX9_sheets_68 : decode cX9_sheets 68 = .ok (.iload_n 3, 1) := adX9_sheets_61.2.2.2.2.2.1
theorem dX9_sheets_69 : decode cX9_sheets 69 = .ok (.iconst 2, 1) := adX9_sheets_61.2.2.2.2.2.2.1
theorem dX9_sheets_70 : decode cX9_sheets 70 = .ok (.iadd, 1) := adX9_sheets_61.2.2.2.2.2.2.2
theorem adX9_sheets_71 : (decode cX9_sheets 71 = .ok (.laload, 1)) ∧ (decode cX9_sheets 72 = .ok (.aload_n 0, 1)) ∧ (decode cX9_sheets 73 = .ok (.getfield 16, 3)) ∧ (decode cX9_sheets 76 = .ok (.iload_n 3, 1)) ∧ (decode cX9_sheets 77 = .ok (.iconst 3, 1)) ∧ (decode cX9_sheets 78 = .ok (.iadd, 1)) ∧ (decode cX9_sheets 79 = .ok (.laload, 1)) ∧ (decode cX9_sheets 80 = .ok (.invokevirtual 356, 3)) := by decide +kernel
theorem dX9_sheets_71 : decode cX9_sheets 71 = .ok (.laload, 1) := adX9_sheets_71.1
theorem dX9_sheets_72 : decode cX9_sheets 72 = .ok (.aload_n 0, 1) := adX9_sheets_71.2.1
theorem dX9_sheets_73 : decode cX9_sheets 73 = .ok (.getfield 16, 3) := adX9_sheets_71.2.2.1
theorem dX9_sheets_76 : decode cX9_sheets 76 = .ok (.iload_n 3, 1) := adX9_sheets_71.2.2.2.1
theorem dX9_sheets_77 : decode cX9_sheets 77 = .ok (.iconst 3, 1) := adX9_sheets_71.2.2.2.2.1
theorem dX9_sheets_78 : decode cX9_sheets 78 = .ok (.iadd, 1) := adX9_sheets_71.2.2.2.2.2.1
theorem dX9_sheets_79 : decode cX9_sheets 79 = .ok (.laload, 1) := adX9_sheets_71.2.2.2.2.2.2.1
theorem dX9_sheets_80 : decode cX9_sheets 80 = .ok (.invokevirtual 356, 3) := adX9_sheets_71.2.2.2.2.2.2.2
theorem adX9_sheets_83 : (decode cX9_sheets 83 = .ok (.ifCond .ge 5, 3)) ∧ (decode cX9_sheets 86 = .ok (.iload_n 2, 1)) ∧ (decode cX9_sheets 87 = .ok (.ireturn, 1)) ∧ (decode cX9_sheets 88 = .ok (.iinc 2 1, 3)) ∧ (decode cX9_sheets 91 = .ok (.iinc 3 4, 3)) ∧ (decode cX9_sheets 94 = .ok (.goto (-59), 3)) ∧ (decode cX9_sheets 97 = .ok (.iload_n 2, 1)) ∧ (decode cX9_sheets 98 = .ok (.ireturn, 1)) := by decide +kernel
theorem dX9_sheets_83 : decode cX9_sheets 83 = .ok (.ifCond .ge 5, 3) := adX9_sheets_83.1
theorem dX9_sheets_86 : decode cX9_sheets 86 = .ok (.iload_n 2, 1) := adX9_sheets_83.2.1
theorem dX9_sheets_87 : decode cX9_sheets 87 = .ok (.ireturn, 1) := adX9_sheets_83.2.2.1
theorem dX9_sheets_88 : decode cX9_sheets 88 = .ok (.iinc 2 1, 3) := adX9_sheets_83.2.2.2.1
theorem dX9_sheets_91 : decode cX9_sheets 91 = .ok (.iinc 3 4, 3) := adX9_sheets_83.2.2.2.2.1
theorem dX9_sheets_94 : decode cX9_sheets 94 = .ok (.goto (-59), 3) := adX9_sheets_83.2.2.2.2.2.1
theorem dX9_sheets_97 : decode cX9_sheets 97 = .ok (.iload_n 2, 1) := adX9_sheets_83.2.2.2.2.2.2.1
theorem dX9_sheets_98 : decode cX9_sheets 98 = .ok (.ireturn, 1) := adX9_sheets_83.2.2.2.2.2.2.2
set_option maxRecDepth 20000 in
theorem ggX9_isSheet_X9_in : GoodIn wsX9_isSheet wsX9_in := goodIn_r _ [5] (by decide +kernel) (by decide +kernel)
set_option maxRecDepth 20000 in
theorem gX9_isSheet_X9_in : GoodIn wsX9_isSheet (va_wsS RX9 130 yX9_in wsX9_in) := goodIn_app (goodIn_of _ (by decide +kernel)) ggX9_isSheet_X9_in
theorem adX9_isSheet_0 : (decode cX9_isSheet 0 = .ok (.iload_n 1, 1)) ∧ (decode cX9_isSheet 1 = .ok (.i2l, 1)) ∧ (decode cX9_isSheet 2 = .ok (.lconst 0, 1)) ∧ (decode cX9_isSheet 3 = .ok (.aload_n 0, 1)) ∧ (decode cX9_isSheet 4 = .ok (.getfield 89, 3)) ∧ (decode cX9_isSheet 7 = .ok (.iconst 0, 1)) ∧ (decode cX9_isSheet 8 = .ok (.iaload, 1)) ∧ (decode cX9_isSheet 9 = .ok (.iconst 1, 1)) := by decide +kernel
theorem dX9_isSheet_0 : decode cX9_isSheet 0 = .ok (.iload_n 1, 1) := adX9_isSheet_0.1
theorem dX9_isSheet_1 : decode cX9_isSheet 1 = .ok (.i2l, 1) := adX9_isSheet_0.2.1
theorem dX9_isSheet_2 : decode cX9_isSheet 2 = .ok (.lconst 0, 1) := adX9_isSheet_0.2.2.1
theorem dX9_isSheet_3 : decode cX9_isSheet 3 = .ok (.aload_n 0, 1) := adX9_isSheet_0.2.2.2.1
theorem dX9_isSheet_4 : decode cX9_isSheet 4 = .ok (.getfield 89, 3) := adX9_isSheet_0.2.2.2.2.1
theorem dX9_isSheet_7 : decode cX9_isSheet 7 = .ok (.iconst 0, 1) := adX9_isSheet_0.2.2.2.2.2.1
theorem dX9_isSheet_8 : decode cX9_isSheet 8 = .ok (.iaload, 1) := adX9_isSheet_0.2.2.2.2.2.2.1
theorem dX9_isSheet_9 : decode cX9_isSheet 9 = .ok (.iconst 1, 1) := adX9_isSheet_0.2.2.2.2.2.2.2
theorem adX9_isSheet_10 : (decode cX9_isSheet 10 = .ok (.isub, 1)) ∧ (decode cX9_isSheet 11 = .ok (.i2l, 1)) ∧ (decode cX9_isSheet 12 = .ok (.invokestatic 130, 3)) ∧ (decode cX9_isSheet 15 = .ok (.ireturn, 1)) := by decide +kernel
theorem dX9_isSheet_10 : decode cX9_isSheet 10 = .ok (.isub, 1) := adX9_isSheet_10.1
theorem dX9_isSheet_11 : decode cX9_isSheet 11 = .ok (.i2l, 1) := adX9_isSheet_10.2.1
theorem dX9_isSheet_12 : decode cX9_isSheet 12 = .ok (.invokestatic 130, 3) := adX9_isSheet_10.2.2.1
theorem dX9_isSheet_15 : decode cX9_isSheet 15 = .ok (.ireturn, 1) := adX9_isSheet_10.2.2.2
set_option maxRecDepth 20000 in
theorem ggX9_isThere_X9_isSheet : GoodIn wsX9_isThere wsX9_isSheet := goodIn_r _ [6, 7, 8, 9, 5, 10, 16, 17, 18, 19, 20, 21, 22, 23, 24, 25, 26, 27, 28, 29, 30, 31, 32, 33, 34, 35, 36, 37, 38, 39, 40, 41, 42, 43, 44, 45, 46, 47, 48, 49, 50, 51, 52, 53, 54, 55, 56, 57, 58, 59, 60, 61, 62, 63, 64, 65, 66, 67, 68, 69, 70, 71, 72, 73, 74, 75] (by decide +kernel) (by decide +kernel)
set_option maxRecDepth 20000 in
theorem gX9_isThere_X9_isSheet : GoodIn wsX9_isThere (wsV RX9 360 RX9 yX9_isSheet wsX9_isSheet) := goodIn_app (goodIn_of _ (by decide +kernel)) ggX9_isThere_X9_isSheet
set_option maxRecDepth 20000 in
theorem ggX9_isThere_X9_isState : GoodIn wsX9_isThere wsX9_isState := goodIn_r _ [14, 15, 8, 9, 5, 10, 16, 17, 18, 19, 20, 21, 22, 23, 24, 25, 26, 27, 28, 29, 30, 31, 32, 33, 34, 35, 36, 37, 38, 39, 40, 41, 42, 43, 44, 45, 46, 47, 48, 49, 50, 51, 52, 53, 54, 55, 56, 57, 58, 59, 60, 61, 62, 63, 64, 65, 66, 67, 68, 69, 70, 71, 72, 73, 74, 75] (by decide +kernel) (by decide +kernel)
set_option maxRecDepth 20000 in
theorem gX9_isThere_X9_isState : GoodIn wsX9_isThere (wsV RX9 296 RX9 yX9_isState wsX9_isState) := goodIn_app (goodIn_of _ (by decide +kernel)) ggX9_isThere_X9_isState
theorem adX9_isThere_0 : (decode cX9_isThere 0 = .ok (.aload_n 0, 1)) ∧ (decode cX9_isThere 1 = .ok (.iload_n 1, 1)) ∧ (decode cX9_isThere 2 = .ok (.invokevirtual 360, 3)) ∧ (decode cX9_isThere 5 = .ok (.ifCond .eq 20, 3)) ∧ (decode cX9_isThere 8 = .ok (.aload_n 0, 1)) ∧ (decode cX9_isThere 9 = .ok (.aload_n 0, 1)) ∧ (decode cX9_isThere 10 = .ok (.getfield 92, 3)) ∧ (decode cX9_isThere 13 = .ok (.iload_n 1, 1)) := by decide +kernel
theorem dX9_isThere_0 : decode cX9_isThere 0 = .ok (.aload_n 0, 1) := adX9_isThere_0.1
theorem dX9_isThere_1 : decode cX9_isThere 1 = .ok (.iload_n 1, 1) := adX9_isThere_0.2.1
theorem dX9_isThere_2 : decode cX9_isThere 2 = .ok (.invokevirtual 360, 3) := adX9_isThere_0.2.2.1
theorem dX9_isThere_5 : decode cX9_isThere 5 = .ok (.ifCond .eq 20, 3) := adX9_isThere_0.2.2.2.1
theorem dX9_isThere_8 : decode cX9_isThere 8 = .ok (.aload_n 0, 1) := adX9_isThere_0.2.2.2.2.1
theorem dX9_isThere_9 : decode cX9_isThere 9 = .ok (.aload_n 0, 1) := adX9_isThere_0.2.2.2.2.2.1
theorem dX9_isThere_10 : decode cX9_isThere 10 = .ok (.getfield 92, 3) := adX9_isThere_0.2.2.2.2.2.2.1
theorem dX9_isThere_13 : decode cX9_isThere 13 = .ok (.iload_n 1, 1) := adX9_isThere_0.2.2.2.2.2.2.2
theorem adX9_isThere_14 : (decode cX9_isThere 14 = .ok (.iaload, 1)) ∧ (decode cX9_isThere 15 = .ok (.invokevirtual 296, 3)) ∧ (decode cX9_isThere 18 = .ok (.ifCond .eq 7, 3)) ∧ (decode cX9_isThere 21 = .ok (.iconst 1, 1)) ∧ (decode cX9_isThere 22 = .ok (.goto 4, 3)) ∧ (decode cX9_isThere 25 = .ok (.iconst 0, 1)) ∧ (decode cX9_isThere 26 = .ok (.ireturn, 1)) := by decide +kernel
theorem dX9_isThere_14 : decode cX9_isThere 14 = .ok (.iaload, 1) := adX9_isThere_14.1
theorem dX9_isThere_15 : decode cX9_isThere 15 = .ok (.invokevirtual 296, 3) := adX9_isThere_14.2.1
theorem dX9_isThere_18 : decode cX9_isThere 18 = .ok (.ifCond .eq 7, 3) := adX9_isThere_14.2.2.1
theorem dX9_isThere_21 : decode cX9_isThere 21 = .ok (.iconst 1, 1) := adX9_isThere_14.2.2.2.1
theorem dX9_isThere_22 : decode cX9_isThere 22 = .ok (.goto 4, 3) := adX9_isThere_14.2.2.2.2.1
theorem dX9_isThere_25 : decode cX9_isThere 25 = .ok (.iconst 0, 1) := adX9_isThere_14.2.2.2.2.2.1
theorem dX9_isThere_26 : decode cX9_isThere 26 = .ok (.ireturn, 1) := adX9_isThere_14.2.2.2.2.2.2
set_option maxRecDepth 20000 in
theorem ggX9_told_X9_isSheet : GoodIn wsX9_told wsX9_isSheet := goodIn_r _ [12, 13, 14, 15, 11, 16, 17, 18, 19, 20, 21, 22, 23, 24, 25, 26, 27, 28, 29, 30, 31, 32, 33, 34, 35, 36, 37, 38, 39, 40, 41, 42, 43, 44, 45, 46, 47, 48, 49, 50, 51, 52, 53, 54, 55, 56, 57, 58, 59, 60, 61, 62, 63, 64, 65, 66, 67, 68, 69, 70, 71, 72, 73, 74, 75, 76] (by decide +kernel) (by decide +kernel)
set_option maxRecDepth 20000 in
theorem gX9_told_X9_isSheet : GoodIn wsX9_told (wsV RX9 360 RX9 yX9_isSheet wsX9_isSheet) := goodIn_app (goodIn_of _ (by decide +kernel)) ggX9_told_X9_isSheet
theorem adX9_told_0 : (decode cX9_told 0 = .ok (.aload_n 0, 1)) ∧ (decode cX9_told 1 = .ok (.iconst 0, 1)) ∧ (decode cX9_told 2 = .ok (.putfield 125, 3)) ∧ (decode cX9_told 5 = .ok (.aload_n 0, 1)) ∧ (decode cX9_told 6 = .ok (.iload_n 1, 1)) ∧ (decode cX9_told 7 = .ok (.invokevirtual 360, 3)) ∧ (decode cX9_told 10 = .ok (.ifCond .ne 5, 3)) ∧ (decode cX9_told 13 = .ok (.iconst (-1), 1)) := by decide +kernel
theorem dX9_told_0 : decode cX9_told 0 = .ok (.aload_n 0, 1) := adX9_told_0.1
theorem dX9_told_1 : decode cX9_told 1 = .ok (.iconst 0, 1) := adX9_told_0.2.1
theorem dX9_told_2 : decode cX9_told 2 = .ok (.putfield 125, 3) := adX9_told_0.2.2.1
theorem dX9_told_5 : decode cX9_told 5 = .ok (.aload_n 0, 1) := adX9_told_0.2.2.2.1
theorem dX9_told_6 : decode cX9_told 6 = .ok (.iload_n 1, 1) := adX9_told_0.2.2.2.2.1
theorem dX9_told_7 : decode cX9_told 7 = .ok (.invokevirtual 360, 3) := adX9_told_0.2.2.2.2.2.1
theorem dX9_told_10 : decode cX9_told 10 = .ok (.ifCond .ne 5, 3) := adX9_told_0.2.2.2.2.2.2.1
theorem dX9_told_13 : decode cX9_told 13 = .ok (.iconst (-1), 1) := adX9_told_0.2.2.2.2.2.2.2
theorem adX9_told_14 : (decode cX9_told 14 = .ok (.ireturn, 1)) ∧ (decode cX9_told 15 = .ok (.iload_n 2, 1)) ∧ (decode cX9_told 16 = .ok (.tableswitch 82 0 5 #[40, 47, 54, 61, 68, 75], 40)) ∧ (decode cX9_told 56 = .ok (.aload_n 0, 1)) ∧ (decode cX9_told 57 = .ok (.getfield 92, 3)) ∧ (decode cX9_told 60 = .ok (.iload_n 1, 1)) ∧ (decode cX9_told 61 = .ok (.iaload, 1)) ∧ (decode cX9_told 62 = .ok (.ireturn, 1)) := by decide +kernel
theorem dX9_told_14 : decode cX9_told 14 = .ok (.ireturn, 1) := adX9_told_14.1
theorem dX9_told_15 : decode cX9_told 15 = .ok (.iload_n 2, 1) := adX9_told_14.2.1
theorem dX9_told_16 : decode cX9_told 16 = .ok (.tableswitch 82 0 5 #[40, 47, 54, 61, 68, 75], 40) := adX9_told_14.2.2.1
theorem dX9_told_56 : decode cX9_told 56 = .ok (.aload_n 0, 1) := adX9_told_14.2.2.2.1
theorem dX9_told_57 : decode cX9_told 57 = .ok (.getfield 92, 3) := adX9_told_14.2.2.2.2.1
theorem dX9_told_60 : decode cX9_told 60 = .ok (.iload_n 1, 1) := adX9_told_14.2.2.2.2.2.1
theorem dX9_told_61 : decode cX9_told 61 = .ok (.iaload, 1) := adX9_told_14.2.2.2.2.2.2.1
theorem dX9_told_62 : decode cX9_told 62 = .ok (.ireturn, 1) := adX9_told_14.2.2.2.2.2.2.2
theorem adX9_told_63 : (decode cX9_told 63 = .ok (.aload_n 0, 1)) ∧ (decode cX9_told 64 = .ok (.getfield 95, 3)) ∧ (decode cX9_told 67 = .ok (.iload_n 1, 1)) ∧ (decode cX9_told 68 = .ok (.iaload, 1)) ∧ (decode cX9_told 69 = .ok (.ireturn, 1)) ∧ (decode cX9_told 70 = .ok (.aload_n 0, 1)) ∧ (decode cX9_told 71 = .ok (.getfield 98, 3)) ∧ (decode cX9_told 74 = .ok (.iload_n 1, 1)) := by decide +kernel
theorem dX9_told_63 : decode cX9_told 63 = .ok (.aload_n 0, 1) := adX9_told_63.1
theorem dX9_told_64 : decode cX9_told 64 = .ok (.getfield 95, 3) := adX9_told_63.2.1
theorem dX9_told_67 : decode cX9_told 67 = .ok (.iload_n 1, 1) := adX9_told_63.2.2.1
theorem dX9_told_68 : decode cX9_told 68 = .ok (.iaload, 1) := adX9_told_63.2.2.2.1
theorem dX9_told_69 : decode cX9_told 69 = .ok (.ireturn, 1) := adX9_told_63.2.2.2.2.1
theorem dX9_told_70 : decode cX9_told 70 = .ok (.aload_n 0, 1) := adX9_told_63.2.2.2.2.2.1
theorem dX9_told_71 : decode cX9_told 71 = .ok (.getfield 98, 3) := adX9_told_63.2.2.2.2.2.2.1
theorem dX9_told_74 : decode cX9_told 74 = .ok (.iload_n 1, 1) := adX9_told_63.2.2.2.2.2.2.2
theorem adX9_told_75 : (decode cX9_told 75 = .ok (.iaload, 1)) ∧ (decode cX9_told 76 = .ok (.ireturn, 1)) ∧ (decode cX9_told 77 = .ok (.aload_n 0, 1)) ∧ (decode cX9_told 78 = .ok (.getfield 101, 3)) ∧ (decode cX9_told 81 = .ok (.iload_n 1, 1)) ∧ (decode cX9_told 82 = .ok (.iaload, 1)) ∧ (decode cX9_told 83 = .ok (.ireturn, 1)) ∧ (decode cX9_told 84 = .ok (.aload_n 0, 1)) := by decide +kernel
theorem dX9_told_75 : decode cX9_told 75 = .ok (.iaload, 1) := adX9_told_75.1
theorem dX9_told_76 : decode cX9_told 76 = .ok (.ireturn, 1) := adX9_told_75.2.1
theorem dX9_told_77 : decode cX9_told 77 = .ok (.aload_n 0, 1) := adX9_told_75.2.2.1
theorem dX9_told_78 : decode cX9_told 78 = .ok (.getfield 101, 3) := adX9_told_75.2.2.2.1
theorem dX9_told_81 : decode cX9_told 81 = .ok (.iload_n 1, 1) := adX9_told_75.2.2.2.2.1
theorem dX9_told_82 : decode cX9_told 82 = .ok (.iaload, 1) := adX9_told_75.2.2.2.2.2.1
theorem dX9_told_83 : decode cX9_told 83 = .ok (.ireturn, 1) := adX9_told_75.2.2.2.2.2.2.1
theorem dX9_told_84 : decode cX9_told 84 = .ok (.aload_n 0, 1) := adX9_told_75.2.2.2.2.2.2.2
theorem adX9_told_85 : (decode cX9_told 85 = .ok (.getfield 104, 3)) ∧ (decode cX9_told 88 = .ok (.iload_n 1, 1)) ∧ (decode cX9_told 89 = .ok (.iaload, 1)) ∧ (decode cX9_told 90 = .ok (.ireturn, 1)) ∧ (decode cX9_told 91 = .ok (.aload_n 0, 1)) ∧ (decode cX9_told 92 = .ok (.getfield 107, 3)) ∧ (decode cX9_told 95 = .ok (.iload_n 1, 1)) ∧ (decode cX9_told 96 = .ok (.iaload, 1)) := by decide +kernel
theorem dX9_told_85 : decode cX9_told 85 = .ok (.getfield 104, 3) := adX9_told_85.1
theorem dX9_told_88 : decode cX9_told 88 = .ok (.iload_n 1, 1) := adX9_told_85.2.1
theorem dX9_told_89 : decode cX9_told 89 = .ok (.iaload, 1) := adX9_told_85.2.2.1
theorem dX9_told_90 : decode cX9_told 90 = .ok (.ireturn, 1) := adX9_told_85.2.2.2.1
theorem dX9_told_91 : decode cX9_told 91 = .ok (.aload_n 0, 1) := adX9_told_85.2.2.2.2.1
theorem dX9_told_92 : decode cX9_told 92 = .ok (.getfield 107, 3) := adX9_told_85.2.2.2.2.2.1
theorem dX9_told_95 : decode cX9_told 95 = .ok (.iload_n 1, 1) := adX9_told_85.2.2.2.2.2.2.1
theorem dX9_told_96 : decode cX9_told 96 = .ok (.iaload, 1) := adX9_told_85.2.2.2.2.2.2.2
theorem adX9_told_97 : (decode cX9_told 97 = .ok (.ireturn, 1)) ∧ (decode cX9_told 98 = .ok (.iconst (-1), 1)) ∧ (decode cX9_told 99 = .ok (.ireturn, 1)) := by decide +kernel
theorem dX9_told_97 : decode cX9_told 97 = .ok (.ireturn, 1) := adX9_told_97.1
theorem dX9_told_98 : decode cX9_told 98 = .ok (.iconst (-1), 1) := adX9_told_97.2.1
theorem dX9_told_99 : decode cX9_told 99 = .ok (.ireturn, 1) := adX9_told_97.2.2
set_option maxRecDepth 20000 in
theorem ggX9_would_X9_isThere : GoodIn wsX9_would wsX9_isThere := goodIn_r _ [8, 2, 9, 10, 11, 7, 12, 13, 14, 15, 16, 17, 18, 19, 20, 21, 36, 37, 38, 39, 40, 41, 42, 43, 44, 45, 46, 47, 48, 49, 50, 51, 52, 53, 54, 55, 56, 57, 58, 59, 60, 61, 62, 63, 64, 65, 66, 67, 68, 69, 70, 71, 72, 73, 74, 75, 76, 77, 78, 79, 80, 81, 82, 83, 84, 85, 86, 87, 88, 89, 90, 91, 92, 93, 94, 95] (by decide +kernel) (by decide +kernel)
set_option maxRecDepth 20000 in
theorem gX9_would_X9_isThere : GoodIn wsX9_would (wsV RX9 363 RX9 yX9_isThere wsX9_isThere) := goodIn_app (goodIn_of _ (by decide +kernel)) ggX9_would_X9_isThere
set_option maxRecDepth 20000 in
theorem ggX9_would_X9_isMonth : GoodIn wsX9_would wsX9_isMonth := goodIn_r _ [24, 25, 14, 15, 7, 16] (by decide +kernel) (by decide +kernel)
set_option maxRecDepth 20000 in
theorem gX9_would_X9_isMonth : GoodIn wsX9_would (va_wsS RX9 299 yX9_isMonth wsX9_isMonth) := goodIn_app (goodIn_of _ (by decide +kernel)) ggX9_would_X9_isMonth
set_option maxRecDepth 20000 in
theorem ggX9_would_X9_forcedOf : GoodIn wsX9_would wsX9_forcedOf := goodIn_r _ [29, 30, 31, 32, 33, 7, 34, 35, 36, 37, 38, 39, 40, 41, 42, 43, 44, 45, 46, 47, 48, 49, 50, 51, 52, 53, 54, 55, 56, 57, 58, 59, 60, 61, 62, 63, 64, 65, 66, 67, 68, 69, 70, 71, 72, 73, 74, 75, 76, 77, 78, 79, 80, 81, 82, 83, 84, 85, 86, 87, 88, 89, 90, 91, 92, 93, 94, 95] (by decide +kernel) (by decide +kernel)
set_option maxRecDepth 20000 in
theorem gX9_would_X9_forcedOf : GoodIn wsX9_would (wsV RX9 302 RX9 yX9_forcedOf wsX9_forcedOf) := goodIn_app (goodIn_of _ (by decide +kernel)) ggX9_would_X9_forcedOf
theorem adX9_would_0 : (decode cX9_would 0 = .ok (.aload_n 0, 1)) ∧ (decode cX9_would 1 = .ok (.iconst 0, 1)) ∧ (decode cX9_would 2 = .ok (.putfield 125, 3)) ∧ (decode cX9_would 5 = .ok (.aload_n 0, 1)) ∧ (decode cX9_would 6 = .ok (.iload_n 1, 1)) ∧ (decode cX9_would 7 = .ok (.invokevirtual 363, 3)) ∧ (decode cX9_would 10 = .ok (.ifCond .eq 10, 3)) ∧ (decode cX9_would 13 = .ok (.iload_n 2, 1)) := by decide +kernel
theorem dX9_would_0 : decode cX9_would 0 = .ok (.aload_n 0, 1) := adX9_would_0.1
theorem dX9_would_1 : decode cX9_would 1 = .ok (.iconst 0, 1) := adX9_would_0.2.1
theorem dX9_would_2 : decode cX9_would 2 = .ok (.putfield 125, 3) := adX9_would_0.2.2.1
theorem dX9_would_5 : decode cX9_would 5 = .ok (.aload_n 0, 1) := adX9_would_0.2.2.2.1
theorem dX9_would_6 : decode cX9_would 6 = .ok (.iload_n 1, 1) := adX9_would_0.2.2.2.2.1
theorem dX9_would_7 : decode cX9_would 7 = .ok (.invokevirtual 363, 3) := adX9_would_0.2.2.2.2.2.1
theorem dX9_would_10 : decode cX9_would 10 = .ok (.ifCond .eq 10, 3) := adX9_would_0.2.2.2.2.2.2.1
theorem dX9_would_13 : decode cX9_would 13 = .ok (.iload_n 2, 1) := adX9_would_0.2.2.2.2.2.2.2
theorem adX9_would_14 : (decode cX9_would 14 = .ok (.invokestatic 299, 3)) ∧ (decode cX9_would 17 = .ok (.ifCond .ne 6, 3)) ∧ (decode cX9_would 20 = .ok (.bipush (-2), 2)) ∧ (decode cX9_would 22 = .ok (.ireturn, 1)) ∧ (decode cX9_would 23 = .ok (.aload_n 0, 1)) ∧ (decode cX9_would 24 = .ok (.aload_n 0, 1)) ∧ (decode cX9_would 25 = .ok (.getfield 92, 3)) ∧ (decode cX9_would 28 = .ok (.iload_n 1, 1)) := by decide +kernel
theorem dX9_would_14 : decode cX9_would 14 = .ok (.invokestatic 299, 3) := adX9_would_14.1
theorem dX9_would_17 : decode cX9_would 17 = .ok (.ifCond .ne 6, 3) := adX9_would_14.2.1
theorem dX9_would_20 : decode cX9_would 20 = .ok (.bipush (-2), 2) := adX9_would_14.2.2.1
theorem dX9_would_22 : decode cX9_would 22 = .ok (.ireturn, 1) := adX9_would_14.2.2.2.1
theorem dX9_would_23 : decode cX9_would 23 = .ok (.aload_n 0, 1) := adX9_would_14.2.2.2.2.1
theorem dX9_would_24 : decode cX9_would 24 = .ok (.aload_n 0, 1) := adX9_would_14.2.2.2.2.2.1
theorem dX9_would_25 : decode cX9_would 25 = .ok (.getfield 92, 3) := adX9_would_14.2.2.2.2.2.2.1
theorem dX9_would_28 : decode cX9_would 28 = .ok (.iload_n 1, 1) := adX9_would_14.2.2.2.2.2.2.2
theorem adX9_would_29 : (decode cX9_would 29 = .ok (.iaload, 1)) ∧ (decode cX9_would 30 = .ok (.iload_n 2, 1)) ∧ (decode cX9_would 31 = .ok (.invokevirtual 302, 3)) ∧ (decode cX9_would 34 = .ok (.istore_n 3, 1)) ∧ (decode cX9_would 35 = .ok (.iload_n 3, 1)) ∧ (decode cX9_would 36 = .ok (.aload_n 0, 1)) ∧ (decode cX9_would 37 = .ok (.getfield 107, 3)) ∧ (decode cX9_would 40 = .ok (.iload_n 1, 1)) := by decide +kernel
theorem dX9_would_29 : decode cX9_would 29 = .ok (.iaload, 1) := adX9_would_29.1
theorem dX9_would_30 : decode cX9_would 30 = .ok (.iload_n 2, 1) := adX9_would_29.2.1
theorem dX9_would_31 : decode cX9_would 31 = .ok (.invokevirtual 302, 3) := adX9_would_29.2.2.1
theorem dX9_would_34 : decode cX9_would 34 = .ok (.istore_n 3, 1) := adX9_would_29.2.2.2.1
theorem dX9_would_35 : decode cX9_would 35 = .ok (.iload_n 3, 1) := adX9_would_29.2.2.2.2.1
theorem dX9_would_36 : decode cX9_would 36 = .ok (.aload_n 0, 1) := adX9_would_29.2.2.2.2.2.1
theorem dX9_would_37 : decode cX9_would 37 = .ok (.getfield 107, 3) := adX9_would_29.2.2.2.2.2.2.1
theorem dX9_would_40 : decode cX9_would 40 = .ok (.iload_n 1, 1) := adX9_would_29.2.2.2.2.2.2.2
theorem adX9_would_41 : (decode cX9_would 41 = .ok (.iaload, 1)) ∧ (decode cX9_would 42 = .ok (.if_icmp .le 7, 3)) ∧ (decode cX9_would 45 = .ok (.iload_n 3, 1)) ∧ (decode cX9_would 46 = .ok (.goto 9, 3)) ∧ (decode cX9_would 49 = .ok (.aload_n 0, 1)) ∧ (decode cX9_would 50 = .ok (.getfield 107, 3)) ∧ (decode cX9_would 53 = .ok (.iload_n 1, 1)) ∧ (decode cX9_would 54 = .ok (.iaload, 1)) := by decide +kernel
theorem dX9_would_41 : decode cX9_would 41 = .ok (.iaload, 1) := adX9_would_41.1
theorem dX9_would_42 : decode cX9_would 42 = .ok (.if_icmp .le 7, 3) := adX9_would_41.2.1
theorem dX9_would_45 : decode cX9_would 45 = .ok (.iload_n 3, 1) := adX9_would_41.2.2.1
theorem dX9_would_46 : decode cX9_would 46 = .ok (.goto 9, 3) := adX9_would_41.2.2.2.1
theorem dX9_would_49 : decode cX9_would 49 = .ok (.aload_n 0, 1) := adX9_would_41.2.2.2.2.1
theorem dX9_would_50 : decode cX9_would 50 = .ok (.getfield 107, 3) := adX9_would_41.2.2.2.2.2.1
theorem dX9_would_53 : decode cX9_would 53 = .ok (.iload_n 1, 1) := adX9_would_41.2.2.2.2.2.2.1
theorem dX9_would_54 : decode cX9_would 54 = .ok (.iaload, 1) := adX9_would_41.2.2.2.2.2.2.2
theorem dX9_would_55 : decode cX9_would 55 = .ok (.ireturn, 1) := by decide +kernel
set_option maxRecDepth 20000 in
theorem ggX9_worthOf_X9_wageOf : GoodIn wsX9_worthOf wsX9_wageOf := goodIn_r _ [9, 10, 11, 12, 13, 14, 15, 16, 17, 18, 8, 19, 20, 21, 22, 23, 24, 25, 26, 27, 28, 29, 30, 31, 32, 33, 34, 35, 36, 37, 38, 39, 40, 41, 42, 43, 44, 45, 46, 47, 48, 49, 50, 51, 52, 53, 54, 55, 56, 57, 58, 59, 60, 61, 62, 63, 64, 65, 66, 67, 68, 69, 70, 71, 72, 73, 74, 75, 76, 77, 78, 79, 80, 81, 82, 83, 84, 85, 86, 87, 88, 89] (by decide +kernel) (by decide +kernel)
set_option maxRecDepth 20000 in
theorem gX9_worthOf_X9_wageOf : GoodIn wsX9_worthOf (wsV RX9 319 RX9 yX9_wageOf wsX9_wageOf) := goodIn_app (goodIn_of _ (by decide +kernel)) ggX9_worthOf_X9_wageOf
theorem adX9_worthOf_0 : (decode cX9_worthOf 0 = .ok (.aload_n 0, 1)) ∧ (decode cX9_worthOf 1 = .ok (.getfield 98, 3)) ∧ (decode cX9_worthOf 4 = .ok (.iload_n 1, 1)) ∧ (decode cX9_worthOf 5 = .ok (.iaload, 1)) ∧ (decode cX9_worthOf 6 = .ok (.istore_n 2, 1)) ∧ (decode cX9_worthOf 7 = .ok (.aload_n 0, 1)) ∧ (decode cX9_worthOf 8 = .ok (.iload_n 2, 1)) ∧ (decode cX9_worthOf 9 = .ok (.sipush 300, 3)) := by decide +kernel
theorem dX9_worthOf_0 : decode cX9_worthOf 0 = .ok (.aload_n 0, 1) := adX9_worthOf_0.1
theorem dX9_worthOf_1 : decode cX9_worthOf 1 = .ok (.getfield 98, 3) := adX9_worthOf_0.2.1
theorem dX9_worthOf_4 : decode cX9_worthOf 4 = .ok (.iload_n 1, 1) := adX9_worthOf_0.2.2.1
theorem dX9_worthOf_5 : decode cX9_worthOf 5 = .ok (.iaload, 1) := adX9_worthOf_0.2.2.2.1
theorem dX9_worthOf_6 : decode cX9_worthOf 6 = .ok (.istore_n 2, 1) := adX9_worthOf_0.2.2.2.2.1
theorem dX9_worthOf_7 : decode cX9_worthOf 7 = .ok (.aload_n 0, 1) := adX9_worthOf_0.2.2.2.2.2.1
theorem dX9_worthOf_8 : decode cX9_worthOf 8 = .ok (.iload_n 2, 1) := adX9_worthOf_0.2.2.2.2.2.2.1
theorem dX9_worthOf_9 : decode cX9_worthOf 9 = .ok (.sipush 300, 3) := adX9_worthOf_0.2.2.2.2.2.2.2
theorem adX9_worthOf_12 : (decode cX9_worthOf 12 = .ok (.if_icmp .ne 7, 3)) ∧ (decode cX9_worthOf 15 = .ok (.iload_n 2, 1)) ∧ (decode cX9_worthOf 16 = .ok (.goto 6, 3)) ∧ (decode cX9_worthOf 19 = .ok (.iload_n 2, 1)) ∧ (decode cX9_worthOf 20 = .ok (.iconst 1, 1)) ∧ (decode cX9_worthOf 21 = .ok (.iadd, 1)) ∧ (decode cX9_worthOf 22 = .ok (.aload_n 0, 1)) ∧ (decode cX9_worthOf 23 = .ok (.getfield 104, 3)) := by decide +kernel
theorem dX9_worthOf_12 : decode cX9_worthOf 12 = .ok (.if_icmp .ne 7, 3) := adX9_worthOf_12.1
theorem dX9_worthOf_15 : decode cX9_worthOf 15 = .ok (.iload_n 2, 1) := adX9_worthOf_12.2.1
theorem dX9_worthOf_16 : decode cX9_worthOf 16 = .ok (.goto 6, 3) := adX9_worthOf_12.2.2.1
theorem dX9_worthOf_19 : decode cX9_worthOf 19 = .ok (.iload_n 2, 1) := adX9_worthOf_12.2.2.2.1
theorem dX9_worthOf_20 : decode cX9_worthOf 20 = .ok (.iconst 1, 1) := adX9_worthOf_12.2.2.2.2.1
theorem dX9_worthOf_21 : decode cX9_worthOf 21 = .ok (.iadd, 1) := adX9_worthOf_12.2.2.2.2.2.1
theorem dX9_worthOf_22 : decode cX9_worthOf 22 = .ok (.aload_n 0, 1) := adX9_worthOf_12.2.2.2.2.2.2.1
theorem dX9_worthOf_23 : decode cX9_worthOf 23 = .ok (.getfield 104, 3) := adX9_worthOf_12.2.2.2.2.2.2.2
theorem adX9_worthOf_26 : (decode cX9_worthOf 26 = .ok (.iload_n 1, 1)) ∧ (decode cX9_worthOf 27 = .ok (.iaload, 1)) ∧ (decode cX9_worthOf 28 = .ok (.aload_n 0, 1)) ∧ (decode cX9_worthOf 29 = .ok (.getfield 95, 3)) ∧ (decode cX9_worthOf 32 = .ok (.iload_n 1, 1)) ∧ (decode cX9_worthOf 33 = .ok (.iaload, 1)) ∧ (decode cX9_worthOf 34 = .ok (.aload_n 0, 1)) ∧ (decode cX9_worthOf 35 = .ok (.getfield 92, 3)) := by decide +kernel
theorem dX9_worthOf_26 : decode cX9_worthOf 26 = .ok (.iload_n 1, 1) := adX9_worthOf_26.1
theorem dX9_worthOf_27 : decode cX9_worthOf 27 = .ok (.iaload, 1) := adX9_worthOf_26.2.1
theorem dX9_worthOf_28 : decode cX9_worthOf 28 = .ok (.aload_n 0, 1) := adX9_worthOf_26.2.2.1
theorem dX9_worthOf_29 : decode cX9_worthOf 29 = .ok (.getfield 95, 3) := adX9_worthOf_26.2.2.2.1
theorem dX9_worthOf_32 : decode cX9_worthOf 32 = .ok (.iload_n 1, 1) := adX9_worthOf_26.2.2.2.2.1
theorem dX9_worthOf_33 : decode cX9_worthOf 33 = .ok (.iaload, 1) := adX9_worthOf_26.2.2.2.2.2.1
theorem dX9_worthOf_34 : decode cX9_worthOf 34 = .ok (.aload_n 0, 1) := adX9_worthOf_26.2.2.2.2.2.2.1
theorem dX9_worthOf_35 : decode cX9_worthOf 35 = .ok (.getfield 92, 3) := adX9_worthOf_26.2.2.2.2.2.2.2
theorem adX9_worthOf_38 : (decode cX9_worthOf 38 = .ok (.iload_n 1, 1)) ∧ (decode cX9_worthOf 39 = .ok (.iaload, 1)) ∧ (decode cX9_worthOf 40 = .ok (.invokevirtual 319, 3)) ∧ (decode cX9_worthOf 43 = .ok (.aload_n 0, 1)) ∧ (decode cX9_worthOf 44 = .ok (.iload_n 2, 1)) ∧ (decode cX9_worthOf 45 = .ok (.aload_n 0, 1)) ∧ (decode cX9_worthOf 46 = .ok (.getfield 104, 3)) ∧ (decode cX9_worthOf 49 = .ok (.iload_n 1, 1)) := by decide +kernel
theorem dX9_worthOf_38 : decode cX9_worthOf 38 = .ok (.iload_n 1, 1) := adX9_worthOf_38.1
theorem dX9_worthOf_39 : decode cX9_worthOf 39 = .ok (.iaload, 1) := adX9_worthOf_38.2.1
theorem dX9_worthOf_40 : decode cX9_worthOf 40 = .ok (.invokevirtual 319, 3) := adX9_worthOf_38.2.2.1
theorem dX9_worthOf_43 : decode cX9_worthOf 43 = .ok (.aload_n 0, 1) := adX9_worthOf_38.2.2.2.1
theorem dX9_worthOf_44 : decode cX9_worthOf 44 = .ok (.iload_n 2, 1) := adX9_worthOf_38.2.2.2.2.1
theorem dX9_worthOf_45 : decode cX9_worthOf 45 = .ok (.aload_n 0, 1) := adX9_worthOf_38.2.2.2.2.2.1
theorem dX9_worthOf_46 : decode cX9_worthOf 46 = .ok (.getfield 104, 3) := adX9_worthOf_38.2.2.2.2.2.2.1
theorem dX9_worthOf_49 : decode cX9_worthOf 49 = .ok (.iload_n 1, 1) := adX9_worthOf_38.2.2.2.2.2.2.2
theorem adX9_worthOf_50 : (decode cX9_worthOf 50 = .ok (.iaload, 1)) ∧ (decode cX9_worthOf 51 = .ok (.aload_n 0, 1)) ∧ (decode cX9_worthOf 52 = .ok (.getfield 95, 3)) ∧ (decode cX9_worthOf 55 = .ok (.iload_n 1, 1)) ∧ (decode cX9_worthOf 56 = .ok (.iaload, 1)) ∧ (decode cX9_worthOf 57 = .ok (.aload_n 0, 1)) ∧ (decode cX9_worthOf 58 = .ok (.getfield 92, 3)) ∧ (decode cX9_worthOf 61 = .ok (.iload_n 1, 1)) := by decide +kernel
theorem dX9_worthOf_50 : decode cX9_worthOf 50 = .ok (.iaload, 1) := adX9_worthOf_50.1
theorem dX9_worthOf_51 : decode cX9_worthOf 51 = .ok (.aload_n 0, 1) := adX9_worthOf_50.2.1
theorem dX9_worthOf_52 : decode cX9_worthOf 52 = .ok (.getfield 95, 3) := adX9_worthOf_50.2.2.1
theorem dX9_worthOf_55 : decode cX9_worthOf 55 = .ok (.iload_n 1, 1) := adX9_worthOf_50.2.2.2.1
theorem dX9_worthOf_56 : decode cX9_worthOf 56 = .ok (.iaload, 1) := adX9_worthOf_50.2.2.2.2.1
theorem dX9_worthOf_57 : decode cX9_worthOf 57 = .ok (.aload_n 0, 1) := adX9_worthOf_50.2.2.2.2.2.1
theorem dX9_worthOf_58 : decode cX9_worthOf 58 = .ok (.getfield 92, 3) := adX9_worthOf_50.2.2.2.2.2.2.1
theorem dX9_worthOf_61 : decode cX9_worthOf 61 = .ok (.iload_n 1, 1) := adX9_worthOf_50.2.2.2.2.2.2.2
theorem adX9_worthOf_62 : (decode cX9_worthOf 62 = .ok (.iaload, 1)) ∧ (decode cX9_worthOf 63 = .ok (.invokevirtual 319, 3)) ∧ (decode cX9_worthOf 66 = .ok (.isub, 1)) ∧ (decode cX9_worthOf 67 = .ok (.ireturn, 1)) := by decide +kernel
theorem dX9_worthOf_62 : decode cX9_worthOf 62 = .ok (.iaload, 1) := adX9_worthOf_62.1
theorem dX9_worthOf_63 : decode cX9_worthOf 63 = .ok (.invokevirtual 319, 3) := adX9_worthOf_62.2.1
theorem dX9_worthOf_66 : decode cX9_worthOf 66 = .ok (.isub, 1) := adX9_worthOf_62.2.2.1
theorem dX9_worthOf_67 : decode cX9_worthOf 67 = .ok (.ireturn, 1) := adX9_worthOf_62.2.2.2
set_option maxRecDepth 20000 in
theorem ggX9_worth_X9_isThere : GoodIn wsX9_worth wsX9_isThere := goodIn_r _ [7, 8, 9, 10, 11, 6, 12, 13, 14, 15, 16, 17, 18, 19, 20, 21, 53, 54, 55, 56, 57, 58, 59, 60, 61, 62, 63, 64, 65, 66, 67, 68, 69, 70, 71, 72, 73, 74, 75, 76, 77, 78, 79, 80, 81, 82, 83, 84, 85, 86, 87, 88, 89, 90, 91, 92, 93, 94, 95, 96, 97, 98, 99, 100, 101, 102, 103, 104, 105, 106, 107, 108, 109, 110, 111, 112] (by decide +kernel) (by decide +kernel)
set_option maxRecDepth 20000 in
theorem gX9_worth_X9_isThere : GoodIn wsX9_worth (wsV RX9 363 RX9 yX9_isThere wsX9_isThere) := goodIn_app (goodIn_of _ (by decide +kernel)) ggX9_worth_X9_isThere
set_option maxRecDepth 20000 in
theorem ggX9_worth_X9_worthOf : GoodIn wsX9_worth wsX9_worthOf := goodIn_r _ [25, 26, 27, 28, 8, 29, 30, 31, 6, 32, 33, 34, 35, 36, 37, 38, 39, 40, 41, 42, 43, 44, 45, 46, 47, 48, 49, 50, 51, 52, 53, 54, 55, 56, 57, 58, 59, 60, 61, 62, 63, 64, 65, 66, 67, 68, 69, 70, 71, 72, 73, 74, 75, 76, 77, 78, 79, 80, 81, 82, 83, 84, 85, 86, 87, 88, 89, 90, 91, 92, 93, 94, 95, 96, 97, 98, 99, 100, 101, 102, 103, 104, 105, 106, 107, 108, 109, 110, 111, 112] (by decide +kernel) (by decide +kernel)
set_option maxRecDepth 20000 in
theorem gX9_worth_X9_worthOf : GoodIn wsX9_worth (wsV RX9 366 RX9 yX9_worthOf wsX9_worthOf) := goodIn_app (goodIn_of _ (by decide +kernel)) ggX9_worth_X9_worthOf
theorem adX9_worth_0 : (decode cX9_worth 0 = .ok (.aload_n 0, 1)) ∧ (decode cX9_worth 1 = .ok (.iconst 0, 1)) ∧ (decode cX9_worth 2 = .ok (.putfield 125, 3)) ∧ (decode cX9_worth 5 = .ok (.aload_n 0, 1)) ∧ (decode cX9_worth 6 = .ok (.iload_n 1, 1)) ∧ (decode cX9_worth 7 = .ok (.invokevirtual 363, 3)) ∧ (decode cX9_worth 10 = .ok (.ifCond .eq 11, 3)) ∧ (decode cX9_worth 13 = .ok (.aload_n 0, 1)) := by decide +kernel
theorem dX9_worth_0 : decode cX9_worth 0 = .ok (.aload_n 0, 1) := adX9_worth_0.1
theorem dX9_worth_1 : decode cX9_worth 1 = .ok (.iconst 0, 1) := adX9_worth_0.2.1
theorem dX9_worth_2 : decode cX9_worth 2 = .ok (.putfield 125, 3) := adX9_worth_0.2.2.1
theorem dX9_worth_5 : decode cX9_worth 5 = .ok (.aload_n 0, 1) := adX9_worth_0.2.2.2.1
theorem dX9_worth_6 : decode cX9_worth 6 = .ok (.iload_n 1, 1) := adX9_worth_0.2.2.2.2.1
theorem dX9_worth_7 : decode cX9_worth 7 = .ok (.invokevirtual 363, 3) := adX9_worth_0.2.2.2.2.2.1
theorem dX9_worth_10 : decode cX9_worth 10 = .ok (.ifCond .eq 11, 3) := adX9_worth_0.2.2.2.2.2.2.1
theorem dX9_worth_13 : decode cX9_worth 13 = .ok (.aload_n 0, 1) := adX9_worth_0.2.2.2.2.2.2.2
theorem adX9_worth_14 : (decode cX9_worth 14 = .ok (.iload_n 1, 1)) ∧ (decode cX9_worth 15 = .ok (.invokevirtual 366, 3)) ∧ (decode cX9_worth 18 = .ok (.goto 6, 3)) ∧ (decode cX9_worth 21 = .ok (.ldc_w 369, 3)) ∧ (decode cX9_worth 24 = .ok (.ireturn, 1)) := by decide +kernel
theorem dX9_worth_14 : decode cX9_worth 14 = .ok (.iload_n 1, 1) := adX9_worth_14.1
theorem dX9_worth_15 : decode cX9_worth 15 = .ok (.invokevirtual 366, 3) := adX9_worth_14.2.1
theorem dX9_worth_18 : decode cX9_worth 18 = .ok (.goto 6, 3) := adX9_worth_14.2.2.1
theorem dX9_worth_21 : decode cX9_worth 21 = .ok (.ldc_w 369, 3) := adX9_worth_14.2.2.2.1
theorem dX9_worth_24 : decode cX9_worth 24 = .ok (.ireturn, 1) := adX9_worth_14.2.2.2.2
set_option maxRecDepth 20000 in
theorem ggX9_isHeld_X9_isThere : GoodIn wsX9_isHeld wsX9_isThere := goodIn_r _ [8, 1, 9, 10, 11, 7, 12, 13, 14, 15, 16, 17, 18, 19, 20, 21, 32, 33, 34, 35, 36, 37, 38, 39, 40, 41, 42, 43, 44, 45, 46, 47, 48, 49, 50, 51, 52, 53, 54, 55, 56, 57, 58, 59, 60, 61, 62, 63, 64, 65, 66, 67, 68, 69, 70, 71, 72, 73, 74, 75, 76, 77, 78, 79, 80, 81, 82, 83, 84, 85, 86, 87, 88, 89, 90, 91] (by decide +kernel) (by decide +kernel)
set_option maxRecDepth 20000 in
theorem gX9_isHeld_X9_isThere : GoodIn wsX9_isHeld (wsV RX9 363 RX9 yX9_isThere wsX9_isThere) := goodIn_app (goodIn_of _ (by decide +kernel)) ggX9_isHeld_X9_isThere
set_option maxRecDepth 20000 in
theorem ggX9_isHeld_X9_forcedOf : GoodIn wsX9_isHeld wsX9_forcedOf := goodIn_r _ [25, 26, 27, 28, 29, 7, 30, 31, 32, 33, 34, 35, 36, 37, 38, 39, 40, 41, 42, 43, 44, 45, 46, 47, 48, 49, 50, 51, 52, 53, 54, 55, 56, 57, 58, 59, 60, 61, 62, 63, 64, 65, 66, 67, 68, 69, 70, 71, 72, 73, 74, 75, 76, 77, 78, 79, 80, 81, 82, 83, 84, 85, 86, 87, 88, 89, 90, 91] (by decide +kernel) (by decide +kernel)
set_option maxRecDepth 20000 in
theorem gX9_isHeld_X9_forcedOf : GoodIn wsX9_isHeld (wsV RX9 302 RX9 yX9_forcedOf wsX9_forcedOf) := goodIn_app (goodIn_of _ (by decide +kernel)) ggX9_isHeld_X9_forcedOf
theorem adX9_isHeld_0 : (decode cX9_isHeld 0 = .ok (.aload_n 0, 1)) ∧ (decode cX9_isHeld 1 = .ok (.iload_n 1, 1)) ∧ (decode cX9_isHeld 2 = .ok (.invokevirtual 363, 3)) ∧ (decode cX9_isHeld 5 = .ok (.ifCond .eq 32, 3)) ∧ (decode cX9_isHeld 8 = .ok (.aload_n 0, 1)) ∧ (decode cX9_isHeld 9 = .ok (.aload_n 0, 1)) ∧ (decode cX9_isHeld 10 = .ok (.getfield 92, 3)) ∧ (decode cX9_isHeld 13 = .ok (.iload_n 1, 1)) := by decide +kernel
theorem dX9_isHeld_0 : decode cX9_isHeld 0 = .ok (.aload_n 0, 1) := adX9_isHeld_0.1
theorem dX9_isHeld_1 : decode cX9_isHeld 1 = .ok (.iload_n 1, 1) := adX9_isHeld_0.2.1
theorem dX9_isHeld_2 : decode cX9_isHeld 2 = .ok (.invokevirtual 363, 3) := adX9_isHeld_0.2.2.1
theorem dX9_isHeld_5 : decode cX9_isHeld 5 = .ok (.ifCond .eq 32, 3) := adX9_isHeld_0.2.2.2.1
theorem dX9_isHeld_8 : decode cX9_isHeld 8 = .ok (.aload_n 0, 1) := adX9_isHeld_0.2.2.2.2.1
theorem dX9_isHeld_9 : decode cX9_isHeld 9 = .ok (.aload_n 0, 1) := adX9_isHeld_0.2.2.2.2.2.1
theorem dX9_isHeld_10 : decode cX9_isHeld 10 = .ok (.getfield 92, 3) := adX9_isHeld_0.2.2.2.2.2.2.1
theorem dX9_isHeld_13 : decode cX9_isHeld 13 = .ok (.iload_n 1, 1) := adX9_isHeld_0.2.2.2.2.2.2.2
theorem adX9_isHeld_14 : (decode cX9_isHeld 14 = .ok (.iaload, 1)) ∧ (decode cX9_isHeld 15 = .ok (.aload_n 0, 1)) ∧ (decode cX9_isHeld 16 = .ok (.getfield 95, 3)) ∧ (decode cX9_isHeld 19 = .ok (.iload_n 1, 1)) ∧ (decode cX9_isHeld 20 = .ok (.iaload, 1)) ∧ (decode cX9_isHeld 21 = .ok (.invokevirtual 302, 3)) ∧ (decode cX9_isHeld 24 = .ok (.aload_n 0, 1)) ∧ (decode cX9_isHeld 25 = .ok (.getfield 107, 3)) := by decide +kernel
theorem dX9_isHeld_14 : decode cX9_isHeld 14 = .ok (.iaload, 1) := adX9_isHeld_14.1
theorem dX9_isHeld_15 : decode cX9_isHeld 15 = .ok (.aload_n 0, 1) := adX9_isHeld_14.2.1
theorem dX9_isHeld_16 : decode cX9_isHeld 16 = .ok (.getfield 95, 3) := adX9_isHeld_14.2.2.1
theorem dX9_isHeld_19 : decode cX9_isHeld 19 = .ok (.iload_n 1, 1) := adX9_isHeld_14.2.2.2.1
theorem dX9_isHeld_20 : decode cX9_isHeld 20 = .ok (.iaload, 1) := adX9_isHeld_14.2.2.2.2.1
theorem dX9_isHeld_21 : decode cX9_isHeld 21 = .ok (.invokevirtual 302, 3) := adX9_isHeld_14.2.2.2.2.2.1
theorem dX9_isHeld_24 : decode cX9_isHeld 24 = .ok (.aload_n 0, 1) := adX9_isHeld_14.2.2.2.2.2.2.1
theorem dX9_isHeld_25 : decode cX9_isHeld 25 = .ok (.getfield 107, 3) := adX9_isHeld_14.2.2.2.2.2.2.2
theorem adX9_isHeld_28 : (decode cX9_isHeld 28 = .ok (.iload_n 1, 1)) ∧ (decode cX9_isHeld 29 = .ok (.iaload, 1)) ∧ (decode cX9_isHeld 30 = .ok (.if_icmp .le 7, 3)) ∧ (decode cX9_isHeld 33 = .ok (.iconst 1, 1)) ∧ (decode cX9_isHeld 34 = .ok (.goto 4, 3)) ∧ (decode cX9_isHeld 37 = .ok (.iconst 0, 1)) ∧ (decode cX9_isHeld 38 = .ok (.ireturn, 1)) := by decide +kernel
theorem dX9_isHeld_28 : decode cX9_isHeld 28 = .ok (.iload_n 1, 1) := adX9_isHeld_28.1
theorem dX9_isHeld_29 : decode cX9_isHeld 29 = .ok (.iaload, 1) := adX9_isHeld_28.2.1
theorem dX9_isHeld_30 : decode cX9_isHeld 30 = .ok (.if_icmp .le 7, 3) := adX9_isHeld_28.2.2.1
theorem dX9_isHeld_33 : decode cX9_isHeld 33 = .ok (.iconst 1, 1) := adX9_isHeld_28.2.2.2.1
theorem dX9_isHeld_34 : decode cX9_isHeld 34 = .ok (.goto 4, 3) := adX9_isHeld_28.2.2.2.2.1
theorem dX9_isHeld_37 : decode cX9_isHeld 37 = .ok (.iconst 0, 1) := adX9_isHeld_28.2.2.2.2.2.1
theorem dX9_isHeld_38 : decode cX9_isHeld 38 = .ok (.ireturn, 1) := adX9_isHeld_28.2.2.2.2.2.2
set_option maxRecDepth 20000 in
theorem ggX9_month_X9_in : GoodIn wsX9_month wsX9_in := goodIn_r _ [11] (by decide +kernel) (by decide +kernel)
set_option maxRecDepth 20000 in
theorem gX9_month_X9_in : GoodIn wsX9_month (va_wsS RX9 130 yX9_in wsX9_in) := goodIn_app (goodIn_of _ (by decide +kernel)) ggX9_month_X9_in
set_option maxRecDepth 20000 in
theorem ggX9_month_X9_isHeld : GoodIn wsX9_month wsX9_isHeld := goodIn_r _ [15, 16, 5, 17, 18, 19, 20, 10, 21, 22, 23, 24, 25, 4, 8, 9, 11, 26, 27, 28, 29, 30, 31, 32, 33, 34, 35, 36, 37, 38, 39, 40, 41, 42, 43, 44, 45, 46, 47, 48, 49, 50, 51, 52, 53, 54, 55, 56, 57, 58, 59, 60, 61, 62, 63, 64, 65, 66, 67, 68, 69, 70, 71, 72, 73, 74, 75, 76, 77, 78, 79, 80, 81, 82, 83, 84, 85, 86, 87, 88, 89, 90, 91, 92, 93, 94, 95, 96, 97, 98, 99, 100] (by decide +kernel) (by decide +kernel)
set_option maxRecDepth 20000 in
theorem gX9_month_X9_isHeld : GoodIn wsX9_month (wsV RX9 370 RX9 yX9_isHeld wsX9_isHeld) := goodIn_app (goodIn_of _ (by decide +kernel)) ggX9_month_X9_isHeld
theorem adX9_month_0 : (decode cX9_month 0 = .ok (.aload_n 0, 1)) ∧ (decode cX9_month 1 = .ok (.iconst 0, 1)) ∧ (decode cX9_month 2 = .ok (.putfield 125, 3)) ∧ (decode cX9_month 5 = .ok (.iload_n 1, 1)) ∧ (decode cX9_month 6 = .ok (.i2l, 1)) ∧ (decode cX9_month 7 = .ok (.lconst 0, 1)) ∧ (decode cX9_month 8 = .ok (.ldc2_w 222, 3)) ∧ (decode cX9_month 11 = .ok (.invokestatic 130, 3)) := by decide +kernel
theorem dX9_month_0 : decode cX9_month 0 = .ok (.aload_n 0, 1) := adX9_month_0.1
theorem dX9_month_1 : decode cX9_month 1 = .ok (.iconst 0, 1) := adX9_month_0.2.1
theorem dX9_month_2 : decode cX9_month 2 = .ok (.putfield 125, 3) := adX9_month_0.2.2.1
theorem dX9_month_5 : decode cX9_month 5 = .ok (.iload_n 1, 1) := adX9_month_0.2.2.2.1
theorem dX9_month_6 : decode cX9_month 6 = .ok (.i2l, 1) := adX9_month_0.2.2.2.2.1
theorem dX9_month_7 : decode cX9_month 7 = .ok (.lconst 0, 1) := adX9_month_0.2.2.2.2.2.1
theorem dX9_month_8 : decode cX9_month 8 = .ok (.ldc2_w 222, 3) := adX9_month_0.2.2.2.2.2.2.1
theorem dX9_month_11 : decode cX9_month 11 = .ok (.invokestatic 130, 3) := adX9_month_0.2.2.2.2.2.2.2
theorem adX9_month_14 : (decode cX9_month 14 = .ok (.ifCond .eq 15, 3)) ∧ (decode cX9_month 17 = .ok (.iload_n 2, 1)) ∧ (decode cX9_month 18 = .ok (.i2l, 1)) ∧ (decode cX9_month 19 = .ok (.lconst 0, 1)) ∧ (decode cX9_month 20 = .ok (.ldc2_w 128, 3)) ∧ (decode cX9_month 23 = .ok (.invokestatic 130, 3)) ∧ (decode cX9_month 26 = .ok (.ifCond .ne 5, 3)) ∧ (decode cX9_month 29 = .ok (.iconst (-1), 1)) := by decide +kernel
theorem dX9_month_14 : decode cX9_month 14 = .ok (.ifCond .eq 15, 3) := adX9_month_14.1
theorem dX9_month_17 : decode cX9_month 17 = .ok (.iload_n 2, 1) := adX9_month_14.2.1
theorem dX9_month_18 : decode cX9_month 18 = .ok (.i2l, 1) := adX9_month_14.2.2.1
theorem dX9_month_19 : decode cX9_month 19 = .ok (.lconst 0, 1) := adX9_month_14.2.2.2.1
theorem dX9_month_20 : decode cX9_month 20 = .ok (.ldc2_w 128, 3) := adX9_month_14.2.2.2.2.1
theorem dX9_month_23 : decode cX9_month 23 = .ok (.invokestatic 130, 3) := adX9_month_14.2.2.2.2.2.1
theorem dX9_month_26 : decode cX9_month 26 = .ok (.ifCond .ne 5, 3) := adX9_month_14.2.2.2.2.2.2.1
theorem dX9_month_29 : decode cX9_month 29 = .ok (.iconst (-1), 1) := adX9_month_14.2.2.2.2.2.2.2
theorem adX9_month_30 : (decode cX9_month 30 = .ok (.ireturn, 1)) ∧ (decode cX9_month 31 = .ok (.iconst 0, 1)) ∧ (decode cX9_month 32 = .ok (.istore_n 3, 1)) ∧ (decode cX9_month 33 = .ok (.iconst 0, 1)) ∧ (decode cX9_month 34 = .ok (.istore 4, 2)) ∧ (decode cX9_month 36 = .ok (.iload 4, 2)) ∧ (decode cX9_month 38 = .ok (.aload_n 0, 1)) ∧ (decode cX9_month 39 = .ok (.getfield 89, 3)) := by decide +kernel
theorem dX9_month_30 : decode cX9_month 30 = .ok (.ireturn, 1) := adX9_month_30.1
theorem dX9_month_31 : decode cX9_month 31 = .ok (.iconst 0, 1) := adX9_month_30.2.1
theorem dX9_month_32 : decode cX9_month 32 = .ok (.istore_n 3, 1) := adX9_month_30.2.2.1
theorem dX9_month_33 : decode cX9_month 33 = .ok (.iconst 0, 1) := adX9_month_30.2.2.2.1
theorem dX9_month_34 : decode cX9_month 34 = .ok (.istore 4, 2) := adX9_month_30.2.2.2.2.1
theorem dX9_month_36 : decode cX9_month 36 = .ok (.iload 4, 2) := adX9_month_30.2.2.2.2.2.1
theorem dX9_month_38 : decode cX9_month 38 = .ok (.aload_n 0, 1) := adX9_month_30.2.2.2.2.2.2.1
theorem dX9_month_39 : decode cX9_month 39 = .ok (.getfield 89, 3) := adX9_month_30.2.2.2.2.2.2.2
theorem adX9_month_42 : (decode cX9_month 42 = .ok (.iconst 0, 1)) ∧ (decode cX9_month 43 = .ok (.iaload, 1)) ∧ (decode cX9_month 44 = .ok (.if_icmp .ge 82, 3)) ∧ (decode cX9_month 47 = .ok (.iload_n 1, 1)) ∧ (decode cX9_month 48 = .ok (.ifCond .eq 17, 3)) ∧ (decode cX9_month 51 = .ok (.aload_n 0, 1)) ∧ (decode cX9_month 52 = .ok (.getfield 95, 3)) ∧ (decode cX9_month 55 = .ok (.iload 4, 2)) := by decide +kernel
theorem dX9_month_42 : decode cX9_month 42 = .ok (.iconst 0, 1) := adX9_month_42.1
theorem dX9_month_43 : decode cX9_month 43 = .ok (.iaload, 1) := adX9_month_42.2.1
theorem dX9_month_44 : decode cX9_month 44 = .ok (.if_icmp .ge 82, 3) := adX9_month_42.2.2.1
theorem dX9_month_47 : decode cX9_month 47 = .ok (.iload_n 1, 1) := adX9_month_42.2.2.2.1
theorem dX9_month_48 : decode cX9_month 48 = .ok (.ifCond .eq 17, 3) := adX9_month_42.2.2.2.2.1
theorem dX9_month_51 : decode cX9_month 51 = .ok (.aload_n 0, 1) := adX9_month_42.2.2.2.2.2.1
theorem dX9_month_52 : decode cX9_month 52 = .ok (.getfield 95, 3) := adX9_month_42.2.2.2.2.2.2.1
theorem dX9_month_55 : decode cX9_month 55 = .ok (.iload 4, 2) := adX9_month_42.2.2.2.2.2.2.2
theorem adX9_month_57 : (decode cX9_month 57 = .ok (.iaload, 1)) ∧ (decode cX9_month 58 = .ok (.iload_n 1, 1)) ∧ (decode cX9_month 59 = .ok (.if_icmp .eq 6, 3)) ∧ (decode cX9_month 62 = .ok (.goto 58, 3)) ∧ (decode cX9_month 65 = .ok (.iload_n 3, 1)) ∧ (decode cX9_month 66 = .ok (.iload_n 2, 1)) ∧ (decode cX9_month 67 = .ok (.ifCond .ne 7, 3)) ∧ (decode cX9_month 70 = .ok (.iconst 1, 1)) := by decide +kernel
theorem dX9_month_57 : decode cX9_month 57 = .ok (.iaload, 1) := adX9_month_57.1
theorem dX9_month_58 : decode cX9_month 58 = .ok (.iload_n 1, 1) := adX9_month_57.2.1
theorem dX9_month_59 : decode cX9_month 59 = .ok (.if_icmp .eq 6, 3) := adX9_month_57.2.2.1
theorem dX9_month_62 : decode cX9_month 62 = .ok (.goto 58, 3) := adX9_month_57.2.2.2.1
theorem dX9_month_65 : decode cX9_month 65 = .ok (.iload_n 3, 1) := adX9_month_57.2.2.2.2.1
theorem dX9_month_66 : decode cX9_month 66 = .ok (.iload_n 2, 1) := adX9_month_57.2.2.2.2.2.1
theorem dX9_month_67 : decode cX9_month 67 = .ok (.ifCond .ne 7, 3) := adX9_month_57.2.2.2.2.2.2.1
theorem dX9_month_70 : decode cX9_month 70 = .ok (.iconst 1, 1) := adX9_month_57.2.2.2.2.2.2.2
theorem adX9_month_71 : (decode cX9_month 71 = .ok (.goto 47, 3)) ∧ (decode cX9_month 74 = .ok (.iload_n 2, 1)) ∧ (decode cX9_month 75 = .ok (.iconst 1, 1)) ∧ (decode cX9_month 76 = .ok (.if_icmp .ne 13, 3)) ∧ (decode cX9_month 79 = .ok (.aload_n 0, 1)) ∧ (decode cX9_month 80 = .ok (.getfield 98, 3)) ∧ (decode cX9_month 83 = .ok (.iload 4, 2)) ∧ (decode cX9_month 85 = .ok (.iaload, 1)) := by decide +kernel
theorem dX9_month_71 : decode cX9_month 71 = .ok (.goto 47, 3) := adX9_month_71.1
theorem dX9_month_74 : decode cX9_month 74 = .ok (.iload_n 2, 1) := adX9_month_71.2.1
theorem dX9_month_75 : decode cX9_month 75 = .ok (.iconst 1, 1) := adX9_month_71.2.2.1
theorem dX9_month_76 : decode cX9_month 76 = .ok (.if_icmp .ne 13, 3) := adX9_month_71.2.2.2.1
theorem dX9_month_79 : decode cX9_month 79 = .ok (.aload_n 0, 1) := adX9_month_71.2.2.2.2.1
theorem dX9_month_80 : decode cX9_month 80 = .ok (.getfield 98, 3) := adX9_month_71.2.2.2.2.2.1
theorem dX9_month_83 : decode cX9_month 83 = .ok (.iload 4, 2) := adX9_month_71.2.2.2.2.2.2.1
theorem dX9_month_85 : decode cX9_month 85 = .ok (.iaload, 1) := adX9_month_71.2.2.2.2.2.2.2
theorem adX9_month_86 : (decode cX9_month 86 = .ok (.goto 32, 3)) ∧ (decode cX9_month 89 = .ok (.iload_n 2, 1)) ∧ (decode cX9_month 90 = .ok (.iconst 2, 1)) ∧ (decode cX9_month 91 = .ok (.if_icmp .ne 13, 3)) ∧ (decode cX9_month 94 = .ok (.aload_n 0, 1)) ∧ (decode cX9_month 95 = .ok (.getfield 101, 3)) ∧ (decode cX9_month 98 = .ok (.iload 4, 2)) ∧ (decode cX9_month 100 = .ok (.iaload, 1)) := by decide +kernel
theorem dX9_month_86 : decode cX9_month 86 = .ok (.goto 32, 3) := adX9_month_86.1
theorem dX9_month_89 : decode cX9_month 89 = .ok (.iload_n 2, 1) := adX9_month_86.2.1
theorem dX9_month_90 : decode cX9_month 90 = .ok (.iconst 2, 1) := adX9_month_86.2.2.1
theorem dX9_month_91 : decode cX9_month 91 = .ok (.if_icmp .ne 13, 3) := adX9_month_86.2.2.2.1
theorem dX9_month_94 : decode cX9_month 94 = .ok (.aload_n 0, 1) := adX9_month_86.2.2.2.2.1
theorem dX9_month_95 : decode cX9_month 95 = .ok (.getfield 101, 3) := adX9_month_86.2.2.2.2.2.1
theorem dX9_month_98 : decode cX9_month 98 = .ok (.iload 4, 2) := adX9_month_86.2.2.2.2.2.2.1
theorem dX9_month_100 : decode cX9_month 100 = .ok (.iaload, 1) := adX9_month_86.2.2.2.2.2.2.2
theorem adX9_month_101 : (decode cX9_month 101 = .ok (.goto 17, 3)) ∧ (decode cX9_month 104 = .ok (.aload_n 0, 1)) ∧ (decode cX9_month 105 = .ok (.iload 4, 2)) ∧ (decode cX9_month 107 = .ok (.invokevirtual 370, 3)) ∧ (decode cX9_month 110 = .ok (.ifCond .eq 7, 3)) ∧ (decode cX9_month 113 = .ok (.iconst 1, 1)) ∧ (decode cX9_month 114 = .ok (.goto 4, 3)) ∧ (decode cX9_month 117 = .ok (.iconst 0, 1)) := by decide +kernel
theorem dX9_month_101 : decode cX9_month 101 = .ok (.goto 17, 3) := adX9_month_101.1
theorem dX9_month_104 : decode cX9_month 104 = .ok (.aload_n 0, 1) := adX9_month_101.2.1
theorem dX9_month_105 : decode cX9_month 105 = .ok (.iload 4, 2) := adX9_month_101.2.2.1
theorem dX9_month_107 : decode cX9_month 107 = .ok (.invokevirtual 370, 3) := adX9_month_101.2.2.2.1
theorem dX9_month_110 : decode cX9_month 110 = .ok (.ifCond .eq 7, 3) := adX9_month_101.2.2.2.2.1
theorem dX9_month_113 : decode cX9_month 113 = .ok (.iconst 1, 1) := adX9_month_101.2.2.2.2.2.1
theorem dX9_month_114 : decode cX9_month 114 = .ok (.goto 4, 3) := adX9_month_101.2.2.2.2.2.2.1
theorem dX9_month_117 : decode cX9_month 117 = .ok (.iconst 0, 1) := adX9_month_101.2.2.2.2.2.2.2
theorem adX9_month_118 : (decode cX9_month 118 = .ok (.iadd, 1)) ∧ (decode cX9_month 119 = .ok (.istore_n 3, 1)) ∧ (decode cX9_month 120 = .ok (.iinc 4 1, 3)) ∧ (decode cX9_month 123 = .ok (.goto (-87), 3)) ∧ (decode cX9_month 126 = .ok (.iload_n 3, 1)) ∧ (decode cX9_month 127 = .ok (.ireturn, 1)) := by decide +kernel
theorem dX9_month_118 : decode cX9_month 118 = .ok (.iadd, 1) := adX9_month_118.1
theorem dX9_month_119 : decode cX9_month 119 = .ok (.istore_n 3, 1) := adX9_month_118.2.1
theorem dX9_month_120 : decode cX9_month 120 = .ok (.iinc 4 1, 3) := adX9_month_118.2.2.1
theorem dX9_month_123 : decode cX9_month 123 = .ok (.goto (-87), 3) := adX9_month_118.2.2.2.1
theorem dX9_month_126 : decode cX9_month 126 = .ok (.iload_n 3, 1) := adX9_month_118.2.2.2.2.1
theorem dX9_month_127 : decode cX9_month 127 = .ok (.ireturn, 1) := adX9_month_118.2.2.2.2.2
set_option maxRecDepth 20000 in
theorem ggX9_isPush_X9_in : GoodIn wsX9_isPush wsX9_in := goodIn_r _ [5] (by decide +kernel) (by decide +kernel)
set_option maxRecDepth 20000 in
theorem gX9_isPush_X9_in : GoodIn wsX9_isPush (va_wsS RX9 130 yX9_in wsX9_in) := goodIn_app (goodIn_of _ (by decide +kernel)) ggX9_isPush_X9_in
theorem adX9_isPush_0 : (decode cX9_isPush 0 = .ok (.iload_n 0, 1)) ∧ (decode cX9_isPush 1 = .ok (.i2l, 1)) ∧ (decode cX9_isPush 2 = .ok (.lconst 1, 1)) ∧ (decode cX9_isPush 3 = .ok (.ldc2_w 373, 3)) ∧ (decode cX9_isPush 6 = .ok (.invokestatic 130, 3)) ∧ (decode cX9_isPush 9 = .ok (.ireturn, 1)) := by decide +kernel
theorem dX9_isPush_0 : decode cX9_isPush 0 = .ok (.iload_n 0, 1) := adX9_isPush_0.1
theorem dX9_isPush_1 : decode cX9_isPush 1 = .ok (.i2l, 1) := adX9_isPush_0.2.1
theorem dX9_isPush_2 : decode cX9_isPush 2 = .ok (.lconst 1, 1) := adX9_isPush_0.2.2.1
theorem dX9_isPush_3 : decode cX9_isPush 3 = .ok (.ldc2_w 373, 3) := adX9_isPush_0.2.2.2.1
theorem dX9_isPush_6 : decode cX9_isPush 6 = .ok (.invokestatic 130, 3) := adX9_isPush_0.2.2.2.2.1
theorem dX9_isPush_9 : decode cX9_isPush 9 = .ok (.ireturn, 1) := adX9_isPush_0.2.2.2.2.2
theorem adX9_pushes_0 : (decode cX9_pushes 0 = .ok (.iconst 0, 1)) ∧ (decode cX9_pushes 1 = .ok (.istore_n 2, 1)) ∧ (decode cX9_pushes 2 = .ok (.iload_n 2, 1)) ∧ (decode cX9_pushes 3 = .ok (.aload_n 0, 1)) ∧ (decode cX9_pushes 4 = .ok (.getfield 89, 3)) ∧ (decode cX9_pushes 7 = .ok (.iconst 0, 1)) ∧ (decode cX9_pushes 8 = .ok (.iaload, 1)) ∧ (decode cX9_pushes 9 = .ok (.if_icmp .ge 36, 3)) := by decide +kernel
theorem dX9_pushes_0 : decode cX9_pushes 0 = .ok (.iconst 0, 1) := adX9_pushes_0.1
theorem dX9_pushes_1 : decode cX9_pushes 1 = .ok (.istore_n 2, 1) := adX9_pushes_0.2.1
theorem dX9_pushes_2 : decode cX9_pushes 2 = .ok (.iload_n 2, 1) := adX9_pushes_0.2.2.1
theorem dX9_pushes_3 : decode cX9_pushes 3 = .ok (.aload_n 0, 1) := adX9_pushes_0.2.2.2.1
theorem dX9_pushes_4 : decode cX9_pushes 4 = .ok (.getfield 89, 3) := adX9_pushes_0.2.2.2.2.1
theorem dX9_pushes_7 : decode cX9_pushes 7 = .ok (.iconst 0, 1) := adX9_pushes_0.2.2.2.2.2.1
theorem dX9_pushes_8 : decode cX9_pushes 8 = .ok (.iaload, 1) := adX9_pushes_0.2.2.2.2.2.2.1
theorem dX9_pushes_9 : decode cX9_pushes 9 = .ok (.if_icmp .ge 36, 3) := adX9_pushes_0.2.2.2.2.2.2.2
theorem adX9_pushes_12 : (decode cX9_pushes 12 = .ok (.aload_n 0, 1)) ∧ (decode cX9_pushes 13 = .ok (.getfield 110, 3)) ∧ (decode cX9_pushes 16 = .ok (.iload_n 2, 1)) ∧ (decode cX9_pushes 17 = .ok (.iload_n 1, 1)) ∧ (decode cX9_pushes 18 = .ok (.aload_n 0, 1)) ∧ (decode cX9_pushes 19 = .ok (.getfield 95, 3)) ∧ (decode cX9_pushes 22 = .ok (.iload_n 2, 1)) ∧ (decode cX9_pushes 23 = .ok (.iaload, 1)) := by decide +kernel
theorem dX9_pushes_12 : decode cX9_pushes 12 = .ok (.aload_n 0, 1) := adX9_pushes_12.1
theorem dX9_pushes_13 : decode cX9_pushes 13 = .ok (.getfield 110, 3) := adX9_pushes_12.2.1
theorem dX9_pushes_16 : decode cX9_pushes 16 = .ok (.iload_n 2, 1) := adX9_pushes_12.2.2.1
theorem dX9_pushes_17 : decode cX9_pushes 17 = .ok (.iload_n 1, 1) := adX9_pushes_12.2.2.2.1
theorem dX9_pushes_18 : decode cX9_pushes 18 = .ok (.aload_n 0, 1) := adX9_pushes_12.2.2.2.2.1
theorem dX9_pushes_19 : decode cX9_pushes 19 = .ok (.getfield 95, 3) := adX9_pushes_12.2.2.2.2.2.1
theorem dX9_pushes_22 : decode cX9_pushes 22 = .ok (.iload_n 2, 1) := adX9_pushes_12.2.2.2.2.2.2.1
theorem dX9_pushes_23 : decode cX9_pushes 23 = .ok (.iaload, 1) := adX9_pushes_12.2.2.2.2.2.2.2
theorem adX9_pushes_24 : (decode cX9_pushes 24 = .ok (.iconst 1, 1)) ∧ (decode cX9_pushes 25 = .ok (.isub, 1)) ∧ (decode cX9_pushes 26 = .ok (.ishr, 1)) ∧ (decode cX9_pushes 27 = .ok (.iconst 1, 1)) ∧ (decode cX9_pushes 28 = .ok (.iand, 1)) ∧ (decode cX9_pushes 29 = .ok (.iconst 1, 1)) ∧ (decode cX9_pushes 30 = .ok (.if_icmp .ne 7, 3)) ∧ (decode cX9_pushes 33 = .ok (.iconst 1, 1)) := by decide +kernel
theorem dX9_pushes_24 : decode cX9_pushes 24 = .ok (.iconst 1, 1) := adX9_pushes_24.1
theorem dX9_pushes_25 : decode cX9_pushes 25 = .ok (.isub, 1) := adX9_pushes_24.2.1
theorem dX9_pushes_26 : decode cX9_pushes 26 = .ok (.ishr, 1) := adX9_pushes_24.2.2.1
theorem dX9_pushes_27 : decode cX9_pushes 27 = .ok (.iconst 1, 1) := adX9_pushes_24.2.2.2.1
theorem dX9_pushes_28 : decode cX9_pushes 28 = .ok (.iand, 1) := adX9_pushes_24.2.2.2.2.1
theorem dX9_pushes_29 : decode cX9_pushes 29 = .ok (.iconst 1, 1) := adX9_pushes_24.2.2.2.2.2.1
theorem dX9_pushes_30 : decode cX9_pushes 30 = .ok (.if_icmp .ne 7, 3) := adX9_pushes_24.2.2.2.2.2.2.1
theorem dX9_pushes_33 : decode cX9_pushes 33 = .ok (.iconst 1, 1) := adX9_pushes_24.2.2.2.2.2.2.2
theorem adX9_pushes_34 : (decode cX9_pushes 34 = .ok (.goto 4, 3)) ∧ (decode cX9_pushes 37 = .ok (.iconst 0, 1)) ∧ (decode cX9_pushes 38 = .ok (.bastore, 1)) ∧ (decode cX9_pushes 39 = .ok (.iinc 2 1, 3)) ∧ (decode cX9_pushes 42 = .ok (.goto (-40), 3)) ∧ (decode cX9_pushes 45 = .ok (.aload_n 0, 1)) ∧ (decode cX9_pushes 46 = .ok (.aload_n 0, 1)) ∧ (decode cX9_pushes 47 = .ok (.getfield 89, 3)) := by decide +kernel
theorem dX9_pushes_34 : decode cX9_pushes 34 = .ok (.goto 4, 3) := adX9_pushes_34.1
theorem dX9_pushes_37 : decode cX9_pushes 37 = .ok (.iconst 0, 1) := adX9_pushes_34.2.1
theorem dX9_pushes_38 : decode cX9_pushes 38 = .ok (.bastore, 1) := adX9_pushes_34.2.2.1
theorem dX9_pushes_39 : decode cX9_pushes 39 = .ok (.iinc 2 1, 3) := adX9_pushes_34.2.2.2.1
theorem dX9_pushes_42 : decode cX9_pushes 42 = .ok (.goto (-40), 3) := adX9_pushes_34.2.2.2.2.1
theorem dX9_pushes_45 : decode cX9_pushes 45 = .ok (.aload_n 0, 1) := adX9_pushes_34.2.2.2.2.2.1
theorem dX9_pushes_46 : decode cX9_pushes 46 = .ok (.aload_n 0, 1) := adX9_pushes_34.2.2.2.2.2.2.1
theorem dX9_pushes_47 : decode cX9_pushes 47 = .ok (.getfield 89, 3) := adX9_pushes_34.2.2.2.2.2.2.2
theorem adX9_pushes_50 : (decode cX9_pushes 50 = .ok (.iconst 0, 1)) ∧ (decode cX9_pushes 51 = .ok (.iaload, 1)) ∧ (decode cX9_pushes 52 = .ok (.putfield 375, 3)) ∧ (decode cX9_pushes 55 = .ok (.return_, 1)) := by decide +kernel
theorem dX9_pushes_50 : decode cX9_pushes 50 = .ok (.iconst 0, 1) := adX9_pushes_50.1
theorem dX9_pushes_51 : decode cX9_pushes 51 = .ok (.iaload, 1) := adX9_pushes_50.2.1
theorem dX9_pushes_52 : decode cX9_pushes 52 = .ok (.putfield 375, 3) := adX9_pushes_50.2.2.1
theorem dX9_pushes_55 : decode cX9_pushes 55 = .ok (.return_, 1) := adX9_pushes_50.2.2.2
theorem adX9_gathers_0 : (decode cX9_gathers 0 = .ok (.aload_n 0, 1)) ∧ (decode cX9_gathers 1 = .ok (.lconst 0, 1)) ∧ (decode cX9_gathers 2 = .ok (.putfield 378, 3)) ∧ (decode cX9_gathers 5 = .ok (.aload_n 0, 1)) ∧ (decode cX9_gathers 6 = .ok (.lconst 0, 1)) ∧ (decode cX9_gathers 7 = .ok (.putfield 381, 3)) ∧ (decode cX9_gathers 10 = .ok (.aload_n 0, 1)) ∧ (decode cX9_gathers 11 = .ok (.lconst 0, 1)) := by decide +kernel
theorem dX9_gathers_0 : decode cX9_gathers 0 = .ok (.aload_n 0, 1) := adX9_gathers_0.1
theorem dX9_gathers_1 : decode cX9_gathers 1 = .ok (.lconst 0, 1) := adX9_gathers_0.2.1
theorem dX9_gathers_2 : decode cX9_gathers 2 = .ok (.putfield 378, 3) := adX9_gathers_0.2.2.1
theorem dX9_gathers_5 : decode cX9_gathers 5 = .ok (.aload_n 0, 1) := adX9_gathers_0.2.2.2.1
theorem dX9_gathers_6 : decode cX9_gathers 6 = .ok (.lconst 0, 1) := adX9_gathers_0.2.2.2.2.1
theorem dX9_gathers_7 : decode cX9_gathers 7 = .ok (.putfield 381, 3) := adX9_gathers_0.2.2.2.2.2.1
theorem dX9_gathers_10 : decode cX9_gathers 10 = .ok (.aload_n 0, 1) := adX9_gathers_0.2.2.2.2.2.2.1
theorem dX9_gathers_11 : decode cX9_gathers 11 = .ok (.lconst 0, 1) := adX9_gathers_0.2.2.2.2.2.2.2
theorem adX9_gathers_12 : (decode cX9_gathers 12 = .ok (.putfield 384, 3)) ∧ (decode cX9_gathers 15 = .ok (.aload_n 0, 1)) ∧ (decode cX9_gathers 16 = .ok (.lconst 0, 1)) ∧ (decode cX9_gathers 17 = .ok (.putfield 387, 3)) ∧ (decode cX9_gathers 20 = .ok (.aload_n 0, 1)) ∧ (decode cX9_gathers 21 = .ok (.lconst 0, 1)) ∧ (decode cX9_gathers 22 = .ok (.putfield 390, 3)) ∧ (decode cX9_gathers 25 = .ok (.aload_n 0, 1)) := by decide +kernel
theorem dX9_gathers_12 : decode cX9_gathers 12 = .ok (.putfield 384, 3) := adX9_gathers_12.1
theorem dX9_gathers_15 : decode cX9_gathers 15 = .ok (.aload_n 0, 1) := adX9_gathers_12.2.1
theorem dX9_gathers_16 : decode cX9_gathers 16 = .ok (.lconst 0, 1) := adX9_gathers_12.2.2.1
theorem dX9_gathers_17 : decode cX9_gathers 17 = .ok (.putfield 387, 3) := adX9_gathers_12.2.2.2.1
theorem dX9_gathers_20 : decode cX9_gathers 20 = .ok (.aload_n 0, 1) := adX9_gathers_12.2.2.2.2.1
theorem dX9_gathers_21 : decode cX9_gathers 21 = .ok (.lconst 0, 1) := adX9_gathers_12.2.2.2.2.2.1
theorem dX9_gathers_22 : decode cX9_gathers 22 = .ok (.putfield 390, 3) := adX9_gathers_12.2.2.2.2.2.2.1
theorem dX9_gathers_25 : decode cX9_gathers 25 = .ok (.aload_n 0, 1) := adX9_gathers_12.2.2.2.2.2.2.2
theorem adX9_gathers_26 : (decode cX9_gathers 26 = .ok (.lconst 0, 1)) ∧ (decode cX9_gathers 27 = .ok (.putfield 393, 3)) ∧ (decode cX9_gathers 30 = .ok (.aload_n 0, 1)) ∧ (decode cX9_gathers 31 = .ok (.lconst 0, 1)) ∧ (decode cX9_gathers 32 = .ok (.putfield 396, 3)) ∧ (decode cX9_gathers 35 = .ok (.aload_n 0, 1)) ∧ (decode cX9_gathers 36 = .ok (.lconst 0, 1)) ∧ (decode cX9_gathers 37 = .ok (.putfield 399, 3)) := by decide +kernel
theorem dX9_gathers_26 : decode cX9_gathers 26 = .ok (.lconst 0, 1) := adX9_gathers_26.1
theorem dX9_gathers_27 : decode cX9_gathers 27 = .ok (.putfield 393, 3) := adX9_gathers_26.2.1
theorem dX9_gathers_30 : decode cX9_gathers 30 = .ok (.aload_n 0, 1) := adX9_gathers_26.2.2.1
theorem dX9_gathers_31 : decode cX9_gathers 31 = .ok (.lconst 0, 1) := adX9_gathers_26.2.2.2.1
theorem dX9_gathers_32 : decode cX9_gathers 32 = .ok (.putfield 396, 3) := adX9_gathers_26.2.2.2.2.1
theorem dX9_gathers_35 : decode cX9_gathers 35 = .ok (.aload_n 0, 1) := adX9_gathers_26.2.2.2.2.2.1
theorem dX9_gathers_36 : decode cX9_gathers 36 = .ok (.lconst 0, 1) := adX9_gathers_26.2.2.2.2.2.2.1
theorem dX9_gathers_37 : decode cX9_gathers 37 = .ok (.putfield 399, 3) := adX9_gathers_26.2.2.2.2.2.2.2
theorem adX9_gathers_40 : (decode cX9_gathers 40 = .ok (.iconst 0, 1)) ∧ (decode cX9_gathers 41 = .ok (.istore_n 1, 1)) ∧ (decode cX9_gathers 42 = .ok (.iload_n 1, 1)) ∧ (decode cX9_gathers 43 = .ok (.aload_n 0, 1)) ∧ (decode cX9_gathers 44 = .ok (.getfield 375, 3)) ∧ (decode cX9_gathers 47 = .ok (.if_icmp .ge 153, 3)) ∧ (decode cX9_gathers 50 = .ok (.aload_n 0, 1)) ∧ (decode cX9_gathers 51 = .ok (.dup, 1)) := by decide +kernel
theorem dX9_gathers_40 : decode cX9_gathers 40 = .ok (.iconst 0, 1) := adX9_gathers_40.1
theorem dX9_gathers_41 : decode cX9_gathers 41 = .ok (.istore_n 1, 1) := adX9_gathers_40.2.1
theorem dX9_gathers_42 : decode cX9_gathers 42 = .ok (.iload_n 1, 1) := adX9_gathers_40.2.2.1
theorem dX9_gathers_43 : decode cX9_gathers 43 = .ok (.aload_n 0, 1) := adX9_gathers_40.2.2.2.1
theorem dX9_gathers_44 : decode cX9_gathers 44 = .ok (.getfield 375, 3) := adX9_gathers_40.2.2.2.2.1
theorem dX9_gathers_47 : decode cX9_gathers 47 = .ok (.if_icmp .ge 153, 3) := adX9_gathers_40.2.2.2.2.2.1
theorem dX9_gathers_50 : decode cX9_gathers 50 = .ok (.aload_n 0, 1) := adX9_gathers_40.2.2.2.2.2.2.1
theorem dX9_gathers_51 : decode cX9_gathers 51 = .ok (.dup, 1) := adX9_gathers_40.2.2.2.2.2.2.2
theorem adX9_gathers_52 : (decode cX9_gathers 52 = .ok (.getfield 396, 3)) ∧ (decode cX9_gathers 55 = .ok (.aload_n 0, 1)) ∧ (decode cX9_gathers 56 = .ok (.getfield 98, 3)) ∧ (decode cX9_gathers 59 = .ok (.iload_n 1, 1)) ∧ (decode cX9_gathers 60 = .ok (.iaload, 1)) ∧ (decode cX9_gathers 61 = .ok (.i2l, 1)) ∧ (decode cX9_gathers 62 = .ok (.aload_n 0, 1)) ∧ (decode cX9_gathers 63 = .ok (.getfield 98, 3)) := by decide +kernel
theorem dX9_gathers_52 : decode cX9_gathers 52 = .ok (.getfield 396, 3) := adX9_gathers_52.1
theorem dX9_gathers_55 : decode cX9_gathers 55 = .ok (.aload_n 0, 1) := adX9_gathers_52.2.1
theorem dX9_gathers_56 : decode cX9_gathers 56 = .ok (.getfield 98, 3) := adX9_gathers_52.2.2.1
theorem dX9_gathers_59 : decode cX9_gathers 59 = .ok (.iload_n 1, 1) := adX9_gathers_52.2.2.2.1
theorem dX9_gathers_60 : decode cX9_gathers 60 = .ok (.iaload, 1) := adX9_gathers_52.2.2.2.2.1
theorem dX9_gathers_61 : decode cX9_gathers 61 = .ok (.i2l, 1) := adX9_gathers_52.2.2.2.2.2.1
theorem dX9_gathers_62 : decode cX9_gathers 62 = .ok (.aload_n 0, 1) := adX9_gathers_52.2.2.2.2.2.2.1
theorem dX9_gathers_63 : decode cX9_gathers 63 = .ok (.getfield 98, 3) := adX9_gathers_52.2.2.2.2.2.2.2
theorem adX9_gathers_66 : (decode cX9_gathers 66 = .ok (.iload_n 1, 1)) ∧ (decode cX9_gathers 67 = .ok (.iaload, 1)) ∧ (decode cX9_gathers 68 = .ok (.i2l, 1)) ∧ (decode cX9_gathers 69 = .ok (.lmul, 1)) ∧ (decode cX9_gathers 70 = .ok (.ladd, 1)) ∧ (decode cX9_gathers 71 = .ok (.putfield 396, 3)) ∧ (decode cX9_gathers 74 = .ok (.aload_n 0, 1)) ∧ (decode cX9_gathers 75 = .ok (.dup, 1)) := by decide +kernel
theorem dX9_gathers_66 : decode cX9_gathers 66 = .ok (.iload_n 1, 1) := adX9_gathers_66.1
theorem dX9_gathers_67 : decode cX9_gathers 67 = .ok (.iaload, 1) := adX9_gathers_66.2.1
theorem dX9_gathers_68 : decode cX9_gathers 68 = .ok (.i2l, 1) := adX9_gathers_66.2.2.1
theorem dX9_gathers_69 : decode cX9_gathers 69 = .ok (.lmul, 1) := adX9_gathers_66.2.2.2.1
theorem dX9_gathers_70 : decode cX9_gathers 70 = .ok (.ladd, 1) := adX9_gathers_66.2.2.2.2.1
theorem dX9_gathers_71 : decode cX9_gathers 71 = .ok (.putfield 396, 3) := adX9_gathers_66.2.2.2.2.2.1
theorem dX9_gathers_74 : decode cX9_gathers 74 = .ok (.aload_n 0, 1) := adX9_gathers_66.2.2.2.2.2.2.1
theorem dX9_gathers_75 : decode cX9_gathers 75 = .ok (.dup, 1) := adX9_gathers_66.2.2.2.2.2.2.2
theorem adX9_gathers_76 : (decode cX9_gathers 76 = .ok (.getfield 399, 3)) ∧ (decode cX9_gathers 79 = .ok (.aload_n 0, 1)) ∧ (decode cX9_gathers 80 = .ok (.getfield 98, 3)) ∧ (decode cX9_gathers 83 = .ok (.iload_n 1, 1)) ∧ (decode cX9_gathers 84 = .ok (.iaload, 1)) ∧ (decode cX9_gathers 85 = .ok (.i2l, 1)) ∧ (decode cX9_gathers 86 = .ok (.aload_n 0, 1)) ∧ (decode cX9_gathers 87 = .ok (.getfield 101, 3)) := by decide +kernel
theorem dX9_gathers_76 : decode cX9_gathers 76 = .ok (.getfield 399, 3) := adX9_gathers_76.1
theorem dX9_gathers_79 : decode cX9_gathers 79 = .ok (.aload_n 0, 1) := adX9_gathers_76.2.1
theorem dX9_gathers_80 : decode cX9_gathers 80 = .ok (.getfield 98, 3) := adX9_gathers_76.2.2.1
theorem dX9_gathers_83 : decode cX9_gathers 83 = .ok (.iload_n 1, 1) := adX9_gathers_76.2.2.2.1
theorem dX9_gathers_84 : decode cX9_gathers 84 = .ok (.iaload, 1) := adX9_gathers_76.2.2.2.2.1
theorem dX9_gathers_85 : decode cX9_gathers 85 = .ok (.i2l, 1) := adX9_gathers_76.2.2.2.2.2.1
theorem dX9_gathers_86 : decode cX9_gathers 86 = .ok (.aload_n 0, 1) := adX9_gathers_76.2.2.2.2.2.2.1
theorem dX9_gathers_87 : decode cX9_gathers 87 = .ok (.getfield 101, 3) := adX9_gathers_76.2.2.2.2.2.2.2
theorem adX9_gathers_90 : (decode cX9_gathers 90 = .ok (.iload_n 1, 1)) ∧ (decode cX9_gathers 91 = .ok (.iaload, 1)) ∧ (decode cX9_gathers 92 = .ok (.i2l, 1)) ∧ (decode cX9_gathers 93 = .ok (.lmul, 1)) ∧ (decode cX9_gathers 94 = .ok (.ladd, 1)) ∧ (decode cX9_gathers 95 = .ok (.putfield 399, 3)) ∧ (decode cX9_gathers 98 = .ok (.aload_n 0, 1)) ∧ (decode cX9_gathers 99 = .ok (.getfield 110, 3)) := by decide +kernel
theorem dX9_gathers_90 : decode cX9_gathers 90 = .ok (.iload_n 1, 1) := adX9_gathers_90.1
theorem dX9_gathers_91 : decode cX9_gathers 91 = .ok (.iaload, 1) := adX9_gathers_90.2.1
theorem dX9_gathers_92 : decode cX9_gathers 92 = .ok (.i2l, 1) := adX9_gathers_90.2.2.1
theorem dX9_gathers_93 : decode cX9_gathers 93 = .ok (.lmul, 1) := adX9_gathers_90.2.2.2.1
theorem dX9_gathers_94 : decode cX9_gathers 94 = .ok (.ladd, 1) := adX9_gathers_90.2.2.2.2.1
theorem dX9_gathers_95 : decode cX9_gathers 95 = .ok (.putfield 399, 3) := adX9_gathers_90.2.2.2.2.2.1
theorem dX9_gathers_98 : decode cX9_gathers 98 = .ok (.aload_n 0, 1) := adX9_gathers_90.2.2.2.2.2.2.1
theorem dX9_gathers_99 : decode cX9_gathers 99 = .ok (.getfield 110, 3) := adX9_gathers_90.2.2.2.2.2.2.2
theorem adX9_gathers_102 : (decode cX9_gathers 102 = .ok (.iload_n 1, 1)) ∧ (decode cX9_gathers 103 = .ok (.baload, 1)) ∧ (decode cX9_gathers 104 = .ok (.ifCond .eq 48, 3)) ∧ (decode cX9_gathers 107 = .ok (.aload_n 0, 1)) ∧ (decode cX9_gathers 108 = .ok (.dup, 1)) ∧ (decode cX9_gathers 109 = .ok (.getfield 378, 3)) ∧ (decode cX9_gathers 112 = .ok (.lconst 1, 1)) ∧ (decode cX9_gathers 113 = .ok (.ladd, 1)) := by decide +kernel
theorem dX9_gathers_102 : decode cX9_gathers 102 = .ok (.iload_n 1, 1) := adX9_gathers_102.1
theorem dX9_gathers_103 : decode cX9_gathers 103 = .ok (.baload, 1) := adX9_gathers_102.2.1
theorem dX9_gathers_104 : decode cX9_gathers 104 = .ok (.ifCond .eq 48, 3) := adX9_gathers_102.2.2.1
theorem dX9_gathers_107 : decode cX9_gathers 107 = .ok (.aload_n 0, 1) := adX9_gathers_102.2.2.2.1
theorem dX9_gathers_108 : decode cX9_gathers 108 = .ok (.dup, 1) := adX9_gathers_102.2.2.2.2.1
theorem dX9_gathers_109 : decode cX9_gathers 109 = .ok (.getfield 378, 3) := adX9_gathers_102.2.2.2.2.2.1
theorem dX9_gathers_112 : decode cX9_gathers 112 = .ok (.lconst 1, 1) := adX9_gathers_102.2.2.2.2.2.2.1
theorem dX9_gathers_113 : decode cX9_gathers 113 = .ok (.ladd, 1) := adX9_gathers_102.2.2.2.2.2.2.2
theorem adX9_gathers_114 : (decode cX9_gathers 114 = .ok (.putfield 378, 3)) ∧ (decode cX9_gathers 117 = .ok (.aload_n 0, 1)) ∧ (decode cX9_gathers 118 = .ok (.dup, 1)) ∧ (decode cX9_gathers 119 = .ok (.getfield 384, 3)) ∧ (decode cX9_gathers 122 = .ok (.aload_n 0, 1)) ∧ (decode cX9_gathers 123 = .ok (.getfield 98, 3)) ∧ (decode cX9_gathers 126 = .ok (.iload_n 1, 1)) ∧ (decode cX9_gathers 127 = .ok (.iaload, 1)) := by decide +kernel
theorem dX9_gathers_114 : decode cX9_gathers 114 = .ok (.putfield 378, 3) := adX9_gathers_114.1
theorem dX9_gathers_117 : decode cX9_gathers 117 = .ok (.aload_n 0, 1) := adX9_gathers_114.2.1
theorem dX9_gathers_118 : decode cX9_gathers 118 = .ok (.dup, 1) := adX9_gathers_114.2.2.1
theorem dX9_gathers_119 : decode cX9_gathers 119 = .ok (.getfield 384, 3) := adX9_gathers_114.2.2.2.1
theorem dX9_gathers_122 : decode cX9_gathers 122 = .ok (.aload_n 0, 1) := adX9_gathers_114.2.2.2.2.1
theorem dX9_gathers_123 : decode cX9_gathers 123 = .ok (.getfield 98, 3) := adX9_gathers_114.2.2.2.2.2.1
theorem dX9_gathers_126 : decode cX9_gathers 126 = .ok (.iload_n 1, 1) := adX9_gathers_114.2.2.2.2.2.2.1
theorem dX9_gathers_127 : decode cX9_gathers 127 = .ok (.iaload, 1) := adX9_gathers_114.2.2.2.2.2.2.2
theorem adX9_gathers_128 : (decode cX9_gathers 128 = .ok (.i2l, 1)) ∧ (decode cX9_gathers 129 = .ok (.ladd, 1)) ∧ (decode cX9_gathers 130 = .ok (.putfield 384, 3)) ∧ (decode cX9_gathers 133 = .ok (.aload_n 0, 1)) ∧ (decode cX9_gathers 134 = .ok (.dup, 1)) ∧ (decode cX9_gathers 135 = .ok (.getfield 390, 3)) ∧ (decode cX9_gathers 138 = .ok (.aload_n 0, 1)) ∧ (decode cX9_gathers 139 = .ok (.getfield 101, 3)) := by decide +kernel
theorem dX9_gathers_128 : decode cX9_gathers 128 = .ok (.i2l, 1) := adX9_gathers_128.1
theorem dX9_gathers_129 : decode cX9_gathers 129 = .ok (.ladd, 1) := adX9_gathers_128.2.1
theorem dX9_gathers_130 : decode cX9_gathers 130 = .ok (.putfield 384, 3) := adX9_gathers_128.2.2.1
theorem dX9_gathers_133 : decode cX9_gathers 133 = .ok (.aload_n 0, 1) := adX9_gathers_128.2.2.2.1
theorem dX9_gathers_134 : decode cX9_gathers 134 = .ok (.dup, 1) := adX9_gathers_128.2.2.2.2.1
theorem dX9_gathers_135 : decode cX9_gathers 135 = .ok (.getfield 390, 3) := adX9_gathers_128.2.2.2.2.2.1
theorem dX9_gathers_138 : decode cX9_gathers 138 = .ok (.aload_n 0, 1) := adX9_gathers_128.2.2.2.2.2.2.1
theorem dX9_gathers_139 : decode cX9_gathers 139 = .ok (.getfield 101, 3) := adX9_gathers_128.2.2.2.2.2.2.2
theorem adX9_gathers_142 : (decode cX9_gathers 142 = .ok (.iload_n 1, 1)) ∧ (decode cX9_gathers 143 = .ok (.iaload, 1)) ∧ (decode cX9_gathers 144 = .ok (.i2l, 1)) ∧ (decode cX9_gathers 145 = .ok (.ladd, 1)) ∧ (decode cX9_gathers 146 = .ok (.putfield 390, 3)) ∧ (decode cX9_gathers 149 = .ok (.goto 45, 3)) ∧ (decode cX9_gathers 152 = .ok (.aload_n 0, 1)) ∧ (decode cX9_gathers 153 = .ok (.dup, 1)) := by decide +kernel
theorem dX9_gathers_142 : decode cX9_gathers 142 = .ok (.iload_n 1, 1) := adX9_gathers_142.1
theorem dX9_gathers_143 : decode cX9_gathers 143 = .ok (.iaload, 1) := adX9_gathers_142.2.1
theorem dX9_gathers_144 : decode cX9_gathers 144 = .ok (.i2l, 1) := adX9_gathers_142.2.2.1
theorem dX9_gathers_145 : decode cX9_gathers 145 = .ok (.ladd, 1) := adX9_gathers_142.2.2.2.1
theorem dX9_gathers_146 : decode cX9_gathers 146 = .ok (.putfield 390, 3) := adX9_gathers_142.2.2.2.2.1
theorem dX9_gathers_149 : decode cX9_gathers 149 = .ok (.goto 45, 3) := adX9_gathers_142.2.2.2.2.2.1
theorem dX9_gathers_152 : decode cX9_gathers 152 = .ok (.aload_n 0, 1) := adX9_gathers_142.2.2.2.2.2.2.1
theorem dX9_gathers_153 : decode cX9_gathers 153 = .ok (.dup, 1) := adX9_gathers_142.2.2.2.2.2.2.2
theorem adX9_gathers_154 : (decode cX9_gathers 154 = .ok (.getfield 381, 3)) ∧ (decode cX9_gathers 157 = .ok (.lconst 1, 1)) ∧ (decode cX9_gathers 158 = .ok (.ladd, 1)) ∧ (decode cX9_gathers 159 = .ok (.putfield 381, 3)) ∧ (decode cX9_gathers 162 = .ok (.aload_n 0, 1)) ∧ (decode cX9_gathers 163 = .ok (.dup, 1)) ∧ (decode cX9_gathers 164 = .ok (.getfield 387, 3)) ∧ (decode cX9_gathers 167 = .ok (.aload_n 0, 1)) := by decide +kernel
theorem dX9_gathers_154 : decode cX9_gathers 154 = .ok (.getfield 381, 3) := adX9_gathers_154.1
theorem dX9_gathers_157 : decode cX9_gathers 157 = .ok (.lconst 1, 1) := adX9_gathers_154.2.1
theorem dX9_gathers_158 : decode cX9_gathers 158 = .ok (.ladd, 1) := adX9_gathers_154.2.2.1
theorem dX9_gathers_159 : decode cX9_gathers 159 = .ok (.putfield 381, 3) := adX9_gathers_154.2.2.2.1
theorem dX9_gathers_162 : decode cX9_gathers 162 = .ok (.aload_n 0, 1) := adX9_gathers_154.2.2.2.2.1
theorem dX9_gathers_163 : decode cX9_gathers 163 = .ok (.dup, 1) := adX9_gathers_154.2.2.2.2.2.1
theorem dX9_gathers_164 : decode cX9_gathers 164 = .ok (.getfield 387, 3) := adX9_gathers_154.2.2.2.2.2.2.1
theorem dX9_gathers_167 : decode cX9_gathers 167 = .ok (.aload_n 0, 1) := adX9_gathers_154.2.2.2.2.2.2.2
theorem adX9_gathers_168 : (decode cX9_gathers 168 = .ok (.getfield 98, 3)) ∧ (decode cX9_gathers 171 = .ok (.iload_n 1, 1)) ∧ (decode cX9_gathers 172 = .ok (.iaload, 1)) ∧ (decode cX9_gathers 173 = .ok (.i2l, 1)) ∧ (decode cX9_gathers 174 = .ok (.ladd, 1)) ∧ (decode cX9_gathers 175 = .ok (.putfield 387, 3)) ∧ (decode cX9_gathers 178 = .ok (.aload_n 0, 1)) ∧ (decode cX9_gathers 179 = .ok (.dup, 1)) := by decide +kernel
theorem dX9_gathers_168 : decode cX9_gathers 168 = .ok (.getfield 98, 3) := adX9_gathers_168.1
theorem dX9_gathers_171 : decode cX9_gathers 171 = .ok (.iload_n 1, 1) := adX9_gathers_168.2.1
theorem dX9_gathers_172 : decode cX9_gathers 172 = .ok (.iaload, 1) := adX9_gathers_168.2.2.1
theorem dX9_gathers_173 : decode cX9_gathers 173 = .ok (.i2l, 1) := adX9_gathers_168.2.2.2.1
theorem dX9_gathers_174 : decode cX9_gathers 174 = .ok (.ladd, 1) := adX9_gathers_168.2.2.2.2.1
theorem dX9_gathers_175 : decode cX9_gathers 175 = .ok (.putfield 387, 3) := adX9_gathers_168.2.2.2.2.2.1
theorem dX9_gathers_178 : decode cX9_gathers 178 = .ok (.aload_n 0, 1) := adX9_gathers_168.2.2.2.2.2.2.1
theorem dX9_gathers_179 : decode cX9_gathers 179 = .ok (.dup, 1) := adX9_gathers_168.2.2.2.2.2.2.2
theorem adX9_gathers_180 : (decode cX9_gathers 180 = .ok (.getfield 393, 3)) ∧ (decode cX9_gathers 183 = .ok (.aload_n 0, 1)) ∧ (decode cX9_gathers 184 = .ok (.getfield 101, 3)) ∧ (decode cX9_gathers 187 = .ok (.iload_n 1, 1)) ∧ (decode cX9_gathers 188 = .ok (.iaload, 1)) ∧ (decode cX9_gathers 189 = .ok (.i2l, 1)) ∧ (decode cX9_gathers 190 = .ok (.ladd, 1)) ∧ (decode cX9_gathers 191 = .ok (.putfield 393, 3)) := by decide +kernel
theorem dX9_gathers_180 : decode cX9_gathers 180 = .ok (.getfield 393, 3) := adX9_gathers_180.1
theorem dX9_gathers_183 : decode cX9_gathers 183 = .ok (.aload_n 0, 1) := adX9_gathers_180.2.1
theorem dX9_gathers_184 : decode cX9_gathers 184 = .ok (.getfield 101, 3) := adX9_gathers_180.2.2.1
theorem dX9_gathers_187 : decode cX9_gathers 187 = .ok (.iload_n 1, 1) := adX9_gathers_180.2.2.2.1
theorem dX9_gathers_188 : decode cX9_gathers 188 = .ok (.iaload, 1) := adX9_gathers_180.2.2.2.2.1
theorem dX9_gathers_189 : decode cX9_gathers 189 = .ok (.i2l, 1) := adX9_gathers_180.2.2.2.2.2.1
theorem dX9_gathers_190 : decode cX9_gathers 190 = .ok (.ladd, 1) := adX9_gathers_180.2.2.2.2.2.2.1
theorem dX9_gathers_191 : decode cX9_gathers 191 = .ok (.putfield 393, 3) := adX9_gathers_180.2.2.2.2.2.2.2
theorem adX9_gathers_194 : (decode cX9_gathers 194 = .ok (.iinc 1 1, 3)) ∧ (decode cX9_gathers 197 = .ok (.goto (-155), 3)) ∧ (decode cX9_gathers 200 = .ok (.return_, 1)) := by decide +kernel
theorem dX9_gathers_194 : decode cX9_gathers 194 = .ok (.iinc 1 1, 3) := adX9_gathers_194.1
theorem dX9_gathers_197 : decode cX9_gathers 197 = .ok (.goto (-155), 3) := adX9_gathers_194.2.1
theorem dX9_gathers_200 : decode cX9_gathers 200 = .ok (.return_, 1) := adX9_gathers_194.2.2
theorem adX9_areBoth_0 : (decode cX9_areBoth 0 = .ok (.aload_n 0, 1)) ∧ (decode cX9_areBoth 1 = .ok (.getfield 378, 3)) ∧ (decode cX9_areBoth 4 = .ok (.lconst 0, 1)) ∧ (decode cX9_areBoth 5 = .ok (.lcmp, 1)) ∧ (decode cX9_areBoth 6 = .ok (.ifCond .le 16, 3)) ∧ (decode cX9_areBoth 9 = .ok (.aload_n 0, 1)) ∧ (decode cX9_areBoth 10 = .ok (.getfield 381, 3)) ∧ (decode cX9_areBoth 13 = .ok (.lconst 0, 1)) := by decide +kernel
theorem dX9_areBoth_0 : decode cX9_areBoth 0 = .ok (.aload_n 0, 1) := adX9_areBoth_0.1
theorem dX9_areBoth_1 : decode cX9_areBoth 1 = .ok (.getfield 378, 3) := adX9_areBoth_0.2.1
theorem dX9_areBoth_4 : decode cX9_areBoth 4 = .ok (.lconst 0, 1) := adX9_areBoth_0.2.2.1
theorem dX9_areBoth_5 : decode cX9_areBoth 5 = .ok (.lcmp, 1) := adX9_areBoth_0.2.2.2.1
theorem dX9_areBoth_6 : decode cX9_areBoth 6 = .ok (.ifCond .le 16, 3) := adX9_areBoth_0.2.2.2.2.1
theorem dX9_areBoth_9 : decode cX9_areBoth 9 = .ok (.aload_n 0, 1) := adX9_areBoth_0.2.2.2.2.2.1
theorem dX9_areBoth_10 : decode cX9_areBoth 10 = .ok (.getfield 381, 3) := adX9_areBoth_0.2.2.2.2.2.2.1
theorem dX9_areBoth_13 : decode cX9_areBoth 13 = .ok (.lconst 0, 1) := adX9_areBoth_0.2.2.2.2.2.2.2
theorem adX9_areBoth_14 : (decode cX9_areBoth 14 = .ok (.lcmp, 1)) ∧ (decode cX9_areBoth 15 = .ok (.ifCond .le 7, 3)) ∧ (decode cX9_areBoth 18 = .ok (.iconst 1, 1)) ∧ (decode cX9_areBoth 19 = .ok (.goto 4, 3)) ∧ (decode cX9_areBoth 22 = .ok (.iconst 0, 1)) ∧ (decode cX9_areBoth 23 = .ok (.ireturn, 1)) := by decide +kernel
theorem dX9_areBoth_14 : decode cX9_areBoth 14 = .ok (.lcmp, 1) := adX9_areBoth_14.1
theorem dX9_areBoth_15 : decode cX9_areBoth 15 = .ok (.ifCond .le 7, 3) := adX9_areBoth_14.2.1
theorem dX9_areBoth_18 : decode cX9_areBoth 18 = .ok (.iconst 1, 1) := adX9_areBoth_14.2.2.1
theorem dX9_areBoth_19 : decode cX9_areBoth 19 = .ok (.goto 4, 3) := adX9_areBoth_14.2.2.2.1
theorem dX9_areBoth_22 : decode cX9_areBoth 22 = .ok (.iconst 0, 1) := adX9_areBoth_14.2.2.2.2.1
theorem dX9_areBoth_23 : decode cX9_areBoth 23 = .ok (.ireturn, 1) := adX9_areBoth_14.2.2.2.2.2
theorem adX9_ratio_0 : (decode cX9_ratio 0 = .ok (.aload_n 0, 1)) ∧ (decode cX9_ratio 1 = .ok (.lload_n 3, 1)) ∧ (decode cX9_ratio 2 = .ok (.lconst 0, 1)) ∧ (decode cX9_ratio 3 = .ok (.lcmp, 1)) ∧ (decode cX9_ratio 4 = .ok (.ifCond .eq 7, 3)) ∧ (decode cX9_ratio 7 = .ok (.iconst 1, 1)) ∧ (decode cX9_ratio 8 = .ok (.goto 4, 3)) ∧ (decode cX9_ratio 11 = .ok (.iconst 0, 1)) := by decide +kernel
theorem dX9_ratio_0 : decode cX9_ratio 0 = .ok (.aload_n 0, 1) := adX9_ratio_0.1
theorem dX9_ratio_1 : decode cX9_ratio 1 = .ok (.lload_n 3, 1) := adX9_ratio_0.2.1
theorem dX9_ratio_2 : decode cX9_ratio 2 = .ok (.lconst 0, 1) := adX9_ratio_0.2.2.1
theorem dX9_ratio_3 : decode cX9_ratio 3 = .ok (.lcmp, 1) := adX9_ratio_0.2.2.2.1
theorem dX9_ratio_4 : decode cX9_ratio 4 = .ok (.ifCond .eq 7, 3) := adX9_ratio_0.2.2.2.2.1
theorem dX9_ratio_7 : decode cX9_ratio 7 = .ok (.iconst 1, 1) := adX9_ratio_0.2.2.2.2.2.1
theorem dX9_ratio_8 : decode cX9_ratio 8 = .ok (.goto 4, 3) := adX9_ratio_0.2.2.2.2.2.2.1
theorem dX9_ratio_11 : decode cX9_ratio 11 = .ok (.iconst 0, 1) := adX9_ratio_0.2.2.2.2.2.2.2
theorem adX9_ratio_12 : (decode cX9_ratio 12 = .ok (.putfield 402, 3)) ∧ (decode cX9_ratio 15 = .ok (.aload_n 0, 1)) ∧ (decode cX9_ratio 16 = .ok (.getfield 402, 3)) ∧ (decode cX9_ratio 19 = .ok (.ifCond .eq 13, 3)) ∧ (decode cX9_ratio 22 = .ok (.ldc2_w 406, 3)) ∧ (decode cX9_ratio 25 = .ok (.lload_n 1, 1)) ∧ (decode cX9_ratio 26 = .ok (.lmul, 1)) ∧ (decode cX9_ratio 27 = .ok (.lload_n 3, 1)) := by decide +kernel
theorem dX9_ratio_12 : decode cX9_ratio 12 = .ok (.putfield 402, 3) := adX9_ratio_12.1
theorem dX9_ratio_15 : decode cX9_ratio 15 = .ok (.aload_n 0, 1) := adX9_ratio_12.2.1
theorem dX9_ratio_16 : decode cX9_ratio 16 = .ok (.getfield 402, 3) := adX9_ratio_12.2.2.1
theorem dX9_ratio_19 : decode cX9_ratio 19 = .ok (.ifCond .eq 13, 3) := adX9_ratio_12.2.2.2.1
theorem dX9_ratio_22 : decode cX9_ratio 22 = .ok (.ldc2_w 406, 3) := adX9_ratio_12.2.2.2.2.1
theorem dX9_ratio_25 : decode cX9_ratio 25 = .ok (.lload_n 1, 1) := adX9_ratio_12.2.2.2.2.2.1
theorem dX9_ratio_26 : decode cX9_ratio 26 = .ok (.lmul, 1) := adX9_ratio_12.2.2.2.2.2.2.1
theorem dX9_ratio_27 : decode cX9_ratio 27 = .ok (.lload_n 3, 1) := adX9_ratio_12.2.2.2.2.2.2.2
theorem adX9_ratio_28 : (decode cX9_ratio 28 = .ok (.ldiv, 1)) ∧ (decode cX9_ratio 29 = .ok (.goto 6, 3)) ∧ (decode cX9_ratio 32 = .ok (.ldc2_w 408, 3)) ∧ (decode cX9_ratio 35 = .ok (.lreturn, 1)) := by decide +kernel
theorem dX9_ratio_28 : decode cX9_ratio 28 = .ok (.ldiv, 1) := adX9_ratio_28.1
theorem dX9_ratio_29 : decode cX9_ratio 29 = .ok (.goto 6, 3) := adX9_ratio_28.2.1
theorem dX9_ratio_32 : decode cX9_ratio 32 = .ok (.ldc2_w 408, 3) := adX9_ratio_28.2.2.1
theorem dX9_ratio_35 : decode cX9_ratio 35 = .ok (.lreturn, 1) := adX9_ratio_28.2.2.2
theorem adX9_untold_0 : (decode cX9_untold 0 = .ok (.aload_n 0, 1)) ∧ (decode cX9_untold 1 = .ok (.iconst 0, 1)) ∧ (decode cX9_untold 2 = .ok (.putfield 402, 3)) ∧ (decode cX9_untold 5 = .ok (.ldc2_w 408, 3)) ∧ (decode cX9_untold 8 = .ok (.lreturn, 1)) := by decide +kernel
theorem dX9_untold_0 : decode cX9_untold 0 = .ok (.aload_n 0, 1) := adX9_untold_0.1
theorem dX9_untold_1 : decode cX9_untold 1 = .ok (.iconst 0, 1) := adX9_untold_0.2.1
theorem dX9_untold_2 : decode cX9_untold 2 = .ok (.putfield 402, 3) := adX9_untold_0.2.2.1
theorem dX9_untold_5 : decode cX9_untold 5 = .ok (.ldc2_w 408, 3) := adX9_untold_0.2.2.2.1
theorem dX9_untold_8 : decode cX9_untold 8 = .ok (.lreturn, 1) := adX9_untold_0.2.2.2.2
set_option maxRecDepth 20000 in
theorem ggX9_plainOf_X9_pushes : GoodIn wsX9_plainOf wsX9_pushes := goodIn_r _ [10, 11, 12, 13, 14, 31, 32, 33, 34, 35, 36, 37, 38, 39, 40, 41, 42, 43, 44, 45, 46, 47, 48, 49, 50, 51, 52, 53, 54, 55, 56, 57, 58, 59, 60, 61, 62, 63, 64, 65, 66, 67, 68, 69, 70, 71, 72, 73, 74, 75, 76, 77, 78, 79, 80, 81, 82, 83, 84, 85, 86, 87, 88, 89, 90] (by decide +kernel) (by decide +kernel)
set_option maxRecDepth 20000 in
theorem gX9_plainOf_X9_pushes : GoodIn wsX9_plainOf (wsV RX9 410 RX9 yX9_pushes wsX9_pushes) := goodIn_app (goodIn_of _ (by decide +kernel)) ggX9_plainOf_X9_pushes
set_option maxRecDepth 20000 in
theorem ggX9_plainOf_X9_gathers : GoodIn wsX9_plainOf wsX9_gathers := goodIn_r _ [18, 19, 1, 20, 3, 21, 4, 5, 2, 14, 22, 23, 12, 31, 32, 33, 34, 35, 36, 37, 38, 39, 40, 41, 42, 43, 44, 45, 46, 47, 48, 49, 50, 51, 52, 53, 54, 55, 56, 57, 58, 59, 60, 61, 62, 63, 64, 65, 66, 67, 68, 69, 70, 71, 72, 73, 74, 75, 76, 77, 78, 79, 80, 81, 82, 83, 84, 85, 86, 87, 88, 89, 90] (by decide +kernel) (by decide +kernel)
set_option maxRecDepth 20000 in
theorem gX9_plainOf_X9_gathers : GoodIn wsX9_plainOf (wsV RX9 413 RX9 yX9_gathers wsX9_gathers) := goodIn_app (goodIn_of _ (by decide +kernel)) ggX9_plainOf_X9_gathers
set_option maxRecDepth 20000 in
theorem ggX9_plainOf_X9_ratio : GoodIn wsX9_plainOf wsX9_ratio := goodIn_r _ [27, 28, 29, 30, 31, 32, 33, 34, 35, 36, 37, 38, 39, 40, 41, 42, 43, 44, 45, 46, 47, 48, 49, 50, 51, 52, 53, 54, 55, 56, 57, 58, 59, 60, 61, 62, 63, 64, 65, 66, 67, 68, 69, 70, 71, 72, 73, 74, 75, 76, 77, 78, 79, 80, 81, 82, 83, 84, 85, 86, 87, 88, 89, 90] (by decide +kernel) (by decide +kernel)
set_option maxRecDepth 20000 in
theorem gX9_plainOf_X9_ratio : GoodIn wsX9_plainOf (wsV RX9 416 RX9 yX9_ratio wsX9_ratio) := goodIn_app (goodIn_of _ (by decide +kernel)) ggX9_plainOf_X9_ratio
theorem adX9_plainOf_0 : (decode cX9_plainOf 0 = .ok (.aload_n 0, 1)) ∧ (decode cX9_plainOf 1 = .ok (.iconst 0, 1)) ∧ (decode cX9_plainOf 2 = .ok (.invokevirtual 410, 3)) ∧ (decode cX9_plainOf 5 = .ok (.aload_n 0, 1)) ∧ (decode cX9_plainOf 6 = .ok (.invokevirtual 413, 3)) ∧ (decode cX9_plainOf 9 = .ok (.aload_n 0, 1)) ∧ (decode cX9_plainOf 10 = .ok (.aload_n 0, 1)) ∧ (decode cX9_plainOf 11 = .ok (.getfield 381, 3)) := by decide +kernel
theorem dX9_plainOf_0 : decode cX9_plainOf 0 = .ok (.aload_n 0, 1) := adX9_plainOf_0.1
theorem dX9_plainOf_1 : decode cX9_plainOf 1 = .ok (.iconst 0, 1) := adX9_plainOf_0.2.1
theorem dX9_plainOf_2 : decode cX9_plainOf 2 = .ok (.invokevirtual 410, 3) := adX9_plainOf_0.2.2.1
theorem dX9_plainOf_5 : decode cX9_plainOf 5 = .ok (.aload_n 0, 1) := adX9_plainOf_0.2.2.2.1
theorem dX9_plainOf_6 : decode cX9_plainOf 6 = .ok (.invokevirtual 413, 3) := adX9_plainOf_0.2.2.2.2.1
theorem dX9_plainOf_9 : decode cX9_plainOf 9 = .ok (.aload_n 0, 1) := adX9_plainOf_0.2.2.2.2.2.1
theorem dX9_plainOf_10 : decode cX9_plainOf 10 = .ok (.aload_n 0, 1) := adX9_plainOf_0.2.2.2.2.2.2.1
theorem dX9_plainOf_11 : decode cX9_plainOf 11 = .ok (.getfield 381, 3) := adX9_plainOf_0.2.2.2.2.2.2.2
theorem adX9_plainOf_14 : (decode cX9_plainOf 14 = .ok (.aload_n 0, 1)) ∧ (decode cX9_plainOf 15 = .ok (.getfield 399, 3)) ∧ (decode cX9_plainOf 18 = .ok (.lmul, 1)) ∧ (decode cX9_plainOf 19 = .ok (.aload_n 0, 1)) ∧ (decode cX9_plainOf 20 = .ok (.getfield 387, 3)) ∧ (decode cX9_plainOf 23 = .ok (.aload_n 0, 1)) ∧ (decode cX9_plainOf 24 = .ok (.getfield 393, 3)) ∧ (decode cX9_plainOf 27 = .ok (.lmul, 1)) := by decide +kernel
theorem dX9_plainOf_14 : decode cX9_plainOf 14 = .ok (.aload_n 0, 1) := adX9_plainOf_14.1
theorem dX9_plainOf_15 : decode cX9_plainOf 15 = .ok (.getfield 399, 3) := adX9_plainOf_14.2.1
theorem dX9_plainOf_18 : decode cX9_plainOf 18 = .ok (.lmul, 1) := adX9_plainOf_14.2.2.1
theorem dX9_plainOf_19 : decode cX9_plainOf 19 = .ok (.aload_n 0, 1) := adX9_plainOf_14.2.2.2.1
theorem dX9_plainOf_20 : decode cX9_plainOf 20 = .ok (.getfield 387, 3) := adX9_plainOf_14.2.2.2.2.1
theorem dX9_plainOf_23 : decode cX9_plainOf 23 = .ok (.aload_n 0, 1) := adX9_plainOf_14.2.2.2.2.2.1
theorem dX9_plainOf_24 : decode cX9_plainOf 24 = .ok (.getfield 393, 3) := adX9_plainOf_14.2.2.2.2.2.2.1
theorem dX9_plainOf_27 : decode cX9_plainOf 27 = .ok (.lmul, 1) := adX9_plainOf_14.2.2.2.2.2.2.2
theorem adX9_plainOf_28 : (decode cX9_plainOf 28 = .ok (.lsub, 1)) ∧ (decode cX9_plainOf 29 = .ok (.aload_n 0, 1)) ∧ (decode cX9_plainOf 30 = .ok (.getfield 381, 3)) ∧ (decode cX9_plainOf 33 = .ok (.aload_n 0, 1)) ∧ (decode cX9_plainOf 34 = .ok (.getfield 396, 3)) ∧ (decode cX9_plainOf 37 = .ok (.lmul, 1)) ∧ (decode cX9_plainOf 38 = .ok (.aload_n 0, 1)) ∧ (decode cX9_plainOf 39 = .ok (.getfield 387, 3)) := by decide +kernel
theorem dX9_plainOf_28 : decode cX9_plainOf 28 = .ok (.lsub, 1) := adX9_plainOf_28.1
theorem dX9_plainOf_29 : decode cX9_plainOf 29 = .ok (.aload_n 0, 1) := adX9_plainOf_28.2.1
theorem dX9_plainOf_30 : decode cX9_plainOf 30 = .ok (.getfield 381, 3) := adX9_plainOf_28.2.2.1
theorem dX9_plainOf_33 : decode cX9_plainOf 33 = .ok (.aload_n 0, 1) := adX9_plainOf_28.2.2.2.1
theorem dX9_plainOf_34 : decode cX9_plainOf 34 = .ok (.getfield 396, 3) := adX9_plainOf_28.2.2.2.2.1
theorem dX9_plainOf_37 : decode cX9_plainOf 37 = .ok (.lmul, 1) := adX9_plainOf_28.2.2.2.2.2.1
theorem dX9_plainOf_38 : decode cX9_plainOf 38 = .ok (.aload_n 0, 1) := adX9_plainOf_28.2.2.2.2.2.2.1
theorem dX9_plainOf_39 : decode cX9_plainOf 39 = .ok (.getfield 387, 3) := adX9_plainOf_28.2.2.2.2.2.2.2
theorem adX9_plainOf_42 : (decode cX9_plainOf 42 = .ok (.aload_n 0, 1)) ∧ (decode cX9_plainOf 43 = .ok (.getfield 387, 3)) ∧ (decode cX9_plainOf 46 = .ok (.lmul, 1)) ∧ (decode cX9_plainOf 47 = .ok (.lsub, 1)) ∧ (decode cX9_plainOf 48 = .ok (.invokevirtual 416, 3)) ∧ (decode cX9_plainOf 51 = .ok (.lreturn, 1)) := by decide +kernel
theorem dX9_plainOf_42 : decode cX9_plainOf 42 = .ok (.aload_n 0, 1) := adX9_plainOf_42.1
theorem dX9_plainOf_43 : decode cX9_plainOf 43 = .ok (.getfield 387, 3) := adX9_plainOf_42.2.1
theorem dX9_plainOf_46 : decode cX9_plainOf 46 = .ok (.lmul, 1) := adX9_plainOf_42.2.2.1
theorem dX9_plainOf_47 : decode cX9_plainOf 47 = .ok (.lsub, 1) := adX9_plainOf_42.2.2.2.1
theorem dX9_plainOf_48 : decode cX9_plainOf 48 = .ok (.invokevirtual 416, 3) := adX9_plainOf_42.2.2.2.2.1
theorem dX9_plainOf_51 : decode cX9_plainOf 51 = .ok (.lreturn, 1) := adX9_plainOf_42.2.2.2.2.2
set_option maxRecDepth 20000 in
theorem ggX9_plain_X9_plainOf : GoodIn wsX9_plain wsX9_plainOf := goodIn_r _ [6, 7, 8, 9, 10, 11, 12, 13, 14, 5, 15, 16, 17, 18, 19, 20, 21, 22, 23, 24, 25, 26, 27, 28, 29, 30, 31, 32, 33, 34, 35, 36, 37, 38, 39, 40, 41, 42, 43, 44, 45, 46, 47, 48, 49, 50, 51, 52, 53, 54, 55, 56, 57, 58, 59, 60, 61, 62, 63, 64, 65, 66, 67, 68, 69, 70, 71, 72, 73, 74, 75, 76, 77, 78, 79, 80, 81, 82, 83, 84, 85, 86, 87, 88, 89, 90, 91, 92, 93, 94, 95] (by decide +kernel) (by decide +kernel)
set_option maxRecDepth 20000 in
theorem gX9_plain_X9_plainOf : GoodIn wsX9_plain (wsV RX9 420 RX9 yX9_plainOf wsX9_plainOf) := goodIn_app (goodIn_of _ (by decide +kernel)) ggX9_plain_X9_plainOf
theorem adX9_plain_0 : (decode cX9_plain 0 = .ok (.aload_n 0, 1)) ∧ (decode cX9_plain 1 = .ok (.iconst 0, 1)) ∧ (decode cX9_plain 2 = .ok (.putfield 125, 3)) ∧ (decode cX9_plain 5 = .ok (.aload_n 0, 1)) ∧ (decode cX9_plain 6 = .ok (.invokevirtual 420, 3)) ∧ (decode cX9_plain 9 = .ok (.lreturn, 1)) := by decide +kernel
theorem dX9_plain_0 : decode cX9_plain 0 = .ok (.aload_n 0, 1) := adX9_plain_0.1
theorem dX9_plain_1 : decode cX9_plain 1 = .ok (.iconst 0, 1) := adX9_plain_0.2.1
theorem dX9_plain_2 : decode cX9_plain 2 = .ok (.putfield 125, 3) := adX9_plain_0.2.2.1
theorem dX9_plain_5 : decode cX9_plain 5 = .ok (.aload_n 0, 1) := adX9_plain_0.2.2.2.1
theorem dX9_plain_6 : decode cX9_plain 6 = .ok (.invokevirtual 420, 3) := adX9_plain_0.2.2.2.2.1
theorem dX9_plain_9 : decode cX9_plain 9 = .ok (.lreturn, 1) := adX9_plain_0.2.2.2.2.2
set_option maxRecDepth 20000 in
theorem ggX9_byMoved_X9_gathers : GoodIn wsX9_byMoved wsX9_gathers := goodIn_r _ [11, 4, 2, 5, 6, 1, 3, 12, 13, 14, 15, 16, 17, 33, 34, 35, 36, 37, 38, 39, 40, 41, 42, 43, 44, 45, 46, 47, 48, 49, 50, 51, 52, 53, 54, 55, 56, 57, 58, 59, 60, 61, 62, 63, 64, 65, 66, 67, 68, 69, 70, 71, 72, 73, 74, 75, 76, 77, 78, 79, 80, 81, 82, 83, 84, 85, 86, 87, 88, 89, 90, 91, 92] (by decide +kernel) (by decide +kernel)
set_option maxRecDepth 20000 in
theorem gX9_byMoved_X9_gathers : GoodIn wsX9_byMoved (wsV RX9 413 RX9 yX9_gathers wsX9_gathers) := goodIn_app (goodIn_of _ (by decide +kernel)) ggX9_byMoved_X9_gathers
set_option maxRecDepth 20000 in
theorem ggX9_byMoved_X9_areBoth : GoodIn wsX9_byMoved wsX9_areBoth := goodIn_r _ [21, 4, 2, 33, 34, 35, 36, 37, 38, 39, 40, 41, 42, 43, 44, 45, 46, 47, 48, 49, 50, 51, 52, 53, 54, 55, 56, 57, 58, 59, 60, 61, 62, 63, 64, 65, 66, 67, 68, 69, 70, 71, 72, 73, 74, 75, 76, 77, 78, 79, 80, 81, 82, 83, 84, 85, 86, 87, 88, 89, 90, 91, 92] (by decide +kernel) (by decide +kernel)
set_option maxRecDepth 20000 in
theorem gX9_byMoved_X9_areBoth : GoodIn wsX9_byMoved (wsV RX9 424 RX9 yX9_areBoth wsX9_areBoth) := goodIn_app (goodIn_of _ (by decide +kernel)) ggX9_byMoved_X9_areBoth
set_option maxRecDepth 20000 in
theorem ggX9_byMoved_X9_ratio : GoodIn wsX9_byMoved wsX9_ratio := goodIn_r _ [25, 26, 27, 28, 33, 34, 35, 36, 37, 38, 39, 40, 41, 42, 43, 44, 45, 46, 47, 48, 49, 50, 51, 52, 53, 54, 55, 56, 57, 58, 59, 60, 61, 62, 63, 64, 65, 66, 67, 68, 69, 70, 71, 72, 73, 74, 75, 76, 77, 78, 79, 80, 81, 82, 83, 84, 85, 86, 87, 88, 89, 90, 91, 92] (by decide +kernel) (by decide +kernel)
set_option maxRecDepth 20000 in
theorem gX9_byMoved_X9_ratio : GoodIn wsX9_byMoved (wsV RX9 416 RX9 yX9_ratio wsX9_ratio) := goodIn_app (goodIn_of _ (by decide +kernel)) ggX9_byMoved_X9_ratio
set_option maxRecDepth 20000 in
theorem ggX9_byMoved_X9_untold : GoodIn wsX9_byMoved wsX9_untold := goodIn_r _ [32, 26, 28, 33, 34, 35, 36, 37, 38, 39, 40, 41, 42, 43, 44, 45, 46, 47, 48, 49, 50, 51, 52, 53, 54, 55, 56, 57, 58, 59, 60, 61, 62, 63, 64, 65, 66, 67, 68, 69, 70, 71, 72, 73, 74, 75, 76, 77, 78, 79, 80, 81, 82, 83, 84, 85, 86, 87, 88, 89, 90, 91, 92] (by decide +kernel) (by decide +kernel)
set_option maxRecDepth 20000 in
theorem gX9_byMoved_X9_untold : GoodIn wsX9_byMoved (wsV RX9 427 RX9 yX9_untold wsX9_untold) := goodIn_app (goodIn_of _ (by decide +kernel)) ggX9_byMoved_X9_untold
theorem adX9_byMoved_0 : (decode cX9_byMoved 0 = .ok (.aload_n 0, 1)) ∧ (decode cX9_byMoved 1 = .ok (.invokevirtual 413, 3)) ∧ (decode cX9_byMoved 4 = .ok (.aload_n 0, 1)) ∧ (decode cX9_byMoved 5 = .ok (.invokevirtual 424, 3)) ∧ (decode cX9_byMoved 8 = .ok (.ifCond .eq 48, 3)) ∧ (decode cX9_byMoved 11 = .ok (.aload_n 0, 1)) ∧ (decode cX9_byMoved 12 = .ok (.aload_n 0, 1)) ∧ (decode cX9_byMoved 13 = .ok (.getfield 390, 3)) := by decide +kernel
theorem dX9_byMoved_0 : decode cX9_byMoved 0 = .ok (.aload_n 0, 1) := adX9_byMoved_0.1
theorem dX9_byMoved_1 : decode cX9_byMoved 1 = .ok (.invokevirtual 413, 3) := adX9_byMoved_0.2.1
theorem dX9_byMoved_4 : decode cX9_byMoved 4 = .ok (.aload_n 0, 1) := adX9_byMoved_0.2.2.1
theorem dX9_byMoved_5 : decode cX9_byMoved 5 = .ok (.invokevirtual 424, 3) := adX9_byMoved_0.2.2.2.1
theorem dX9_byMoved_8 : decode cX9_byMoved 8 = .ok (.ifCond .eq 48, 3) := adX9_byMoved_0.2.2.2.2.1
theorem dX9_byMoved_11 : decode cX9_byMoved 11 = .ok (.aload_n 0, 1) := adX9_byMoved_0.2.2.2.2.2.1
theorem dX9_byMoved_12 : decode cX9_byMoved 12 = .ok (.aload_n 0, 1) := adX9_byMoved_0.2.2.2.2.2.2.1
theorem dX9_byMoved_13 : decode cX9_byMoved 13 = .ok (.getfield 390, 3) := adX9_byMoved_0.2.2.2.2.2.2.2
theorem adX9_byMoved_16 : (decode cX9_byMoved 16 = .ok (.aload_n 0, 1)) ∧ (decode cX9_byMoved 17 = .ok (.getfield 381, 3)) ∧ (decode cX9_byMoved 20 = .ok (.lmul, 1)) ∧ (decode cX9_byMoved 21 = .ok (.aload_n 0, 1)) ∧ (decode cX9_byMoved 22 = .ok (.getfield 393, 3)) ∧ (decode cX9_byMoved 25 = .ok (.aload_n 0, 1)) ∧ (decode cX9_byMoved 26 = .ok (.getfield 378, 3)) ∧ (decode cX9_byMoved 29 = .ok (.lmul, 1)) := by decide +kernel
theorem dX9_byMoved_16 : decode cX9_byMoved 16 = .ok (.aload_n 0, 1) := adX9_byMoved_16.1
theorem dX9_byMoved_17 : decode cX9_byMoved 17 = .ok (.getfield 381, 3) := adX9_byMoved_16.2.1
theorem dX9_byMoved_20 : decode cX9_byMoved 20 = .ok (.lmul, 1) := adX9_byMoved_16.2.2.1
theorem dX9_byMoved_21 : decode cX9_byMoved 21 = .ok (.aload_n 0, 1) := adX9_byMoved_16.2.2.2.1
theorem dX9_byMoved_22 : decode cX9_byMoved 22 = .ok (.getfield 393, 3) := adX9_byMoved_16.2.2.2.2.1
theorem dX9_byMoved_25 : decode cX9_byMoved 25 = .ok (.aload_n 0, 1) := adX9_byMoved_16.2.2.2.2.2.1
theorem dX9_byMoved_26 : decode cX9_byMoved 26 = .ok (.getfield 378, 3) := adX9_byMoved_16.2.2.2.2.2.2.1
theorem dX9_byMoved_29 : decode cX9_byMoved 29 = .ok (.lmul, 1) := adX9_byMoved_16.2.2.2.2.2.2.2
theorem adX9_byMoved_30 : (decode cX9_byMoved 30 = .ok (.lsub, 1)) ∧ (decode cX9_byMoved 31 = .ok (.aload_n 0, 1)) ∧ (decode cX9_byMoved 32 = .ok (.getfield 384, 3)) ∧ (decode cX9_byMoved 35 = .ok (.aload_n 0, 1)) ∧ (decode cX9_byMoved 36 = .ok (.getfield 381, 3)) ∧ (decode cX9_byMoved 39 = .ok (.lmul, 1)) ∧ (decode cX9_byMoved 40 = .ok (.aload_n 0, 1)) ∧ (decode cX9_byMoved 41 = .ok (.getfield 387, 3)) := by decide +kernel
theorem dX9_byMoved_30 : decode cX9_byMoved 30 = .ok (.lsub, 1) := adX9_byMoved_30.1
theorem dX9_byMoved_31 : decode cX9_byMoved 31 = .ok (.aload_n 0, 1) := adX9_byMoved_30.2.1
theorem dX9_byMoved_32 : decode cX9_byMoved 32 = .ok (.getfield 384, 3) := adX9_byMoved_30.2.2.1
theorem dX9_byMoved_35 : decode cX9_byMoved 35 = .ok (.aload_n 0, 1) := adX9_byMoved_30.2.2.2.1
theorem dX9_byMoved_36 : decode cX9_byMoved 36 = .ok (.getfield 381, 3) := adX9_byMoved_30.2.2.2.2.1
theorem dX9_byMoved_39 : decode cX9_byMoved 39 = .ok (.lmul, 1) := adX9_byMoved_30.2.2.2.2.2.1
theorem dX9_byMoved_40 : decode cX9_byMoved 40 = .ok (.aload_n 0, 1) := adX9_byMoved_30.2.2.2.2.2.2.1
theorem dX9_byMoved_41 : decode cX9_byMoved 41 = .ok (.getfield 387, 3) := adX9_byMoved_30.2.2.2.2.2.2.2
theorem adX9_byMoved_44 : (decode cX9_byMoved 44 = .ok (.aload_n 0, 1)) ∧ (decode cX9_byMoved 45 = .ok (.getfield 378, 3)) ∧ (decode cX9_byMoved 48 = .ok (.lmul, 1)) ∧ (decode cX9_byMoved 49 = .ok (.lsub, 1)) ∧ (decode cX9_byMoved 50 = .ok (.invokevirtual 416, 3)) ∧ (decode cX9_byMoved 53 = .ok (.goto 7, 3)) ∧ (decode cX9_byMoved 56 = .ok (.aload_n 0, 1)) ∧ (decode cX9_byMoved 57 = .ok (.invokevirtual 427, 3)) := by decide +kernel
theorem dX9_byMoved_44 : decode cX9_byMoved 44 = .ok (.aload_n 0, 1) := adX9_byMoved_44.1
theorem dX9_byMoved_45 : decode cX9_byMoved 45 = .ok (.getfield 378, 3) := adX9_byMoved_44.2.1
theorem dX9_byMoved_48 : decode cX9_byMoved 48 = .ok (.lmul, 1) := adX9_byMoved_44.2.2.1
theorem dX9_byMoved_49 : decode cX9_byMoved 49 = .ok (.lsub, 1) := adX9_byMoved_44.2.2.2.1
theorem dX9_byMoved_50 : decode cX9_byMoved 50 = .ok (.invokevirtual 416, 3) := adX9_byMoved_44.2.2.2.2.1
theorem dX9_byMoved_53 : decode cX9_byMoved 53 = .ok (.goto 7, 3) := adX9_byMoved_44.2.2.2.2.2.1
theorem dX9_byMoved_56 : decode cX9_byMoved 56 = .ok (.aload_n 0, 1) := adX9_byMoved_44.2.2.2.2.2.2.1
theorem dX9_byMoved_57 : decode cX9_byMoved 57 = .ok (.invokevirtual 427, 3) := adX9_byMoved_44.2.2.2.2.2.2.2
theorem dX9_byMoved_60 : decode cX9_byMoved 60 = .ok (.lreturn, 1) := by decide +kernel
set_option maxRecDepth 20000 in
theorem ggX9_byOf_X9_isPush : GoodIn wsX9_byOf wsX9_isPush := goodIn_r _ [4, 5, 6, 7, 3, 8] (by decide +kernel) (by decide +kernel)
set_option maxRecDepth 20000 in
theorem gX9_byOf_X9_isPush : GoodIn wsX9_byOf (va_wsS RX9 430 yX9_isPush wsX9_isPush) := goodIn_app (goodIn_of _ (by decide +kernel)) ggX9_byOf_X9_isPush
set_option maxRecDepth 20000 in
theorem ggX9_byOf_X9_untold : GoodIn wsX9_byOf wsX9_untold := goodIn_r _ [12, 13, 14, 50, 51, 52, 53, 54, 55, 56, 57, 58, 59, 60, 61, 62, 63, 64, 65, 66, 67, 68, 69, 70, 71, 72, 73, 74, 75, 76, 77, 78, 79, 80, 81, 82, 83, 84, 85, 86, 87, 88, 89, 90, 91, 92, 93, 94, 95, 96, 97, 98, 99, 100, 101, 102, 103, 104, 105, 106, 107, 108, 109] (by decide +kernel) (by decide +kernel)
set_option maxRecDepth 20000 in
theorem gX9_byOf_X9_untold : GoodIn wsX9_byOf (wsV RX9 427 RX9 yX9_untold wsX9_untold) := goodIn_app (goodIn_of _ (by decide +kernel)) ggX9_byOf_X9_untold
set_option maxRecDepth 20000 in
theorem ggX9_byOf_X9_pushes : GoodIn wsX9_byOf wsX9_pushes := goodIn_r _ [18, 19, 20, 21, 22, 50, 51, 52, 53, 54, 55, 56, 57, 58, 59, 60, 61, 62, 63, 64, 65, 66, 67, 68, 69, 70, 71, 72, 73, 74, 75, 76, 77, 78, 79, 80, 81, 82, 83, 84, 85, 86, 87, 88, 89, 90, 91, 92, 93, 94, 95, 96, 97, 98, 99, 100, 101, 102, 103, 104, 105, 106, 107, 108, 109] (by decide +kernel) (by decide +kernel)
set_option maxRecDepth 20000 in
theorem gX9_byOf_X9_pushes : GoodIn wsX9_byOf (wsV RX9 410 RX9 yX9_pushes wsX9_pushes) := goodIn_app (goodIn_of _ (by decide +kernel)) ggX9_byOf_X9_pushes
set_option maxRecDepth 20000 in
theorem ggX9_byOf_X9_byMoved : GoodIn wsX9_byOf wsX9_byMoved := goodIn_r _ [26, 27, 28, 29, 30, 31, 32, 33, 34, 35, 3, 36, 37, 38, 22, 39, 40, 20, 41, 42, 43, 44, 45, 46, 47, 48, 13, 49, 14, 9, 10, 11, 12, 50, 51, 52, 53, 54, 55, 56, 57, 58, 59, 60, 61, 62, 63, 64, 65, 66, 67, 68, 69, 70, 71, 72, 73, 74, 75, 76, 77, 78, 79, 80, 81, 82, 83, 84, 85, 86, 87, 88, 89, 90, 91, 92, 93, 94, 95, 96, 97, 98, 99, 100, 101, 102, 103, 104, 105, 106, 107, 108, 109] (by decide +kernel) (by decide +kernel)
set_option maxRecDepth 20000 in
theorem gX9_byOf_X9_byMoved : GoodIn wsX9_byOf (wsV RX9 433 RX9 yX9_byMoved wsX9_byMoved) := goodIn_app (goodIn_of _ (by decide +kernel)) ggX9_byOf_X9_byMoved
theorem adX9_byOf_0 : (decode cX9_byOf 0 = .ok (.iload_n 1, 1)) ∧ (decode cX9_byOf 1 = .ok (.invokestatic 430, 3)) ∧ (decode cX9_byOf 4 = .ok (.ifCond .ne 8, 3)) ∧ (decode cX9_byOf 7 = .ok (.aload_n 0, 1)) ∧ (decode cX9_byOf 8 = .ok (.invokevirtual 427, 3)) ∧ (decode cX9_byOf 11 = .ok (.lreturn, 1)) ∧ (decode cX9_byOf 12 = .ok (.aload_n 0, 1)) ∧ (decode cX9_byOf 13 = .ok (.iload_n 1, 1)) := by decide +kernel
theorem dX9_byOf_0 : decode cX9_byOf 0 = .ok (.iload_n 1, 1) := adX9_byOf_0.1
theorem dX9_byOf_1 : decode cX9_byOf 1 = .ok (.invokestatic 430, 3) := adX9_byOf_0.2.1
theorem dX9_byOf_4 : decode cX9_byOf 4 = .ok (.ifCond .ne 8, 3) := adX9_byOf_0.2.2.1
theorem dX9_byOf_7 : decode cX9_byOf 7 = .ok (.aload_n 0, 1) := adX9_byOf_0.2.2.2.1
theorem dX9_byOf_8 : decode cX9_byOf 8 = .ok (.invokevirtual 427, 3) := adX9_byOf_0.2.2.2.2.1
theorem dX9_byOf_11 : decode cX9_byOf 11 = .ok (.lreturn, 1) := adX9_byOf_0.2.2.2.2.2.1
theorem dX9_byOf_12 : decode cX9_byOf 12 = .ok (.aload_n 0, 1) := adX9_byOf_0.2.2.2.2.2.2.1
theorem dX9_byOf_13 : decode cX9_byOf 13 = .ok (.iload_n 1, 1) := adX9_byOf_0.2.2.2.2.2.2.2
theorem adX9_byOf_14 : (decode cX9_byOf 14 = .ok (.invokevirtual 410, 3)) ∧ (decode cX9_byOf 17 = .ok (.aload_n 0, 1)) ∧ (decode cX9_byOf 18 = .ok (.invokevirtual 433, 3)) ∧ (decode cX9_byOf 21 = .ok (.lreturn, 1)) := by decide +kernel
theorem dX9_byOf_14 : decode cX9_byOf 14 = .ok (.invokevirtual 410, 3) := adX9_byOf_14.1
theorem dX9_byOf_17 : decode cX9_byOf 17 = .ok (.aload_n 0, 1) := adX9_byOf_14.2.1
theorem dX9_byOf_18 : decode cX9_byOf 18 = .ok (.invokevirtual 433, 3) := adX9_byOf_14.2.2.1
theorem dX9_byOf_21 : decode cX9_byOf 21 = .ok (.lreturn, 1) := adX9_byOf_14.2.2.2
set_option maxRecDepth 20000 in
theorem ggX9_by_X9_byOf : GoodIn wsX9_by wsX9_byOf := goodIn_r _ [6, 7, 8, 5, 9, 10, 11, 12, 13, 14, 15, 16, 17, 18, 19, 20, 21, 22, 23, 24, 25, 26, 27, 28, 29, 30, 31, 32, 33, 34, 35, 36, 37, 38, 39, 40, 41, 42, 43, 44, 45, 46, 47, 48, 49, 50, 51, 52, 53, 54, 55, 56, 57, 58, 59, 60, 61, 62, 63, 64, 65, 66, 67, 68, 69, 70, 71, 72, 73, 74, 75, 76, 77, 78, 79, 80, 81, 82, 83, 84, 85, 86, 87, 88, 89, 90, 91, 92, 93, 94, 95, 96, 97, 98, 99, 100, 101, 102, 103, 104, 105, 106, 107, 108, 109, 110, 111, 112, 113, 114] (by decide +kernel) (by decide +kernel)
set_option maxRecDepth 20000 in
theorem gX9_by_X9_byOf : GoodIn wsX9_by (wsV RX9 436 RX9 yX9_byOf wsX9_byOf) := goodIn_app (goodIn_of _ (by decide +kernel)) ggX9_by_X9_byOf
theorem adX9_by_0 : (decode cX9_by 0 = .ok (.aload_n 0, 1)) ∧ (decode cX9_by 1 = .ok (.iconst 0, 1)) ∧ (decode cX9_by 2 = .ok (.putfield 125, 3)) ∧ (decode cX9_by 5 = .ok (.aload_n 0, 1)) ∧ (decode cX9_by 6 = .ok (.iload_n 1, 1)) ∧ (decode cX9_by 7 = .ok (.invokevirtual 436, 3)) ∧ (decode cX9_by 10 = .ok (.lreturn, 1)) := by decide +kernel
theorem dX9_by_0 : decode cX9_by 0 = .ok (.aload_n 0, 1) := adX9_by_0.1
theorem dX9_by_1 : decode cX9_by 1 = .ok (.iconst 0, 1) := adX9_by_0.2.1
theorem dX9_by_2 : decode cX9_by 2 = .ok (.putfield 125, 3) := adX9_by_0.2.2.1
theorem dX9_by_5 : decode cX9_by 5 = .ok (.aload_n 0, 1) := adX9_by_0.2.2.2.1
theorem dX9_by_6 : decode cX9_by 6 = .ok (.iload_n 1, 1) := adX9_by_0.2.2.2.2.1
theorem dX9_by_7 : decode cX9_by 7 = .ok (.invokevirtual 436, 3) := adX9_by_0.2.2.2.2.2.1
theorem dX9_by_10 : decode cX9_by 10 = .ok (.lreturn, 1) := adX9_by_0.2.2.2.2.2.2
theorem adX9_groupsOf_0 : (decode cX9_groupsOf 0 = .ok (.iconst 0, 1)) ∧ (decode cX9_groupsOf 1 = .ok (.istore_n 1, 1)) ∧ (decode cX9_groupsOf 2 = .ok (.iload_n 1, 1)) ∧ (decode cX9_groupsOf 3 = .ok (.bipush 72, 2)) ∧ (decode cX9_groupsOf 5 = .ok (.if_icmp .ge 30, 3)) ∧ (decode cX9_groupsOf 8 = .ok (.aload_n 0, 1)) ∧ (decode cX9_groupsOf 9 = .ok (.getfield 113, 3)) ∧ (decode cX9_groupsOf 12 = .ok (.iload_n 1, 1)) := by decide +kernel
theorem dX9_groupsOf_0 : decode cX9_groupsOf 0 = .ok (.iconst 0, 1) := adX9_groupsOf_0.1
theorem dX9_groupsOf_1 : decode cX9_groupsOf 1 = .ok (.istore_n 1, 1) := adX9_groupsOf_0.2.1
theorem dX9_groupsOf_2 : decode cX9_groupsOf 2 = .ok (.iload_n 1, 1) := adX9_groupsOf_0.2.2.1
theorem dX9_groupsOf_3 : decode cX9_groupsOf 3 = .ok (.bipush 72, 2) := adX9_groupsOf_0.2.2.2.1
theorem dX9_groupsOf_5 : decode cX9_groupsOf 5 = .ok (.if_icmp .ge 30, 3) := adX9_groupsOf_0.2.2.2.2.1
theorem dX9_groupsOf_8 : decode cX9_groupsOf 8 = .ok (.aload_n 0, 1) := adX9_groupsOf_0.2.2.2.2.2.1
theorem dX9_groupsOf_9 : decode cX9_groupsOf 9 = .ok (.getfield 113, 3) := adX9_groupsOf_0.2.2.2.2.2.2.1
theorem dX9_groupsOf_12 : decode cX9_groupsOf 12 = .ok (.iload_n 1, 1) := adX9_groupsOf_0.2.2.2.2.2.2.2
theorem adX9_groupsOf_13 : (decode cX9_groupsOf 13 = .ok (.lconst 0, 1)) ∧ (decode cX9_groupsOf 14 = .ok (.lastore, 1)) ∧ (decode cX9_groupsOf 15 = .ok (.aload_n 0, 1)) ∧ (decode cX9_groupsOf 16 = .ok (.getfield 116, 3)) ∧ (decode cX9_groupsOf 19 = .ok (.iload_n 1, 1)) ∧ (decode cX9_groupsOf 20 = .ok (.lconst 0, 1)) ∧ (decode cX9_groupsOf 21 = .ok (.lastore, 1)) ∧ (decode cX9_groupsOf 22 = .ok (.aload_n 0, 1)) := by decide +kernel
theorem dX9_groupsOf_13 : decode cX9_groupsOf 13 = .ok (.lconst 0, 1) := adX9_groupsOf_13.1
theorem dX9_groupsOf_14 : decode cX9_groupsOf 14 = .ok (.lastore, 1) := adX9_groupsOf_13.2.1
theorem dX9_groupsOf_15 : decode cX9_groupsOf 15 = .ok (.aload_n 0, 1) := adX9_groupsOf_13.2.2.1
theorem dX9_groupsOf_16 : decode cX9_groupsOf 16 = .ok (.getfield 116, 3) := adX9_groupsOf_13.2.2.2.1
theorem dX9_groupsOf_19 : decode cX9_groupsOf 19 = .ok (.iload_n 1, 1) := adX9_groupsOf_13.2.2.2.2.1
theorem dX9_groupsOf_20 : decode cX9_groupsOf 20 = .ok (.lconst 0, 1) := adX9_groupsOf_13.2.2.2.2.2.1
theorem dX9_groupsOf_21 : decode cX9_groupsOf 21 = .ok (.lastore, 1) := adX9_groupsOf_13.2.2.2.2.2.2.1
theorem dX9_groupsOf_22 : decode cX9_groupsOf 22 = .ok (.aload_n 0, 1) := adX9_groupsOf_13.2.2.2.2.2.2.2
theorem adX9_groupsOf_23 : (decode cX9_groupsOf 23 = .ok (.getfield 119, 3)) ∧ (decode cX9_groupsOf 26 = .ok (.iload_n 1, 1)) ∧ (decode cX9_groupsOf 27 = .ok (.lconst 0, 1)) ∧ (decode cX9_groupsOf 28 = .ok (.lastore, 1)) ∧ (decode cX9_groupsOf 29 = .ok (.iinc 1 1, 3)) ∧ (decode cX9_groupsOf 32 = .ok (.goto (-30), 3)) ∧ (decode cX9_groupsOf 35 = .ok (.iconst 0, 1)) ∧ (decode cX9_groupsOf 36 = .ok (.istore_n 1, 1)) := by decide +kernel
theorem dX9_groupsOf_23 : decode cX9_groupsOf 23 = .ok (.getfield 119, 3) := adX9_groupsOf_23.1
theorem dX9_groupsOf_26 : decode cX9_groupsOf 26 = .ok (.iload_n 1, 1) := adX9_groupsOf_23.2.1
theorem dX9_groupsOf_27 : decode cX9_groupsOf 27 = .ok (.lconst 0, 1) := adX9_groupsOf_23.2.2.1
theorem dX9_groupsOf_28 : decode cX9_groupsOf 28 = .ok (.lastore, 1) := adX9_groupsOf_23.2.2.2.1
theorem dX9_groupsOf_29 : decode cX9_groupsOf 29 = .ok (.iinc 1 1, 3) := adX9_groupsOf_23.2.2.2.2.1
theorem dX9_groupsOf_32 : decode cX9_groupsOf 32 = .ok (.goto (-30), 3) := adX9_groupsOf_23.2.2.2.2.2.1
theorem dX9_groupsOf_35 : decode cX9_groupsOf 35 = .ok (.iconst 0, 1) := adX9_groupsOf_23.2.2.2.2.2.2.1
theorem dX9_groupsOf_36 : decode cX9_groupsOf 36 = .ok (.istore_n 1, 1) := adX9_groupsOf_23.2.2.2.2.2.2.2
theorem adX9_groupsOf_37 : (decode cX9_groupsOf 37 = .ok (.iload_n 1, 1)) ∧ (decode cX9_groupsOf 38 = .ok (.aload_n 0, 1)) ∧ (decode cX9_groupsOf 39 = .ok (.getfield 89, 3)) ∧ (decode cX9_groupsOf 42 = .ok (.iconst 0, 1)) ∧ (decode cX9_groupsOf 43 = .ok (.iaload, 1)) ∧ (decode cX9_groupsOf 44 = .ok (.if_icmp .ge 70, 3)) ∧ (decode cX9_groupsOf 47 = .ok (.bipush 12, 2)) ∧ (decode cX9_groupsOf 49 = .ok (.aload_n 0, 1)) := by decide +kernel
theorem dX9_groupsOf_37 : decode cX9_groupsOf 37 = .ok (.iload_n 1, 1) := adX9_groupsOf_37.1
theorem dX9_groupsOf_38 : decode cX9_groupsOf 38 = .ok (.aload_n 0, 1) := adX9_groupsOf_37.2.1
theorem dX9_groupsOf_39 : decode cX9_groupsOf 39 = .ok (.getfield 89, 3) := adX9_groupsOf_37.2.2.1
theorem dX9_groupsOf_42 : decode cX9_groupsOf 42 = .ok (.iconst 0, 1) := adX9_groupsOf_37.2.2.2.1
theorem dX9_groupsOf_43 : decode cX9_groupsOf 43 = .ok (.iaload, 1) := adX9_groupsOf_37.2.2.2.2.1
theorem dX9_groupsOf_44 : decode cX9_groupsOf 44 = .ok (.if_icmp .ge 70, 3) := adX9_groupsOf_37.2.2.2.2.2.1
theorem dX9_groupsOf_47 : decode cX9_groupsOf 47 = .ok (.bipush 12, 2) := adX9_groupsOf_37.2.2.2.2.2.2.1
theorem dX9_groupsOf_49 : decode cX9_groupsOf 49 = .ok (.aload_n 0, 1) := adX9_groupsOf_37.2.2.2.2.2.2.2
theorem adX9_groupsOf_50 : (decode cX9_groupsOf 50 = .ok (.getfield 92, 3)) ∧ (decode cX9_groupsOf 53 = .ok (.iload_n 1, 1)) ∧ (decode cX9_groupsOf 54 = .ok (.iaload, 1)) ∧ (decode cX9_groupsOf 55 = .ok (.imul, 1)) ∧ (decode cX9_groupsOf 56 = .ok (.aload_n 0, 1)) ∧ (decode cX9_groupsOf 57 = .ok (.getfield 95, 3)) ∧ (decode cX9_groupsOf 60 = .ok (.iload_n 1, 1)) ∧ (decode cX9_groupsOf 61 = .ok (.iaload, 1)) := by decide +kernel
theorem dX9_groupsOf_50 : decode cX9_groupsOf 50 = .ok (.getfield 92, 3) := adX9_groupsOf_50.1
theorem dX9_groupsOf_53 : decode cX9_groupsOf 53 = .ok (.iload_n 1, 1) := adX9_groupsOf_50.2.1
theorem dX9_groupsOf_54 : decode cX9_groupsOf 54 = .ok (.iaload, 1) := adX9_groupsOf_50.2.2.1
theorem dX9_groupsOf_55 : decode cX9_groupsOf 55 = .ok (.imul, 1) := adX9_groupsOf_50.2.2.2.1
theorem dX9_groupsOf_56 : decode cX9_groupsOf 56 = .ok (.aload_n 0, 1) := adX9_groupsOf_50.2.2.2.2.1
theorem dX9_groupsOf_57 : decode cX9_groupsOf 57 = .ok (.getfield 95, 3) := adX9_groupsOf_50.2.2.2.2.2.1
theorem dX9_groupsOf_60 : decode cX9_groupsOf 60 = .ok (.iload_n 1, 1) := adX9_groupsOf_50.2.2.2.2.2.2.1
theorem dX9_groupsOf_61 : decode cX9_groupsOf 61 = .ok (.iaload, 1) := adX9_groupsOf_50.2.2.2.2.2.2.2
theorem adX9_groupsOf_62 : (decode cX9_groupsOf 62 = .ok (.iadd, 1)) ∧ (decode cX9_groupsOf 63 = .ok (.iconst 1, 1)) ∧ (decode cX9_groupsOf 64 = .ok (.isub, 1)) ∧ (decode cX9_groupsOf 65 = .ok (.istore_n 2, 1)) ∧ (decode cX9_groupsOf 66 = .ok (.aload_n 0, 1)) ∧ (decode cX9_groupsOf 67 = .ok (.getfield 113, 3)) ∧ (decode cX9_groupsOf 70 = .ok (.iload_n 2, 1)) ∧ (decode cX9_groupsOf 71 = .ok (.dup2, 1)) := by decide +kernel
theorem dX9_groupsOf_62 : decode cX9_groupsOf 62 = .ok (.iadd, 1) := adX9_groupsOf_62.1
theorem dX9_groupsOf_63 : decode cX9_groupsOf 63 = .ok (.iconst 1, 1) := adX9_groupsOf_62.2.1
theorem dX9_groupsOf_64 : decode cX9_groupsOf 64 = .ok (.isub, 1) := adX9_groupsOf_62.2.2.1
theorem dX9_groupsOf_65 : decode cX9_groupsOf 65 = .ok (.istore_n 2, 1) := adX9_groupsOf_62.2.2.2.1
theorem dX9_groupsOf_66 : decode cX9_groupsOf 66 = .ok (.aload_n 0, 1) := adX9_groupsOf_62.2.2.2.2.1
theorem dX9_groupsOf_67 : decode cX9_groupsOf 67 = .ok (.getfield 113, 3) := adX9_groupsOf_62.2.2.2.2.2.1
theorem dX9_groupsOf_70 : decode cX9_groupsOf 70 = .ok (.iload_n 2, 1) := adX9_groupsOf_62.2.2.2.2.2.2.1
theorem dX9_groupsOf_71 : decode cX9_groupsOf 71 = .ok (.dup2, 1) := adX9_groupsOf_62.2.2.2.2.2.2.2
theorem adX9_groupsOf_72 : (decode cX9_groupsOf 72 = .ok (.laload, 1)) ∧ (decode cX9_groupsOf 73 = .ok (.lconst 1, 1)) ∧ (decode cX9_groupsOf 74 = .ok (.ladd, 1)) ∧ (decode cX9_groupsOf 75 = .ok (.lastore, 1)) ∧ (decode cX9_groupsOf 76 = .ok (.aload_n 0, 1)) ∧ (decode cX9_groupsOf 77 = .ok (.getfield 116, 3)) ∧ (decode cX9_groupsOf 80 = .ok (.iload_n 2, 1)) ∧ (decode cX9_groupsOf 81 = .ok (.dup2, 1)) := by decide +kernel
theorem dX9_groupsOf_72 : decode cX9_groupsOf 72 = .ok (.laload, 1) := adX9_groupsOf_72.1
theorem dX9_groupsOf_73 : decode cX9_groupsOf 73 = .ok (.lconst 1, 1) := adX9_groupsOf_72.2.1
theorem dX9_groupsOf_74 : decode cX9_groupsOf 74 = .ok (.ladd, 1) := adX9_groupsOf_72.2.2.1
theorem dX9_groupsOf_75 : decode cX9_groupsOf 75 = .ok (.lastore, 1) := adX9_groupsOf_72.2.2.2.1
theorem dX9_groupsOf_76 : decode cX9_groupsOf 76 = .ok (.aload_n 0, 1) := adX9_groupsOf_72.2.2.2.2.1
theorem dX9_groupsOf_77 : decode cX9_groupsOf 77 = .ok (.getfield 116, 3) := adX9_groupsOf_72.2.2.2.2.2.1
theorem dX9_groupsOf_80 : decode cX9_groupsOf 80 = .ok (.iload_n 2, 1) := adX9_groupsOf_72.2.2.2.2.2.2.1
theorem dX9_groupsOf_81 : decode cX9_groupsOf 81 = .ok (.dup2, 1) := adX9_groupsOf_72.2.2.2.2.2.2.2
theorem adX9_groupsOf_82 : (decode cX9_groupsOf 82 = .ok (.laload, 1)) ∧ (decode cX9_groupsOf 83 = .ok (.aload_n 0, 1)) ∧ (decode cX9_groupsOf 84 = .ok (.getfield 98, 3)) ∧ (decode cX9_groupsOf 87 = .ok (.iload_n 1, 1)) ∧ (decode cX9_groupsOf 88 = .ok (.iaload, 1)) ∧ (decode cX9_groupsOf 89 = .ok (.i2l, 1)) ∧ (decode cX9_groupsOf 90 = .ok (.ladd, 1)) ∧ (decode cX9_groupsOf 91 = .ok (.lastore, 1)) := by decide +kernel
theorem dX9_groupsOf_82 : decode cX9_groupsOf 82 = .ok (.laload, 1) := adX9_groupsOf_82.1
theorem dX9_groupsOf_83 : decode cX9_groupsOf 83 = .ok (.aload_n 0, 1) := adX9_groupsOf_82.2.1
theorem dX9_groupsOf_84 : decode cX9_groupsOf 84 = .ok (.getfield 98, 3) := adX9_groupsOf_82.2.2.1
theorem dX9_groupsOf_87 : decode cX9_groupsOf 87 = .ok (.iload_n 1, 1) := adX9_groupsOf_82.2.2.2.1
theorem dX9_groupsOf_88 : decode cX9_groupsOf 88 = .ok (.iaload, 1) := adX9_groupsOf_82.2.2.2.2.1
theorem dX9_groupsOf_89 : decode cX9_groupsOf 89 = .ok (.i2l, 1) := adX9_groupsOf_82.2.2.2.2.2.1
theorem dX9_groupsOf_90 : decode cX9_groupsOf 90 = .ok (.ladd, 1) := adX9_groupsOf_82.2.2.2.2.2.2.1
theorem dX9_groupsOf_91 : decode cX9_groupsOf 91 = .ok (.lastore, 1) := adX9_groupsOf_82.2.2.2.2.2.2.2
theorem adX9_groupsOf_92 : (decode cX9_groupsOf 92 = .ok (.aload_n 0, 1)) ∧ (decode cX9_groupsOf 93 = .ok (.getfield 119, 3)) ∧ (decode cX9_groupsOf 96 = .ok (.iload_n 2, 1)) ∧ (decode cX9_groupsOf 97 = .ok (.dup2, 1)) ∧ (decode cX9_groupsOf 98 = .ok (.laload, 1)) ∧ (decode cX9_groupsOf 99 = .ok (.aload_n 0, 1)) ∧ (decode cX9_groupsOf 100 = .ok (.getfield 101, 3)) ∧ (decode cX9_groupsOf 103 = .ok (.iload_n 1, 1)) := by decide +kernel
theorem dX9_groupsOf_92 : decode cX9_groupsOf 92 = .ok (.aload_n 0, 1) := adX9_groupsOf_92.1
theorem dX9_groupsOf_93 : decode cX9_groupsOf 93 = .ok (.getfield 119, 3) := adX9_groupsOf_92.2.1
theorem dX9_groupsOf_96 : decode cX9_groupsOf 96 = .ok (.iload_n 2, 1) := adX9_groupsOf_92.2.2.1
theorem dX9_groupsOf_97 : decode cX9_groupsOf 97 = .ok (.dup2, 1) := adX9_groupsOf_92.2.2.2.1
theorem dX9_groupsOf_98 : decode cX9_groupsOf 98 = .ok (.laload, 1) := adX9_groupsOf_92.2.2.2.2.1
theorem dX9_groupsOf_99 : decode cX9_groupsOf 99 = .ok (.aload_n 0, 1) := adX9_groupsOf_92.2.2.2.2.2.1
theorem dX9_groupsOf_100 : decode cX9_groupsOf 100 = .ok (.getfield 101, 3) := adX9_groupsOf_92.2.2.2.2.2.2.1
theorem dX9_groupsOf_103 : decode cX9_groupsOf 103 = .ok (.iload_n 1, 1) := adX9_groupsOf_92.2.2.2.2.2.2.2
theorem adX9_groupsOf_104 : (decode cX9_groupsOf 104 = .ok (.iaload, 1)) ∧ (decode cX9_groupsOf 105 = .ok (.i2l, 1)) ∧ (decode cX9_groupsOf 106 = .ok (.ladd, 1)) ∧ (decode cX9_groupsOf 107 = .ok (.lastore, 1)) ∧ (decode cX9_groupsOf 108 = .ok (.iinc 1 1, 3)) ∧ (decode cX9_groupsOf 111 = .ok (.goto (-74), 3)) ∧ (decode cX9_groupsOf 114 = .ok (.iconst 0, 1)) ∧ (decode cX9_groupsOf 115 = .ok (.istore_n 1, 1)) := by decide +kernel
theorem dX9_groupsOf_104 : decode cX9_groupsOf 104 = .ok (.iaload, 1) := adX9_groupsOf_104.1
theorem dX9_groupsOf_105 : decode cX9_groupsOf 105 = .ok (.i2l, 1) := adX9_groupsOf_104.2.1
theorem dX9_groupsOf_106 : decode cX9_groupsOf 106 = .ok (.ladd, 1) := adX9_groupsOf_104.2.2.1
theorem dX9_groupsOf_107 : decode cX9_groupsOf 107 = .ok (.lastore, 1) := adX9_groupsOf_104.2.2.2.1
theorem dX9_groupsOf_108 : decode cX9_groupsOf 108 = .ok (.iinc 1 1, 3) := adX9_groupsOf_104.2.2.2.2.1
theorem dX9_groupsOf_111 : decode cX9_groupsOf 111 = .ok (.goto (-74), 3) := adX9_groupsOf_104.2.2.2.2.2.1
theorem dX9_groupsOf_114 : decode cX9_groupsOf 114 = .ok (.iconst 0, 1) := adX9_groupsOf_104.2.2.2.2.2.2.1
theorem dX9_groupsOf_115 : decode cX9_groupsOf 115 = .ok (.istore_n 1, 1) := adX9_groupsOf_104.2.2.2.2.2.2.2
theorem adX9_groupsOf_116 : (decode cX9_groupsOf 116 = .ok (.iconst 0, 1)) ∧ (decode cX9_groupsOf 117 = .ok (.istore_n 2, 1)) ∧ (decode cX9_groupsOf 118 = .ok (.iload_n 2, 1)) ∧ (decode cX9_groupsOf 119 = .ok (.bipush 72, 2)) ∧ (decode cX9_groupsOf 121 = .ok (.if_icmp .ge 28, 3)) ∧ (decode cX9_groupsOf 124 = .ok (.iload_n 1, 1)) ∧ (decode cX9_groupsOf 125 = .ok (.aload_n 0, 1)) ∧ (decode cX9_groupsOf 126 = .ok (.getfield 113, 3)) := by decide +kernel
theorem dX9_groupsOf_116 : decode cX9_groupsOf 116 = .ok (.iconst 0, 1) := adX9_groupsOf_116.1
theorem dX9_groupsOf_117 : decode cX9_groupsOf 117 = .ok (.istore_n 2, 1) := adX9_groupsOf_116.2.1
theorem dX9_groupsOf_118 : decode cX9_groupsOf 118 = .ok (.iload_n 2, 1) := adX9_groupsOf_116.2.2.1
theorem dX9_groupsOf_119 : decode cX9_groupsOf 119 = .ok (.bipush 72, 2) := adX9_groupsOf_116.2.2.2.1
theorem dX9_groupsOf_121 : decode cX9_groupsOf 121 = .ok (.if_icmp .ge 28, 3) := adX9_groupsOf_116.2.2.2.2.1
theorem dX9_groupsOf_124 : decode cX9_groupsOf 124 = .ok (.iload_n 1, 1) := adX9_groupsOf_116.2.2.2.2.2.1
theorem dX9_groupsOf_125 : decode cX9_groupsOf 125 = .ok (.aload_n 0, 1) := adX9_groupsOf_116.2.2.2.2.2.2.1
theorem dX9_groupsOf_126 : decode cX9_groupsOf 126 = .ok (.getfield 113, 3) := adX9_groupsOf_116.2.2.2.2.2.2.2
theorem adX9_groupsOf_129 : (decode cX9_groupsOf 129 = .ok (.iload_n 2, 1)) ∧ (decode cX9_groupsOf 130 = .ok (.laload, 1)) ∧ (decode cX9_groupsOf 131 = .ok (.lconst 0, 1)) ∧ (decode cX9_groupsOf 132 = .ok (.lcmp, 1)) ∧ (decode cX9_groupsOf 133 = .ok (.ifCond .le 7, 3)) ∧ (decode cX9_groupsOf 136 = .ok (.iconst 1, 1)) ∧ (decode cX9_groupsOf 137 = .ok (.goto 4, 3)) ∧ (decode cX9_groupsOf 140 = .ok (.iconst 0, 1)) := by decide +kernel
theorem dX9_groupsOf_129 : decode cX9_groupsOf 129 = .ok (.iload_n 2, 1) := adX9_groupsOf_129.1
theorem dX9_groupsOf_130 : decode cX9_groupsOf 130 = .ok (.laload, 1) := adX9_groupsOf_129.2.1
theorem dX9_groupsOf_131 : decode cX9_groupsOf 131 = .ok (.lconst 0, 1) := adX9_groupsOf_129.2.2.1
theorem dX9_groupsOf_132 : decode cX9_groupsOf 132 = .ok (.lcmp, 1) := adX9_groupsOf_129.2.2.2.1
theorem dX9_groupsOf_133 : decode cX9_groupsOf 133 = .ok (.ifCond .le 7, 3) := adX9_groupsOf_129.2.2.2.2.1
theorem dX9_groupsOf_136 : decode cX9_groupsOf 136 = .ok (.iconst 1, 1) := adX9_groupsOf_129.2.2.2.2.2.1
theorem dX9_groupsOf_137 : decode cX9_groupsOf 137 = .ok (.goto 4, 3) := adX9_groupsOf_129.2.2.2.2.2.2.1
theorem dX9_groupsOf_140 : decode cX9_groupsOf 140 = .ok (.iconst 0, 1) := adX9_groupsOf_129.2.2.2.2.2.2.2
theorem adX9_groupsOf_141 : (decode cX9_groupsOf 141 = .ok (.iadd, 1)) ∧ (decode cX9_groupsOf 142 = .ok (.istore_n 1, 1)) ∧ (decode cX9_groupsOf 143 = .ok (.iinc 2 1, 3)) ∧ (decode cX9_groupsOf 146 = .ok (.goto (-28), 3)) ∧ (decode cX9_groupsOf 149 = .ok (.iload_n 1, 1)) ∧ (decode cX9_groupsOf 150 = .ok (.ireturn, 1)) := by decide +kernel
theorem dX9_groupsOf_141 : decode cX9_groupsOf 141 = .ok (.iadd, 1) := adX9_groupsOf_141.1
theorem dX9_groupsOf_142 : decode cX9_groupsOf 142 = .ok (.istore_n 1, 1) := adX9_groupsOf_141.2.1
theorem dX9_groupsOf_143 : decode cX9_groupsOf 143 = .ok (.iinc 2 1, 3) := adX9_groupsOf_141.2.2.1
theorem dX9_groupsOf_146 : decode cX9_groupsOf 146 = .ok (.goto (-28), 3) := adX9_groupsOf_141.2.2.2.1
theorem dX9_groupsOf_149 : decode cX9_groupsOf 149 = .ok (.iload_n 1, 1) := adX9_groupsOf_141.2.2.2.2.1
theorem dX9_groupsOf_150 : decode cX9_groupsOf 150 = .ok (.ireturn, 1) := adX9_groupsOf_141.2.2.2.2.2
set_option maxRecDepth 20000 in
theorem ggX9_manyOf_X9_pushes : GoodIn wsX9_manyOf wsX9_pushes := goodIn_r _ [11, 12, 13, 14, 15, 39, 40, 41, 42, 43, 44, 45, 46, 47, 48, 49, 50, 51, 52, 53, 54, 55, 56, 57, 58, 59, 60, 61, 62, 63, 64, 65, 66, 67, 68, 69, 70, 71, 72, 73, 74, 75, 76, 77, 78, 79, 80, 81, 82, 83, 84, 85, 86, 87, 88, 89, 90, 91, 92, 93, 94, 95, 96, 97, 98] (by decide +kernel) (by decide +kernel)
set_option maxRecDepth 20000 in
theorem gX9_manyOf_X9_pushes : GoodIn wsX9_manyOf (wsV RX9 410 RX9 yX9_pushes wsX9_pushes) := goodIn_app (goodIn_of _ (by decide +kernel)) ggX9_manyOf_X9_pushes
set_option maxRecDepth 20000 in
theorem ggX9_manyOf_X9_gathers : GoodIn wsX9_manyOf wsX9_gathers := goodIn_r _ [19, 20, 4, 21, 5, 22, 6, 23, 24, 15, 25, 26, 13, 39, 40, 41, 42, 43, 44, 45, 46, 47, 48, 49, 50, 51, 52, 53, 54, 55, 56, 57, 58, 59, 60, 61, 62, 63, 64, 65, 66, 67, 68, 69, 70, 71, 72, 73, 74, 75, 76, 77, 78, 79, 80, 81, 82, 83, 84, 85, 86, 87, 88, 89, 90, 91, 92, 93, 94, 95, 96, 97, 98] (by decide +kernel) (by decide +kernel)
set_option maxRecDepth 20000 in
theorem gX9_manyOf_X9_gathers : GoodIn wsX9_manyOf (wsV RX9 413 RX9 yX9_gathers wsX9_gathers) := goodIn_app (goodIn_of _ (by decide +kernel)) ggX9_manyOf_X9_gathers
set_option maxRecDepth 20000 in
theorem ggX9_manyOf_X9_groupsOf : GoodIn wsX9_manyOf wsX9_groupsOf := goodIn_r _ [30, 1, 2, 3, 12, 31, 14, 25, 26, 39, 40, 41, 42, 43, 44, 45, 46, 47, 48, 49, 50, 51, 52, 53, 54, 55, 56, 57, 58, 59, 60, 61, 62, 63, 64, 65, 66, 67, 68, 69, 70, 71, 72, 73, 74, 75, 76, 77, 78, 79, 80, 81, 82, 83, 84, 85, 86, 87, 88, 89, 90, 91, 92, 93, 94, 95, 96, 97, 98] (by decide +kernel) (by decide +kernel)
set_option maxRecDepth 20000 in
theorem gX9_manyOf_X9_groupsOf : GoodIn wsX9_manyOf (wsV RX9 440 RX9 yX9_groupsOf wsX9_groupsOf) := goodIn_app (goodIn_of _ (by decide +kernel)) ggX9_manyOf_X9_groupsOf
set_option maxRecDepth 20000 in
theorem ggX9_manyOf_X9_ratio : GoodIn wsX9_manyOf wsX9_ratio := goodIn_r _ [35, 36, 37, 38, 39, 40, 41, 42, 43, 44, 45, 46, 47, 48, 49, 50, 51, 52, 53, 54, 55, 56, 57, 58, 59, 60, 61, 62, 63, 64, 65, 66, 67, 68, 69, 70, 71, 72, 73, 74, 75, 76, 77, 78, 79, 80, 81, 82, 83, 84, 85, 86, 87, 88, 89, 90, 91, 92, 93, 94, 95, 96, 97, 98] (by decide +kernel) (by decide +kernel)
set_option maxRecDepth 20000 in
theorem gX9_manyOf_X9_ratio : GoodIn wsX9_manyOf (wsV RX9 416 RX9 yX9_ratio wsX9_ratio) := goodIn_app (goodIn_of _ (by decide +kernel)) ggX9_manyOf_X9_ratio
theorem adX9_manyOf_0 : (decode cX9_manyOf 0 = .ok (.aload_n 0, 1)) ∧ (decode cX9_manyOf 1 = .ok (.iconst 0, 1)) ∧ (decode cX9_manyOf 2 = .ok (.invokevirtual 410, 3)) ∧ (decode cX9_manyOf 5 = .ok (.aload_n 0, 1)) ∧ (decode cX9_manyOf 6 = .ok (.invokevirtual 413, 3)) ∧ (decode cX9_manyOf 9 = .ok (.aload_n 0, 1)) ∧ (decode cX9_manyOf 10 = .ok (.invokevirtual 440, 3)) ∧ (decode cX9_manyOf 13 = .ok (.pop, 1)) := by decide +kernel
theorem dX9_manyOf_0 : decode cX9_manyOf 0 = .ok (.aload_n 0, 1) := adX9_manyOf_0.1
theorem dX9_manyOf_1 : decode cX9_manyOf 1 = .ok (.iconst 0, 1) := adX9_manyOf_0.2.1
theorem dX9_manyOf_2 : decode cX9_manyOf 2 = .ok (.invokevirtual 410, 3) := adX9_manyOf_0.2.2.1
theorem dX9_manyOf_5 : decode cX9_manyOf 5 = .ok (.aload_n 0, 1) := adX9_manyOf_0.2.2.2.1
theorem dX9_manyOf_6 : decode cX9_manyOf 6 = .ok (.invokevirtual 413, 3) := adX9_manyOf_0.2.2.2.2.1
theorem dX9_manyOf_9 : decode cX9_manyOf 9 = .ok (.aload_n 0, 1) := adX9_manyOf_0.2.2.2.2.2.1
theorem dX9_manyOf_10 : decode cX9_manyOf 10 = .ok (.invokevirtual 440, 3) := adX9_manyOf_0.2.2.2.2.2.2.1
theorem dX9_manyOf_13 : decode cX9_manyOf 13 = .ok (.pop, 1) := adX9_manyOf_0.2.2.2.2.2.2.2
theorem adX9_manyOf_14 : (decode cX9_manyOf 14 = .ok (.lconst 0, 1)) ∧ (decode cX9_manyOf 15 = .ok (.lstore_n 1, 1)) ∧ (decode cX9_manyOf 16 = .ok (.lconst 0, 1)) ∧ (decode cX9_manyOf 17 = .ok (.lstore_n 3, 1)) ∧ (decode cX9_manyOf 18 = .ok (.iconst 0, 1)) ∧ (decode cX9_manyOf 19 = .ok (.istore 5, 2)) ∧ (decode cX9_manyOf 21 = .ok (.iload 5, 2)) ∧ (decode cX9_manyOf 23 = .ok (.bipush 72, 2)) := by decide +kernel
theorem dX9_manyOf_14 : decode cX9_manyOf 14 = .ok (.lconst 0, 1) := adX9_manyOf_14.1
theorem dX9_manyOf_15 : decode cX9_manyOf 15 = .ok (.lstore_n 1, 1) := adX9_manyOf_14.2.1
theorem dX9_manyOf_16 : decode cX9_manyOf 16 = .ok (.lconst 0, 1) := adX9_manyOf_14.2.2.1
theorem dX9_manyOf_17 : decode cX9_manyOf 17 = .ok (.lstore_n 3, 1) := adX9_manyOf_14.2.2.2.1
theorem dX9_manyOf_18 : decode cX9_manyOf 18 = .ok (.iconst 0, 1) := adX9_manyOf_14.2.2.2.2.1
theorem dX9_manyOf_19 : decode cX9_manyOf 19 = .ok (.istore 5, 2) := adX9_manyOf_14.2.2.2.2.2.1
theorem dX9_manyOf_21 : decode cX9_manyOf 21 = .ok (.iload 5, 2) := adX9_manyOf_14.2.2.2.2.2.2.1
theorem dX9_manyOf_23 : decode cX9_manyOf 23 = .ok (.bipush 72, 2) := adX9_manyOf_14.2.2.2.2.2.2.2
theorem adX9_manyOf_25 : (decode cX9_manyOf 25 = .ok (.if_icmp .ge 76, 3)) ∧ (decode cX9_manyOf 28 = .ok (.aload_n 0, 1)) ∧ (decode cX9_manyOf 29 = .ok (.getfield 113, 3)) ∧ (decode cX9_manyOf 32 = .ok (.iload 5, 2)) ∧ (decode cX9_manyOf 34 = .ok (.laload, 1)) ∧ (decode cX9_manyOf 35 = .ok (.lconst 0, 1)) ∧ (decode cX9_manyOf 36 = .ok (.lcmp, 1)) ∧ (decode cX9_manyOf 37 = .ok (.ifCond .ne 6, 3)) := by decide +kernel
theorem dX9_manyOf_25 : decode cX9_manyOf 25 = .ok (.if_icmp .ge 76, 3) := adX9_manyOf_25.1
theorem dX9_manyOf_28 : decode cX9_manyOf 28 = .ok (.aload_n 0, 1) := adX9_manyOf_25.2.1
theorem dX9_manyOf_29 : decode cX9_manyOf 29 = .ok (.getfield 113, 3) := adX9_manyOf_25.2.2.1
theorem dX9_manyOf_32 : decode cX9_manyOf 32 = .ok (.iload 5, 2) := adX9_manyOf_25.2.2.2.1
theorem dX9_manyOf_34 : decode cX9_manyOf 34 = .ok (.laload, 1) := adX9_manyOf_25.2.2.2.2.1
theorem dX9_manyOf_35 : decode cX9_manyOf 35 = .ok (.lconst 0, 1) := adX9_manyOf_25.2.2.2.2.2.1
theorem dX9_manyOf_36 : decode cX9_manyOf 36 = .ok (.lcmp, 1) := adX9_manyOf_25.2.2.2.2.2.2.1
theorem dX9_manyOf_37 : decode cX9_manyOf 37 = .ok (.ifCond .ne 6, 3) := adX9_manyOf_25.2.2.2.2.2.2.2
theorem adX9_manyOf_40 : (decode cX9_manyOf 40 = .ok (.goto 55, 3)) ∧ (decode cX9_manyOf 43 = .ok (.lload_n 1, 1)) ∧ (decode cX9_manyOf 44 = .ok (.aload_n 0, 1)) ∧ (decode cX9_manyOf 45 = .ok (.getfield 116, 3)) ∧ (decode cX9_manyOf 48 = .ok (.iload 5, 2)) ∧ (decode cX9_manyOf 50 = .ok (.laload, 1)) ∧ (decode cX9_manyOf 51 = .ok (.aload_n 0, 1)) ∧ (decode cX9_manyOf 52 = .ok (.getfield 119, 3)) := by decide +kernel
theorem dX9_manyOf_40 : decode cX9_manyOf 40 = .ok (.goto 55, 3) := adX9_manyOf_40.1
theorem dX9_manyOf_43 : decode cX9_manyOf 43 = .ok (.lload_n 1, 1) := adX9_manyOf_40.2.1
theorem dX9_manyOf_44 : decode cX9_manyOf 44 = .ok (.aload_n 0, 1) := adX9_manyOf_40.2.2.1
theorem dX9_manyOf_45 : decode cX9_manyOf 45 = .ok (.getfield 116, 3) := adX9_manyOf_40.2.2.2.1
theorem dX9_manyOf_48 : decode cX9_manyOf 48 = .ok (.iload 5, 2) := adX9_manyOf_40.2.2.2.2.1
theorem dX9_manyOf_50 : decode cX9_manyOf 50 = .ok (.laload, 1) := adX9_manyOf_40.2.2.2.2.2.1
theorem dX9_manyOf_51 : decode cX9_manyOf 51 = .ok (.aload_n 0, 1) := adX9_manyOf_40.2.2.2.2.2.2.1
theorem dX9_manyOf_52 : decode cX9_manyOf 52 = .ok (.getfield 119, 3) := adX9_manyOf_40.2.2.2.2.2.2.2
theorem adX9_manyOf_55 : (decode cX9_manyOf 55 = .ok (.iload 5, 2)) ∧ (decode cX9_manyOf 57 = .ok (.laload, 1)) ∧ (decode cX9_manyOf 58 = .ok (.lmul, 1)) ∧ (decode cX9_manyOf 59 = .ok (.aload_n 0, 1)) ∧ (decode cX9_manyOf 60 = .ok (.getfield 113, 3)) ∧ (decode cX9_manyOf 63 = .ok (.iload 5, 2)) ∧ (decode cX9_manyOf 65 = .ok (.laload, 1)) ∧ (decode cX9_manyOf 66 = .ok (.ldiv, 1)) := by decide +kernel
theorem dX9_manyOf_55 : decode cX9_manyOf 55 = .ok (.iload 5, 2) := adX9_manyOf_55.1
theorem dX9_manyOf_57 : decode cX9_manyOf 57 = .ok (.laload, 1) := adX9_manyOf_55.2.1
theorem dX9_manyOf_58 : decode cX9_manyOf 58 = .ok (.lmul, 1) := adX9_manyOf_55.2.2.1
theorem dX9_manyOf_59 : decode cX9_manyOf 59 = .ok (.aload_n 0, 1) := adX9_manyOf_55.2.2.2.1
theorem dX9_manyOf_60 : decode cX9_manyOf 60 = .ok (.getfield 113, 3) := adX9_manyOf_55.2.2.2.2.1
theorem dX9_manyOf_63 : decode cX9_manyOf 63 = .ok (.iload 5, 2) := adX9_manyOf_55.2.2.2.2.2.1
theorem dX9_manyOf_65 : decode cX9_manyOf 65 = .ok (.laload, 1) := adX9_manyOf_55.2.2.2.2.2.2.1
theorem dX9_manyOf_66 : decode cX9_manyOf 66 = .ok (.ldiv, 1) := adX9_manyOf_55.2.2.2.2.2.2.2
theorem adX9_manyOf_67 : (decode cX9_manyOf 67 = .ok (.ladd, 1)) ∧ (decode cX9_manyOf 68 = .ok (.lstore_n 1, 1)) ∧ (decode cX9_manyOf 69 = .ok (.lload_n 3, 1)) ∧ (decode cX9_manyOf 70 = .ok (.aload_n 0, 1)) ∧ (decode cX9_manyOf 71 = .ok (.getfield 116, 3)) ∧ (decode cX9_manyOf 74 = .ok (.iload 5, 2)) ∧ (decode cX9_manyOf 76 = .ok (.laload, 1)) ∧ (decode cX9_manyOf 77 = .ok (.aload_n 0, 1)) := by decide +kernel
theorem dX9_manyOf_67 : decode cX9_manyOf 67 = .ok (.ladd, 1) := adX9_manyOf_67.1
theorem dX9_manyOf_68 : decode cX9_manyOf 68 = .ok (.lstore_n 1, 1) := adX9_manyOf_67.2.1
theorem dX9_manyOf_69 : decode cX9_manyOf 69 = .ok (.lload_n 3, 1) := adX9_manyOf_67.2.2.1
theorem dX9_manyOf_70 : decode cX9_manyOf 70 = .ok (.aload_n 0, 1) := adX9_manyOf_67.2.2.2.1
theorem dX9_manyOf_71 : decode cX9_manyOf 71 = .ok (.getfield 116, 3) := adX9_manyOf_67.2.2.2.2.1
theorem dX9_manyOf_74 : decode cX9_manyOf 74 = .ok (.iload 5, 2) := adX9_manyOf_67.2.2.2.2.2.1
theorem dX9_manyOf_76 : decode cX9_manyOf 76 = .ok (.laload, 1) := adX9_manyOf_67.2.2.2.2.2.2.1
theorem dX9_manyOf_77 : decode cX9_manyOf 77 = .ok (.aload_n 0, 1) := adX9_manyOf_67.2.2.2.2.2.2.2
theorem adX9_manyOf_78 : (decode cX9_manyOf 78 = .ok (.getfield 116, 3)) ∧ (decode cX9_manyOf 81 = .ok (.iload 5, 2)) ∧ (decode cX9_manyOf 83 = .ok (.laload, 1)) ∧ (decode cX9_manyOf 84 = .ok (.lmul, 1)) ∧ (decode cX9_manyOf 85 = .ok (.aload_n 0, 1)) ∧ (decode cX9_manyOf 86 = .ok (.getfield 113, 3)) ∧ (decode cX9_manyOf 89 = .ok (.iload 5, 2)) ∧ (decode cX9_manyOf 91 = .ok (.laload, 1)) := by decide +kernel
theorem dX9_manyOf_78 : decode cX9_manyOf 78 = .ok (.getfield 116, 3) := adX9_manyOf_78.1
theorem dX9_manyOf_81 : decode cX9_manyOf 81 = .ok (.iload 5, 2) := adX9_manyOf_78.2.1
theorem dX9_manyOf_83 : decode cX9_manyOf 83 = .ok (.laload, 1) := adX9_manyOf_78.2.2.1
theorem dX9_manyOf_84 : decode cX9_manyOf 84 = .ok (.lmul, 1) := adX9_manyOf_78.2.2.2.1
theorem dX9_manyOf_85 : decode cX9_manyOf 85 = .ok (.aload_n 0, 1) := adX9_manyOf_78.2.2.2.2.1
theorem dX9_manyOf_86 : decode cX9_manyOf 86 = .ok (.getfield 113, 3) := adX9_manyOf_78.2.2.2.2.2.1
theorem dX9_manyOf_89 : decode cX9_manyOf 89 = .ok (.iload 5, 2) := adX9_manyOf_78.2.2.2.2.2.2.1
theorem dX9_manyOf_91 : decode cX9_manyOf 91 = .ok (.laload, 1) := adX9_manyOf_78.2.2.2.2.2.2.2
theorem adX9_manyOf_92 : (decode cX9_manyOf 92 = .ok (.ldiv, 1)) ∧ (decode cX9_manyOf 93 = .ok (.ladd, 1)) ∧ (decode cX9_manyOf 94 = .ok (.lstore_n 3, 1)) ∧ (decode cX9_manyOf 95 = .ok (.iinc 5 1, 3)) ∧ (decode cX9_manyOf 98 = .ok (.goto (-77), 3)) ∧ (decode cX9_manyOf 101 = .ok (.aload_n 0, 1)) ∧ (decode cX9_manyOf 102 = .ok (.aload_n 0, 1)) ∧ (decode cX9_manyOf 103 = .ok (.getfield 381, 3)) := by decide +kernel
theorem dX9_manyOf_92 : decode cX9_manyOf 92 = .ok (.ldiv, 1) := adX9_manyOf_92.1
theorem dX9_manyOf_93 : decode cX9_manyOf 93 = .ok (.ladd, 1) := adX9_manyOf_92.2.1
theorem dX9_manyOf_94 : decode cX9_manyOf 94 = .ok (.lstore_n 3, 1) := adX9_manyOf_92.2.2.1
theorem dX9_manyOf_95 : decode cX9_manyOf 95 = .ok (.iinc 5 1, 3) := adX9_manyOf_92.2.2.2.1
theorem dX9_manyOf_98 : decode cX9_manyOf 98 = .ok (.goto (-77), 3) := adX9_manyOf_92.2.2.2.2.1
theorem dX9_manyOf_101 : decode cX9_manyOf 101 = .ok (.aload_n 0, 1) := adX9_manyOf_92.2.2.2.2.2.1
theorem dX9_manyOf_102 : decode cX9_manyOf 102 = .ok (.aload_n 0, 1) := adX9_manyOf_92.2.2.2.2.2.2.1
theorem dX9_manyOf_103 : decode cX9_manyOf 103 = .ok (.getfield 381, 3) := adX9_manyOf_92.2.2.2.2.2.2.2
theorem adX9_manyOf_106 : (decode cX9_manyOf 106 = .ok (.lload_n 1, 1)) ∧ (decode cX9_manyOf 107 = .ok (.lmul, 1)) ∧ (decode cX9_manyOf 108 = .ok (.aload_n 0, 1)) ∧ (decode cX9_manyOf 109 = .ok (.getfield 387, 3)) ∧ (decode cX9_manyOf 112 = .ok (.aload_n 0, 1)) ∧ (decode cX9_manyOf 113 = .ok (.getfield 393, 3)) ∧ (decode cX9_manyOf 116 = .ok (.lmul, 1)) ∧ (decode cX9_manyOf 117 = .ok (.lsub, 1)) := by decide +kernel
theorem dX9_manyOf_106 : decode cX9_manyOf 106 = .ok (.lload_n 1, 1) := adX9_manyOf_106.1
theorem dX9_manyOf_107 : decode cX9_manyOf 107 = .ok (.lmul, 1) := adX9_manyOf_106.2.1
theorem dX9_manyOf_108 : decode cX9_manyOf 108 = .ok (.aload_n 0, 1) := adX9_manyOf_106.2.2.1
theorem dX9_manyOf_109 : decode cX9_manyOf 109 = .ok (.getfield 387, 3) := adX9_manyOf_106.2.2.2.1
theorem dX9_manyOf_112 : decode cX9_manyOf 112 = .ok (.aload_n 0, 1) := adX9_manyOf_106.2.2.2.2.1
theorem dX9_manyOf_113 : decode cX9_manyOf 113 = .ok (.getfield 393, 3) := adX9_manyOf_106.2.2.2.2.2.1
theorem dX9_manyOf_116 : decode cX9_manyOf 116 = .ok (.lmul, 1) := adX9_manyOf_106.2.2.2.2.2.2.1
theorem dX9_manyOf_117 : decode cX9_manyOf 117 = .ok (.lsub, 1) := adX9_manyOf_106.2.2.2.2.2.2.2
theorem adX9_manyOf_118 : (decode cX9_manyOf 118 = .ok (.aload_n 0, 1)) ∧ (decode cX9_manyOf 119 = .ok (.getfield 381, 3)) ∧ (decode cX9_manyOf 122 = .ok (.lload_n 3, 1)) ∧ (decode cX9_manyOf 123 = .ok (.lmul, 1)) ∧ (decode cX9_manyOf 124 = .ok (.aload_n 0, 1)) ∧ (decode cX9_manyOf 125 = .ok (.getfield 387, 3)) ∧ (decode cX9_manyOf 128 = .ok (.aload_n 0, 1)) ∧ (decode cX9_manyOf 129 = .ok (.getfield 387, 3)) := by decide +kernel
theorem dX9_manyOf_118 : decode cX9_manyOf 118 = .ok (.aload_n 0, 1) := adX9_manyOf_118.1
theorem dX9_manyOf_119 : decode cX9_manyOf 119 = .ok (.getfield 381, 3) := adX9_manyOf_118.2.1
theorem dX9_manyOf_122 : decode cX9_manyOf 122 = .ok (.lload_n 3, 1) := adX9_manyOf_118.2.2.1
theorem dX9_manyOf_123 : decode cX9_manyOf 123 = .ok (.lmul, 1) := adX9_manyOf_118.2.2.2.1
theorem dX9_manyOf_124 : decode cX9_manyOf 124 = .ok (.aload_n 0, 1) := adX9_manyOf_118.2.2.2.2.1
theorem dX9_manyOf_125 : decode cX9_manyOf 125 = .ok (.getfield 387, 3) := adX9_manyOf_118.2.2.2.2.2.1
theorem dX9_manyOf_128 : decode cX9_manyOf 128 = .ok (.aload_n 0, 1) := adX9_manyOf_118.2.2.2.2.2.2.1
theorem dX9_manyOf_129 : decode cX9_manyOf 129 = .ok (.getfield 387, 3) := adX9_manyOf_118.2.2.2.2.2.2.2
theorem adX9_manyOf_132 : (decode cX9_manyOf 132 = .ok (.lmul, 1)) ∧ (decode cX9_manyOf 133 = .ok (.lsub, 1)) ∧ (decode cX9_manyOf 134 = .ok (.invokevirtual 416, 3)) ∧ (decode cX9_manyOf 137 = .ok (.lreturn, 1)) := by decide +kernel
theorem dX9_manyOf_132 : decode cX9_manyOf 132 = .ok (.lmul, 1) := adX9_manyOf_132.1
theorem dX9_manyOf_133 : decode cX9_manyOf 133 = .ok (.lsub, 1) := adX9_manyOf_132.2.1
theorem dX9_manyOf_134 : decode cX9_manyOf 134 = .ok (.invokevirtual 416, 3) := adX9_manyOf_132.2.2.1
theorem dX9_manyOf_137 : decode cX9_manyOf 137 = .ok (.lreturn, 1) := adX9_manyOf_132.2.2.2
set_option maxRecDepth 20000 in
theorem ggX9_many_X9_manyOf : GoodIn wsX9_many wsX9_manyOf := goodIn_r _ [6, 7, 8, 9, 10, 11, 12, 13, 14, 15, 5, 16, 17, 18, 19, 20, 21, 22, 23, 24, 25, 26, 27, 28, 29, 30, 31, 32, 33, 34, 35, 36, 37, 38, 39, 40, 41, 42, 43, 44, 45, 46, 47, 48, 49, 50, 51, 52, 53, 54, 55, 56, 57, 58, 59, 60, 61, 62, 63, 64, 65, 66, 67, 68, 69, 70, 71, 72, 73, 74, 75, 76, 77, 78, 79, 80, 81, 82, 83, 84, 85, 86, 87, 88, 89, 90, 91, 92, 93, 94, 95, 96, 97, 98, 99, 100, 101, 102, 103] (by decide +kernel) (by decide +kernel)
set_option maxRecDepth 20000 in
theorem gX9_many_X9_manyOf : GoodIn wsX9_many (wsV RX9 444 RX9 yX9_manyOf wsX9_manyOf) := goodIn_app (goodIn_of _ (by decide +kernel)) ggX9_many_X9_manyOf
theorem adX9_many_0 : (decode cX9_many 0 = .ok (.aload_n 0, 1)) ∧ (decode cX9_many 1 = .ok (.iconst 0, 1)) ∧ (decode cX9_many 2 = .ok (.putfield 125, 3)) ∧ (decode cX9_many 5 = .ok (.aload_n 0, 1)) ∧ (decode cX9_many 6 = .ok (.invokevirtual 444, 3)) ∧ (decode cX9_many 9 = .ok (.lreturn, 1)) := by decide +kernel
theorem dX9_many_0 : decode cX9_many 0 = .ok (.aload_n 0, 1) := adX9_many_0.1
theorem dX9_many_1 : decode cX9_many 1 = .ok (.iconst 0, 1) := adX9_many_0.2.1
theorem dX9_many_2 : decode cX9_many 2 = .ok (.putfield 125, 3) := adX9_many_0.2.2.1
theorem dX9_many_5 : decode cX9_many 5 = .ok (.aload_n 0, 1) := adX9_many_0.2.2.2.1
theorem dX9_many_6 : decode cX9_many 6 = .ok (.invokevirtual 444, 3) := adX9_many_0.2.2.2.2.1
theorem dX9_many_9 : decode cX9_many 9 = .ok (.lreturn, 1) := adX9_many_0.2.2.2.2.2
set_option maxRecDepth 20000 in
theorem ggX9_groups_X9_groupsOf : GoodIn wsX9_groups wsX9_groupsOf := goodIn_r _ [6, 7, 8, 9, 10, 11, 12, 13, 14, 15, 16, 17, 18, 19, 20, 21, 22, 23, 24, 25, 26, 27, 28, 29, 30, 31, 32, 33, 34, 35, 36, 37, 38, 39, 40, 41, 42, 43, 44, 45, 46, 47, 48, 49, 50, 51, 52, 53, 54, 55, 56, 57, 58, 59, 60, 61, 62, 63, 64, 65, 66, 67, 68, 69, 70, 71, 72, 73, 74] (by decide +kernel) (by decide +kernel)
set_option maxRecDepth 20000 in
theorem gX9_groups_X9_groupsOf : GoodIn wsX9_groups (wsV RX9 440 RX9 yX9_groupsOf wsX9_groupsOf) := goodIn_app (goodIn_of _ (by decide +kernel)) ggX9_groups_X9_groupsOf
theorem adX9_groups_0 : (decode cX9_groups 0 = .ok (.aload_n 0, 1)) ∧ (decode cX9_groups 1 = .ok (.iconst 0, 1)) ∧ (decode cX9_groups 2 = .ok (.putfield 125, 3)) ∧ (decode cX9_groups 5 = .ok (.aload_n 0, 1)) ∧ (decode cX9_groups 6 = .ok (.invokevirtual 440, 3)) ∧ (decode cX9_groups 9 = .ok (.ireturn, 1)) := by decide +kernel
theorem dX9_groups_0 : decode cX9_groups 0 = .ok (.aload_n 0, 1) := adX9_groups_0.1
theorem dX9_groups_1 : decode cX9_groups 1 = .ok (.iconst 0, 1) := adX9_groups_0.2.1
theorem dX9_groups_2 : decode cX9_groups 2 = .ok (.putfield 125, 3) := adX9_groups_0.2.2.1
theorem dX9_groups_5 : decode cX9_groups 5 = .ok (.aload_n 0, 1) := adX9_groups_0.2.2.2.1
theorem dX9_groups_6 : decode cX9_groups 6 = .ok (.invokevirtual 440, 3) := adX9_groups_0.2.2.2.2.1
theorem dX9_groups_9 : decode cX9_groups 9 = .ok (.ireturn, 1) := adX9_groups_0.2.2.2.2.2
set_option maxRecDepth 20000 in
theorem ggX9_moves_X9_isPush : GoodIn wsX9_moves wsX9_isPush := goodIn_r _ [10, 11, 12, 13, 9, 14] (by decide +kernel) (by decide +kernel)
set_option maxRecDepth 20000 in
theorem gX9_moves_X9_isPush : GoodIn wsX9_moves (va_wsS RX9 430 yX9_isPush wsX9_isPush) := goodIn_app (goodIn_of _ (by decide +kernel)) ggX9_moves_X9_isPush
set_option maxRecDepth 20000 in
theorem ggX9_moves_X9_pushes : GoodIn wsX9_moves wsX9_pushes := goodIn_r _ [18, 19, 20, 21, 22, 43, 44, 45, 46, 47, 48, 49, 50, 51, 52, 53, 54, 55, 56, 57, 58, 59, 60, 61, 62, 63, 64, 65, 66, 67, 68, 69, 70, 71, 72, 73, 74, 75, 76, 77, 78, 79, 80, 81, 82, 83, 84, 85, 86, 87, 88, 89, 90, 91, 92, 93, 94, 95, 96, 97, 98, 99, 100, 101, 102] (by decide +kernel) (by decide +kernel)
set_option maxRecDepth 20000 in
theorem gX9_moves_X9_pushes : GoodIn wsX9_moves (wsV RX9 410 RX9 yX9_pushes wsX9_pushes) := goodIn_app (goodIn_of _ (by decide +kernel)) ggX9_moves_X9_pushes
set_option maxRecDepth 20000 in
theorem ggX9_moves_X9_gathers : GoodIn wsX9_moves wsX9_gathers := goodIn_r _ [26, 6, 4, 3, 5, 27, 28, 29, 30, 22, 31, 32, 20, 43, 44, 45, 46, 47, 48, 49, 50, 51, 52, 53, 54, 55, 56, 57, 58, 59, 60, 61, 62, 63, 64, 65, 66, 67, 68, 69, 70, 71, 72, 73, 74, 75, 76, 77, 78, 79, 80, 81, 82, 83, 84, 85, 86, 87, 88, 89, 90, 91, 92, 93, 94, 95, 96, 97, 98, 99, 100, 101, 102] (by decide +kernel) (by decide +kernel)
set_option maxRecDepth 20000 in
theorem gX9_moves_X9_gathers : GoodIn wsX9_moves (wsV RX9 413 RX9 yX9_gathers wsX9_gathers) := goodIn_app (goodIn_of _ (by decide +kernel)) ggX9_moves_X9_gathers
set_option maxRecDepth 20000 in
theorem ggX9_moves_X9_areBoth : GoodIn wsX9_moves wsX9_areBoth := goodIn_r _ [36, 6, 4, 43, 44, 45, 46, 47, 48, 49, 50, 51, 52, 53, 54, 55, 56, 57, 58, 59, 60, 61, 62, 63, 64, 65, 66, 67, 68, 69, 70, 71, 72, 73, 74, 75, 76, 77, 78, 79, 80, 81, 82, 83, 84, 85, 86, 87, 88, 89, 90, 91, 92, 93, 94, 95, 96, 97, 98, 99, 100, 101, 102] (by decide +kernel) (by decide +kernel)
set_option maxRecDepth 20000 in
theorem gX9_moves_X9_areBoth : GoodIn wsX9_moves (wsV RX9 424 RX9 yX9_areBoth wsX9_areBoth) := goodIn_app (goodIn_of _ (by decide +kernel)) ggX9_moves_X9_areBoth
set_option maxRecDepth 20000 in
theorem ggX9_moves_X9_ratio : GoodIn wsX9_moves wsX9_ratio := goodIn_r _ [40, 41, 42, 2, 43, 44, 45, 46, 47, 48, 49, 50, 51, 52, 53, 54, 55, 56, 57, 58, 59, 60, 61, 62, 63, 64, 65, 66, 67, 68, 69, 70, 71, 72, 73, 74, 75, 76, 77, 78, 79, 80, 81, 82, 83, 84, 85, 86, 87, 88, 89, 90, 91, 92, 93, 94, 95, 96, 97, 98, 99, 100, 101, 102] (by decide +kernel) (by decide +kernel)
set_option maxRecDepth 20000 in
theorem gX9_moves_X9_ratio : GoodIn wsX9_moves (wsV RX9 416 RX9 yX9_ratio wsX9_ratio) := goodIn_app (goodIn_of _ (by decide +kernel)) ggX9_moves_X9_ratio
theorem adX9_moves_0 : (decode cX9_moves 0 = .ok (.aload_n 0, 1)) ∧ (decode cX9_moves 1 = .ok (.iconst 0, 1)) ∧ (decode cX9_moves 2 = .ok (.putfield 125, 3)) ∧ (decode cX9_moves 5 = .ok (.iload_n 1, 1)) ∧ (decode cX9_moves 6 = .ok (.invokestatic 430, 3)) ∧ (decode cX9_moves 9 = .ok (.ifCond .ne 7, 3)) ∧ (decode cX9_moves 12 = .ok (.ldc2_w 408, 3)) ∧ (decode cX9_moves 15 = .ok (.lreturn, 1)) := by decide +kernel
theorem dX9_moves_0 : decode cX9_moves 0 = .ok (.aload_n 0, 1) := adX9_moves_0.1
theorem dX9_moves_1 : decode cX9_moves 1 = .ok (.iconst 0, 1) := adX9_moves_0.2.1
theorem dX9_moves_2 : decode cX9_moves 2 = .ok (.putfield 125, 3) := adX9_moves_0.2.2.1
theorem dX9_moves_5 : decode cX9_moves 5 = .ok (.iload_n 1, 1) := adX9_moves_0.2.2.2.1
theorem dX9_moves_6 : decode cX9_moves 6 = .ok (.invokestatic 430, 3) := adX9_moves_0.2.2.2.2.1
theorem dX9_moves_9 : decode cX9_moves 9 = .ok (.ifCond .ne 7, 3) := adX9_moves_0.2.2.2.2.2.1
theorem dX9_moves_12 : decode cX9_moves 12 = .ok (.ldc2_w 408, 3) := adX9_moves_0.2.2.2.2.2.2.1
theorem dX9_moves_15 : decode cX9_moves 15 = .ok (.lreturn, 1) := adX9_moves_0.2.2.2.2.2.2.2
theorem adX9_moves_16 : (decode cX9_moves 16 = .ok (.aload_n 0, 1)) ∧ (decode cX9_moves 17 = .ok (.iload_n 1, 1)) ∧ (decode cX9_moves 18 = .ok (.invokevirtual 410, 3)) ∧ (decode cX9_moves 21 = .ok (.aload_n 0, 1)) ∧ (decode cX9_moves 22 = .ok (.invokevirtual 413, 3)) ∧ (decode cX9_moves 25 = .ok (.aload_n 0, 1)) ∧ (decode cX9_moves 26 = .ok (.invokevirtual 424, 3)) ∧ (decode cX9_moves 29 = .ok (.ifCond .eq 38, 3)) := by decide +kernel
theorem dX9_moves_16 : decode cX9_moves 16 = .ok (.aload_n 0, 1) := adX9_moves_16.1
theorem dX9_moves_17 : decode cX9_moves 17 = .ok (.iload_n 1, 1) := adX9_moves_16.2.1
theorem dX9_moves_18 : decode cX9_moves 18 = .ok (.invokevirtual 410, 3) := adX9_moves_16.2.2.1
theorem dX9_moves_21 : decode cX9_moves 21 = .ok (.aload_n 0, 1) := adX9_moves_16.2.2.2.1
theorem dX9_moves_22 : decode cX9_moves 22 = .ok (.invokevirtual 413, 3) := adX9_moves_16.2.2.2.2.1
theorem dX9_moves_25 : decode cX9_moves 25 = .ok (.aload_n 0, 1) := adX9_moves_16.2.2.2.2.2.1
theorem dX9_moves_26 : decode cX9_moves 26 = .ok (.invokevirtual 424, 3) := adX9_moves_16.2.2.2.2.2.2.1
theorem dX9_moves_29 : decode cX9_moves 29 = .ok (.ifCond .eq 38, 3) := adX9_moves_16.2.2.2.2.2.2.2
theorem adX9_moves_32 : (decode cX9_moves 32 = .ok (.aload_n 0, 1)) ∧ (decode cX9_moves 33 = .ok (.aload_n 0, 1)) ∧ (decode cX9_moves 34 = .ok (.getfield 384, 3)) ∧ (decode cX9_moves 37 = .ok (.aload_n 0, 1)) ∧ (decode cX9_moves 38 = .ok (.getfield 381, 3)) ∧ (decode cX9_moves 41 = .ok (.lmul, 1)) ∧ (decode cX9_moves 42 = .ok (.aload_n 0, 1)) ∧ (decode cX9_moves 43 = .ok (.getfield 387, 3)) := by decide +kernel
theorem dX9_moves_32 : decode cX9_moves 32 = .ok (.aload_n 0, 1) := adX9_moves_32.1
theorem dX9_moves_33 : decode cX9_moves 33 = .ok (.aload_n 0, 1) := adX9_moves_32.2.1
theorem dX9_moves_34 : decode cX9_moves 34 = .ok (.getfield 384, 3) := adX9_moves_32.2.2.1
theorem dX9_moves_37 : decode cX9_moves 37 = .ok (.aload_n 0, 1) := adX9_moves_32.2.2.2.1
theorem dX9_moves_38 : decode cX9_moves 38 = .ok (.getfield 381, 3) := adX9_moves_32.2.2.2.2.1
theorem dX9_moves_41 : decode cX9_moves 41 = .ok (.lmul, 1) := adX9_moves_32.2.2.2.2.2.1
theorem dX9_moves_42 : decode cX9_moves 42 = .ok (.aload_n 0, 1) := adX9_moves_32.2.2.2.2.2.2.1
theorem dX9_moves_43 : decode cX9_moves 43 = .ok (.getfield 387, 3) := adX9_moves_32.2.2.2.2.2.2.2
theorem adX9_moves_46 : (decode cX9_moves 46 = .ok (.aload_n 0, 1)) ∧ (decode cX9_moves 47 = .ok (.getfield 378, 3)) ∧ (decode cX9_moves 50 = .ok (.lmul, 1)) ∧ (decode cX9_moves 51 = .ok (.lsub, 1)) ∧ (decode cX9_moves 52 = .ok (.aload_n 0, 1)) ∧ (decode cX9_moves 53 = .ok (.getfield 378, 3)) ∧ (decode cX9_moves 56 = .ok (.aload_n 0, 1)) ∧ (decode cX9_moves 57 = .ok (.getfield 381, 3)) := by decide +kernel
theorem dX9_moves_46 : decode cX9_moves 46 = .ok (.aload_n 0, 1) := adX9_moves_46.1
theorem dX9_moves_47 : decode cX9_moves 47 = .ok (.getfield 378, 3) := adX9_moves_46.2.1
theorem dX9_moves_50 : decode cX9_moves 50 = .ok (.lmul, 1) := adX9_moves_46.2.2.1
theorem dX9_moves_51 : decode cX9_moves 51 = .ok (.lsub, 1) := adX9_moves_46.2.2.2.1
theorem dX9_moves_52 : decode cX9_moves 52 = .ok (.aload_n 0, 1) := adX9_moves_46.2.2.2.2.1
theorem dX9_moves_53 : decode cX9_moves 53 = .ok (.getfield 378, 3) := adX9_moves_46.2.2.2.2.2.1
theorem dX9_moves_56 : decode cX9_moves 56 = .ok (.aload_n 0, 1) := adX9_moves_46.2.2.2.2.2.2.1
theorem dX9_moves_57 : decode cX9_moves 57 = .ok (.getfield 381, 3) := adX9_moves_46.2.2.2.2.2.2.2
theorem adX9_moves_60 : (decode cX9_moves 60 = .ok (.lmul, 1)) ∧ (decode cX9_moves 61 = .ok (.invokevirtual 416, 3)) ∧ (decode cX9_moves 64 = .ok (.goto 6, 3)) ∧ (decode cX9_moves 67 = .ok (.ldc2_w 408, 3)) ∧ (decode cX9_moves 70 = .ok (.lreturn, 1)) := by decide +kernel
theorem dX9_moves_60 : decode cX9_moves 60 = .ok (.lmul, 1) := adX9_moves_60.1
theorem dX9_moves_61 : decode cX9_moves 61 = .ok (.invokevirtual 416, 3) := adX9_moves_60.2.1
theorem dX9_moves_64 : decode cX9_moves 64 = .ok (.goto 6, 3) := adX9_moves_60.2.2.1
theorem dX9_moves_67 : decode cX9_moves 67 = .ok (.ldc2_w 408, 3) := adX9_moves_60.2.2.2.1
theorem dX9_moves_70 : decode cX9_moves 70 = .ok (.lreturn, 1) := adX9_moves_60.2.2.2.2
set_option maxRecDepth 20000 in
theorem ggX9_leak_X9_isPush : GoodIn wsX9_leak wsX9_isPush := goodIn_r _ [10, 11, 12, 13, 9, 14] (by decide +kernel) (by decide +kernel)
set_option maxRecDepth 20000 in
theorem gX9_leak_X9_isPush : GoodIn wsX9_leak (va_wsS RX9 430 yX9_isPush wsX9_isPush) := goodIn_app (goodIn_of _ (by decide +kernel)) ggX9_leak_X9_isPush
set_option maxRecDepth 20000 in
theorem ggX9_leak_X9_pushes : GoodIn wsX9_leak wsX9_pushes := goodIn_r _ [18, 19, 20, 21, 22, 43, 44, 45, 46, 47, 48, 49, 50, 51, 52, 53, 54, 55, 56, 57, 58, 59, 60, 61, 62, 63, 64, 65, 66, 67, 68, 69, 70, 71, 72, 73, 74, 75, 76, 77, 78, 79, 80, 81, 82, 83, 84, 85, 86, 87, 88, 89, 90, 91, 92, 93, 94, 95, 96, 97, 98, 99, 100, 101, 102] (by decide +kernel) (by decide +kernel)
set_option maxRecDepth 20000 in
theorem gX9_leak_X9_pushes : GoodIn wsX9_leak (wsV RX9 410 RX9 yX9_pushes wsX9_pushes) := goodIn_app (goodIn_of _ (by decide +kernel)) ggX9_leak_X9_pushes
set_option maxRecDepth 20000 in
theorem ggX9_leak_X9_gathers : GoodIn wsX9_leak wsX9_gathers := goodIn_r _ [26, 6, 4, 27, 28, 3, 5, 29, 30, 22, 31, 32, 20, 43, 44, 45, 46, 47, 48, 49, 50, 51, 52, 53, 54, 55, 56, 57, 58, 59, 60, 61, 62, 63, 64, 65, 66, 67, 68, 69, 70, 71, 72, 73, 74, 75, 76, 77, 78, 79, 80, 81, 82, 83, 84, 85, 86, 87, 88, 89, 90, 91, 92, 93, 94, 95, 96, 97, 98, 99, 100, 101, 102] (by decide +kernel) (by decide +kernel)
set_option maxRecDepth 20000 in
theorem gX9_leak_X9_gathers : GoodIn wsX9_leak (wsV RX9 413 RX9 yX9_gathers wsX9_gathers) := goodIn_app (goodIn_of _ (by decide +kernel)) ggX9_leak_X9_gathers
set_option maxRecDepth 20000 in
theorem ggX9_leak_X9_areBoth : GoodIn wsX9_leak wsX9_areBoth := goodIn_r _ [36, 6, 4, 43, 44, 45, 46, 47, 48, 49, 50, 51, 52, 53, 54, 55, 56, 57, 58, 59, 60, 61, 62, 63, 64, 65, 66, 67, 68, 69, 70, 71, 72, 73, 74, 75, 76, 77, 78, 79, 80, 81, 82, 83, 84, 85, 86, 87, 88, 89, 90, 91, 92, 93, 94, 95, 96, 97, 98, 99, 100, 101, 102] (by decide +kernel) (by decide +kernel)
set_option maxRecDepth 20000 in
theorem gX9_leak_X9_areBoth : GoodIn wsX9_leak (wsV RX9 424 RX9 yX9_areBoth wsX9_areBoth) := goodIn_app (goodIn_of _ (by decide +kernel)) ggX9_leak_X9_areBoth
set_option maxRecDepth 20000 in
theorem ggX9_leak_X9_ratio : GoodIn wsX9_leak wsX9_ratio := goodIn_r _ [40, 41, 42, 2, 43, 44, 45, 46, 47, 48, 49, 50, 51, 52, 53, 54, 55, 56, 57, 58, 59, 60, 61, 62, 63, 64, 65, 66, 67, 68, 69, 70, 71, 72, 73, 74, 75, 76, 77, 78, 79, 80, 81, 82, 83, 84, 85, 86, 87, 88, 89, 90, 91, 92, 93, 94, 95, 96, 97, 98, 99, 100, 101, 102] (by decide +kernel) (by decide +kernel)
set_option maxRecDepth 20000 in
theorem gX9_leak_X9_ratio : GoodIn wsX9_leak (wsV RX9 416 RX9 yX9_ratio wsX9_ratio) := goodIn_app (goodIn_of _ (by decide +kernel)) ggX9_leak_X9_ratio
theorem adX9_leak_0 : (decode cX9_leak 0 = .ok (.aload_n 0, 1)) ∧ (decode cX9_leak 1 = .ok (.iconst 0, 1)) ∧ (decode cX9_leak 2 = .ok (.putfield 125, 3)) ∧ (decode cX9_leak 5 = .ok (.iload_n 1, 1)) ∧ (decode cX9_leak 6 = .ok (.invokestatic 430, 3)) ∧ (decode cX9_leak 9 = .ok (.ifCond .ne 7, 3)) ∧ (decode cX9_leak 12 = .ok (.ldc2_w 408, 3)) ∧ (decode cX9_leak 15 = .ok (.lreturn, 1)) := by decide +kernel
theorem dX9_leak_0 : decode cX9_leak 0 = .ok (.aload_n 0, 1) := adX9_leak_0.1
theorem dX9_leak_1 : decode cX9_leak 1 = .ok (.iconst 0, 1) := adX9_leak_0.2.1
theorem dX9_leak_2 : decode cX9_leak 2 = .ok (.putfield 125, 3) := adX9_leak_0.2.2.1
theorem dX9_leak_5 : decode cX9_leak 5 = .ok (.iload_n 1, 1) := adX9_leak_0.2.2.2.1
theorem dX9_leak_6 : decode cX9_leak 6 = .ok (.invokestatic 430, 3) := adX9_leak_0.2.2.2.2.1
theorem dX9_leak_9 : decode cX9_leak 9 = .ok (.ifCond .ne 7, 3) := adX9_leak_0.2.2.2.2.2.1
theorem dX9_leak_12 : decode cX9_leak 12 = .ok (.ldc2_w 408, 3) := adX9_leak_0.2.2.2.2.2.2.1
theorem dX9_leak_15 : decode cX9_leak 15 = .ok (.lreturn, 1) := adX9_leak_0.2.2.2.2.2.2.2
theorem adX9_leak_16 : (decode cX9_leak 16 = .ok (.aload_n 0, 1)) ∧ (decode cX9_leak 17 = .ok (.iload_n 1, 1)) ∧ (decode cX9_leak 18 = .ok (.invokevirtual 410, 3)) ∧ (decode cX9_leak 21 = .ok (.aload_n 0, 1)) ∧ (decode cX9_leak 22 = .ok (.invokevirtual 413, 3)) ∧ (decode cX9_leak 25 = .ok (.aload_n 0, 1)) ∧ (decode cX9_leak 26 = .ok (.invokevirtual 424, 3)) ∧ (decode cX9_leak 29 = .ok (.ifCond .eq 38, 3)) := by decide +kernel
theorem dX9_leak_16 : decode cX9_leak 16 = .ok (.aload_n 0, 1) := adX9_leak_16.1
theorem dX9_leak_17 : decode cX9_leak 17 = .ok (.iload_n 1, 1) := adX9_leak_16.2.1
theorem dX9_leak_18 : decode cX9_leak 18 = .ok (.invokevirtual 410, 3) := adX9_leak_16.2.2.1
theorem dX9_leak_21 : decode cX9_leak 21 = .ok (.aload_n 0, 1) := adX9_leak_16.2.2.2.1
theorem dX9_leak_22 : decode cX9_leak 22 = .ok (.invokevirtual 413, 3) := adX9_leak_16.2.2.2.2.1
theorem dX9_leak_25 : decode cX9_leak 25 = .ok (.aload_n 0, 1) := adX9_leak_16.2.2.2.2.2.1
theorem dX9_leak_26 : decode cX9_leak 26 = .ok (.invokevirtual 424, 3) := adX9_leak_16.2.2.2.2.2.2.1
theorem dX9_leak_29 : decode cX9_leak 29 = .ok (.ifCond .eq 38, 3) := adX9_leak_16.2.2.2.2.2.2.2
theorem adX9_leak_32 : (decode cX9_leak 32 = .ok (.aload_n 0, 1)) ∧ (decode cX9_leak 33 = .ok (.aload_n 0, 1)) ∧ (decode cX9_leak 34 = .ok (.getfield 390, 3)) ∧ (decode cX9_leak 37 = .ok (.aload_n 0, 1)) ∧ (decode cX9_leak 38 = .ok (.getfield 381, 3)) ∧ (decode cX9_leak 41 = .ok (.lmul, 1)) ∧ (decode cX9_leak 42 = .ok (.aload_n 0, 1)) ∧ (decode cX9_leak 43 = .ok (.getfield 393, 3)) := by decide +kernel
theorem dX9_leak_32 : decode cX9_leak 32 = .ok (.aload_n 0, 1) := adX9_leak_32.1
theorem dX9_leak_33 : decode cX9_leak 33 = .ok (.aload_n 0, 1) := adX9_leak_32.2.1
theorem dX9_leak_34 : decode cX9_leak 34 = .ok (.getfield 390, 3) := adX9_leak_32.2.2.1
theorem dX9_leak_37 : decode cX9_leak 37 = .ok (.aload_n 0, 1) := adX9_leak_32.2.2.2.1
theorem dX9_leak_38 : decode cX9_leak 38 = .ok (.getfield 381, 3) := adX9_leak_32.2.2.2.2.1
theorem dX9_leak_41 : decode cX9_leak 41 = .ok (.lmul, 1) := adX9_leak_32.2.2.2.2.2.1
theorem dX9_leak_42 : decode cX9_leak 42 = .ok (.aload_n 0, 1) := adX9_leak_32.2.2.2.2.2.2.1
theorem dX9_leak_43 : decode cX9_leak 43 = .ok (.getfield 393, 3) := adX9_leak_32.2.2.2.2.2.2.2
theorem adX9_leak_46 : (decode cX9_leak 46 = .ok (.aload_n 0, 1)) ∧ (decode cX9_leak 47 = .ok (.getfield 378, 3)) ∧ (decode cX9_leak 50 = .ok (.lmul, 1)) ∧ (decode cX9_leak 51 = .ok (.lsub, 1)) ∧ (decode cX9_leak 52 = .ok (.aload_n 0, 1)) ∧ (decode cX9_leak 53 = .ok (.getfield 378, 3)) ∧ (decode cX9_leak 56 = .ok (.aload_n 0, 1)) ∧ (decode cX9_leak 57 = .ok (.getfield 381, 3)) := by decide +kernel
theorem dX9_leak_46 : decode cX9_leak 46 = .ok (.aload_n 0, 1) := adX9_leak_46.1
theorem dX9_leak_47 : decode cX9_leak 47 = .ok (.getfield 378, 3) := adX9_leak_46.2.1
theorem dX9_leak_50 : decode cX9_leak 50 = .ok (.lmul, 1) := adX9_leak_46.2.2.1
theorem dX9_leak_51 : decode cX9_leak 51 = .ok (.lsub, 1) := adX9_leak_46.2.2.2.1
theorem dX9_leak_52 : decode cX9_leak 52 = .ok (.aload_n 0, 1) := adX9_leak_46.2.2.2.2.1
theorem dX9_leak_53 : decode cX9_leak 53 = .ok (.getfield 378, 3) := adX9_leak_46.2.2.2.2.2.1
theorem dX9_leak_56 : decode cX9_leak 56 = .ok (.aload_n 0, 1) := adX9_leak_46.2.2.2.2.2.2.1
theorem dX9_leak_57 : decode cX9_leak 57 = .ok (.getfield 381, 3) := adX9_leak_46.2.2.2.2.2.2.2
theorem adX9_leak_60 : (decode cX9_leak 60 = .ok (.lmul, 1)) ∧ (decode cX9_leak 61 = .ok (.invokevirtual 416, 3)) ∧ (decode cX9_leak 64 = .ok (.goto 6, 3)) ∧ (decode cX9_leak 67 = .ok (.ldc2_w 408, 3)) ∧ (decode cX9_leak 70 = .ok (.lreturn, 1)) := by decide +kernel
theorem dX9_leak_60 : decode cX9_leak 60 = .ok (.lmul, 1) := adX9_leak_60.1
theorem dX9_leak_61 : decode cX9_leak 61 = .ok (.invokevirtual 416, 3) := adX9_leak_60.2.1
theorem dX9_leak_64 : decode cX9_leak 64 = .ok (.goto 6, 3) := adX9_leak_60.2.2.1
theorem dX9_leak_67 : decode cX9_leak 67 = .ok (.ldc2_w 408, 3) := adX9_leak_60.2.2.2.1
theorem dX9_leak_70 : decode cX9_leak 70 = .ok (.lreturn, 1) := adX9_leak_60.2.2.2.2
set_option maxRecDepth 20000 in
theorem ggX9_homes_X9_isPush : GoodIn wsX9_homes wsX9_isPush := goodIn_r _ [11, 12, 13, 14, 10, 15] (by decide +kernel) (by decide +kernel)
set_option maxRecDepth 20000 in
theorem gX9_homes_X9_isPush : GoodIn wsX9_homes (va_wsS RX9 430 yX9_isPush wsX9_isPush) := goodIn_app (goodIn_of _ (by decide +kernel)) ggX9_homes_X9_isPush
set_option maxRecDepth 20000 in
theorem ggX9_homes_X9_pushes : GoodIn wsX9_homes wsX9_pushes := goodIn_r _ [19, 3, 4, 20, 21, 44, 45, 46, 47, 48, 49, 50, 51, 52, 53, 54, 55, 56, 57, 58, 59, 60, 61, 62, 63, 64, 65, 66, 67, 68, 69, 70, 71, 72, 73, 74, 75, 76, 77, 78, 79, 80, 81, 82, 83, 84, 85, 86, 87, 88, 89, 90, 91, 92, 93, 94, 95, 96, 97, 98, 99, 100, 101, 102, 103] (by decide +kernel) (by decide +kernel)
set_option maxRecDepth 20000 in
theorem gX9_homes_X9_pushes : GoodIn wsX9_homes (wsV RX9 410 RX9 yX9_pushes wsX9_pushes) := goodIn_app (goodIn_of _ (by decide +kernel)) ggX9_homes_X9_pushes
set_option maxRecDepth 20000 in
theorem ggX9_homes_X9_gathers : GoodIn wsX9_homes wsX9_gathers := goodIn_r _ [25, 7, 6, 26, 27, 28, 29, 30, 31, 21, 32, 33, 4, 44, 45, 46, 47, 48, 49, 50, 51, 52, 53, 54, 55, 56, 57, 58, 59, 60, 61, 62, 63, 64, 65, 66, 67, 68, 69, 70, 71, 72, 73, 74, 75, 76, 77, 78, 79, 80, 81, 82, 83, 84, 85, 86, 87, 88, 89, 90, 91, 92, 93, 94, 95, 96, 97, 98, 99, 100, 101, 102, 103] (by decide +kernel) (by decide +kernel)
set_option maxRecDepth 20000 in
theorem gX9_homes_X9_gathers : GoodIn wsX9_homes (wsV RX9 413 RX9 yX9_gathers wsX9_gathers) := goodIn_app (goodIn_of _ (by decide +kernel)) ggX9_homes_X9_gathers
set_option maxRecDepth 20000 in
theorem ggX9_homes_X9_areBoth : GoodIn wsX9_homes wsX9_areBoth := goodIn_r _ [37, 7, 6, 44, 45, 46, 47, 48, 49, 50, 51, 52, 53, 54, 55, 56, 57, 58, 59, 60, 61, 62, 63, 64, 65, 66, 67, 68, 69, 70, 71, 72, 73, 74, 75, 76, 77, 78, 79, 80, 81, 82, 83, 84, 85, 86, 87, 88, 89, 90, 91, 92, 93, 94, 95, 96, 97, 98, 99, 100, 101, 102, 103] (by decide +kernel) (by decide +kernel)
set_option maxRecDepth 20000 in
theorem gX9_homes_X9_areBoth : GoodIn wsX9_homes (wsV RX9 424 RX9 yX9_areBoth wsX9_areBoth) := goodIn_app (goodIn_of _ (by decide +kernel)) ggX9_homes_X9_areBoth
set_option maxRecDepth 20000 in
theorem ggX9_homes_X9_ratio : GoodIn wsX9_homes wsX9_ratio := goodIn_r _ [41, 42, 43, 2, 44, 45, 46, 47, 48, 49, 50, 51, 52, 53, 54, 55, 56, 57, 58, 59, 60, 61, 62, 63, 64, 65, 66, 67, 68, 69, 70, 71, 72, 73, 74, 75, 76, 77, 78, 79, 80, 81, 82, 83, 84, 85, 86, 87, 88, 89, 90, 91, 92, 93, 94, 95, 96, 97, 98, 99, 100, 101, 102, 103] (by decide +kernel) (by decide +kernel)
set_option maxRecDepth 20000 in
theorem gX9_homes_X9_ratio : GoodIn wsX9_homes (wsV RX9 416 RX9 yX9_ratio wsX9_ratio) := goodIn_app (goodIn_of _ (by decide +kernel)) ggX9_homes_X9_ratio
theorem adX9_homes_0 : (decode cX9_homes 0 = .ok (.aload_n 0, 1)) ∧ (decode cX9_homes 1 = .ok (.iconst 0, 1)) ∧ (decode cX9_homes 2 = .ok (.putfield 125, 3)) ∧ (decode cX9_homes 5 = .ok (.iload_n 1, 1)) ∧ (decode cX9_homes 6 = .ok (.invokestatic 430, 3)) ∧ (decode cX9_homes 9 = .ok (.ifCond .ne 7, 3)) ∧ (decode cX9_homes 12 = .ok (.ldc2_w 408, 3)) ∧ (decode cX9_homes 15 = .ok (.lreturn, 1)) := by decide +kernel
theorem dX9_homes_0 : decode cX9_homes 0 = .ok (.aload_n 0, 1) := adX9_homes_0.1
theorem dX9_homes_1 : decode cX9_homes 1 = .ok (.iconst 0, 1) := adX9_homes_0.2.1
theorem dX9_homes_2 : decode cX9_homes 2 = .ok (.putfield 125, 3) := adX9_homes_0.2.2.1
theorem dX9_homes_5 : decode cX9_homes 5 = .ok (.iload_n 1, 1) := adX9_homes_0.2.2.2.1
theorem dX9_homes_6 : decode cX9_homes 6 = .ok (.invokestatic 430, 3) := adX9_homes_0.2.2.2.2.1
theorem dX9_homes_9 : decode cX9_homes 9 = .ok (.ifCond .ne 7, 3) := adX9_homes_0.2.2.2.2.2.1
theorem dX9_homes_12 : decode cX9_homes 12 = .ok (.ldc2_w 408, 3) := adX9_homes_0.2.2.2.2.2.2.1
theorem dX9_homes_15 : decode cX9_homes 15 = .ok (.lreturn, 1) := adX9_homes_0.2.2.2.2.2.2.2
theorem adX9_homes_16 : (decode cX9_homes 16 = .ok (.aload_n 0, 1)) ∧ (decode cX9_homes 17 = .ok (.iload_n 1, 1)) ∧ (decode cX9_homes 18 = .ok (.invokevirtual 410, 3)) ∧ (decode cX9_homes 21 = .ok (.aload_n 0, 1)) ∧ (decode cX9_homes 22 = .ok (.invokevirtual 413, 3)) ∧ (decode cX9_homes 25 = .ok (.lconst 0, 1)) ∧ (decode cX9_homes 26 = .ok (.lstore_n 2, 1)) ∧ (decode cX9_homes 27 = .ok (.lconst 0, 1)) := by decide +kernel
theorem dX9_homes_16 : decode cX9_homes 16 = .ok (.aload_n 0, 1) := adX9_homes_16.1
theorem dX9_homes_17 : decode cX9_homes 17 = .ok (.iload_n 1, 1) := adX9_homes_16.2.1
theorem dX9_homes_18 : decode cX9_homes 18 = .ok (.invokevirtual 410, 3) := adX9_homes_16.2.2.1
theorem dX9_homes_21 : decode cX9_homes 21 = .ok (.aload_n 0, 1) := adX9_homes_16.2.2.2.1
theorem dX9_homes_22 : decode cX9_homes 22 = .ok (.invokevirtual 413, 3) := adX9_homes_16.2.2.2.2.1
theorem dX9_homes_25 : decode cX9_homes 25 = .ok (.lconst 0, 1) := adX9_homes_16.2.2.2.2.2.1
theorem dX9_homes_26 : decode cX9_homes 26 = .ok (.lstore_n 2, 1) := adX9_homes_16.2.2.2.2.2.2.1
theorem dX9_homes_27 : decode cX9_homes 27 = .ok (.lconst 0, 1) := adX9_homes_16.2.2.2.2.2.2.2
theorem adX9_homes_28 : (decode cX9_homes 28 = .ok (.lstore 4, 2)) ∧ (decode cX9_homes 30 = .ok (.iconst 0, 1)) ∧ (decode cX9_homes 31 = .ok (.istore 6, 2)) ∧ (decode cX9_homes 33 = .ok (.iload 6, 2)) ∧ (decode cX9_homes 35 = .ok (.aload_n 0, 1)) ∧ (decode cX9_homes 36 = .ok (.getfield 89, 3)) ∧ (decode cX9_homes 39 = .ok (.iconst 0, 1)) ∧ (decode cX9_homes 40 = .ok (.iaload, 1)) := by decide +kernel
theorem dX9_homes_28 : decode cX9_homes 28 = .ok (.lstore 4, 2) := adX9_homes_28.1
theorem dX9_homes_30 : decode cX9_homes 30 = .ok (.iconst 0, 1) := adX9_homes_28.2.1
theorem dX9_homes_31 : decode cX9_homes 31 = .ok (.istore 6, 2) := adX9_homes_28.2.2.1
theorem dX9_homes_33 : decode cX9_homes 33 = .ok (.iload 6, 2) := adX9_homes_28.2.2.2.1
theorem dX9_homes_35 : decode cX9_homes 35 = .ok (.aload_n 0, 1) := adX9_homes_28.2.2.2.2.1
theorem dX9_homes_36 : decode cX9_homes 36 = .ok (.getfield 89, 3) := adX9_homes_28.2.2.2.2.2.1
theorem dX9_homes_39 : decode cX9_homes 39 = .ok (.iconst 0, 1) := adX9_homes_28.2.2.2.2.2.2.1
theorem dX9_homes_40 : decode cX9_homes 40 = .ok (.iaload, 1) := adX9_homes_28.2.2.2.2.2.2.2
theorem adX9_homes_41 : (decode cX9_homes 41 = .ok (.if_icmp .ge 46, 3)) ∧ (decode cX9_homes 44 = .ok (.aload_n 0, 1)) ∧ (decode cX9_homes 45 = .ok (.getfield 110, 3)) ∧ (decode cX9_homes 48 = .ok (.iload 6, 2)) ∧ (decode cX9_homes 50 = .ok (.baload, 1)) ∧ (decode cX9_homes 51 = .ok (.ifCond .eq 17, 3)) ∧ (decode cX9_homes 54 = .ok (.lload_n 2, 1)) ∧ (decode cX9_homes 55 = .ok (.aload_n 0, 1)) := by decide +kernel
theorem dX9_homes_41 : decode cX9_homes 41 = .ok (.if_icmp .ge 46, 3) := adX9_homes_41.1
theorem dX9_homes_44 : decode cX9_homes 44 = .ok (.aload_n 0, 1) := adX9_homes_41.2.1
theorem dX9_homes_45 : decode cX9_homes 45 = .ok (.getfield 110, 3) := adX9_homes_41.2.2.1
theorem dX9_homes_48 : decode cX9_homes 48 = .ok (.iload 6, 2) := adX9_homes_41.2.2.2.1
theorem dX9_homes_50 : decode cX9_homes 50 = .ok (.baload, 1) := adX9_homes_41.2.2.2.2.1
theorem dX9_homes_51 : decode cX9_homes 51 = .ok (.ifCond .eq 17, 3) := adX9_homes_41.2.2.2.2.2.1
theorem dX9_homes_54 : decode cX9_homes 54 = .ok (.lload_n 2, 1) := adX9_homes_41.2.2.2.2.2.2.1
theorem dX9_homes_55 : decode cX9_homes 55 = .ok (.aload_n 0, 1) := adX9_homes_41.2.2.2.2.2.2.2
theorem adX9_homes_56 : (decode cX9_homes 56 = .ok (.getfield 104, 3)) ∧ (decode cX9_homes 59 = .ok (.iload 6, 2)) ∧ (decode cX9_homes 61 = .ok (.iaload, 1)) ∧ (decode cX9_homes 62 = .ok (.i2l, 1)) ∧ (decode cX9_homes 63 = .ok (.ladd, 1)) ∧ (decode cX9_homes 64 = .ok (.lstore_n 2, 1)) ∧ (decode cX9_homes 65 = .ok (.goto 16, 3)) ∧ (decode cX9_homes 68 = .ok (.lload 4, 2)) := by decide +kernel
theorem dX9_homes_56 : decode cX9_homes 56 = .ok (.getfield 104, 3) := adX9_homes_56.1
theorem dX9_homes_59 : decode cX9_homes 59 = .ok (.iload 6, 2) := adX9_homes_56.2.1
theorem dX9_homes_61 : decode cX9_homes 61 = .ok (.iaload, 1) := adX9_homes_56.2.2.1
theorem dX9_homes_62 : decode cX9_homes 62 = .ok (.i2l, 1) := adX9_homes_56.2.2.2.1
theorem dX9_homes_63 : decode cX9_homes 63 = .ok (.ladd, 1) := adX9_homes_56.2.2.2.2.1
theorem dX9_homes_64 : decode cX9_homes 64 = .ok (.lstore_n 2, 1) := adX9_homes_56.2.2.2.2.2.1
theorem dX9_homes_65 : decode cX9_homes 65 = .ok (.goto 16, 3) := adX9_homes_56.2.2.2.2.2.2.1
theorem dX9_homes_68 : decode cX9_homes 68 = .ok (.lload 4, 2) := adX9_homes_56.2.2.2.2.2.2.2
theorem adX9_homes_70 : (decode cX9_homes 70 = .ok (.aload_n 0, 1)) ∧ (decode cX9_homes 71 = .ok (.getfield 104, 3)) ∧ (decode cX9_homes 74 = .ok (.iload 6, 2)) ∧ (decode cX9_homes 76 = .ok (.iaload, 1)) ∧ (decode cX9_homes 77 = .ok (.i2l, 1)) ∧ (decode cX9_homes 78 = .ok (.ladd, 1)) ∧ (decode cX9_homes 79 = .ok (.lstore 4, 2)) ∧ (decode cX9_homes 81 = .ok (.iinc 6 1, 3)) := by decide +kernel
theorem dX9_homes_70 : decode cX9_homes 70 = .ok (.aload_n 0, 1) := adX9_homes_70.1
theorem dX9_homes_71 : decode cX9_homes 71 = .ok (.getfield 104, 3) := adX9_homes_70.2.1
theorem dX9_homes_74 : decode cX9_homes 74 = .ok (.iload 6, 2) := adX9_homes_70.2.2.1
theorem dX9_homes_76 : decode cX9_homes 76 = .ok (.iaload, 1) := adX9_homes_70.2.2.2.1
theorem dX9_homes_77 : decode cX9_homes 77 = .ok (.i2l, 1) := adX9_homes_70.2.2.2.2.1
theorem dX9_homes_78 : decode cX9_homes 78 = .ok (.ladd, 1) := adX9_homes_70.2.2.2.2.2.1
theorem dX9_homes_79 : decode cX9_homes 79 = .ok (.lstore 4, 2) := adX9_homes_70.2.2.2.2.2.2.1
theorem dX9_homes_81 : decode cX9_homes 81 = .ok (.iinc 6 1, 3) := adX9_homes_70.2.2.2.2.2.2.2
theorem adX9_homes_84 : (decode cX9_homes 84 = .ok (.goto (-51), 3)) ∧ (decode cX9_homes 87 = .ok (.aload_n 0, 1)) ∧ (decode cX9_homes 88 = .ok (.invokevirtual 424, 3)) ∧ (decode cX9_homes 91 = .ok (.ifCond .eq 33, 3)) ∧ (decode cX9_homes 94 = .ok (.aload_n 0, 1)) ∧ (decode cX9_homes 95 = .ok (.lload_n 2, 1)) ∧ (decode cX9_homes 96 = .ok (.aload_n 0, 1)) ∧ (decode cX9_homes 97 = .ok (.getfield 381, 3)) := by decide +kernel
theorem dX9_homes_84 : decode cX9_homes 84 = .ok (.goto (-51), 3) := adX9_homes_84.1
theorem dX9_homes_87 : decode cX9_homes 87 = .ok (.aload_n 0, 1) := adX9_homes_84.2.1
theorem dX9_homes_88 : decode cX9_homes 88 = .ok (.invokevirtual 424, 3) := adX9_homes_84.2.2.1
theorem dX9_homes_91 : decode cX9_homes 91 = .ok (.ifCond .eq 33, 3) := adX9_homes_84.2.2.2.1
theorem dX9_homes_94 : decode cX9_homes 94 = .ok (.aload_n 0, 1) := adX9_homes_84.2.2.2.2.1
theorem dX9_homes_95 : decode cX9_homes 95 = .ok (.lload_n 2, 1) := adX9_homes_84.2.2.2.2.2.1
theorem dX9_homes_96 : decode cX9_homes 96 = .ok (.aload_n 0, 1) := adX9_homes_84.2.2.2.2.2.2.1
theorem dX9_homes_97 : decode cX9_homes 97 = .ok (.getfield 381, 3) := adX9_homes_84.2.2.2.2.2.2.2
theorem adX9_homes_100 : (decode cX9_homes 100 = .ok (.lmul, 1)) ∧ (decode cX9_homes 101 = .ok (.lload 4, 2)) ∧ (decode cX9_homes 103 = .ok (.aload_n 0, 1)) ∧ (decode cX9_homes 104 = .ok (.getfield 378, 3)) ∧ (decode cX9_homes 107 = .ok (.lmul, 1)) ∧ (decode cX9_homes 108 = .ok (.lsub, 1)) ∧ (decode cX9_homes 109 = .ok (.aload_n 0, 1)) ∧ (decode cX9_homes 110 = .ok (.getfield 378, 3)) := by decide +kernel
theorem dX9_homes_100 : decode cX9_homes 100 = .ok (.lmul, 1) := adX9_homes_100.1
theorem dX9_homes_101 : decode cX9_homes 101 = .ok (.lload 4, 2) := adX9_homes_100.2.1
theorem dX9_homes_103 : decode cX9_homes 103 = .ok (.aload_n 0, 1) := adX9_homes_100.2.2.1
theorem dX9_homes_104 : decode cX9_homes 104 = .ok (.getfield 378, 3) := adX9_homes_100.2.2.2.1
theorem dX9_homes_107 : decode cX9_homes 107 = .ok (.lmul, 1) := adX9_homes_100.2.2.2.2.1
theorem dX9_homes_108 : decode cX9_homes 108 = .ok (.lsub, 1) := adX9_homes_100.2.2.2.2.2.1
theorem dX9_homes_109 : decode cX9_homes 109 = .ok (.aload_n 0, 1) := adX9_homes_100.2.2.2.2.2.2.1
theorem dX9_homes_110 : decode cX9_homes 110 = .ok (.getfield 378, 3) := adX9_homes_100.2.2.2.2.2.2.2
theorem adX9_homes_113 : (decode cX9_homes 113 = .ok (.aload_n 0, 1)) ∧ (decode cX9_homes 114 = .ok (.getfield 381, 3)) ∧ (decode cX9_homes 117 = .ok (.lmul, 1)) ∧ (decode cX9_homes 118 = .ok (.invokevirtual 416, 3)) ∧ (decode cX9_homes 121 = .ok (.goto 6, 3)) ∧ (decode cX9_homes 124 = .ok (.ldc2_w 408, 3)) ∧ (decode cX9_homes 127 = .ok (.lreturn, 1)) := by decide +kernel
theorem dX9_homes_113 : decode cX9_homes 113 = .ok (.aload_n 0, 1) := adX9_homes_113.1
theorem dX9_homes_114 : decode cX9_homes 114 = .ok (.getfield 381, 3) := adX9_homes_113.2.1
theorem dX9_homes_117 : decode cX9_homes 117 = .ok (.lmul, 1) := adX9_homes_113.2.2.1
theorem dX9_homes_118 : decode cX9_homes 118 = .ok (.invokevirtual 416, 3) := adX9_homes_113.2.2.2.1
theorem dX9_homes_121 : decode cX9_homes 121 = .ok (.goto 6, 3) := adX9_homes_113.2.2.2.2.1
theorem dX9_homes_124 : decode cX9_homes 124 = .ok (.ldc2_w 408, 3) := adX9_homes_113.2.2.2.2.2.1
theorem dX9_homes_127 : decode cX9_homes 127 = .ok (.lreturn, 1) := adX9_homes_113.2.2.2.2.2.2
set_option maxRecDepth 20000 in
theorem ggX9_leaked_X9_in : GoodIn wsX9_leaked wsX9_in := goodIn_r _ [16] (by decide +kernel) (by decide +kernel)
set_option maxRecDepth 20000 in
theorem gX9_leaked_X9_in : GoodIn wsX9_leaked (va_wsS RX9 130 yX9_in wsX9_in) := goodIn_app (goodIn_of _ (by decide +kernel)) ggX9_leaked_X9_in
set_option maxRecDepth 20000 in
theorem ggX9_leaked_X9_byOf : GoodIn wsX9_leaked wsX9_byOf := goodIn_r _ [20, 21, 22, 15, 23, 24, 13, 14, 16, 25, 26, 27, 28, 5, 4, 29, 30, 31, 32, 33, 34, 35, 36, 37, 38, 39, 40, 7, 8, 9, 10, 11, 12, 41, 42, 43, 44, 45, 46, 47, 48, 49, 50, 51, 52, 53, 54, 55, 56, 6, 57, 58, 59, 60, 61, 62, 63, 64, 65, 66, 67, 68, 69, 70, 71, 72, 73, 74, 75, 76, 77, 78, 79, 80, 81, 82, 83, 84, 85, 86, 87, 88, 89, 90, 91, 92, 93, 94, 95, 96, 97, 98, 99, 100, 101, 102, 103, 104, 105, 106, 107, 108, 109, 110, 111, 112, 113, 114, 115, 116] (by decide +kernel) (by decide +kernel)
set_option maxRecDepth 20000 in
theorem gX9_leaked_X9_byOf : GoodIn wsX9_leaked (wsV RX9 436 RX9 yX9_byOf wsX9_byOf) := goodIn_app (goodIn_of _ (by decide +kernel)) ggX9_leaked_X9_byOf
theorem adX9_leaked_0 : (decode cX9_leaked 0 = .ok (.aload_n 0, 1)) ∧ (decode cX9_leaked 1 = .ok (.iconst 0, 1)) ∧ (decode cX9_leaked 2 = .ok (.putfield 125, 3)) ∧ (decode cX9_leaked 5 = .ok (.iload_n 2, 1)) ∧ (decode cX9_leaked 6 = .ok (.i2l, 1)) ∧ (decode cX9_leaked 7 = .ok (.ldc2_w 447, 3)) ∧ (decode cX9_leaked 10 = .ok (.ldc2_w 449, 3)) ∧ (decode cX9_leaked 13 = .ok (.invokestatic 130, 3)) := by decide +kernel
theorem dX9_leaked_0 : decode cX9_leaked 0 = .ok (.aload_n 0, 1) := adX9_leaked_0.1
theorem dX9_leaked_1 : decode cX9_leaked 1 = .ok (.iconst 0, 1) := adX9_leaked_0.2.1
theorem dX9_leaked_2 : decode cX9_leaked 2 = .ok (.putfield 125, 3) := adX9_leaked_0.2.2.1
theorem dX9_leaked_5 : decode cX9_leaked 5 = .ok (.iload_n 2, 1) := adX9_leaked_0.2.2.2.1
theorem dX9_leaked_6 : decode cX9_leaked 6 = .ok (.i2l, 1) := adX9_leaked_0.2.2.2.2.1
theorem dX9_leaked_7 : decode cX9_leaked 7 = .ok (.ldc2_w 447, 3) := adX9_leaked_0.2.2.2.2.2.1
theorem dX9_leaked_10 : decode cX9_leaked 10 = .ok (.ldc2_w 449, 3) := adX9_leaked_0.2.2.2.2.2.2.1
theorem dX9_leaked_13 : decode cX9_leaked 13 = .ok (.invokestatic 130, 3) := adX9_leaked_0.2.2.2.2.2.2.2
theorem adX9_leaked_16 : (decode cX9_leaked 16 = .ok (.ifCond .ne 7, 3)) ∧ (decode cX9_leaked 19 = .ok (.ldc2_w 408, 3)) ∧ (decode cX9_leaked 22 = .ok (.lreturn, 1)) ∧ (decode cX9_leaked 23 = .ok (.aload_n 0, 1)) ∧ (decode cX9_leaked 24 = .ok (.iload_n 1, 1)) ∧ (decode cX9_leaked 25 = .ok (.invokevirtual 436, 3)) ∧ (decode cX9_leaked 28 = .ok (.pop2, 1)) ∧ (decode cX9_leaked 29 = .ok (.aload_n 0, 1)) := by decide +kernel
theorem dX9_leaked_16 : decode cX9_leaked 16 = .ok (.ifCond .ne 7, 3) := adX9_leaked_16.1
theorem dX9_leaked_19 : decode cX9_leaked 19 = .ok (.ldc2_w 408, 3) := adX9_leaked_16.2.1
theorem dX9_leaked_22 : decode cX9_leaked 22 = .ok (.lreturn, 1) := adX9_leaked_16.2.2.1
theorem dX9_leaked_23 : decode cX9_leaked 23 = .ok (.aload_n 0, 1) := adX9_leaked_16.2.2.2.1
theorem dX9_leaked_24 : decode cX9_leaked 24 = .ok (.iload_n 1, 1) := adX9_leaked_16.2.2.2.2.1
theorem dX9_leaked_25 : decode cX9_leaked 25 = .ok (.invokevirtual 436, 3) := adX9_leaked_16.2.2.2.2.2.1
theorem dX9_leaked_28 : decode cX9_leaked 28 = .ok (.pop2, 1) := adX9_leaked_16.2.2.2.2.2.2.1
theorem dX9_leaked_29 : decode cX9_leaked 29 = .ok (.aload_n 0, 1) := adX9_leaked_16.2.2.2.2.2.2.2
theorem adX9_leaked_30 : (decode cX9_leaked 30 = .ok (.getfield 402, 3)) ∧ (decode cX9_leaked 33 = .ok (.ifCond .ne 7, 3)) ∧ (decode cX9_leaked 36 = .ok (.ldc2_w 408, 3)) ∧ (decode cX9_leaked 39 = .ok (.lreturn, 1)) ∧ (decode cX9_leaked 40 = .ok (.ldc2_w 406, 3)) ∧ (decode cX9_leaked 43 = .ok (.aload_n 0, 1)) ∧ (decode cX9_leaked 44 = .ok (.getfield 390, 3)) ∧ (decode cX9_leaked 47 = .ok (.aload_n 0, 1)) := by decide +kernel
theorem dX9_leaked_30 : decode cX9_leaked 30 = .ok (.getfield 402, 3) := adX9_leaked_30.1
theorem dX9_leaked_33 : decode cX9_leaked 33 = .ok (.ifCond .ne 7, 3) := adX9_leaked_30.2.1
theorem dX9_leaked_36 : decode cX9_leaked 36 = .ok (.ldc2_w 408, 3) := adX9_leaked_30.2.2.1
theorem dX9_leaked_39 : decode cX9_leaked 39 = .ok (.lreturn, 1) := adX9_leaked_30.2.2.2.1
theorem dX9_leaked_40 : decode cX9_leaked 40 = .ok (.ldc2_w 406, 3) := adX9_leaked_30.2.2.2.2.1
theorem dX9_leaked_43 : decode cX9_leaked 43 = .ok (.aload_n 0, 1) := adX9_leaked_30.2.2.2.2.2.1
theorem dX9_leaked_44 : decode cX9_leaked 44 = .ok (.getfield 390, 3) := adX9_leaked_30.2.2.2.2.2.2.1
theorem dX9_leaked_47 : decode cX9_leaked 47 = .ok (.aload_n 0, 1) := adX9_leaked_30.2.2.2.2.2.2.2
theorem adX9_leaked_48 : (decode cX9_leaked 48 = .ok (.getfield 381, 3)) ∧ (decode cX9_leaked 51 = .ok (.lmul, 1)) ∧ (decode cX9_leaked 52 = .ok (.aload_n 0, 1)) ∧ (decode cX9_leaked 53 = .ok (.getfield 393, 3)) ∧ (decode cX9_leaked 56 = .ok (.aload_n 0, 1)) ∧ (decode cX9_leaked 57 = .ok (.getfield 378, 3)) ∧ (decode cX9_leaked 60 = .ok (.lmul, 1)) ∧ (decode cX9_leaked 61 = .ok (.lsub, 1)) := by decide +kernel
theorem dX9_leaked_48 : decode cX9_leaked 48 = .ok (.getfield 381, 3) := adX9_leaked_48.1
theorem dX9_leaked_51 : decode cX9_leaked 51 = .ok (.lmul, 1) := adX9_leaked_48.2.1
theorem dX9_leaked_52 : decode cX9_leaked 52 = .ok (.aload_n 0, 1) := adX9_leaked_48.2.2.1
theorem dX9_leaked_53 : decode cX9_leaked 53 = .ok (.getfield 393, 3) := adX9_leaked_48.2.2.2.1
theorem dX9_leaked_56 : decode cX9_leaked 56 = .ok (.aload_n 0, 1) := adX9_leaked_48.2.2.2.2.1
theorem dX9_leaked_57 : decode cX9_leaked 57 = .ok (.getfield 378, 3) := adX9_leaked_48.2.2.2.2.2.1
theorem dX9_leaked_60 : decode cX9_leaked 60 = .ok (.lmul, 1) := adX9_leaked_48.2.2.2.2.2.2.1
theorem dX9_leaked_61 : decode cX9_leaked 61 = .ok (.lsub, 1) := adX9_leaked_48.2.2.2.2.2.2.2
theorem adX9_leaked_62 : (decode cX9_leaked 62 = .ok (.lmul, 1)) ∧ (decode cX9_leaked 63 = .ok (.aload_n 0, 1)) ∧ (decode cX9_leaked 64 = .ok (.getfield 378, 3)) ∧ (decode cX9_leaked 67 = .ok (.aload_n 0, 1)) ∧ (decode cX9_leaked 68 = .ok (.getfield 381, 3)) ∧ (decode cX9_leaked 71 = .ok (.lmul, 1)) ∧ (decode cX9_leaked 72 = .ok (.iload_n 2, 1)) ∧ (decode cX9_leaked 73 = .ok (.i2l, 1)) := by decide +kernel
theorem dX9_leaked_62 : decode cX9_leaked 62 = .ok (.lmul, 1) := adX9_leaked_62.1
theorem dX9_leaked_63 : decode cX9_leaked 63 = .ok (.aload_n 0, 1) := adX9_leaked_62.2.1
theorem dX9_leaked_64 : decode cX9_leaked 64 = .ok (.getfield 378, 3) := adX9_leaked_62.2.2.1
theorem dX9_leaked_67 : decode cX9_leaked 67 = .ok (.aload_n 0, 1) := adX9_leaked_62.2.2.2.1
theorem dX9_leaked_68 : decode cX9_leaked 68 = .ok (.getfield 381, 3) := adX9_leaked_62.2.2.2.2.1
theorem dX9_leaked_71 : decode cX9_leaked 71 = .ok (.lmul, 1) := adX9_leaked_62.2.2.2.2.2.1
theorem dX9_leaked_72 : decode cX9_leaked 72 = .ok (.iload_n 2, 1) := adX9_leaked_62.2.2.2.2.2.2.1
theorem dX9_leaked_73 : decode cX9_leaked 73 = .ok (.i2l, 1) := adX9_leaked_62.2.2.2.2.2.2.2
theorem adX9_leaked_74 : (decode cX9_leaked 74 = .ok (.lmul, 1)) ∧ (decode cX9_leaked 75 = .ok (.lsub, 1)) ∧ (decode cX9_leaked 76 = .ok (.aload_n 0, 1)) ∧ (decode cX9_leaked 77 = .ok (.getfield 384, 3)) ∧ (decode cX9_leaked 80 = .ok (.aload_n 0, 1)) ∧ (decode cX9_leaked 81 = .ok (.getfield 381, 3)) ∧ (decode cX9_leaked 84 = .ok (.lmul, 1)) ∧ (decode cX9_leaked 85 = .ok (.aload_n 0, 1)) := by decide +kernel
theorem dX9_leaked_74 : decode cX9_leaked 74 = .ok (.lmul, 1) := adX9_leaked_74.1
theorem dX9_leaked_75 : decode cX9_leaked 75 = .ok (.lsub, 1) := adX9_leaked_74.2.1
theorem dX9_leaked_76 : decode cX9_leaked 76 = .ok (.aload_n 0, 1) := adX9_leaked_74.2.2.1
theorem dX9_leaked_77 : decode cX9_leaked 77 = .ok (.getfield 384, 3) := adX9_leaked_74.2.2.2.1
theorem dX9_leaked_80 : decode cX9_leaked 80 = .ok (.aload_n 0, 1) := adX9_leaked_74.2.2.2.2.1
theorem dX9_leaked_81 : decode cX9_leaked 81 = .ok (.getfield 381, 3) := adX9_leaked_74.2.2.2.2.2.1
theorem dX9_leaked_84 : decode cX9_leaked 84 = .ok (.lmul, 1) := adX9_leaked_74.2.2.2.2.2.2.1
theorem dX9_leaked_85 : decode cX9_leaked 85 = .ok (.aload_n 0, 1) := adX9_leaked_74.2.2.2.2.2.2.2
theorem adX9_leaked_86 : (decode cX9_leaked 86 = .ok (.getfield 387, 3)) ∧ (decode cX9_leaked 89 = .ok (.aload_n 0, 1)) ∧ (decode cX9_leaked 90 = .ok (.getfield 378, 3)) ∧ (decode cX9_leaked 93 = .ok (.lmul, 1)) ∧ (decode cX9_leaked 94 = .ok (.lsub, 1)) ∧ (decode cX9_leaked 95 = .ok (.ldiv, 1)) ∧ (decode cX9_leaked 96 = .ok (.lreturn, 1)) := by decide +kernel
theorem dX9_leaked_86 : decode cX9_leaked 86 = .ok (.getfield 387, 3) := adX9_leaked_86.1
theorem dX9_leaked_89 : decode cX9_leaked 89 = .ok (.aload_n 0, 1) := adX9_leaked_86.2.1
theorem dX9_leaked_90 : decode cX9_leaked 90 = .ok (.getfield 378, 3) := adX9_leaked_86.2.2.1
theorem dX9_leaked_93 : decode cX9_leaked 93 = .ok (.lmul, 1) := adX9_leaked_86.2.2.2.1
theorem dX9_leaked_94 : decode cX9_leaked 94 = .ok (.lsub, 1) := adX9_leaked_86.2.2.2.2.1
theorem dX9_leaked_95 : decode cX9_leaked 95 = .ok (.ldiv, 1) := adX9_leaked_86.2.2.2.2.2.1
theorem dX9_leaked_96 : decode cX9_leaked 96 = .ok (.lreturn, 1) := adX9_leaked_86.2.2.2.2.2.2
set_option maxRecDepth 20000 in
theorem ggX9_strongBy_X9_isPush : GoodIn wsX9_strongBy wsX9_isPush := goodIn_r _ [14, 15, 16, 17, 13, 18] (by decide +kernel) (by decide +kernel)
set_option maxRecDepth 20000 in
theorem gX9_strongBy_X9_isPush : GoodIn wsX9_strongBy (va_wsS RX9 430 yX9_isPush wsX9_isPush) := goodIn_app (goodIn_of _ (by decide +kernel)) ggX9_strongBy_X9_isPush
set_option maxRecDepth 20000 in
theorem ggX9_strongBy_X9_pushes : GoodIn wsX9_strongBy wsX9_pushes := goodIn_r _ [22, 23, 24, 25, 2, 39, 40, 41, 42, 43, 44, 45, 46, 47, 48, 49, 50, 51, 52, 53, 54, 55, 56, 57, 58, 59, 60, 61, 62, 63, 64, 65, 66, 67, 68, 69, 70, 71, 72, 73, 74, 75, 76, 77, 78, 79, 80, 81, 82, 83, 84, 85, 86, 87, 88, 89, 90, 91, 92, 93, 94, 95, 96, 97, 98] (by decide +kernel) (by decide +kernel)
set_option maxRecDepth 20000 in
theorem gX9_strongBy_X9_pushes : GoodIn wsX9_strongBy (wsV RX9 410 RX9 yX9_pushes wsX9_pushes) := goodIn_app (goodIn_of _ (by decide +kernel)) ggX9_strongBy_X9_pushes
set_option maxRecDepth 20000 in
theorem ggX9_strongBy_X9_gathers : GoodIn wsX9_strongBy wsX9_gathers := goodIn_r _ [29, 6, 4, 3, 5, 30, 31, 7, 32, 2, 33, 34, 24, 39, 40, 41, 42, 43, 44, 45, 46, 47, 48, 49, 50, 51, 52, 53, 54, 55, 56, 57, 58, 59, 60, 61, 62, 63, 64, 65, 66, 67, 68, 69, 70, 71, 72, 73, 74, 75, 76, 77, 78, 79, 80, 81, 82, 83, 84, 85, 86, 87, 88, 89, 90, 91, 92, 93, 94, 95, 96, 97, 98] (by decide +kernel) (by decide +kernel)
set_option maxRecDepth 20000 in
theorem gX9_strongBy_X9_gathers : GoodIn wsX9_strongBy (wsV RX9 413 RX9 yX9_gathers wsX9_gathers) := goodIn_app (goodIn_of _ (by decide +kernel)) ggX9_strongBy_X9_gathers
set_option maxRecDepth 20000 in
theorem ggX9_strongBy_X9_areBoth : GoodIn wsX9_strongBy wsX9_areBoth := goodIn_r _ [38, 6, 4, 39, 40, 41, 42, 43, 44, 45, 46, 47, 48, 49, 50, 51, 52, 53, 54, 55, 56, 57, 58, 59, 60, 61, 62, 63, 64, 65, 66, 67, 68, 69, 70, 71, 72, 73, 74, 75, 76, 77, 78, 79, 80, 81, 82, 83, 84, 85, 86, 87, 88, 89, 90, 91, 92, 93, 94, 95, 96, 97, 98] (by decide +kernel) (by decide +kernel)
set_option maxRecDepth 20000 in
theorem gX9_strongBy_X9_areBoth : GoodIn wsX9_strongBy (wsV RX9 424 RX9 yX9_areBoth wsX9_areBoth) := goodIn_app (goodIn_of _ (by decide +kernel)) ggX9_strongBy_X9_areBoth
theorem adX9_strongBy_0 : (decode cX9_strongBy 0 = .ok (.iload_n 1, 1)) ∧ (decode cX9_strongBy 1 = .ok (.invokestatic 430, 3)) ∧ (decode cX9_strongBy 4 = .ok (.ifCond .eq 8, 3)) ∧ (decode cX9_strongBy 7 = .ok (.iload_n 2, 1)) ∧ (decode cX9_strongBy 8 = .ok (.iconst 3, 1)) ∧ (decode cX9_strongBy 9 = .ok (.if_icmp .ge 7, 3)) ∧ (decode cX9_strongBy 12 = .ok (.ldc2_w 408, 3)) ∧ (decode cX9_strongBy 15 = .ok (.lreturn, 1)) := by decide +kernel
theorem dX9_strongBy_0 : decode cX9_strongBy 0 = .ok (.iload_n 1, 1) := adX9_strongBy_0.1
theorem dX9_strongBy_1 : decode cX9_strongBy 1 = .ok (.invokestatic 430, 3) := adX9_strongBy_0.2.1
theorem dX9_strongBy_4 : decode cX9_strongBy 4 = .ok (.ifCond .eq 8, 3) := adX9_strongBy_0.2.2.1
theorem dX9_strongBy_7 : decode cX9_strongBy 7 = .ok (.iload_n 2, 1) := adX9_strongBy_0.2.2.2.1
theorem dX9_strongBy_8 : decode cX9_strongBy 8 = .ok (.iconst 3, 1) := adX9_strongBy_0.2.2.2.2.1
theorem dX9_strongBy_9 : decode cX9_strongBy 9 = .ok (.if_icmp .ge 7, 3) := adX9_strongBy_0.2.2.2.2.2.1
theorem dX9_strongBy_12 : decode cX9_strongBy 12 = .ok (.ldc2_w 408, 3) := adX9_strongBy_0.2.2.2.2.2.2.1
theorem dX9_strongBy_15 : decode cX9_strongBy 15 = .ok (.lreturn, 1) := adX9_strongBy_0.2.2.2.2.2.2.2
theorem adX9_strongBy_16 : (decode cX9_strongBy 16 = .ok (.aload_n 0, 1)) ∧ (decode cX9_strongBy 17 = .ok (.iload_n 1, 1)) ∧ (decode cX9_strongBy 18 = .ok (.invokevirtual 410, 3)) ∧ (decode cX9_strongBy 21 = .ok (.aload_n 0, 1)) ∧ (decode cX9_strongBy 22 = .ok (.iload_n 2, 1)) ∧ (decode cX9_strongBy 23 = .ok (.putfield 375, 3)) ∧ (decode cX9_strongBy 26 = .ok (.aload_n 0, 1)) ∧ (decode cX9_strongBy 27 = .ok (.invokevirtual 413, 3)) := by decide +kernel
theorem dX9_strongBy_16 : decode cX9_strongBy 16 = .ok (.aload_n 0, 1) := adX9_strongBy_16.1
theorem dX9_strongBy_17 : decode cX9_strongBy 17 = .ok (.iload_n 1, 1) := adX9_strongBy_16.2.1
theorem dX9_strongBy_18 : decode cX9_strongBy 18 = .ok (.invokevirtual 410, 3) := adX9_strongBy_16.2.2.1
theorem dX9_strongBy_21 : decode cX9_strongBy 21 = .ok (.aload_n 0, 1) := adX9_strongBy_16.2.2.2.1
theorem dX9_strongBy_22 : decode cX9_strongBy 22 = .ok (.iload_n 2, 1) := adX9_strongBy_16.2.2.2.2.1
theorem dX9_strongBy_23 : decode cX9_strongBy 23 = .ok (.putfield 375, 3) := adX9_strongBy_16.2.2.2.2.2.1
theorem dX9_strongBy_26 : decode cX9_strongBy 26 = .ok (.aload_n 0, 1) := adX9_strongBy_16.2.2.2.2.2.2.1
theorem dX9_strongBy_27 : decode cX9_strongBy 27 = .ok (.invokevirtual 413, 3) := adX9_strongBy_16.2.2.2.2.2.2.2
theorem adX9_strongBy_30 : (decode cX9_strongBy 30 = .ok (.aload_n 0, 1)) ∧ (decode cX9_strongBy 31 = .ok (.invokevirtual 424, 3)) ∧ (decode cX9_strongBy 34 = .ok (.ifCond .ne 7, 3)) ∧ (decode cX9_strongBy 37 = .ok (.ldc2_w 408, 3)) ∧ (decode cX9_strongBy 40 = .ok (.lreturn, 1)) ∧ (decode cX9_strongBy 41 = .ok (.aload_n 0, 1)) ∧ (decode cX9_strongBy 42 = .ok (.getfield 384, 3)) ∧ (decode cX9_strongBy 45 = .ok (.aload_n 0, 1)) := by decide +kernel
theorem dX9_strongBy_30 : decode cX9_strongBy 30 = .ok (.aload_n 0, 1) := adX9_strongBy_30.1
theorem dX9_strongBy_31 : decode cX9_strongBy 31 = .ok (.invokevirtual 424, 3) := adX9_strongBy_30.2.1
theorem dX9_strongBy_34 : decode cX9_strongBy 34 = .ok (.ifCond .ne 7, 3) := adX9_strongBy_30.2.2.1
theorem dX9_strongBy_37 : decode cX9_strongBy 37 = .ok (.ldc2_w 408, 3) := adX9_strongBy_30.2.2.2.1
theorem dX9_strongBy_40 : decode cX9_strongBy 40 = .ok (.lreturn, 1) := adX9_strongBy_30.2.2.2.2.1
theorem dX9_strongBy_41 : decode cX9_strongBy 41 = .ok (.aload_n 0, 1) := adX9_strongBy_30.2.2.2.2.2.1
theorem dX9_strongBy_42 : decode cX9_strongBy 42 = .ok (.getfield 384, 3) := adX9_strongBy_30.2.2.2.2.2.2.1
theorem dX9_strongBy_45 : decode cX9_strongBy 45 = .ok (.aload_n 0, 1) := adX9_strongBy_30.2.2.2.2.2.2.2
theorem adX9_strongBy_46 : (decode cX9_strongBy 46 = .ok (.getfield 381, 3)) ∧ (decode cX9_strongBy 49 = .ok (.lmul, 1)) ∧ (decode cX9_strongBy 50 = .ok (.aload_n 0, 1)) ∧ (decode cX9_strongBy 51 = .ok (.getfield 387, 3)) ∧ (decode cX9_strongBy 54 = .ok (.aload_n 0, 1)) ∧ (decode cX9_strongBy 55 = .ok (.getfield 378, 3)) ∧ (decode cX9_strongBy 58 = .ok (.lmul, 1)) ∧ (decode cX9_strongBy 59 = .ok (.lsub, 1)) := by decide +kernel
theorem dX9_strongBy_46 : decode cX9_strongBy 46 = .ok (.getfield 381, 3) := adX9_strongBy_46.1
theorem dX9_strongBy_49 : decode cX9_strongBy 49 = .ok (.lmul, 1) := adX9_strongBy_46.2.1
theorem dX9_strongBy_50 : decode cX9_strongBy 50 = .ok (.aload_n 0, 1) := adX9_strongBy_46.2.2.1
theorem dX9_strongBy_51 : decode cX9_strongBy 51 = .ok (.getfield 387, 3) := adX9_strongBy_46.2.2.2.1
theorem dX9_strongBy_54 : decode cX9_strongBy 54 = .ok (.aload_n 0, 1) := adX9_strongBy_46.2.2.2.2.1
theorem dX9_strongBy_55 : decode cX9_strongBy 55 = .ok (.getfield 378, 3) := adX9_strongBy_46.2.2.2.2.2.1
theorem dX9_strongBy_58 : decode cX9_strongBy 58 = .ok (.lmul, 1) := adX9_strongBy_46.2.2.2.2.2.2.1
theorem dX9_strongBy_59 : decode cX9_strongBy 59 = .ok (.lsub, 1) := adX9_strongBy_46.2.2.2.2.2.2.2
theorem adX9_strongBy_60 : (decode cX9_strongBy 60 = .ok (.lstore_n 3, 1)) ∧ (decode cX9_strongBy 61 = .ok (.aload_n 0, 1)) ∧ (decode cX9_strongBy 62 = .ok (.getfield 378, 3)) ∧ (decode cX9_strongBy 65 = .ok (.aload_n 0, 1)) ∧ (decode cX9_strongBy 66 = .ok (.getfield 381, 3)) ∧ (decode cX9_strongBy 69 = .ok (.lmul, 1)) ∧ (decode cX9_strongBy 70 = .ok (.aload_n 0, 1)) ∧ (decode cX9_strongBy 71 = .ok (.getfield 396, 3)) := by decide +kernel
theorem dX9_strongBy_60 : decode cX9_strongBy 60 = .ok (.lstore_n 3, 1) := adX9_strongBy_60.1
theorem dX9_strongBy_61 : decode cX9_strongBy 61 = .ok (.aload_n 0, 1) := adX9_strongBy_60.2.1
theorem dX9_strongBy_62 : decode cX9_strongBy 62 = .ok (.getfield 378, 3) := adX9_strongBy_60.2.2.1
theorem dX9_strongBy_65 : decode cX9_strongBy 65 = .ok (.aload_n 0, 1) := adX9_strongBy_60.2.2.2.1
theorem dX9_strongBy_66 : decode cX9_strongBy 66 = .ok (.getfield 381, 3) := adX9_strongBy_60.2.2.2.2.1
theorem dX9_strongBy_69 : decode cX9_strongBy 69 = .ok (.lmul, 1) := adX9_strongBy_60.2.2.2.2.2.1
theorem dX9_strongBy_70 : decode cX9_strongBy 70 = .ok (.aload_n 0, 1) := adX9_strongBy_60.2.2.2.2.2.2.1
theorem dX9_strongBy_71 : decode cX9_strongBy 71 = .ok (.getfield 396, 3) := adX9_strongBy_60.2.2.2.2.2.2.2
theorem adX9_strongBy_74 : (decode cX9_strongBy 74 = .ok (.lmul, 1)) ∧ (decode cX9_strongBy 75 = .ok (.aload_n 0, 1)) ∧ (decode cX9_strongBy 76 = .ok (.getfield 384, 3)) ∧ (decode cX9_strongBy 79 = .ok (.aload_n 0, 1)) ∧ (decode cX9_strongBy 80 = .ok (.getfield 384, 3)) ∧ (decode cX9_strongBy 83 = .ok (.lmul, 1)) ∧ (decode cX9_strongBy 84 = .ok (.aload_n 0, 1)) ∧ (decode cX9_strongBy 85 = .ok (.getfield 381, 3)) := by decide +kernel
theorem dX9_strongBy_74 : decode cX9_strongBy 74 = .ok (.lmul, 1) := adX9_strongBy_74.1
theorem dX9_strongBy_75 : decode cX9_strongBy 75 = .ok (.aload_n 0, 1) := adX9_strongBy_74.2.1
theorem dX9_strongBy_76 : decode cX9_strongBy 76 = .ok (.getfield 384, 3) := adX9_strongBy_74.2.2.1
theorem dX9_strongBy_79 : decode cX9_strongBy 79 = .ok (.aload_n 0, 1) := adX9_strongBy_74.2.2.2.1
theorem dX9_strongBy_80 : decode cX9_strongBy 80 = .ok (.getfield 384, 3) := adX9_strongBy_74.2.2.2.2.1
theorem dX9_strongBy_83 : decode cX9_strongBy 83 = .ok (.lmul, 1) := adX9_strongBy_74.2.2.2.2.2.1
theorem dX9_strongBy_84 : decode cX9_strongBy 84 = .ok (.aload_n 0, 1) := adX9_strongBy_74.2.2.2.2.2.2.1
theorem dX9_strongBy_85 : decode cX9_strongBy 85 = .ok (.getfield 381, 3) := adX9_strongBy_74.2.2.2.2.2.2.2
theorem adX9_strongBy_88 : (decode cX9_strongBy 88 = .ok (.lmul, 1)) ∧ (decode cX9_strongBy 89 = .ok (.lsub, 1)) ∧ (decode cX9_strongBy 90 = .ok (.aload_n 0, 1)) ∧ (decode cX9_strongBy 91 = .ok (.getfield 387, 3)) ∧ (decode cX9_strongBy 94 = .ok (.aload_n 0, 1)) ∧ (decode cX9_strongBy 95 = .ok (.getfield 387, 3)) ∧ (decode cX9_strongBy 98 = .ok (.lmul, 1)) ∧ (decode cX9_strongBy 99 = .ok (.aload_n 0, 1)) := by decide +kernel
theorem dX9_strongBy_88 : decode cX9_strongBy 88 = .ok (.lmul, 1) := adX9_strongBy_88.1
theorem dX9_strongBy_89 : decode cX9_strongBy 89 = .ok (.lsub, 1) := adX9_strongBy_88.2.1
theorem dX9_strongBy_90 : decode cX9_strongBy 90 = .ok (.aload_n 0, 1) := adX9_strongBy_88.2.2.1
theorem dX9_strongBy_91 : decode cX9_strongBy 91 = .ok (.getfield 387, 3) := adX9_strongBy_88.2.2.2.1
theorem dX9_strongBy_94 : decode cX9_strongBy 94 = .ok (.aload_n 0, 1) := adX9_strongBy_88.2.2.2.2.1
theorem dX9_strongBy_95 : decode cX9_strongBy 95 = .ok (.getfield 387, 3) := adX9_strongBy_88.2.2.2.2.2.1
theorem dX9_strongBy_98 : decode cX9_strongBy 98 = .ok (.lmul, 1) := adX9_strongBy_88.2.2.2.2.2.2.1
theorem dX9_strongBy_99 : decode cX9_strongBy 99 = .ok (.aload_n 0, 1) := adX9_strongBy_88.2.2.2.2.2.2.2
theorem adX9_strongBy_100 : (decode cX9_strongBy 100 = .ok (.getfield 378, 3)) ∧ (decode cX9_strongBy 103 = .ok (.lmul, 1)) ∧ (decode cX9_strongBy 104 = .ok (.lsub, 1)) ∧ (decode cX9_strongBy 105 = .ok (.lstore 5, 2)) ∧ (decode cX9_strongBy 107 = .ok (.lload 5, 2)) ∧ (decode cX9_strongBy 109 = .ok (.lconst 0, 1)) ∧ (decode cX9_strongBy 110 = .ok (.lcmp, 1)) ∧ (decode cX9_strongBy 111 = .ok (.ifCond .ne 17, 3)) := by decide +kernel
theorem dX9_strongBy_100 : decode cX9_strongBy 100 = .ok (.getfield 378, 3) := adX9_strongBy_100.1
theorem dX9_strongBy_103 : decode cX9_strongBy 103 = .ok (.lmul, 1) := adX9_strongBy_100.2.1
theorem dX9_strongBy_104 : decode cX9_strongBy 104 = .ok (.lsub, 1) := adX9_strongBy_100.2.2.1
theorem dX9_strongBy_105 : decode cX9_strongBy 105 = .ok (.lstore 5, 2) := adX9_strongBy_100.2.2.2.1
theorem dX9_strongBy_107 : decode cX9_strongBy 107 = .ok (.lload 5, 2) := adX9_strongBy_100.2.2.2.2.1
theorem dX9_strongBy_109 : decode cX9_strongBy 109 = .ok (.lconst 0, 1) := adX9_strongBy_100.2.2.2.2.2.1
theorem dX9_strongBy_110 : decode cX9_strongBy 110 = .ok (.lcmp, 1) := adX9_strongBy_100.2.2.2.2.2.2.1
theorem dX9_strongBy_111 : decode cX9_strongBy 111 = .ok (.ifCond .ne 17, 3) := adX9_strongBy_100.2.2.2.2.2.2.2
theorem adX9_strongBy_114 : (decode cX9_strongBy 114 = .ok (.lload_n 3, 1)) ∧ (decode cX9_strongBy 115 = .ok (.lconst 0, 1)) ∧ (decode cX9_strongBy 116 = .ok (.lcmp, 1)) ∧ (decode cX9_strongBy 117 = .ok (.ifCond .ne 7, 3)) ∧ (decode cX9_strongBy 120 = .ok (.lconst 0, 1)) ∧ (decode cX9_strongBy 121 = .ok (.goto 6, 3)) ∧ (decode cX9_strongBy 124 = .ok (.ldc2_w 451, 3)) ∧ (decode cX9_strongBy 127 = .ok (.lreturn, 1)) := by decide +kernel
theorem dX9_strongBy_114 : decode cX9_strongBy 114 = .ok (.lload_n 3, 1) := adX9_strongBy_114.1
theorem dX9_strongBy_115 : decode cX9_strongBy 115 = .ok (.lconst 0, 1) := adX9_strongBy_114.2.1
theorem dX9_strongBy_116 : decode cX9_strongBy 116 = .ok (.lcmp, 1) := adX9_strongBy_114.2.2.1
theorem dX9_strongBy_117 : decode cX9_strongBy 117 = .ok (.ifCond .ne 7, 3) := adX9_strongBy_114.2.2.2.1
theorem dX9_strongBy_120 : decode cX9_strongBy 120 = .ok (.lconst 0, 1) := adX9_strongBy_114.2.2.2.2.1
theorem dX9_strongBy_121 : decode cX9_strongBy 121 = .ok (.goto 6, 3) := adX9_strongBy_114.2.2.2.2.2.1
theorem dX9_strongBy_124 : decode cX9_strongBy 124 = .ok (.ldc2_w 451, 3) := adX9_strongBy_114.2.2.2.2.2.2.1
theorem dX9_strongBy_127 : decode cX9_strongBy 127 = .ok (.lreturn, 1) := adX9_strongBy_114.2.2.2.2.2.2.2
theorem adX9_strongBy_128 : (decode cX9_strongBy 128 = .ok (.ldc2_w 453, 3)) ∧ (decode cX9_strongBy 131 = .ok (.aload_n 0, 1)) ∧ (decode cX9_strongBy 132 = .ok (.getfield 378, 3)) ∧ (decode cX9_strongBy 135 = .ok (.aload_n 0, 1)) ∧ (decode cX9_strongBy 136 = .ok (.getfield 381, 3)) ∧ (decode cX9_strongBy 139 = .ok (.ladd, 1)) ∧ (decode cX9_strongBy 140 = .ok (.ldc2_w 455, 3)) ∧ (decode cX9_strongBy 143 = .ok (.lsub, 1)) := by decide +kernel
theorem dX9_strongBy_128 : decode cX9_strongBy 128 = .ok (.ldc2_w 453, 3) := adX9_strongBy_128.1
theorem dX9_strongBy_131 : decode cX9_strongBy 131 = .ok (.aload_n 0, 1) := adX9_strongBy_128.2.1
theorem dX9_strongBy_132 : decode cX9_strongBy 132 = .ok (.getfield 378, 3) := adX9_strongBy_128.2.2.1
theorem dX9_strongBy_135 : decode cX9_strongBy 135 = .ok (.aload_n 0, 1) := adX9_strongBy_128.2.2.2.1
theorem dX9_strongBy_136 : decode cX9_strongBy 136 = .ok (.getfield 381, 3) := adX9_strongBy_128.2.2.2.2.1
theorem dX9_strongBy_139 : decode cX9_strongBy 139 = .ok (.ladd, 1) := adX9_strongBy_128.2.2.2.2.2.1
theorem dX9_strongBy_140 : decode cX9_strongBy 140 = .ok (.ldc2_w 455, 3) := adX9_strongBy_128.2.2.2.2.2.2.1
theorem dX9_strongBy_143 : decode cX9_strongBy 143 = .ok (.lsub, 1) := adX9_strongBy_128.2.2.2.2.2.2.2
theorem adX9_strongBy_144 : (decode cX9_strongBy 144 = .ok (.lmul, 1)) ∧ (decode cX9_strongBy 145 = .ok (.lload_n 3, 1)) ∧ (decode cX9_strongBy 146 = .ok (.lmul, 1)) ∧ (decode cX9_strongBy 147 = .ok (.lload_n 3, 1)) ∧ (decode cX9_strongBy 148 = .ok (.lmul, 1)) ∧ (decode cX9_strongBy 149 = .ok (.aload_n 0, 1)) ∧ (decode cX9_strongBy 150 = .ok (.getfield 378, 3)) ∧ (decode cX9_strongBy 153 = .ok (.aload_n 0, 1)) := by decide +kernel
theorem dX9_strongBy_144 : decode cX9_strongBy 144 = .ok (.lmul, 1) := adX9_strongBy_144.1
theorem dX9_strongBy_145 : decode cX9_strongBy 145 = .ok (.lload_n 3, 1) := adX9_strongBy_144.2.1
theorem dX9_strongBy_146 : decode cX9_strongBy 146 = .ok (.lmul, 1) := adX9_strongBy_144.2.2.1
theorem dX9_strongBy_147 : decode cX9_strongBy 147 = .ok (.lload_n 3, 1) := adX9_strongBy_144.2.2.2.1
theorem dX9_strongBy_148 : decode cX9_strongBy 148 = .ok (.lmul, 1) := adX9_strongBy_144.2.2.2.2.1
theorem dX9_strongBy_149 : decode cX9_strongBy 149 = .ok (.aload_n 0, 1) := adX9_strongBy_144.2.2.2.2.2.1
theorem dX9_strongBy_150 : decode cX9_strongBy 150 = .ok (.getfield 378, 3) := adX9_strongBy_144.2.2.2.2.2.2.1
theorem dX9_strongBy_153 : decode cX9_strongBy 153 = .ok (.aload_n 0, 1) := adX9_strongBy_144.2.2.2.2.2.2.2
theorem adX9_strongBy_154 : (decode cX9_strongBy 154 = .ok (.getfield 381, 3)) ∧ (decode cX9_strongBy 157 = .ok (.ladd, 1)) ∧ (decode cX9_strongBy 158 = .ok (.lload 5, 2)) ∧ (decode cX9_strongBy 160 = .ok (.lmul, 1)) ∧ (decode cX9_strongBy 161 = .ok (.ldiv, 1)) ∧ (decode cX9_strongBy 162 = .ok (.lreturn, 1)) := by decide +kernel
theorem dX9_strongBy_154 : decode cX9_strongBy 154 = .ok (.getfield 381, 3) := adX9_strongBy_154.1
theorem dX9_strongBy_157 : decode cX9_strongBy 157 = .ok (.ladd, 1) := adX9_strongBy_154.2.1
theorem dX9_strongBy_158 : decode cX9_strongBy 158 = .ok (.lload 5, 2) := adX9_strongBy_154.2.2.1
theorem dX9_strongBy_160 : decode cX9_strongBy 160 = .ok (.lmul, 1) := adX9_strongBy_154.2.2.2.1
theorem dX9_strongBy_161 : decode cX9_strongBy 161 = .ok (.ldiv, 1) := adX9_strongBy_154.2.2.2.2.1
theorem dX9_strongBy_162 : decode cX9_strongBy 162 = .ok (.lreturn, 1) := adX9_strongBy_154.2.2.2.2.2
set_option maxRecDepth 20000 in
theorem ggX9_strong_X9_strongBy : GoodIn wsX9_strong wsX9_strongBy := goodIn_r _ [7, 8, 9, 10, 11, 12, 13, 14, 15, 16, 17, 18, 19, 6, 20, 21, 22, 23, 24, 25, 26, 27, 28, 2, 29, 30, 31, 32, 33, 34, 35, 36, 37, 38, 39, 40, 41, 42, 43, 44, 45, 46, 47, 48, 49, 50, 51, 52, 53, 54, 55, 56, 57, 58, 59, 60, 61, 62, 63, 64, 65, 66, 67, 68, 69, 70, 71, 72, 73, 74, 75, 76, 77, 78, 79, 80, 81, 82, 83, 84, 85, 86, 87, 88, 89, 90, 91, 92, 93, 94, 95, 96, 97, 98, 99, 100, 101, 102, 103] (by decide +kernel) (by decide +kernel)
set_option maxRecDepth 20000 in
theorem gX9_strong_X9_strongBy : GoodIn wsX9_strong (wsV RX9 457 RX9 yX9_strongBy wsX9_strongBy) := goodIn_app (goodIn_of _ (by decide +kernel)) ggX9_strong_X9_strongBy
theorem adX9_strong_0 : (decode cX9_strong 0 = .ok (.aload_n 0, 1)) ∧ (decode cX9_strong 1 = .ok (.iconst 0, 1)) ∧ (decode cX9_strong 2 = .ok (.putfield 125, 3)) ∧ (decode cX9_strong 5 = .ok (.aload_n 0, 1)) ∧ (decode cX9_strong 6 = .ok (.iload_n 1, 1)) ∧ (decode cX9_strong 7 = .ok (.aload_n 0, 1)) ∧ (decode cX9_strong 8 = .ok (.getfield 89, 3)) ∧ (decode cX9_strong 11 = .ok (.iconst 0, 1)) := by decide +kernel
theorem dX9_strong_0 : decode cX9_strong 0 = .ok (.aload_n 0, 1) := adX9_strong_0.1
theorem dX9_strong_1 : decode cX9_strong 1 = .ok (.iconst 0, 1) := adX9_strong_0.2.1
theorem dX9_strong_2 : decode cX9_strong 2 = .ok (.putfield 125, 3) := adX9_strong_0.2.2.1
theorem dX9_strong_5 : decode cX9_strong 5 = .ok (.aload_n 0, 1) := adX9_strong_0.2.2.2.1
theorem dX9_strong_6 : decode cX9_strong 6 = .ok (.iload_n 1, 1) := adX9_strong_0.2.2.2.2.1
theorem dX9_strong_7 : decode cX9_strong 7 = .ok (.aload_n 0, 1) := adX9_strong_0.2.2.2.2.2.1
theorem dX9_strong_8 : decode cX9_strong 8 = .ok (.getfield 89, 3) := adX9_strong_0.2.2.2.2.2.2.1
theorem dX9_strong_11 : decode cX9_strong 11 = .ok (.iconst 0, 1) := adX9_strong_0.2.2.2.2.2.2.2
theorem adX9_strong_12 : (decode cX9_strong 12 = .ok (.iaload, 1)) ∧ (decode cX9_strong 13 = .ok (.invokevirtual 457, 3)) ∧ (decode cX9_strong 16 = .ok (.lreturn, 1)) := by decide +kernel
theorem dX9_strong_12 : decode cX9_strong 12 = .ok (.iaload, 1) := adX9_strong_12.1
theorem dX9_strong_13 : decode cX9_strong 13 = .ok (.invokevirtual 457, 3) := adX9_strong_12.2.1
theorem dX9_strong_16 : decode cX9_strong 16 = .ok (.lreturn, 1) := adX9_strong_12.2.2
set_option maxRecDepth 20000 in
theorem ggX9_strongest_X9_strongBy : GoodIn wsX9_strongest wsX9_strongBy := goodIn_r _ [8, 3, 9, 10, 11, 12, 13, 14, 15, 16, 17, 18, 19, 7, 20, 21, 22, 23, 24, 25, 26, 27, 28, 2, 29, 30, 31, 32, 33, 34, 35, 36, 37, 38, 39, 40, 41, 42, 43, 44, 45, 46, 47, 48, 49, 50, 51, 52, 53, 54, 55, 56, 57, 58, 59, 60, 61, 62, 63, 64, 65, 66, 67, 68, 69, 70, 71, 72, 73, 74, 75, 76, 77, 78, 79, 80, 81, 82, 83, 84, 85, 86, 87, 88, 89, 90, 91, 92, 93, 94, 95, 96, 97, 98, 99, 100, 101, 102, 103] (by decide +kernel) (by decide +kernel)
set_option maxRecDepth 20000 in
theorem gX9_strongest_X9_strongBy : GoodIn wsX9_strongest (wsV RX9 457 RX9 yX9_strongBy wsX9_strongBy) := goodIn_app (goodIn_of _ (by decide +kernel)) ggX9_strongest_X9_strongBy
theorem adX9_strongest_0 : (decode cX9_strongest 0 = .ok (.aload_n 0, 1)) ∧ (decode cX9_strongest 1 = .ok (.iconst 0, 1)) ∧ (decode cX9_strongest 2 = .ok (.putfield 125, 3)) ∧ (decode cX9_strongest 5 = .ok (.iconst (-1), 1)) ∧ (decode cX9_strongest 6 = .ok (.istore_n 1, 1)) ∧ (decode cX9_strongest 7 = .ok (.lconst 0, 1)) ∧ (decode cX9_strongest 8 = .ok (.lstore_n 2, 1)) ∧ (decode cX9_strongest 9 = .ok (.iconst 1, 1)) := by decide +kernel
theorem dX9_strongest_0 : decode cX9_strongest 0 = .ok (.aload_n 0, 1) := adX9_strongest_0.1
theorem dX9_strongest_1 : decode cX9_strongest 1 = .ok (.iconst 0, 1) := adX9_strongest_0.2.1
theorem dX9_strongest_2 : decode cX9_strongest 2 = .ok (.putfield 125, 3) := adX9_strongest_0.2.2.1
theorem dX9_strongest_5 : decode cX9_strongest 5 = .ok (.iconst (-1), 1) := adX9_strongest_0.2.2.2.1
theorem dX9_strongest_6 : decode cX9_strongest 6 = .ok (.istore_n 1, 1) := adX9_strongest_0.2.2.2.2.1
theorem dX9_strongest_7 : decode cX9_strongest 7 = .ok (.lconst 0, 1) := adX9_strongest_0.2.2.2.2.2.1
theorem dX9_strongest_8 : decode cX9_strongest 8 = .ok (.lstore_n 2, 1) := adX9_strongest_0.2.2.2.2.2.2.1
theorem dX9_strongest_9 : decode cX9_strongest 9 = .ok (.iconst 1, 1) := adX9_strongest_0.2.2.2.2.2.2.2
theorem adX9_strongest_10 : (decode cX9_strongest 10 = .ok (.istore 4, 2)) ∧ (decode cX9_strongest 12 = .ok (.iload 4, 2)) ∧ (decode cX9_strongest 14 = .ok (.bipush 12, 2)) ∧ (decode cX9_strongest 16 = .ok (.if_icmp .gt 57, 3)) ∧ (decode cX9_strongest 19 = .ok (.aload_n 0, 1)) ∧ (decode cX9_strongest 20 = .ok (.iconst 1, 1)) ∧ (decode cX9_strongest 21 = .ok (.iload 4, 2)) ∧ (decode cX9_strongest 23 = .ok (.iconst 1, 1)) := by decide +kernel
theorem dX9_strongest_10 : decode cX9_strongest 10 = .ok (.istore 4, 2) := adX9_strongest_10.1
theorem dX9_strongest_12 : decode cX9_strongest 12 = .ok (.iload 4, 2) := adX9_strongest_10.2.1
theorem dX9_strongest_14 : decode cX9_strongest 14 = .ok (.bipush 12, 2) := adX9_strongest_10.2.2.1
theorem dX9_strongest_16 : decode cX9_strongest 16 = .ok (.if_icmp .gt 57, 3) := adX9_strongest_10.2.2.2.1
theorem dX9_strongest_19 : decode cX9_strongest 19 = .ok (.aload_n 0, 1) := adX9_strongest_10.2.2.2.2.1
theorem dX9_strongest_20 : decode cX9_strongest 20 = .ok (.iconst 1, 1) := adX9_strongest_10.2.2.2.2.2.1
theorem dX9_strongest_21 : decode cX9_strongest 21 = .ok (.iload 4, 2) := adX9_strongest_10.2.2.2.2.2.2.1
theorem dX9_strongest_23 : decode cX9_strongest 23 = .ok (.iconst 1, 1) := adX9_strongest_10.2.2.2.2.2.2.2
theorem adX9_strongest_24 : (decode cX9_strongest 24 = .ok (.isub, 1)) ∧ (decode cX9_strongest 25 = .ok (.ishl, 1)) ∧ (decode cX9_strongest 26 = .ok (.aload_n 0, 1)) ∧ (decode cX9_strongest 27 = .ok (.getfield 89, 3)) ∧ (decode cX9_strongest 30 = .ok (.iconst 0, 1)) ∧ (decode cX9_strongest 31 = .ok (.iaload, 1)) ∧ (decode cX9_strongest 32 = .ok (.invokevirtual 457, 3)) ∧ (decode cX9_strongest 35 = .ok (.lstore 5, 2)) := by decide +kernel
theorem dX9_strongest_24 : decode cX9_strongest 24 = .ok (.isub, 1) := adX9_strongest_24.1
theorem dX9_strongest_25 : decode cX9_strongest 25 = .ok (.ishl, 1) := adX9_strongest_24.2.1
theorem dX9_strongest_26 : decode cX9_strongest 26 = .ok (.aload_n 0, 1) := adX9_strongest_24.2.2.1
theorem dX9_strongest_27 : decode cX9_strongest 27 = .ok (.getfield 89, 3) := adX9_strongest_24.2.2.2.1
theorem dX9_strongest_30 : decode cX9_strongest 30 = .ok (.iconst 0, 1) := adX9_strongest_24.2.2.2.2.1
theorem dX9_strongest_31 : decode cX9_strongest 31 = .ok (.iaload, 1) := adX9_strongest_24.2.2.2.2.2.1
theorem dX9_strongest_32 : decode cX9_strongest 32 = .ok (.invokevirtual 457, 3) := adX9_strongest_24.2.2.2.2.2.2.1
theorem dX9_strongest_35 : decode cX9_strongest 35 = .ok (.lstore 5, 2) := adX9_strongest_24.2.2.2.2.2.2.2
theorem adX9_strongest_37 : (decode cX9_strongest 37 = .ok (.lload 5, 2)) ∧ (decode cX9_strongest 39 = .ok (.ldc2_w 408, 3)) ∧ (decode cX9_strongest 42 = .ok (.lcmp, 1)) ∧ (decode cX9_strongest 43 = .ok (.ifCond .eq 24, 3)) ∧ (decode cX9_strongest 46 = .ok (.iload_n 1, 1)) ∧ (decode cX9_strongest 47 = .ok (.iconst (-1), 1)) ∧ (decode cX9_strongest 48 = .ok (.if_icmp .eq 13, 3)) ∧ (decode cX9_strongest 51 = .ok (.lload 5, 2)) := by decide +kernel
theorem dX9_strongest_37 : decode cX9_strongest 37 = .ok (.lload 5, 2) := adX9_strongest_37.1
theorem dX9_strongest_39 : decode cX9_strongest 39 = .ok (.ldc2_w 408, 3) := adX9_strongest_37.2.1
theorem dX9_strongest_42 : decode cX9_strongest 42 = .ok (.lcmp, 1) := adX9_strongest_37.2.2.1
theorem dX9_strongest_43 : decode cX9_strongest 43 = .ok (.ifCond .eq 24, 3) := adX9_strongest_37.2.2.2.1
theorem dX9_strongest_46 : decode cX9_strongest 46 = .ok (.iload_n 1, 1) := adX9_strongest_37.2.2.2.2.1
theorem dX9_strongest_47 : decode cX9_strongest 47 = .ok (.iconst (-1), 1) := adX9_strongest_37.2.2.2.2.2.1
theorem dX9_strongest_48 : decode cX9_strongest 48 = .ok (.if_icmp .eq 13, 3) := adX9_strongest_37.2.2.2.2.2.2.1
theorem dX9_strongest_51 : decode cX9_strongest 51 = .ok (.lload 5, 2) := adX9_strongest_37.2.2.2.2.2.2.2
theorem adX9_strongest_53 : (decode cX9_strongest 53 = .ok (.lload_n 2, 1)) ∧ (decode cX9_strongest 54 = .ok (.lcmp, 1)) ∧ (decode cX9_strongest 55 = .ok (.ifCond .gt 6, 3)) ∧ (decode cX9_strongest 58 = .ok (.goto 9, 3)) ∧ (decode cX9_strongest 61 = .ok (.iload 4, 2)) ∧ (decode cX9_strongest 63 = .ok (.istore_n 1, 1)) ∧ (decode cX9_strongest 64 = .ok (.lload 5, 2)) ∧ (decode cX9_strongest 66 = .ok (.lstore_n 2, 1)) := by decide +kernel
theorem dX9_strongest_53 : decode cX9_strongest 53 = .ok (.lload_n 2, 1) := adX9_strongest_53.1
theorem dX9_strongest_54 : decode cX9_strongest 54 = .ok (.lcmp, 1) := adX9_strongest_53.2.1
theorem dX9_strongest_55 : decode cX9_strongest 55 = .ok (.ifCond .gt 6, 3) := adX9_strongest_53.2.2.1
theorem dX9_strongest_58 : decode cX9_strongest 58 = .ok (.goto 9, 3) := adX9_strongest_53.2.2.2.1
theorem dX9_strongest_61 : decode cX9_strongest 61 = .ok (.iload 4, 2) := adX9_strongest_53.2.2.2.2.1
theorem dX9_strongest_63 : decode cX9_strongest 63 = .ok (.istore_n 1, 1) := adX9_strongest_53.2.2.2.2.2.1
theorem dX9_strongest_64 : decode cX9_strongest 64 = .ok (.lload 5, 2) := adX9_strongest_53.2.2.2.2.2.2.1
theorem dX9_strongest_66 : decode cX9_strongest 66 = .ok (.lstore_n 2, 1) := adX9_strongest_53.2.2.2.2.2.2.2
theorem adX9_strongest_67 : (decode cX9_strongest 67 = .ok (.iinc 4 1, 3)) ∧ (decode cX9_strongest 70 = .ok (.goto (-58), 3)) ∧ (decode cX9_strongest 73 = .ok (.iload_n 1, 1)) ∧ (decode cX9_strongest 74 = .ok (.ireturn, 1)) := by decide +kernel
theorem dX9_strongest_67 : decode cX9_strongest 67 = .ok (.iinc 4 1, 3) := adX9_strongest_67.1
theorem dX9_strongest_70 : decode cX9_strongest 70 = .ok (.goto (-58), 3) := adX9_strongest_67.2.1
theorem dX9_strongest_73 : decode cX9_strongest 73 = .ok (.iload_n 1, 1) := adX9_strongest_67.2.2.1
theorem dX9_strongest_74 : decode cX9_strongest 74 = .ok (.ireturn, 1) := adX9_strongest_67.2.2.2
set_option maxRecDepth 20000 in
theorem ggX9_needs_X9_isPush : GoodIn wsX9_needs wsX9_isPush := goodIn_r _ [8, 9, 10, 11, 7, 12] (by decide +kernel) (by decide +kernel)
set_option maxRecDepth 20000 in
theorem gX9_needs_X9_isPush : GoodIn wsX9_needs (va_wsS RX9 430 yX9_isPush wsX9_isPush) := goodIn_app (goodIn_of _ (by decide +kernel)) ggX9_needs_X9_isPush
set_option maxRecDepth 20000 in
theorem ggX9_needs_X9_in : GoodIn wsX9_needs wsX9_in := goodIn_r _ [12] (by decide +kernel) (by decide +kernel)
set_option maxRecDepth 20000 in
theorem gX9_needs_X9_in : GoodIn wsX9_needs (va_wsS RX9 130 yX9_in wsX9_in) := goodIn_app (goodIn_of _ (by decide +kernel)) ggX9_needs_X9_in
set_option maxRecDepth 20000 in
theorem ggX9_needs_X9_strongBy : GoodIn wsX9_needs wsX9_strongBy := goodIn_r _ [16, 4, 17, 18, 19, 20, 21, 22, 23, 24, 25, 5, 6, 7, 8, 9, 10, 11, 12, 26, 27, 28, 29, 3, 30, 31, 32, 33, 34, 35, 36, 37, 38, 39, 40, 41, 42, 43, 44, 45, 46, 47, 48, 49, 50, 51, 52, 53, 54, 55, 56, 57, 58, 59, 60, 61, 62, 63, 64, 65, 66, 67, 68, 69, 70, 71, 72, 73, 74, 75, 76, 77, 78, 79, 80, 81, 82, 83, 84, 85, 86, 87, 88, 89, 90, 91, 92, 93, 94, 95, 96, 97, 98, 99, 100, 101, 102, 103, 104] (by decide +kernel) (by decide +kernel)
set_option maxRecDepth 20000 in
theorem gX9_needs_X9_strongBy : GoodIn wsX9_needs (wsV RX9 457 RX9 yX9_strongBy wsX9_strongBy) := goodIn_app (goodIn_of _ (by decide +kernel)) ggX9_needs_X9_strongBy
theorem adX9_needs_0 : (decode cX9_needs 0 = .ok (.aload_n 0, 1)) ∧ (decode cX9_needs 1 = .ok (.iconst 0, 1)) ∧ (decode cX9_needs 2 = .ok (.putfield 125, 3)) ∧ (decode cX9_needs 5 = .ok (.iload_n 1, 1)) ∧ (decode cX9_needs 6 = .ok (.invokestatic 430, 3)) ∧ (decode cX9_needs 9 = .ok (.ifCond .eq 15, 3)) ∧ (decode cX9_needs 12 = .ok (.iload_n 2, 1)) ∧ (decode cX9_needs 13 = .ok (.i2l, 1)) := by decide +kernel
theorem dX9_needs_0 : decode cX9_needs 0 = .ok (.aload_n 0, 1) := adX9_needs_0.1
theorem dX9_needs_1 : decode cX9_needs 1 = .ok (.iconst 0, 1) := adX9_needs_0.2.1
theorem dX9_needs_2 : decode cX9_needs 2 = .ok (.putfield 125, 3) := adX9_needs_0.2.2.1
theorem dX9_needs_5 : decode cX9_needs 5 = .ok (.iload_n 1, 1) := adX9_needs_0.2.2.2.1
theorem dX9_needs_6 : decode cX9_needs 6 = .ok (.invokestatic 430, 3) := adX9_needs_0.2.2.2.2.1
theorem dX9_needs_9 : decode cX9_needs 9 = .ok (.ifCond .eq 15, 3) := adX9_needs_0.2.2.2.2.2.1
theorem dX9_needs_12 : decode cX9_needs 12 = .ok (.iload_n 2, 1) := adX9_needs_0.2.2.2.2.2.2.1
theorem dX9_needs_13 : decode cX9_needs 13 = .ok (.i2l, 1) := adX9_needs_0.2.2.2.2.2.2.2
theorem adX9_needs_14 : (decode cX9_needs 14 = .ok (.lconst 0, 1)) ∧ (decode cX9_needs 15 = .ok (.ldc2_w 461, 3)) ∧ (decode cX9_needs 18 = .ok (.invokestatic 130, 3)) ∧ (decode cX9_needs 21 = .ok (.ifCond .ne 6, 3)) ∧ (decode cX9_needs 24 = .ok (.bipush (-2), 2)) ∧ (decode cX9_needs 26 = .ok (.ireturn, 1)) ∧ (decode cX9_needs 27 = .ok (.iconst 3, 1)) ∧ (decode cX9_needs 28 = .ok (.istore_n 3, 1)) := by decide +kernel
theorem dX9_needs_14 : decode cX9_needs 14 = .ok (.lconst 0, 1) := adX9_needs_14.1
theorem dX9_needs_15 : decode cX9_needs 15 = .ok (.ldc2_w 461, 3) := adX9_needs_14.2.1
theorem dX9_needs_18 : decode cX9_needs 18 = .ok (.invokestatic 130, 3) := adX9_needs_14.2.2.1
theorem dX9_needs_21 : decode cX9_needs 21 = .ok (.ifCond .ne 6, 3) := adX9_needs_14.2.2.2.1
theorem dX9_needs_24 : decode cX9_needs 24 = .ok (.bipush (-2), 2) := adX9_needs_14.2.2.2.2.1
theorem dX9_needs_26 : decode cX9_needs 26 = .ok (.ireturn, 1) := adX9_needs_14.2.2.2.2.2.1
theorem dX9_needs_27 : decode cX9_needs 27 = .ok (.iconst 3, 1) := adX9_needs_14.2.2.2.2.2.2.1
theorem dX9_needs_28 : decode cX9_needs 28 = .ok (.istore_n 3, 1) := adX9_needs_14.2.2.2.2.2.2.2
theorem adX9_needs_29 : (decode cX9_needs 29 = .ok (.iload_n 3, 1)) ∧ (decode cX9_needs 30 = .ok (.aload_n 0, 1)) ∧ (decode cX9_needs 31 = .ok (.getfield 89, 3)) ∧ (decode cX9_needs 34 = .ok (.iconst 0, 1)) ∧ (decode cX9_needs 35 = .ok (.iaload, 1)) ∧ (decode cX9_needs 36 = .ok (.if_icmp .gt 36, 3)) ∧ (decode cX9_needs 39 = .ok (.aload_n 0, 1)) ∧ (decode cX9_needs 40 = .ok (.iload_n 1, 1)) := by decide +kernel
theorem dX9_needs_29 : decode cX9_needs 29 = .ok (.iload_n 3, 1) := adX9_needs_29.1
theorem dX9_needs_30 : decode cX9_needs 30 = .ok (.aload_n 0, 1) := adX9_needs_29.2.1
theorem dX9_needs_31 : decode cX9_needs 31 = .ok (.getfield 89, 3) := adX9_needs_29.2.2.1
theorem dX9_needs_34 : decode cX9_needs 34 = .ok (.iconst 0, 1) := adX9_needs_29.2.2.2.1
theorem dX9_needs_35 : decode cX9_needs 35 = .ok (.iaload, 1) := adX9_needs_29.2.2.2.2.1
theorem dX9_needs_36 : decode cX9_needs 36 = .ok (.if_icmp .gt 36, 3) := adX9_needs_29.2.2.2.2.2.1
theorem dX9_needs_39 : decode cX9_needs 39 = .ok (.aload_n 0, 1) := adX9_needs_29.2.2.2.2.2.2.1
theorem dX9_needs_40 : decode cX9_needs 40 = .ok (.iload_n 1, 1) := adX9_needs_29.2.2.2.2.2.2.2
theorem adX9_needs_41 : (decode cX9_needs 41 = .ok (.iload_n 3, 1)) ∧ (decode cX9_needs 42 = .ok (.invokevirtual 457, 3)) ∧ (decode cX9_needs 45 = .ok (.lstore 4, 2)) ∧ (decode cX9_needs 47 = .ok (.lload 4, 2)) ∧ (decode cX9_needs 49 = .ok (.ldc2_w 408, 3)) ∧ (decode cX9_needs 52 = .ok (.lcmp, 1)) ∧ (decode cX9_needs 53 = .ok (.ifCond .eq 13, 3)) ∧ (decode cX9_needs 56 = .ok (.lload 4, 2)) := by decide +kernel
theorem dX9_needs_41 : decode cX9_needs 41 = .ok (.iload_n 3, 1) := adX9_needs_41.1
theorem dX9_needs_42 : decode cX9_needs 42 = .ok (.invokevirtual 457, 3) := adX9_needs_41.2.1
theorem dX9_needs_45 : decode cX9_needs 45 = .ok (.lstore 4, 2) := adX9_needs_41.2.2.1
theorem dX9_needs_47 : decode cX9_needs 47 = .ok (.lload 4, 2) := adX9_needs_41.2.2.2.1
theorem dX9_needs_49 : decode cX9_needs 49 = .ok (.ldc2_w 408, 3) := adX9_needs_41.2.2.2.2.1
theorem dX9_needs_52 : decode cX9_needs 52 = .ok (.lcmp, 1) := adX9_needs_41.2.2.2.2.2.1
theorem dX9_needs_53 : decode cX9_needs 53 = .ok (.ifCond .eq 13, 3) := adX9_needs_41.2.2.2.2.2.2.1
theorem dX9_needs_56 : decode cX9_needs 56 = .ok (.lload 4, 2) := adX9_needs_41.2.2.2.2.2.2.2
theorem adX9_needs_58 : (decode cX9_needs 58 = .ok (.iload_n 2, 1)) ∧ (decode cX9_needs 59 = .ok (.i2l, 1)) ∧ (decode cX9_needs 60 = .ok (.lcmp, 1)) ∧ (decode cX9_needs 61 = .ok (.ifCond .lt 5, 3)) ∧ (decode cX9_needs 64 = .ok (.iload_n 3, 1)) ∧ (decode cX9_needs 65 = .ok (.ireturn, 1)) ∧ (decode cX9_needs 66 = .ok (.iinc 3 1, 3)) ∧ (decode cX9_needs 69 = .ok (.goto (-40), 3)) := by decide +kernel
theorem dX9_needs_58 : decode cX9_needs 58 = .ok (.iload_n 2, 1) := adX9_needs_58.1
theorem dX9_needs_59 : decode cX9_needs 59 = .ok (.i2l, 1) := adX9_needs_58.2.1
theorem dX9_needs_60 : decode cX9_needs 60 = .ok (.lcmp, 1) := adX9_needs_58.2.2.1
theorem dX9_needs_61 : decode cX9_needs 61 = .ok (.ifCond .lt 5, 3) := adX9_needs_58.2.2.2.1
theorem dX9_needs_64 : decode cX9_needs 64 = .ok (.iload_n 3, 1) := adX9_needs_58.2.2.2.2.1
theorem dX9_needs_65 : decode cX9_needs 65 = .ok (.ireturn, 1) := adX9_needs_58.2.2.2.2.2.1
theorem dX9_needs_66 : decode cX9_needs 66 = .ok (.iinc 3 1, 3) := adX9_needs_58.2.2.2.2.2.2.1
theorem dX9_needs_69 : decode cX9_needs 69 = .ok (.goto (-40), 3) := adX9_needs_58.2.2.2.2.2.2.2
theorem adX9_needs_72 : (decode cX9_needs 72 = .ok (.iconst (-1), 1)) ∧ (decode cX9_needs 73 = .ok (.ireturn, 1)) := by decide +kernel
theorem dX9_needs_72 : decode cX9_needs 72 = .ok (.iconst (-1), 1) := adX9_needs_72.1
theorem dX9_needs_73 : decode cX9_needs 73 = .ok (.ireturn, 1) := adX9_needs_72.2
theorem adX9_leaves_0 : (decode cX9_leaves 0 = .ok (.lconst 0, 1)) ∧ (decode cX9_leaves 1 = .ok (.lstore_n 2, 1)) ∧ (decode cX9_leaves 2 = .ok (.lconst 0, 1)) ∧ (decode cX9_leaves 3 = .ok (.lstore 4, 2)) ∧ (decode cX9_leaves 5 = .ok (.lconst 0, 1)) ∧ (decode cX9_leaves 6 = .ok (.lstore 6, 2)) ∧ (decode cX9_leaves 8 = .ok (.iconst 0, 1)) ∧ (decode cX9_leaves 9 = .ok (.istore 8, 2)) := by decide +kernel
theorem dX9_leaves_0 : decode cX9_leaves 0 = .ok (.lconst 0, 1) := adX9_leaves_0.1
theorem dX9_leaves_1 : decode cX9_leaves 1 = .ok (.lstore_n 2, 1) := adX9_leaves_0.2.1
theorem dX9_leaves_2 : decode cX9_leaves 2 = .ok (.lconst 0, 1) := adX9_leaves_0.2.2.1
theorem dX9_leaves_3 : decode cX9_leaves 3 = .ok (.lstore 4, 2) := adX9_leaves_0.2.2.2.1
theorem dX9_leaves_5 : decode cX9_leaves 5 = .ok (.lconst 0, 1) := adX9_leaves_0.2.2.2.2.1
theorem dX9_leaves_6 : decode cX9_leaves 6 = .ok (.lstore 6, 2) := adX9_leaves_0.2.2.2.2.2.1
theorem dX9_leaves_8 : decode cX9_leaves 8 = .ok (.iconst 0, 1) := adX9_leaves_0.2.2.2.2.2.2.1
theorem dX9_leaves_9 : decode cX9_leaves 9 = .ok (.istore 8, 2) := adX9_leaves_0.2.2.2.2.2.2.2
theorem adX9_leaves_11 : (decode cX9_leaves 11 = .ok (.iload 8, 2)) ∧ (decode cX9_leaves 13 = .ok (.aload_n 0, 1)) ∧ (decode cX9_leaves 14 = .ok (.getfield 89, 3)) ∧ (decode cX9_leaves 17 = .ok (.iconst 0, 1)) ∧ (decode cX9_leaves 18 = .ok (.iaload, 1)) ∧ (decode cX9_leaves 19 = .ok (.if_icmp .ge 66, 3)) ∧ (decode cX9_leaves 22 = .ok (.aload_n 0, 1)) ∧ (decode cX9_leaves 23 = .ok (.getfield 101, 3)) := by decide +kernel
theorem dX9_leaves_11 : decode cX9_leaves 11 = .ok (.iload 8, 2) := adX9_leaves_11.1
theorem dX9_leaves_13 : decode cX9_leaves 13 = .ok (.aload_n 0, 1) := adX9_leaves_11.2.1
theorem dX9_leaves_14 : decode cX9_leaves 14 = .ok (.getfield 89, 3) := adX9_leaves_11.2.2.1
theorem dX9_leaves_17 : decode cX9_leaves 17 = .ok (.iconst 0, 1) := adX9_leaves_11.2.2.2.1
theorem dX9_leaves_18 : decode cX9_leaves 18 = .ok (.iaload, 1) := adX9_leaves_11.2.2.2.2.1
theorem dX9_leaves_19 : decode cX9_leaves 19 = .ok (.if_icmp .ge 66, 3) := adX9_leaves_11.2.2.2.2.2.1
theorem dX9_leaves_22 : decode cX9_leaves 22 = .ok (.aload_n 0, 1) := adX9_leaves_11.2.2.2.2.2.2.1
theorem dX9_leaves_23 : decode cX9_leaves 23 = .ok (.getfield 101, 3) := adX9_leaves_11.2.2.2.2.2.2.2
theorem adX9_leaves_26 : (decode cX9_leaves 26 = .ok (.iload 8, 2)) ∧ (decode cX9_leaves 28 = .ok (.iaload, 1)) ∧ (decode cX9_leaves 29 = .ok (.i2l, 1)) ∧ (decode cX9_leaves 30 = .ok (.iload_n 1, 1)) ∧ (decode cX9_leaves 31 = .ok (.i2l, 1)) ∧ (decode cX9_leaves 32 = .ok (.aload_n 0, 1)) ∧ (decode cX9_leaves 33 = .ok (.getfield 98, 3)) ∧ (decode cX9_leaves 36 = .ok (.iload 8, 2)) := by decide +kernel
theorem dX9_leaves_26 : decode cX9_leaves 26 = .ok (.iload 8, 2) := adX9_leaves_26.1
theorem dX9_leaves_28 : decode cX9_leaves 28 = .ok (.iaload, 1) := adX9_leaves_26.2.1
theorem dX9_leaves_29 : decode cX9_leaves 29 = .ok (.i2l, 1) := adX9_leaves_26.2.2.1
theorem dX9_leaves_30 : decode cX9_leaves 30 = .ok (.iload_n 1, 1) := adX9_leaves_26.2.2.2.1
theorem dX9_leaves_31 : decode cX9_leaves 31 = .ok (.i2l, 1) := adX9_leaves_26.2.2.2.2.1
theorem dX9_leaves_32 : decode cX9_leaves 32 = .ok (.aload_n 0, 1) := adX9_leaves_26.2.2.2.2.2.1
theorem dX9_leaves_33 : decode cX9_leaves 33 = .ok (.getfield 98, 3) := adX9_leaves_26.2.2.2.2.2.2.1
theorem dX9_leaves_36 : decode cX9_leaves 36 = .ok (.iload 8, 2) := adX9_leaves_26.2.2.2.2.2.2.2
theorem adX9_leaves_38 : (decode cX9_leaves 38 = .ok (.iaload, 1)) ∧ (decode cX9_leaves 39 = .ok (.i2l, 1)) ∧ (decode cX9_leaves 40 = .ok (.lmul, 1)) ∧ (decode cX9_leaves 41 = .ok (.lsub, 1)) ∧ (decode cX9_leaves 42 = .ok (.lstore 9, 2)) ∧ (decode cX9_leaves 44 = .ok (.lload 6, 2)) ∧ (decode cX9_leaves 46 = .ok (.lload 9, 2)) ∧ (decode cX9_leaves 48 = .ok (.lload 9, 2)) := by decide +kernel
theorem dX9_leaves_38 : decode cX9_leaves 38 = .ok (.iaload, 1) := adX9_leaves_38.1
theorem dX9_leaves_39 : decode cX9_leaves 39 = .ok (.i2l, 1) := adX9_leaves_38.2.1
theorem dX9_leaves_40 : decode cX9_leaves 40 = .ok (.lmul, 1) := adX9_leaves_38.2.2.1
theorem dX9_leaves_41 : decode cX9_leaves 41 = .ok (.lsub, 1) := adX9_leaves_38.2.2.2.1
theorem dX9_leaves_42 : decode cX9_leaves 42 = .ok (.lstore 9, 2) := adX9_leaves_38.2.2.2.2.1
theorem dX9_leaves_44 : decode cX9_leaves 44 = .ok (.lload 6, 2) := adX9_leaves_38.2.2.2.2.2.1
theorem dX9_leaves_46 : decode cX9_leaves 46 = .ok (.lload 9, 2) := adX9_leaves_38.2.2.2.2.2.2.1
theorem dX9_leaves_48 : decode cX9_leaves 48 = .ok (.lload 9, 2) := adX9_leaves_38.2.2.2.2.2.2.2
theorem adX9_leaves_50 : (decode cX9_leaves 50 = .ok (.lmul, 1)) ∧ (decode cX9_leaves 51 = .ok (.ladd, 1)) ∧ (decode cX9_leaves 52 = .ok (.lstore 6, 2)) ∧ (decode cX9_leaves 54 = .ok (.aload_n 0, 1)) ∧ (decode cX9_leaves 55 = .ok (.getfield 110, 3)) ∧ (decode cX9_leaves 58 = .ok (.iload 8, 2)) ∧ (decode cX9_leaves 60 = .ok (.baload, 1)) ∧ (decode cX9_leaves 61 = .ok (.ifCond .eq 11, 3)) := by decide +kernel
theorem dX9_leaves_50 : decode cX9_leaves 50 = .ok (.lmul, 1) := adX9_leaves_50.1
theorem dX9_leaves_51 : decode cX9_leaves 51 = .ok (.ladd, 1) := adX9_leaves_50.2.1
theorem dX9_leaves_52 : decode cX9_leaves 52 = .ok (.lstore 6, 2) := adX9_leaves_50.2.2.1
theorem dX9_leaves_54 : decode cX9_leaves 54 = .ok (.aload_n 0, 1) := adX9_leaves_50.2.2.2.1
theorem dX9_leaves_55 : decode cX9_leaves 55 = .ok (.getfield 110, 3) := adX9_leaves_50.2.2.2.2.1
theorem dX9_leaves_58 : decode cX9_leaves 58 = .ok (.iload 8, 2) := adX9_leaves_50.2.2.2.2.2.1
theorem dX9_leaves_60 : decode cX9_leaves 60 = .ok (.baload, 1) := adX9_leaves_50.2.2.2.2.2.2.1
theorem dX9_leaves_61 : decode cX9_leaves 61 = .ok (.ifCond .eq 11, 3) := adX9_leaves_50.2.2.2.2.2.2.2
theorem adX9_leaves_64 : (decode cX9_leaves 64 = .ok (.lload_n 2, 1)) ∧ (decode cX9_leaves 65 = .ok (.lload 9, 2)) ∧ (decode cX9_leaves 67 = .ok (.ladd, 1)) ∧ (decode cX9_leaves 68 = .ok (.lstore_n 2, 1)) ∧ (decode cX9_leaves 69 = .ok (.goto 10, 3)) ∧ (decode cX9_leaves 72 = .ok (.lload 4, 2)) ∧ (decode cX9_leaves 74 = .ok (.lload 9, 2)) ∧ (decode cX9_leaves 76 = .ok (.ladd, 1)) := by decide +kernel
theorem dX9_leaves_64 : decode cX9_leaves 64 = .ok (.lload_n 2, 1) := adX9_leaves_64.1
theorem dX9_leaves_65 : decode cX9_leaves 65 = .ok (.lload 9, 2) := adX9_leaves_64.2.1
theorem dX9_leaves_67 : decode cX9_leaves 67 = .ok (.ladd, 1) := adX9_leaves_64.2.2.1
theorem dX9_leaves_68 : decode cX9_leaves 68 = .ok (.lstore_n 2, 1) := adX9_leaves_64.2.2.2.1
theorem dX9_leaves_69 : decode cX9_leaves 69 = .ok (.goto 10, 3) := adX9_leaves_64.2.2.2.2.1
theorem dX9_leaves_72 : decode cX9_leaves 72 = .ok (.lload 4, 2) := adX9_leaves_64.2.2.2.2.2.1
theorem dX9_leaves_74 : decode cX9_leaves 74 = .ok (.lload 9, 2) := adX9_leaves_64.2.2.2.2.2.2.1
theorem dX9_leaves_76 : decode cX9_leaves 76 = .ok (.ladd, 1) := adX9_leaves_64.2.2.2.2.2.2.2
theorem adX9_leaves_77 : (decode cX9_leaves 77 = .ok (.lstore 4, 2)) ∧ (decode cX9_leaves 79 = .ok (.iinc 8 1, 3)) ∧ (decode cX9_leaves 82 = .ok (.goto (-71), 3)) ∧ (decode cX9_leaves 85 = .ok (.aload_n 0, 1)) ∧ (decode cX9_leaves 86 = .ok (.lload_n 2, 1)) ∧ (decode cX9_leaves 87 = .ok (.aload_n 0, 1)) ∧ (decode cX9_leaves 88 = .ok (.getfield 381, 3)) ∧ (decode cX9_leaves 91 = .ok (.lmul, 1)) := by decide +kernel
theorem dX9_leaves_77 : decode cX9_leaves 77 = .ok (.lstore 4, 2) := adX9_leaves_77.1
theorem dX9_leaves_79 : decode cX9_leaves 79 = .ok (.iinc 8 1, 3) := adX9_leaves_77.2.1
theorem dX9_leaves_82 : decode cX9_leaves 82 = .ok (.goto (-71), 3) := adX9_leaves_77.2.2.1
theorem dX9_leaves_85 : decode cX9_leaves 85 = .ok (.aload_n 0, 1) := adX9_leaves_77.2.2.2.1
theorem dX9_leaves_86 : decode cX9_leaves 86 = .ok (.lload_n 2, 1) := adX9_leaves_77.2.2.2.2.1
theorem dX9_leaves_87 : decode cX9_leaves 87 = .ok (.aload_n 0, 1) := adX9_leaves_77.2.2.2.2.2.1
theorem dX9_leaves_88 : decode cX9_leaves 88 = .ok (.getfield 381, 3) := adX9_leaves_77.2.2.2.2.2.2.1
theorem dX9_leaves_91 : decode cX9_leaves 91 = .ok (.lmul, 1) := adX9_leaves_77.2.2.2.2.2.2.2
theorem adX9_leaves_92 : (decode cX9_leaves 92 = .ok (.lload 4, 2)) ∧ (decode cX9_leaves 94 = .ok (.aload_n 0, 1)) ∧ (decode cX9_leaves 95 = .ok (.getfield 378, 3)) ∧ (decode cX9_leaves 98 = .ok (.lmul, 1)) ∧ (decode cX9_leaves 99 = .ok (.lsub, 1)) ∧ (decode cX9_leaves 100 = .ok (.putfield 463, 3)) ∧ (decode cX9_leaves 103 = .ok (.aload_n 0, 1)) ∧ (decode cX9_leaves 104 = .ok (.aload_n 0, 1)) := by decide +kernel
theorem dX9_leaves_92 : decode cX9_leaves 92 = .ok (.lload 4, 2) := adX9_leaves_92.1
theorem dX9_leaves_94 : decode cX9_leaves 94 = .ok (.aload_n 0, 1) := adX9_leaves_92.2.1
theorem dX9_leaves_95 : decode cX9_leaves 95 = .ok (.getfield 378, 3) := adX9_leaves_92.2.2.1
theorem dX9_leaves_98 : decode cX9_leaves 98 = .ok (.lmul, 1) := adX9_leaves_92.2.2.2.1
theorem dX9_leaves_99 : decode cX9_leaves 99 = .ok (.lsub, 1) := adX9_leaves_92.2.2.2.2.1
theorem dX9_leaves_100 : decode cX9_leaves 100 = .ok (.putfield 463, 3) := adX9_leaves_92.2.2.2.2.2.1
theorem dX9_leaves_103 : decode cX9_leaves 103 = .ok (.aload_n 0, 1) := adX9_leaves_92.2.2.2.2.2.2.1
theorem dX9_leaves_104 : decode cX9_leaves 104 = .ok (.aload_n 0, 1) := adX9_leaves_92.2.2.2.2.2.2.2
theorem adX9_leaves_105 : (decode cX9_leaves 105 = .ok (.getfield 378, 3)) ∧ (decode cX9_leaves 108 = .ok (.aload_n 0, 1)) ∧ (decode cX9_leaves 109 = .ok (.getfield 381, 3)) ∧ (decode cX9_leaves 112 = .ok (.lmul, 1)) ∧ (decode cX9_leaves 113 = .ok (.lload 6, 2)) ∧ (decode cX9_leaves 115 = .ok (.lmul, 1)) ∧ (decode cX9_leaves 116 = .ok (.lload_n 2, 1)) ∧ (decode cX9_leaves 117 = .ok (.lload_n 2, 1)) := by decide +kernel
theorem dX9_leaves_105 : decode cX9_leaves 105 = .ok (.getfield 378, 3) := adX9_leaves_105.1
theorem dX9_leaves_108 : decode cX9_leaves 108 = .ok (.aload_n 0, 1) := adX9_leaves_105.2.1
theorem dX9_leaves_109 : decode cX9_leaves 109 = .ok (.getfield 381, 3) := adX9_leaves_105.2.2.1
theorem dX9_leaves_112 : decode cX9_leaves 112 = .ok (.lmul, 1) := adX9_leaves_105.2.2.2.1
theorem dX9_leaves_113 : decode cX9_leaves 113 = .ok (.lload 6, 2) := adX9_leaves_105.2.2.2.2.1
theorem dX9_leaves_115 : decode cX9_leaves 115 = .ok (.lmul, 1) := adX9_leaves_105.2.2.2.2.2.1
theorem dX9_leaves_116 : decode cX9_leaves 116 = .ok (.lload_n 2, 1) := adX9_leaves_105.2.2.2.2.2.2.1
theorem dX9_leaves_117 : decode cX9_leaves 117 = .ok (.lload_n 2, 1) := adX9_leaves_105.2.2.2.2.2.2.2
theorem adX9_leaves_118 : (decode cX9_leaves 118 = .ok (.lmul, 1)) ∧ (decode cX9_leaves 119 = .ok (.aload_n 0, 1)) ∧ (decode cX9_leaves 120 = .ok (.getfield 381, 3)) ∧ (decode cX9_leaves 123 = .ok (.lmul, 1)) ∧ (decode cX9_leaves 124 = .ok (.lsub, 1)) ∧ (decode cX9_leaves 125 = .ok (.lload 4, 2)) ∧ (decode cX9_leaves 127 = .ok (.lload 4, 2)) ∧ (decode cX9_leaves 129 = .ok (.lmul, 1)) := by decide +kernel
theorem dX9_leaves_118 : decode cX9_leaves 118 = .ok (.lmul, 1) := adX9_leaves_118.1
theorem dX9_leaves_119 : decode cX9_leaves 119 = .ok (.aload_n 0, 1) := adX9_leaves_118.2.1
theorem dX9_leaves_120 : decode cX9_leaves 120 = .ok (.getfield 381, 3) := adX9_leaves_118.2.2.1
theorem dX9_leaves_123 : decode cX9_leaves 123 = .ok (.lmul, 1) := adX9_leaves_118.2.2.2.1
theorem dX9_leaves_124 : decode cX9_leaves 124 = .ok (.lsub, 1) := adX9_leaves_118.2.2.2.2.1
theorem dX9_leaves_125 : decode cX9_leaves 125 = .ok (.lload 4, 2) := adX9_leaves_118.2.2.2.2.2.1
theorem dX9_leaves_127 : decode cX9_leaves 127 = .ok (.lload 4, 2) := adX9_leaves_118.2.2.2.2.2.2.1
theorem dX9_leaves_129 : decode cX9_leaves 129 = .ok (.lmul, 1) := adX9_leaves_118.2.2.2.2.2.2.2
theorem adX9_leaves_130 : (decode cX9_leaves 130 = .ok (.aload_n 0, 1)) ∧ (decode cX9_leaves 131 = .ok (.getfield 378, 3)) ∧ (decode cX9_leaves 134 = .ok (.lmul, 1)) ∧ (decode cX9_leaves 135 = .ok (.lsub, 1)) ∧ (decode cX9_leaves 136 = .ok (.putfield 466, 3)) ∧ (decode cX9_leaves 139 = .ok (.return_, 1)) := by decide +kernel
theorem dX9_leaves_130 : decode cX9_leaves 130 = .ok (.aload_n 0, 1) := adX9_leaves_130.1
theorem dX9_leaves_131 : decode cX9_leaves 131 = .ok (.getfield 378, 3) := adX9_leaves_130.2.1
theorem dX9_leaves_134 : decode cX9_leaves 134 = .ok (.lmul, 1) := adX9_leaves_130.2.2.1
theorem dX9_leaves_135 : decode cX9_leaves 135 = .ok (.lsub, 1) := adX9_leaves_130.2.2.2.1
theorem dX9_leaves_136 : decode cX9_leaves 136 = .ok (.putfield 466, 3) := adX9_leaves_130.2.2.2.2.1
theorem dX9_leaves_139 : decode cX9_leaves 139 = .ok (.return_, 1) := adX9_leaves_130.2.2.2.2.2
theorem adX9_bound_0 : (decode cX9_bound 0 = .ok (.iload_n 1, 1)) ∧ (decode cX9_bound 1 = .ok (.i2l, 1)) ∧ (decode cX9_bound 2 = .ok (.aload_n 0, 1)) ∧ (decode cX9_bound 3 = .ok (.getfield 378, 3)) ∧ (decode cX9_bound 6 = .ok (.aload_n 0, 1)) ∧ (decode cX9_bound 7 = .ok (.getfield 381, 3)) ∧ (decode cX9_bound 10 = .ok (.ladd, 1)) ∧ (decode cX9_bound 11 = .ok (.lmul, 1)) := by decide +kernel
theorem dX9_bound_0 : decode cX9_bound 0 = .ok (.iload_n 1, 1) := adX9_bound_0.1
theorem dX9_bound_1 : decode cX9_bound 1 = .ok (.i2l, 1) := adX9_bound_0.2.1
theorem dX9_bound_2 : decode cX9_bound 2 = .ok (.aload_n 0, 1) := adX9_bound_0.2.2.1
theorem dX9_bound_3 : decode cX9_bound 3 = .ok (.getfield 378, 3) := adX9_bound_0.2.2.2.1
theorem dX9_bound_6 : decode cX9_bound 6 = .ok (.aload_n 0, 1) := adX9_bound_0.2.2.2.2.1
theorem dX9_bound_7 : decode cX9_bound 7 = .ok (.getfield 381, 3) := adX9_bound_0.2.2.2.2.2.1
theorem dX9_bound_10 : decode cX9_bound 10 = .ok (.ladd, 1) := adX9_bound_0.2.2.2.2.2.2.1
theorem dX9_bound_11 : decode cX9_bound 11 = .ok (.lmul, 1) := adX9_bound_0.2.2.2.2.2.2.2
theorem adX9_bound_12 : (decode cX9_bound 12 = .ok (.aload_n 0, 1)) ∧ (decode cX9_bound 13 = .ok (.getfield 466, 3)) ∧ (decode cX9_bound 16 = .ok (.lmul, 1)) ∧ (decode cX9_bound 17 = .ok (.aload_n 0, 1)) ∧ (decode cX9_bound 18 = .ok (.getfield 378, 3)) ∧ (decode cX9_bound 21 = .ok (.aload_n 0, 1)) ∧ (decode cX9_bound 22 = .ok (.getfield 381, 3)) ∧ (decode cX9_bound 25 = .ok (.ladd, 1)) := by decide +kernel
theorem dX9_bound_12 : decode cX9_bound 12 = .ok (.aload_n 0, 1) := adX9_bound_12.1
theorem dX9_bound_13 : decode cX9_bound 13 = .ok (.getfield 466, 3) := adX9_bound_12.2.1
theorem dX9_bound_16 : decode cX9_bound 16 = .ok (.lmul, 1) := adX9_bound_12.2.2.1
theorem dX9_bound_17 : decode cX9_bound 17 = .ok (.aload_n 0, 1) := adX9_bound_12.2.2.2.1
theorem dX9_bound_18 : decode cX9_bound 18 = .ok (.getfield 378, 3) := adX9_bound_12.2.2.2.2.1
theorem dX9_bound_21 : decode cX9_bound 21 = .ok (.aload_n 0, 1) := adX9_bound_12.2.2.2.2.2.1
theorem dX9_bound_22 : decode cX9_bound 22 = .ok (.getfield 381, 3) := adX9_bound_12.2.2.2.2.2.2.1
theorem dX9_bound_25 : decode cX9_bound 25 = .ok (.ladd, 1) := adX9_bound_12.2.2.2.2.2.2.2
theorem adX9_bound_26 : (decode cX9_bound 26 = .ok (.ldc2_w 455, 3)) ∧ (decode cX9_bound 29 = .ok (.lsub, 1)) ∧ (decode cX9_bound 30 = .ok (.ldiv, 1)) ∧ (decode cX9_bound 31 = .ok (.lreturn, 1)) := by decide +kernel
theorem dX9_bound_26 : decode cX9_bound 26 = .ok (.ldc2_w 455, 3) := adX9_bound_26.1
theorem dX9_bound_29 : decode cX9_bound 29 = .ok (.lsub, 1) := adX9_bound_26.2.1
theorem dX9_bound_30 : decode cX9_bound 30 = .ok (.ldiv, 1) := adX9_bound_26.2.2.1
theorem dX9_bound_31 : decode cX9_bound 31 = .ok (.lreturn, 1) := adX9_bound_26.2.2.2
set_option maxRecDepth 20000 in
theorem ggX9_spans_X9_gathers : GoodIn wsX9_spans wsX9_gathers := goodIn_r _ [8, 9, 10, 11, 12, 13, 14, 15, 16, 17, 18, 19, 20, 35, 36, 37, 38, 39, 40, 41, 42, 43, 44, 45, 46, 47, 48, 49, 50, 51, 52, 53, 54, 55, 56, 57, 58, 59, 60, 61, 62, 63, 64, 65, 66, 67, 68, 69, 70, 71, 72, 73, 74, 75, 76, 77, 78, 79, 80, 81, 82, 83, 84, 85, 86, 87, 88, 89, 90, 91, 92, 93, 94] (by decide +kernel) (by decide +kernel)
set_option maxRecDepth 20000 in
theorem gX9_spans_X9_gathers : GoodIn wsX9_spans (wsV RX9 413 RX9 yX9_gathers wsX9_gathers) := goodIn_app (goodIn_of _ (by decide +kernel)) ggX9_spans_X9_gathers
set_option maxRecDepth 20000 in
theorem ggX9_spans_X9_areBoth : GoodIn wsX9_spans wsX9_areBoth := goodIn_r _ [24, 9, 10, 35, 36, 37, 38, 39, 40, 41, 42, 43, 44, 45, 46, 47, 48, 49, 50, 51, 52, 53, 54, 55, 56, 57, 58, 59, 60, 61, 62, 63, 64, 65, 66, 67, 68, 69, 70, 71, 72, 73, 74, 75, 76, 77, 78, 79, 80, 81, 82, 83, 84, 85, 86, 87, 88, 89, 90, 91, 92, 93, 94] (by decide +kernel) (by decide +kernel)
set_option maxRecDepth 20000 in
theorem gX9_spans_X9_areBoth : GoodIn wsX9_spans (wsV RX9 424 RX9 yX9_areBoth wsX9_areBoth) := goodIn_app (goodIn_of _ (by decide +kernel)) ggX9_spans_X9_areBoth
set_option maxRecDepth 20000 in
theorem ggX9_spans_X9_leaves : GoodIn wsX9_spans wsX9_leaves := goodIn_r _ [28, 1, 19, 18, 20, 10, 9, 3, 29, 35, 36, 37, 38, 39, 40, 41, 42, 43, 44, 45, 46, 47, 48, 49, 50, 51, 52, 53, 54, 55, 56, 57, 58, 59, 60, 61, 62, 63, 64, 65, 66, 67, 68, 69, 70, 71, 72, 73, 74, 75, 76, 77, 78, 79, 80, 81, 82, 83, 84, 85, 86, 87, 88, 89, 90, 91, 92, 93, 94] (by decide +kernel) (by decide +kernel)
set_option maxRecDepth 20000 in
theorem gX9_spans_X9_leaves : GoodIn wsX9_spans (wsV RX9 469 RX9 yX9_leaves wsX9_leaves) := goodIn_app (goodIn_of _ (by decide +kernel)) ggX9_spans_X9_leaves
set_option maxRecDepth 20000 in
theorem ggX9_spans_X9_bound : GoodIn wsX9_spans wsX9_bound := goodIn_r _ [33, 9, 10, 29, 34, 35, 36, 37, 38, 39, 40, 41, 42, 43, 44, 45, 46, 47, 48, 49, 50, 51, 52, 53, 54, 55, 56, 57, 58, 59, 60, 61, 62, 63, 64, 65, 66, 67, 68, 69, 70, 71, 72, 73, 74, 75, 76, 77, 78, 79, 80, 81, 82, 83, 84, 85, 86, 87, 88, 89, 90, 91, 92, 93, 94] (by decide +kernel) (by decide +kernel)
set_option maxRecDepth 20000 in
theorem gX9_spans_X9_bound : GoodIn wsX9_spans (wsV RX9 472 RX9 yX9_bound wsX9_bound) := goodIn_app (goodIn_of _ (by decide +kernel)) ggX9_spans_X9_bound
theorem adX9_spans_0 : (decode cX9_spans 0 = .ok (.aload_n 0, 1)) ∧ (decode cX9_spans 1 = .ok (.invokevirtual 413, 3)) ∧ (decode cX9_spans 4 = .ok (.aload_n 0, 1)) ∧ (decode cX9_spans 5 = .ok (.invokevirtual 424, 3)) ∧ (decode cX9_spans 8 = .ok (.ifCond .eq 13, 3)) ∧ (decode cX9_spans 11 = .ok (.aload_n 0, 1)) ∧ (decode cX9_spans 12 = .ok (.getfield 89, 3)) ∧ (decode cX9_spans 15 = .ok (.iconst 0, 1)) := by decide +kernel
theorem dX9_spans_0 : decode cX9_spans 0 = .ok (.aload_n 0, 1) := adX9_spans_0.1
theorem dX9_spans_1 : decode cX9_spans 1 = .ok (.invokevirtual 413, 3) := adX9_spans_0.2.1
theorem dX9_spans_4 : decode cX9_spans 4 = .ok (.aload_n 0, 1) := adX9_spans_0.2.2.1
theorem dX9_spans_5 : decode cX9_spans 5 = .ok (.invokevirtual 424, 3) := adX9_spans_0.2.2.2.1
theorem dX9_spans_8 : decode cX9_spans 8 = .ok (.ifCond .eq 13, 3) := adX9_spans_0.2.2.2.2.1
theorem dX9_spans_11 : decode cX9_spans 11 = .ok (.aload_n 0, 1) := adX9_spans_0.2.2.2.2.2.1
theorem dX9_spans_12 : decode cX9_spans 12 = .ok (.getfield 89, 3) := adX9_spans_0.2.2.2.2.2.2.1
theorem dX9_spans_15 : decode cX9_spans 15 = .ok (.iconst 0, 1) := adX9_spans_0.2.2.2.2.2.2.2
theorem adX9_spans_16 : (decode cX9_spans 16 = .ok (.iaload, 1)) ∧ (decode cX9_spans 17 = .ok (.iconst 3, 1)) ∧ (decode cX9_spans 18 = .ok (.if_icmp .ge 5, 3)) ∧ (decode cX9_spans 21 = .ok (.iconst 0, 1)) ∧ (decode cX9_spans 22 = .ok (.ireturn, 1)) ∧ (decode cX9_spans 23 = .ok (.bipush (-99), 2)) ∧ (decode cX9_spans 25 = .ok (.istore_n 2, 1)) ∧ (decode cX9_spans 26 = .ok (.iload_n 2, 1)) := by decide +kernel
theorem dX9_spans_16 : decode cX9_spans 16 = .ok (.iaload, 1) := adX9_spans_16.1
theorem dX9_spans_17 : decode cX9_spans 17 = .ok (.iconst 3, 1) := adX9_spans_16.2.1
theorem dX9_spans_18 : decode cX9_spans 18 = .ok (.if_icmp .ge 5, 3) := adX9_spans_16.2.2.1
theorem dX9_spans_21 : decode cX9_spans 21 = .ok (.iconst 0, 1) := adX9_spans_16.2.2.2.1
theorem dX9_spans_22 : decode cX9_spans 22 = .ok (.ireturn, 1) := adX9_spans_16.2.2.2.2.1
theorem dX9_spans_23 : decode cX9_spans 23 = .ok (.bipush (-99), 2) := adX9_spans_16.2.2.2.2.2.1
theorem dX9_spans_25 : decode cX9_spans 25 = .ok (.istore_n 2, 1) := adX9_spans_16.2.2.2.2.2.2.1
theorem dX9_spans_26 : decode cX9_spans 26 = .ok (.iload_n 2, 1) := adX9_spans_16.2.2.2.2.2.2.2
theorem adX9_spans_27 : (decode cX9_spans 27 = .ok (.bipush 99, 2)) ∧ (decode cX9_spans 29 = .ok (.if_icmp .gt 46, 3)) ∧ (decode cX9_spans 32 = .ok (.aload_n 0, 1)) ∧ (decode cX9_spans 33 = .ok (.iload_n 2, 1)) ∧ (decode cX9_spans 34 = .ok (.invokevirtual 469, 3)) ∧ (decode cX9_spans 37 = .ok (.aload_n 0, 1)) ∧ (decode cX9_spans 38 = .ok (.getfield 122, 3)) ∧ (decode cX9_spans 41 = .ok (.bipush 99, 2)) := by decide +kernel
theorem dX9_spans_27 : decode cX9_spans 27 = .ok (.bipush 99, 2) := adX9_spans_27.1
theorem dX9_spans_29 : decode cX9_spans 29 = .ok (.if_icmp .gt 46, 3) := adX9_spans_27.2.1
theorem dX9_spans_32 : decode cX9_spans 32 = .ok (.aload_n 0, 1) := adX9_spans_27.2.2.1
theorem dX9_spans_33 : decode cX9_spans 33 = .ok (.iload_n 2, 1) := adX9_spans_27.2.2.2.1
theorem dX9_spans_34 : decode cX9_spans 34 = .ok (.invokevirtual 469, 3) := adX9_spans_27.2.2.2.2.1
theorem dX9_spans_37 : decode cX9_spans 37 = .ok (.aload_n 0, 1) := adX9_spans_27.2.2.2.2.2.1
theorem dX9_spans_38 : decode cX9_spans 38 = .ok (.getfield 122, 3) := adX9_spans_27.2.2.2.2.2.2.1
theorem dX9_spans_41 : decode cX9_spans 41 = .ok (.bipush 99, 2) := adX9_spans_27.2.2.2.2.2.2.2
theorem adX9_spans_43 : (decode cX9_spans 43 = .ok (.iload_n 2, 1)) ∧ (decode cX9_spans 44 = .ok (.iadd, 1)) ∧ (decode cX9_spans 45 = .ok (.aload_n 0, 1)) ∧ (decode cX9_spans 46 = .ok (.getfield 463, 3)) ∧ (decode cX9_spans 49 = .ok (.aload_n 0, 1)) ∧ (decode cX9_spans 50 = .ok (.getfield 463, 3)) ∧ (decode cX9_spans 53 = .ok (.lmul, 1)) ∧ (decode cX9_spans 54 = .ok (.aload_n 0, 1)) := by decide +kernel
theorem dX9_spans_43 : decode cX9_spans 43 = .ok (.iload_n 2, 1) := adX9_spans_43.1
theorem dX9_spans_44 : decode cX9_spans 44 = .ok (.iadd, 1) := adX9_spans_43.2.1
theorem dX9_spans_45 : decode cX9_spans 45 = .ok (.aload_n 0, 1) := adX9_spans_43.2.2.1
theorem dX9_spans_46 : decode cX9_spans 46 = .ok (.getfield 463, 3) := adX9_spans_43.2.2.2.1
theorem dX9_spans_49 : decode cX9_spans 49 = .ok (.aload_n 0, 1) := adX9_spans_43.2.2.2.2.1
theorem dX9_spans_50 : decode cX9_spans 50 = .ok (.getfield 463, 3) := adX9_spans_43.2.2.2.2.2.1
theorem dX9_spans_53 : decode cX9_spans 53 = .ok (.lmul, 1) := adX9_spans_43.2.2.2.2.2.2.1
theorem dX9_spans_54 : decode cX9_spans 54 = .ok (.aload_n 0, 1) := adX9_spans_43.2.2.2.2.2.2.2
theorem adX9_spans_55 : (decode cX9_spans 55 = .ok (.iload_n 1, 1)) ∧ (decode cX9_spans 56 = .ok (.invokevirtual 472, 3)) ∧ (decode cX9_spans 59 = .ok (.lcmp, 1)) ∧ (decode cX9_spans 60 = .ok (.ifCond .gt 7, 3)) ∧ (decode cX9_spans 63 = .ok (.iconst 1, 1)) ∧ (decode cX9_spans 64 = .ok (.goto 4, 3)) ∧ (decode cX9_spans 67 = .ok (.iconst 0, 1)) ∧ (decode cX9_spans 68 = .ok (.bastore, 1)) := by decide +kernel
theorem dX9_spans_55 : decode cX9_spans 55 = .ok (.iload_n 1, 1) := adX9_spans_55.1
theorem dX9_spans_56 : decode cX9_spans 56 = .ok (.invokevirtual 472, 3) := adX9_spans_55.2.1
theorem dX9_spans_59 : decode cX9_spans 59 = .ok (.lcmp, 1) := adX9_spans_55.2.2.1
theorem dX9_spans_60 : decode cX9_spans 60 = .ok (.ifCond .gt 7, 3) := adX9_spans_55.2.2.2.1
theorem dX9_spans_63 : decode cX9_spans 63 = .ok (.iconst 1, 1) := adX9_spans_55.2.2.2.2.1
theorem dX9_spans_64 : decode cX9_spans 64 = .ok (.goto 4, 3) := adX9_spans_55.2.2.2.2.2.1
theorem dX9_spans_67 : decode cX9_spans 67 = .ok (.iconst 0, 1) := adX9_spans_55.2.2.2.2.2.2.1
theorem dX9_spans_68 : decode cX9_spans 68 = .ok (.bastore, 1) := adX9_spans_55.2.2.2.2.2.2.2
theorem adX9_spans_69 : (decode cX9_spans 69 = .ok (.iinc 2 1, 3)) ∧ (decode cX9_spans 72 = .ok (.goto (-46), 3)) ∧ (decode cX9_spans 75 = .ok (.iconst 1, 1)) ∧ (decode cX9_spans 76 = .ok (.ireturn, 1)) := by decide +kernel
theorem dX9_spans_69 : decode cX9_spans 69 = .ok (.iinc 2 1, 3) := adX9_spans_69.1
theorem dX9_spans_72 : decode cX9_spans 72 = .ok (.goto (-46), 3) := adX9_spans_69.2.1
theorem dX9_spans_75 : decode cX9_spans 75 = .ok (.iconst 1, 1) := adX9_spans_69.2.2.1
theorem dX9_spans_76 : decode cX9_spans 76 = .ok (.ireturn, 1) := adX9_spans_69.2.2.2
set_option maxRecDepth 20000 in
theorem ggX9_usuals_X9_byMoved : GoodIn wsX9_usuals wsX9_byMoved := goodIn_r _ [12, 13, 14, 15, 16, 17, 18, 19, 20, 21, 11, 22, 23, 24, 25, 26, 27, 28, 29, 30, 31, 32, 33, 34, 35, 36, 1, 3, 37, 38, 39, 40, 41, 55, 56, 57, 58, 59, 60, 61, 62, 63, 64, 65, 66, 67, 68, 69, 70, 71, 72, 73, 74, 75, 76, 77, 78, 79, 80, 81, 82, 83, 84, 85, 86, 87, 88, 89, 90, 91, 92, 93, 94, 95, 96, 97, 98, 99, 100, 101, 102, 103, 104, 105, 106, 107, 108, 109, 110, 111, 112, 113, 114] (by decide +kernel) (by decide +kernel)
set_option maxRecDepth 20000 in
theorem gX9_usuals_X9_byMoved : GoodIn wsX9_usuals (wsV RX9 433 RX9 yX9_byMoved wsX9_byMoved) := goodIn_app (goodIn_of _ (by decide +kernel)) ggX9_usuals_X9_byMoved
set_option maxRecDepth 20000 in
theorem ggX9_usuals_X9_in : GoodIn wsX9_usuals wsX9_in := goodIn_r _ [44] (by decide +kernel) (by decide +kernel)
set_option maxRecDepth 20000 in
theorem gX9_usuals_X9_in : GoodIn wsX9_usuals (va_wsS RX9 130 yX9_in wsX9_in) := goodIn_app (goodIn_of _ (by decide +kernel)) ggX9_usuals_X9_in
set_option maxRecDepth 20000 in
theorem ggX9_usuals_X9_leaves : GoodIn wsX9_usuals wsX9_leaves := goodIn_r _ [48, 2, 27, 26, 28, 14, 16, 7, 49, 55, 56, 57, 58, 59, 60, 61, 62, 63, 64, 65, 66, 67, 68, 69, 70, 71, 72, 73, 74, 75, 76, 77, 78, 79, 80, 81, 82, 83, 84, 85, 86, 87, 88, 89, 90, 91, 92, 93, 94, 95, 96, 97, 98, 99, 100, 101, 102, 103, 104, 105, 106, 107, 108, 109, 110, 111, 112, 113, 114] (by decide +kernel) (by decide +kernel)
set_option maxRecDepth 20000 in
theorem gX9_usuals_X9_leaves : GoodIn wsX9_usuals (wsV RX9 469 RX9 yX9_leaves wsX9_leaves) := goodIn_app (goodIn_of _ (by decide +kernel)) ggX9_usuals_X9_leaves
set_option maxRecDepth 20000 in
theorem ggX9_usuals_X9_bound : GoodIn wsX9_usuals wsX9_bound := goodIn_r _ [53, 16, 14, 49, 54, 55, 56, 57, 58, 59, 60, 61, 62, 63, 64, 65, 66, 67, 68, 69, 70, 71, 72, 73, 74, 75, 76, 77, 78, 79, 80, 81, 82, 83, 84, 85, 86, 87, 88, 89, 90, 91, 92, 93, 94, 95, 96, 97, 98, 99, 100, 101, 102, 103, 104, 105, 106, 107, 108, 109, 110, 111, 112, 113, 114] (by decide +kernel) (by decide +kernel)
set_option maxRecDepth 20000 in
theorem gX9_usuals_X9_bound : GoodIn wsX9_usuals (wsV RX9 472 RX9 yX9_bound wsX9_bound) := goodIn_app (goodIn_of _ (by decide +kernel)) ggX9_usuals_X9_bound
theorem adX9_usuals_0 : (decode cX9_usuals 0 = .ok (.aload_n 0, 1)) ∧ (decode cX9_usuals 1 = .ok (.invokevirtual 433, 3)) ∧ (decode cX9_usuals 4 = .ok (.lstore_n 2, 1)) ∧ (decode cX9_usuals 5 = .ok (.aload_n 0, 1)) := by decide +kernel
theorem dX9_usuals_0 : decode cX9_usuals 0 = .ok (.aload_n 0, 1) := adX9_usuals_0.1
theorem dX9_usuals_1 : decode cX9_usuals 1 = .ok (.invokevirtual 433, 3) := adX9_usuals_0.2.1
theorem dX9_usuals_4 : decode cX9_usuals 4 = .ok (.lstore_n 2, 1) := adX9_usuals_0.2.2.1
theorem dX9_usuals_5 : decode cX9_usuals 5 = .ok (.aload_n 0, 1) := adX9_usuals_0.2.2.2
