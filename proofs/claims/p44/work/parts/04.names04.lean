theorem bnames04cX9_sheet_0 : ((dk_l cX9_sheet).drop 0).take 19 = [42, 3, 181, 0, 125, 42, 27, 133, 28, 133, 29, 133, 21, 4, 133, 182, 1, 100, 172] := by decide +kernel
theorem dX9_sheet_8 : decode cX9_sheet 8 = .ok (.iload_n 2, 1) := dk_28 (c := cX9_sheet) (pc := 8) (dk_at bnames04cX9_sheet_0 8)
theorem dX9_sheet_9 : decode cX9_sheet 9 = .ok (.i2l, 1) := dk_133 (c := cX9_sheet) (pc := 9) (dk_at bnames04cX9_sheet_0 9)
theorem dX9_sheet_10 : decode cX9_sheet 10 = .ok (.iload_n 3, 1) := dk_29 (c := cX9_sheet) (pc := 10) (dk_at bnames04cX9_sheet_0 10)
theorem dX9_sheet_11 : decode cX9_sheet 11 = .ok (.i2l, 1) := dk_133 (c := cX9_sheet) (pc := 11) (dk_at bnames04cX9_sheet_0 11)
theorem dX9_sheet_12 : decode cX9_sheet 12 = .ok (.iload 4, 2) := dk_21 (c := cX9_sheet) (pc := 12) (a := 4) (dk_at bnames04cX9_sheet_0 12) rfl
theorem dX9_sheet_14 : decode cX9_sheet 14 = .ok (.i2l, 1) := dk_133 (c := cX9_sheet) (pc := 14) (dk_at bnames04cX9_sheet_0 14)
theorem dX9_sheet_15 : decode cX9_sheet 15 = .ok (.invokevirtual 356, 3) := dk_182 (c := cX9_sheet) (pc := 15) (a := 1) (b := 100) (dk_at bnames04cX9_sheet_0 15) rfl
theorem dX9_sheet_18 : decode cX9_sheet 18 = .ok (.ireturn, 1) := dk_172 (c := cX9_sheet) (pc := 18) (dk_at bnames04cX9_sheet_0 18)
set_option maxRecDepth 20000 in
theorem ggX9_sheets_X9_isSlot : GoodIn wsX9_sheets wsX9_isSlot := goodIn_r _ [8, 9, 10, 11, 7, 12] rfl (by decide +kernel)
set_option maxRecDepth 20000 in
theorem gX9_sheets_X9_isSlot : GoodIn wsX9_sheets (va_wsS RX9 134 yX9_isSlot wsX9_isSlot) := goodIn_app (goodIn_r _ [5, 6, 7] rfl (by decide +kernel)) ggX9_sheets_X9_isSlot
set_option maxRecDepth 20000 in
theorem ggX9_sheets_X9_tells : GoodIn wsX9_sheets wsX9_tells := goodIn_r _ [16, 17, 18, 19, 20, 21, 22, 23, 24, 25, 26, 27, 10, 11, 7, 12, 28, 29, 30, 31, 32, 33, 34, 35, 36, 37, 38, 39, 40, 41, 42, 43, 44, 45, 46, 47, 48, 49, 50, 51, 52, 53, 54, 55, 56, 57, 58, 59, 60, 61, 62, 63, 64, 65, 66, 67, 68, 69, 70, 71, 72, 73, 74, 75, 76, 77, 78, 79, 80, 81, 82, 83, 84, 85, 86, 87] rfl (by decide +kernel)
set_option maxRecDepth 20000 in
theorem gX9_sheets_X9_tells : GoodIn wsX9_sheets (wsV RX9 356 RX9 yX9_tells wsX9_tells) := goodIn_app (goodIn_r _ [13, 14, 15, 7] rfl (by decide +kernel)) ggX9_sheets_X9_tells
theorem bnames04cX9_sheets_0 : ((dk_l cX9_sheets).drop 0).take 52 = [42, 3, 181, 0, 125, 27, 184, 0, 134, 154, 0, 6, 16, 254, 172, 42, 180, 0, 7, 27, 46, 2, 160, 0, 6, 16, 250, 172, 3, 61, 16, 60, 27, 104, 62, 7, 28, 104, 6, 96, 42, 180, 0, 13, 27, 46, 162, 0, 51, 42, 42, 180] := by decide +kernel
theorem dX9_sheets_0 : decode cX9_sheets 0 = .ok (.aload_n 0, 1) := dk_42 (c := cX9_sheets) (pc := 0) (dk_at bnames04cX9_sheets_0 0)
theorem dX9_sheets_1 : decode cX9_sheets 1 = .ok (.iconst 0, 1) := dk_3 (c := cX9_sheets) (pc := 1) (dk_at bnames04cX9_sheets_0 1)
theorem dX9_sheets_2 : decode cX9_sheets 2 = .ok (.putfield 125, 3) := dk_181 (c := cX9_sheets) (pc := 2) (a := 0) (b := 125) (dk_at bnames04cX9_sheets_0 2) rfl
theorem dX9_sheets_5 : decode cX9_sheets 5 = .ok (.iload_n 1, 1) := dk_27 (c := cX9_sheets) (pc := 5) (dk_at bnames04cX9_sheets_0 5)
theorem dX9_sheets_6 : decode cX9_sheets 6 = .ok (.invokestatic 134, 3) := dk_184 (c := cX9_sheets) (pc := 6) (a := 0) (b := 134) (dk_at bnames04cX9_sheets_0 6) rfl
theorem dX9_sheets_9 : decode cX9_sheets 9 = .ok (.ifCond .ne 6, 3) := dk_154 (c := cX9_sheets) (pc := 9) (a := 0) (b := 6) (dk_at bnames04cX9_sheets_0 9) (by decide)
theorem dX9_sheets_12 : decode cX9_sheets 12 = .ok (.bipush (-2), 2) := dk_16 (c := cX9_sheets) (pc := 12) (a := 254) (dk_at bnames04cX9_sheets_0 12) (by decide)
theorem dX9_sheets_14 : decode cX9_sheets 14 = .ok (.ireturn, 1) := dk_172 (c := cX9_sheets) (pc := 14) (dk_at bnames04cX9_sheets_0 14)
theorem dX9_sheets_15 : decode cX9_sheets 15 = .ok (.aload_n 0, 1) := dk_42 (c := cX9_sheets) (pc := 15) (dk_at bnames04cX9_sheets_0 15)
theorem dX9_sheets_16 : decode cX9_sheets 16 = .ok (.getfield 7, 3) := dk_180 (c := cX9_sheets) (pc := 16) (a := 0) (b := 7) (dk_at bnames04cX9_sheets_0 16) rfl
theorem dX9_sheets_19 : decode cX9_sheets 19 = .ok (.iload_n 1, 1) := dk_27 (c := cX9_sheets) (pc := 19) (dk_at bnames04cX9_sheets_0 19)
theorem dX9_sheets_20 : decode cX9_sheets 20 = .ok (.iaload, 1) := dk_46 (c := cX9_sheets) (pc := 20) (dk_at bnames04cX9_sheets_0 20)
theorem dX9_sheets_21 : decode cX9_sheets 21 = .ok (.iconst (-1), 1) := dk_2 (c := cX9_sheets) (pc := 21) (dk_at bnames04cX9_sheets_0 21)
theorem dX9_sheets_22 : decode cX9_sheets 22 = .ok (.if_icmp .ne 6, 3) := dk_160 (c := cX9_sheets) (pc := 22) (a := 0) (b := 6) (dk_at bnames04cX9_sheets_0 22) (by decide)
theorem dX9_sheets_25 : decode cX9_sheets 25 = .ok (.bipush (-6), 2) := dk_16 (c := cX9_sheets) (pc := 25) (a := 250) (dk_at bnames04cX9_sheets_0 25) (by decide)
theorem dX9_sheets_27 : decode cX9_sheets 27 = .ok (.ireturn, 1) := dk_172 (c := cX9_sheets) (pc := 27) (dk_at bnames04cX9_sheets_0 27)
theorem dX9_sheets_28 : decode cX9_sheets 28 = .ok (.iconst 0, 1) := dk_3 (c := cX9_sheets) (pc := 28) (dk_at bnames04cX9_sheets_0 28)
theorem dX9_sheets_29 : decode cX9_sheets 29 = .ok (.istore_n 2, 1) := dk_61 (c := cX9_sheets) (pc := 29) (dk_at bnames04cX9_sheets_0 29)
theorem dX9_sheets_30 : decode cX9_sheets 30 = .ok (.bipush 60, 2) := dk_16 (c := cX9_sheets) (pc := 30) (a := 60) (dk_at bnames04cX9_sheets_0 30) (by decide)
theorem dX9_sheets_32 : decode cX9_sheets 32 = .ok (.iload_n 1, 1) := dk_27 (c := cX9_sheets) (pc := 32) (dk_at bnames04cX9_sheets_0 32)
theorem dX9_sheets_33 : decode cX9_sheets 33 = .ok (.imul, 1) := dk_104 (c := cX9_sheets) (pc := 33) (dk_at bnames04cX9_sheets_0 33)
theorem dX9_sheets_34 : decode cX9_sheets 34 = .ok (.istore_n 3, 1) := dk_62 (c := cX9_sheets) (pc := 34) (dk_at bnames04cX9_sheets_0 34)
theorem dX9_sheets_35 : decode cX9_sheets 35 = .ok (.iconst 4, 1) := dk_7 (c := cX9_sheets) (pc := 35) (dk_at bnames04cX9_sheets_0 35)
theorem dX9_sheets_36 : decode cX9_sheets 36 = .ok (.iload_n 2, 1) := dk_28 (c := cX9_sheets) (pc := 36) (dk_at bnames04cX9_sheets_0 36)
theorem dX9_sheets_37 : decode cX9_sheets 37 = .ok (.imul, 1) := dk_104 (c := cX9_sheets) (pc := 37) (dk_at bnames04cX9_sheets_0 37)
theorem dX9_sheets_38 : decode cX9_sheets 38 = .ok (.iconst 3, 1) := dk_6 (c := cX9_sheets) (pc := 38) (dk_at bnames04cX9_sheets_0 38)
theorem dX9_sheets_39 : decode cX9_sheets 39 = .ok (.iadd, 1) := dk_96 (c := cX9_sheets) (pc := 39) (dk_at bnames04cX9_sheets_0 39)
theorem dX9_sheets_40 : decode cX9_sheets 40 = .ok (.aload_n 0, 1) := dk_42 (c := cX9_sheets) (pc := 40) (dk_at bnames04cX9_sheets_0 40)
theorem dX9_sheets_41 : decode cX9_sheets 41 = .ok (.getfield 13, 3) := dk_180 (c := cX9_sheets) (pc := 41) (a := 0) (b := 13) (dk_at bnames04cX9_sheets_0 41) rfl
theorem dX9_sheets_44 : decode cX9_sheets 44 = .ok (.iload_n 1, 1) := dk_27 (c := cX9_sheets) (pc := 44) (dk_at bnames04cX9_sheets_0 44)
theorem dX9_sheets_45 : decode cX9_sheets 45 = .ok (.iaload, 1) := dk_46 (c := cX9_sheets) (pc := 45) (dk_at bnames04cX9_sheets_0 45)
theorem dX9_sheets_46 : decode cX9_sheets 46 = .ok (.if_icmp .ge 51, 3) := dk_162 (c := cX9_sheets) (pc := 46) (a := 0) (b := 51) (dk_at bnames04cX9_sheets_0 46) (by decide)
theorem bnames04cX9_sheets_48 : ((dk_l cX9_sheets).drop 48).take 51 = [51, 42, 42, 180, 0, 16, 29, 47, 42, 180, 0, 16, 29, 4, 96, 47, 42, 180, 0, 16, 29, 5, 96, 47, 42, 180, 0, 16, 29, 6, 96, 47, 182, 1, 100, 156, 0, 5, 28, 172, 132, 2, 1, 132, 3, 4, 167, 255, 197, 28, 172] := by decide +kernel
theorem dX9_sheets_49 : decode cX9_sheets 49 = .ok (.aload_n 0, 1) := dk_42 (c := cX9_sheets) (pc := 49) (dk_at bnames04cX9_sheets_48 1)
theorem dX9_sheets_50 : decode cX9_sheets 50 = .ok (.aload_n 0, 1) := dk_42 (c := cX9_sheets) (pc := 50) (dk_at bnames04cX9_sheets_48 2)
theorem dX9_sheets_51 : decode cX9_sheets 51 = .ok (.getfield 16, 3) := dk_180 (c := cX9_sheets) (pc := 51) (a := 0) (b := 16) (dk_at bnames04cX9_sheets_48 3) rfl
theorem dX9_sheets_54 : decode cX9_sheets 54 = .ok (.iload_n 3, 1) := dk_29 (c := cX9_sheets) (pc := 54) (dk_at bnames04cX9_sheets_48 6)
theorem dX9_sheets_55 : decode cX9_sheets 55 = .ok (.laload, 1) := dk_47 (c := cX9_sheets) (pc := 55) (dk_at bnames04cX9_sheets_48 7)
theorem dX9_sheets_56 : decode cX9_sheets 56 = .ok (.aload_n 0, 1) := dk_42 (c := cX9_sheets) (pc := 56) (dk_at bnames04cX9_sheets_48 8)
theorem dX9_sheets_57 : decode cX9_sheets 57 = .ok (.getfield 16, 3) := dk_180 (c := cX9_sheets) (pc := 57) (a := 0) (b := 16) (dk_at bnames04cX9_sheets_48 9) rfl
theorem dX9_sheets_60 : decode cX9_sheets 60 = .ok (.iload_n 3, 1) := dk_29 (c := cX9_sheets) (pc := 60) (dk_at bnames04cX9_sheets_48 12)
theorem dX9_sheets_61 : decode cX9_sheets 61 = .ok (.iconst 1, 1) := dk_4 (c := cX9_sheets) (pc := 61) (dk_at bnames04cX9_sheets_48 13)
theorem dX9_sheets_62 : decode cX9_sheets 62 = .ok (.iadd, 1) := dk_96 (c := cX9_sheets) (pc := 62) (dk_at bnames04cX9_sheets_48 14)
theorem dX9_sheets_63 : decode cX9_sheets 63 = .ok (.laload, 1) := dk_47 (c := cX9_sheets) (pc := 63) (dk_at bnames04cX9_sheets_48 15)
theorem dX9_sheets_64 : decode cX9_sheets 64 = .ok (.aload_n 0, 1) := dk_42 (c := cX9_sheets) (pc := 64) (dk_at bnames04cX9_sheets_48 16)
theorem dX9_sheets_65 : decode cX9_sheets 65 = .ok (.getfield 16, 3) := dk_180 (c := cX9_sheets) (pc := 65) (a := 0) (b := 16) (dk_at bnames04cX9_sheets_48 17) rfl
theorem dX9_sheets_68 : decode cX9_sheets 68 = .ok (.iload_n 3, 1) := dk_29 (c := cX9_sheets) (pc := 68) (dk_at bnames04cX9_sheets_48 20)
theorem dX9_sheets_69 : decode cX9_sheets 69 = .ok (.iconst 2, 1) := dk_5 (c := cX9_sheets) (pc := 69) (dk_at bnames04cX9_sheets_48 21)
theorem dX9_sheets_70 : decode cX9_sheets 70 = .ok (.iadd, 1) := dk_96 (c := cX9_sheets) (pc := 70) (dk_at bnames04cX9_sheets_48 22)
theorem dX9_sheets_71 : decode cX9_sheets 71 = .ok (.laload, 1) := dk_47 (c := cX9_sheets) (pc := 71) (dk_at bnames04cX9_sheets_48 23)
theorem dX9_sheets_72 : decode cX9_sheets 72 = .ok (.aload_n 0, 1) := dk_42 (c := cX9_sheets) (pc := 72) (dk_at bnames04cX9_sheets_48 24)
theorem dX9_sheets_73 : decode cX9_sheets 73 = .ok (.getfield 16, 3) := dk_180 (c := cX9_sheets) (pc := 73) (a := 0) (b := 16) (dk_at bnames04cX9_sheets_48 25) rfl
theorem dX9_sheets_76 : decode cX9_sheets 76 = .ok (.iload_n 3, 1) := dk_29 (c := cX9_sheets) (pc := 76) (dk_at bnames04cX9_sheets_48 28)
theorem dX9_sheets_77 : decode cX9_sheets 77 = .ok (.iconst 3, 1) := dk_6 (c := cX9_sheets) (pc := 77) (dk_at bnames04cX9_sheets_48 29)
theorem dX9_sheets_78 : decode cX9_sheets 78 = .ok (.iadd, 1) := dk_96 (c := cX9_sheets) (pc := 78) (dk_at bnames04cX9_sheets_48 30)
theorem dX9_sheets_79 : decode cX9_sheets 79 = .ok (.laload, 1) := dk_47 (c := cX9_sheets) (pc := 79) (dk_at bnames04cX9_sheets_48 31)
theorem dX9_sheets_80 : decode cX9_sheets 80 = .ok (.invokevirtual 356, 3) := dk_182 (c := cX9_sheets) (pc := 80) (a := 1) (b := 100) (dk_at bnames04cX9_sheets_48 32) rfl
theorem dX9_sheets_83 : decode cX9_sheets 83 = .ok (.ifCond .ge 5, 3) := dk_156 (c := cX9_sheets) (pc := 83) (a := 0) (b := 5) (dk_at bnames04cX9_sheets_48 35) (by decide)
theorem dX9_sheets_86 : decode cX9_sheets 86 = .ok (.iload_n 2, 1) := dk_28 (c := cX9_sheets) (pc := 86) (dk_at bnames04cX9_sheets_48 38)
theorem dX9_sheets_87 : decode cX9_sheets 87 = .ok (.ireturn, 1) := dk_172 (c := cX9_sheets) (pc := 87) (dk_at bnames04cX9_sheets_48 39)
theorem dX9_sheets_88 : decode cX9_sheets 88 = .ok (.iinc 2 1, 3) := dk_132 (c := cX9_sheets) (pc := 88) (a := 2) (b := 1) (dk_at bnames04cX9_sheets_48 40) rfl (by decide)
theorem dX9_sheets_91 : decode cX9_sheets 91 = .ok (.iinc 3 4, 3) := dk_132 (c := cX9_sheets) (pc := 91) (a := 3) (b := 4) (dk_at bnames04cX9_sheets_48 43) rfl (by decide)
theorem dX9_sheets_94 : decode cX9_sheets 94 = .ok (.goto (-59), 3) := dk_167 (c := cX9_sheets) (pc := 94) (a := 255) (b := 197) (dk_at bnames04cX9_sheets_48 46) (by decide)
theorem bnames04cX9_sheets_96 : ((dk_l cX9_sheets).drop 96).take 3 = [197, 28, 172] := by decide +kernel
theorem dX9_sheets_97 : decode cX9_sheets 97 = .ok (.iload_n 2, 1) := dk_28 (c := cX9_sheets) (pc := 97) (dk_at bnames04cX9_sheets_96 1)
theorem dX9_sheets_98 : decode cX9_sheets 98 = .ok (.ireturn, 1) := dk_172 (c := cX9_sheets) (pc := 98) (dk_at bnames04cX9_sheets_96 2)
set_option maxRecDepth 20000 in
theorem ggX9_isSheet_X9_in : GoodIn wsX9_isSheet wsX9_in := goodIn_r _ [5] rfl (by decide +kernel)
set_option maxRecDepth 20000 in
theorem gX9_isSheet_X9_in : GoodIn wsX9_isSheet (va_wsS RX9 130 yX9_in wsX9_in) := goodIn_app (goodIn_r _ [2, 3, 4] rfl (by decide +kernel)) ggX9_isSheet_X9_in
theorem bnames04cX9_isSheet_0 : ((dk_l cX9_isSheet).drop 0).take 16 = [27, 133, 9, 42, 180, 0, 89, 3, 46, 4, 100, 133, 184, 0, 130, 172] := by decide +kernel
theorem dX9_isSheet_0 : decode cX9_isSheet 0 = .ok (.iload_n 1, 1) := dk_27 (c := cX9_isSheet) (pc := 0) (dk_at bnames04cX9_isSheet_0 0)
theorem dX9_isSheet_1 : decode cX9_isSheet 1 = .ok (.i2l, 1) := dk_133 (c := cX9_isSheet) (pc := 1) (dk_at bnames04cX9_isSheet_0 1)
theorem dX9_isSheet_2 : decode cX9_isSheet 2 = .ok (.lconst 0, 1) := dk_9 (c := cX9_isSheet) (pc := 2) (dk_at bnames04cX9_isSheet_0 2)
theorem dX9_isSheet_3 : decode cX9_isSheet 3 = .ok (.aload_n 0, 1) := dk_42 (c := cX9_isSheet) (pc := 3) (dk_at bnames04cX9_isSheet_0 3)
theorem dX9_isSheet_4 : decode cX9_isSheet 4 = .ok (.getfield 89, 3) := dk_180 (c := cX9_isSheet) (pc := 4) (a := 0) (b := 89) (dk_at bnames04cX9_isSheet_0 4) rfl
theorem dX9_isSheet_7 : decode cX9_isSheet 7 = .ok (.iconst 0, 1) := dk_3 (c := cX9_isSheet) (pc := 7) (dk_at bnames04cX9_isSheet_0 7)
theorem dX9_isSheet_8 : decode cX9_isSheet 8 = .ok (.iaload, 1) := dk_46 (c := cX9_isSheet) (pc := 8) (dk_at bnames04cX9_isSheet_0 8)
theorem dX9_isSheet_9 : decode cX9_isSheet 9 = .ok (.iconst 1, 1) := dk_4 (c := cX9_isSheet) (pc := 9) (dk_at bnames04cX9_isSheet_0 9)
theorem dX9_isSheet_10 : decode cX9_isSheet 10 = .ok (.isub, 1) := dk_100 (c := cX9_isSheet) (pc := 10) (dk_at bnames04cX9_isSheet_0 10)
theorem dX9_isSheet_11 : decode cX9_isSheet 11 = .ok (.i2l, 1) := dk_133 (c := cX9_isSheet) (pc := 11) (dk_at bnames04cX9_isSheet_0 11)
theorem dX9_isSheet_12 : decode cX9_isSheet 12 = .ok (.invokestatic 130, 3) := dk_184 (c := cX9_isSheet) (pc := 12) (a := 0) (b := 130) (dk_at bnames04cX9_isSheet_0 12) rfl
theorem dX9_isSheet_15 : decode cX9_isSheet 15 = .ok (.ireturn, 1) := dk_172 (c := cX9_isSheet) (pc := 15) (dk_at bnames04cX9_isSheet_0 15)
set_option maxRecDepth 20000 in
theorem ggX9_isThere_X9_isSheet : GoodIn wsX9_isThere wsX9_isSheet := goodIn_r _ [6, 7, 8, 9, 5, 10, 16, 17, 18, 19, 20, 21, 22, 23, 24, 25, 26, 27, 28, 29, 30, 31, 32, 33, 34, 35, 36, 37, 38, 39, 40, 41, 42, 43, 44, 45, 46, 47, 48, 49, 50, 51, 52, 53, 54, 55, 56, 57, 58, 59, 60, 61, 62, 63, 64, 65, 66, 67, 68, 69, 70, 71, 72, 73, 74, 75] rfl (by decide +kernel)
set_option maxRecDepth 20000 in
theorem gX9_isThere_X9_isSheet : GoodIn wsX9_isThere (wsV RX9 360 RX9 yX9_isSheet wsX9_isSheet) := goodIn_app (goodIn_r _ [2, 3, 4, 5] rfl (by decide +kernel)) ggX9_isThere_X9_isSheet
set_option maxRecDepth 20000 in
theorem ggX9_isThere_X9_isState : GoodIn wsX9_isThere wsX9_isState := goodIn_r _ [14, 15, 8, 9, 5, 10, 16, 17, 18, 19, 20, 21, 22, 23, 24, 25, 26, 27, 28, 29, 30, 31, 32, 33, 34, 35, 36, 37, 38, 39, 40, 41, 42, 43, 44, 45, 46, 47, 48, 49, 50, 51, 52, 53, 54, 55, 56, 57, 58, 59, 60, 61, 62, 63, 64, 65, 66, 67, 68, 69, 70, 71, 72, 73, 74, 75] rfl (by decide +kernel)
set_option maxRecDepth 20000 in
theorem gX9_isThere_X9_isState : GoodIn wsX9_isThere (wsV RX9 296 RX9 yX9_isState wsX9_isState) := goodIn_app (goodIn_r _ [11, 12, 13, 5] rfl (by decide +kernel)) ggX9_isThere_X9_isState
theorem bnames04cX9_isThere_0 : ((dk_l cX9_isThere).drop 0).take 27 = [42, 27, 182, 1, 104, 153, 0, 20, 42, 42, 180, 0, 92, 27, 46, 182, 1, 40, 153, 0, 7, 4, 167, 0, 4, 3, 172] := by decide +kernel
theorem dX9_isThere_0 : decode cX9_isThere 0 = .ok (.aload_n 0, 1) := dk_42 (c := cX9_isThere) (pc := 0) (dk_at bnames04cX9_isThere_0 0)
theorem dX9_isThere_1 : decode cX9_isThere 1 = .ok (.iload_n 1, 1) := dk_27 (c := cX9_isThere) (pc := 1) (dk_at bnames04cX9_isThere_0 1)
theorem dX9_isThere_2 : decode cX9_isThere 2 = .ok (.invokevirtual 360, 3) := dk_182 (c := cX9_isThere) (pc := 2) (a := 1) (b := 104) (dk_at bnames04cX9_isThere_0 2) rfl
theorem dX9_isThere_5 : decode cX9_isThere 5 = .ok (.ifCond .eq 20, 3) := dk_153 (c := cX9_isThere) (pc := 5) (a := 0) (b := 20) (dk_at bnames04cX9_isThere_0 5) (by decide)
theorem dX9_isThere_8 : decode cX9_isThere 8 = .ok (.aload_n 0, 1) := dk_42 (c := cX9_isThere) (pc := 8) (dk_at bnames04cX9_isThere_0 8)
theorem dX9_isThere_9 : decode cX9_isThere 9 = .ok (.aload_n 0, 1) := dk_42 (c := cX9_isThere) (pc := 9) (dk_at bnames04cX9_isThere_0 9)
theorem dX9_isThere_10 : decode cX9_isThere 10 = .ok (.getfield 92, 3) := dk_180 (c := cX9_isThere) (pc := 10) (a := 0) (b := 92) (dk_at bnames04cX9_isThere_0 10) rfl
theorem dX9_isThere_13 : decode cX9_isThere 13 = .ok (.iload_n 1, 1) := dk_27 (c := cX9_isThere) (pc := 13) (dk_at bnames04cX9_isThere_0 13)
theorem dX9_isThere_14 : decode cX9_isThere 14 = .ok (.iaload, 1) := dk_46 (c := cX9_isThere) (pc := 14) (dk_at bnames04cX9_isThere_0 14)
theorem dX9_isThere_15 : decode cX9_isThere 15 = .ok (.invokevirtual 296, 3) := dk_182 (c := cX9_isThere) (pc := 15) (a := 1) (b := 40) (dk_at bnames04cX9_isThere_0 15) rfl
theorem dX9_isThere_18 : decode cX9_isThere 18 = .ok (.ifCond .eq 7, 3) := dk_153 (c := cX9_isThere) (pc := 18) (a := 0) (b := 7) (dk_at bnames04cX9_isThere_0 18) (by decide)
theorem dX9_isThere_21 : decode cX9_isThere 21 = .ok (.iconst 1, 1) := dk_4 (c := cX9_isThere) (pc := 21) (dk_at bnames04cX9_isThere_0 21)
theorem dX9_isThere_22 : decode cX9_isThere 22 = .ok (.goto 4, 3) := dk_167 (c := cX9_isThere) (pc := 22) (a := 0) (b := 4) (dk_at bnames04cX9_isThere_0 22) (by decide)
theorem dX9_isThere_25 : decode cX9_isThere 25 = .ok (.iconst 0, 1) := dk_3 (c := cX9_isThere) (pc := 25) (dk_at bnames04cX9_isThere_0 25)
theorem dX9_isThere_26 : decode cX9_isThere 26 = .ok (.ireturn, 1) := dk_172 (c := cX9_isThere) (pc := 26) (dk_at bnames04cX9_isThere_0 26)
set_option maxRecDepth 20000 in
theorem ggX9_told_X9_isSheet : GoodIn wsX9_told wsX9_isSheet := goodIn_r _ [12, 13, 14, 15, 11, 16, 17, 18, 19, 20, 21, 22, 23, 24, 25, 26, 27, 28, 29, 30, 31, 32, 33, 34, 35, 36, 37, 38, 39, 40, 41, 42, 43, 44, 45, 46, 47, 48, 49, 50, 51, 52, 53, 54, 55, 56, 57, 58, 59, 60, 61, 62, 63, 64, 65, 66, 67, 68, 69, 70, 71, 72, 73, 74, 75, 76] rfl (by decide +kernel)
set_option maxRecDepth 20000 in
theorem gX9_told_X9_isSheet : GoodIn wsX9_told (wsV RX9 360 RX9 yX9_isSheet wsX9_isSheet) := goodIn_app (goodIn_r _ [8, 9, 10, 11] rfl (by decide +kernel)) ggX9_told_X9_isSheet
theorem bnames04cX9_told_0 : ((dk_l cX9_told).drop 0).take 52 = [42, 3, 181, 0, 125, 42, 27, 182, 1, 104, 154, 0, 5, 2, 172, 28, 170, 0, 0, 0, 0, 0, 0, 82, 0, 0, 0, 0, 0, 0, 0, 5, 0, 0, 0, 40, 0, 0, 0, 47, 0, 0, 0, 54, 0, 0, 0, 61, 0, 0, 0, 68] := by decide +kernel
theorem dX9_told_0 : decode cX9_told 0 = .ok (.aload_n 0, 1) := dk_42 (c := cX9_told) (pc := 0) (dk_at bnames04cX9_told_0 0)
theorem dX9_told_1 : decode cX9_told 1 = .ok (.iconst 0, 1) := dk_3 (c := cX9_told) (pc := 1) (dk_at bnames04cX9_told_0 1)
theorem dX9_told_2 : decode cX9_told 2 = .ok (.putfield 125, 3) := dk_181 (c := cX9_told) (pc := 2) (a := 0) (b := 125) (dk_at bnames04cX9_told_0 2) rfl
theorem dX9_told_5 : decode cX9_told 5 = .ok (.aload_n 0, 1) := dk_42 (c := cX9_told) (pc := 5) (dk_at bnames04cX9_told_0 5)
theorem dX9_told_6 : decode cX9_told 6 = .ok (.iload_n 1, 1) := dk_27 (c := cX9_told) (pc := 6) (dk_at bnames04cX9_told_0 6)
theorem dX9_told_7 : decode cX9_told 7 = .ok (.invokevirtual 360, 3) := dk_182 (c := cX9_told) (pc := 7) (a := 1) (b := 104) (dk_at bnames04cX9_told_0 7) rfl
theorem dX9_told_10 : decode cX9_told 10 = .ok (.ifCond .ne 5, 3) := dk_154 (c := cX9_told) (pc := 10) (a := 0) (b := 5) (dk_at bnames04cX9_told_0 10) (by decide)
theorem dX9_told_13 : decode cX9_told 13 = .ok (.iconst (-1), 1) := dk_2 (c := cX9_told) (pc := 13) (dk_at bnames04cX9_told_0 13)
theorem dX9_told_14 : decode cX9_told 14 = .ok (.ireturn, 1) := dk_172 (c := cX9_told) (pc := 14) (dk_at bnames04cX9_told_0 14)
theorem dX9_told_15 : decode cX9_told 15 = .ok (.iload_n 2, 1) := dk_28 (c := cX9_told) (pc := 15) (dk_at bnames04cX9_told_0 15)
theorem dX9_told_16 : decode cX9_told 16 = .ok (.tableswitch 82 0 5 #[40, 47, 54, 61, 68, 75], 40) := by decide +kernel
theorem bnames04cX9_told_48 : ((dk_l cX9_told).drop 48).take 52 = [0, 0, 0, 68, 0, 0, 0, 75, 42, 180, 0, 92, 27, 46, 172, 42, 180, 0, 95, 27, 46, 172, 42, 180, 0, 98, 27, 46, 172, 42, 180, 0, 101, 27, 46, 172, 42, 180, 0, 104, 27, 46, 172, 42, 180, 0, 107, 27, 46, 172, 2, 172] := by decide +kernel
theorem dX9_told_56 : decode cX9_told 56 = .ok (.aload_n 0, 1) := dk_42 (c := cX9_told) (pc := 56) (dk_at bnames04cX9_told_48 8)
theorem dX9_told_57 : decode cX9_told 57 = .ok (.getfield 92, 3) := dk_180 (c := cX9_told) (pc := 57) (a := 0) (b := 92) (dk_at bnames04cX9_told_48 9) rfl
theorem dX9_told_60 : decode cX9_told 60 = .ok (.iload_n 1, 1) := dk_27 (c := cX9_told) (pc := 60) (dk_at bnames04cX9_told_48 12)
theorem dX9_told_61 : decode cX9_told 61 = .ok (.iaload, 1) := dk_46 (c := cX9_told) (pc := 61) (dk_at bnames04cX9_told_48 13)
theorem dX9_told_62 : decode cX9_told 62 = .ok (.ireturn, 1) := dk_172 (c := cX9_told) (pc := 62) (dk_at bnames04cX9_told_48 14)
theorem dX9_told_63 : decode cX9_told 63 = .ok (.aload_n 0, 1) := dk_42 (c := cX9_told) (pc := 63) (dk_at bnames04cX9_told_48 15)
theorem dX9_told_64 : decode cX9_told 64 = .ok (.getfield 95, 3) := dk_180 (c := cX9_told) (pc := 64) (a := 0) (b := 95) (dk_at bnames04cX9_told_48 16) rfl
theorem dX9_told_67 : decode cX9_told 67 = .ok (.iload_n 1, 1) := dk_27 (c := cX9_told) (pc := 67) (dk_at bnames04cX9_told_48 19)
theorem dX9_told_68 : decode cX9_told 68 = .ok (.iaload, 1) := dk_46 (c := cX9_told) (pc := 68) (dk_at bnames04cX9_told_48 20)
theorem dX9_told_69 : decode cX9_told 69 = .ok (.ireturn, 1) := dk_172 (c := cX9_told) (pc := 69) (dk_at bnames04cX9_told_48 21)
theorem dX9_told_70 : decode cX9_told 70 = .ok (.aload_n 0, 1) := dk_42 (c := cX9_told) (pc := 70) (dk_at bnames04cX9_told_48 22)
theorem dX9_told_71 : decode cX9_told 71 = .ok (.getfield 98, 3) := dk_180 (c := cX9_told) (pc := 71) (a := 0) (b := 98) (dk_at bnames04cX9_told_48 23) rfl
theorem dX9_told_74 : decode cX9_told 74 = .ok (.iload_n 1, 1) := dk_27 (c := cX9_told) (pc := 74) (dk_at bnames04cX9_told_48 26)
theorem dX9_told_75 : decode cX9_told 75 = .ok (.iaload, 1) := dk_46 (c := cX9_told) (pc := 75) (dk_at bnames04cX9_told_48 27)
theorem dX9_told_76 : decode cX9_told 76 = .ok (.ireturn, 1) := dk_172 (c := cX9_told) (pc := 76) (dk_at bnames04cX9_told_48 28)
theorem dX9_told_77 : decode cX9_told 77 = .ok (.aload_n 0, 1) := dk_42 (c := cX9_told) (pc := 77) (dk_at bnames04cX9_told_48 29)
theorem dX9_told_78 : decode cX9_told 78 = .ok (.getfield 101, 3) := dk_180 (c := cX9_told) (pc := 78) (a := 0) (b := 101) (dk_at bnames04cX9_told_48 30) rfl
theorem dX9_told_81 : decode cX9_told 81 = .ok (.iload_n 1, 1) := dk_27 (c := cX9_told) (pc := 81) (dk_at bnames04cX9_told_48 33)
theorem dX9_told_82 : decode cX9_told 82 = .ok (.iaload, 1) := dk_46 (c := cX9_told) (pc := 82) (dk_at bnames04cX9_told_48 34)
theorem dX9_told_83 : decode cX9_told 83 = .ok (.ireturn, 1) := dk_172 (c := cX9_told) (pc := 83) (dk_at bnames04cX9_told_48 35)
theorem dX9_told_84 : decode cX9_told 84 = .ok (.aload_n 0, 1) := dk_42 (c := cX9_told) (pc := 84) (dk_at bnames04cX9_told_48 36)
theorem dX9_told_85 : decode cX9_told 85 = .ok (.getfield 104, 3) := dk_180 (c := cX9_told) (pc := 85) (a := 0) (b := 104) (dk_at bnames04cX9_told_48 37) rfl
theorem dX9_told_88 : decode cX9_told 88 = .ok (.iload_n 1, 1) := dk_27 (c := cX9_told) (pc := 88) (dk_at bnames04cX9_told_48 40)
theorem dX9_told_89 : decode cX9_told 89 = .ok (.iaload, 1) := dk_46 (c := cX9_told) (pc := 89) (dk_at bnames04cX9_told_48 41)
theorem dX9_told_90 : decode cX9_told 90 = .ok (.ireturn, 1) := dk_172 (c := cX9_told) (pc := 90) (dk_at bnames04cX9_told_48 42)
theorem dX9_told_91 : decode cX9_told 91 = .ok (.aload_n 0, 1) := dk_42 (c := cX9_told) (pc := 91) (dk_at bnames04cX9_told_48 43)
theorem dX9_told_92 : decode cX9_told 92 = .ok (.getfield 107, 3) := dk_180 (c := cX9_told) (pc := 92) (a := 0) (b := 107) (dk_at bnames04cX9_told_48 44) rfl
theorem dX9_told_95 : decode cX9_told 95 = .ok (.iload_n 1, 1) := dk_27 (c := cX9_told) (pc := 95) (dk_at bnames04cX9_told_48 47)
theorem bnames04cX9_told_96 : ((dk_l cX9_told).drop 96).take 4 = [46, 172, 2, 172] := by decide +kernel
theorem dX9_told_96 : decode cX9_told 96 = .ok (.iaload, 1) := dk_46 (c := cX9_told) (pc := 96) (dk_at bnames04cX9_told_96 0)
theorem dX9_told_97 : decode cX9_told 97 = .ok (.ireturn, 1) := dk_172 (c := cX9_told) (pc := 97) (dk_at bnames04cX9_told_96 1)
theorem dX9_told_98 : decode cX9_told 98 = .ok (.iconst (-1), 1) := dk_2 (c := cX9_told) (pc := 98) (dk_at bnames04cX9_told_96 2)
theorem dX9_told_99 : decode cX9_told 99 = .ok (.ireturn, 1) := dk_172 (c := cX9_told) (pc := 99) (dk_at bnames04cX9_told_96 3)
set_option maxRecDepth 20000 in
theorem ggX9_would_X9_isThere : GoodIn wsX9_would wsX9_isThere := goodIn_r _ [8, 2, 9, 10, 11, 7, 12, 13, 14, 15, 16, 17, 18, 19, 20, 21, 36, 37, 38, 39, 40, 41, 42, 43, 44, 45, 46, 47, 48, 49, 50, 51, 52, 53, 54, 55, 56, 57, 58, 59, 60, 61, 62, 63, 64, 65, 66, 67, 68, 69, 70, 71, 72, 73, 74, 75, 76, 77, 78, 79, 80, 81, 82, 83, 84, 85, 86, 87, 88, 89, 90, 91, 92, 93, 94, 95] rfl (by decide +kernel)
set_option maxRecDepth 20000 in
theorem gX9_would_X9_isThere : GoodIn wsX9_would (wsV RX9 363 RX9 yX9_isThere wsX9_isThere) := goodIn_app (goodIn_r _ [4, 5, 6, 7] rfl (by decide +kernel)) ggX9_would_X9_isThere
set_option maxRecDepth 20000 in
theorem ggX9_would_X9_isMonth : GoodIn wsX9_would wsX9_isMonth := goodIn_r _ [24, 25, 14, 15, 7, 16] rfl (by decide +kernel)
set_option maxRecDepth 20000 in
theorem gX9_would_X9_isMonth : GoodIn wsX9_would (va_wsS RX9 299 yX9_isMonth wsX9_isMonth) := goodIn_app (goodIn_r _ [22, 23, 7] rfl (by decide +kernel)) ggX9_would_X9_isMonth
set_option maxRecDepth 20000 in
theorem ggX9_would_X9_forcedOf : GoodIn wsX9_would wsX9_forcedOf := goodIn_r _ [29, 30, 31, 32, 33, 7, 34, 35, 36, 37, 38, 39, 40, 41, 42, 43, 44, 45, 46, 47, 48, 49, 50, 51, 52, 53, 54, 55, 56, 57, 58, 59, 60, 61, 62, 63, 64, 65, 66, 67, 68, 69, 70, 71, 72, 73, 74, 75, 76, 77, 78, 79, 80, 81, 82, 83, 84, 85, 86, 87, 88, 89, 90, 91, 92, 93, 94, 95] rfl (by decide +kernel)
set_option maxRecDepth 20000 in
theorem gX9_would_X9_forcedOf : GoodIn wsX9_would (wsV RX9 302 RX9 yX9_forcedOf wsX9_forcedOf) := goodIn_app (goodIn_r _ [26, 27, 28, 7] rfl (by decide +kernel)) ggX9_would_X9_forcedOf
theorem bnames04cX9_would_0 : ((dk_l cX9_would).drop 0).take 52 = [42, 3, 181, 0, 125, 42, 27, 182, 1, 107, 153, 0, 10, 28, 184, 1, 43, 154, 0, 6, 16, 254, 172, 42, 42, 180, 0, 92, 27, 46, 28, 182, 1, 46, 62, 29, 42, 180, 0, 107, 27, 46, 164, 0, 7, 29, 167, 0, 9, 42, 180, 0] := by decide +kernel
theorem dX9_would_0 : decode cX9_would 0 = .ok (.aload_n 0, 1) := dk_42 (c := cX9_would) (pc := 0) (dk_at bnames04cX9_would_0 0)
theorem dX9_would_1 : decode cX9_would 1 = .ok (.iconst 0, 1) := dk_3 (c := cX9_would) (pc := 1) (dk_at bnames04cX9_would_0 1)
theorem dX9_would_2 : decode cX9_would 2 = .ok (.putfield 125, 3) := dk_181 (c := cX9_would) (pc := 2) (a := 0) (b := 125) (dk_at bnames04cX9_would_0 2) rfl
theorem dX9_would_5 : decode cX9_would 5 = .ok (.aload_n 0, 1) := dk_42 (c := cX9_would) (pc := 5) (dk_at bnames04cX9_would_0 5)
theorem dX9_would_6 : decode cX9_would 6 = .ok (.iload_n 1, 1) := dk_27 (c := cX9_would) (pc := 6) (dk_at bnames04cX9_would_0 6)
theorem dX9_would_7 : decode cX9_would 7 = .ok (.invokevirtual 363, 3) := dk_182 (c := cX9_would) (pc := 7) (a := 1) (b := 107) (dk_at bnames04cX9_would_0 7) rfl
theorem dX9_would_10 : decode cX9_would 10 = .ok (.ifCond .eq 10, 3) := dk_153 (c := cX9_would) (pc := 10) (a := 0) (b := 10) (dk_at bnames04cX9_would_0 10) (by decide)
theorem dX9_would_13 : decode cX9_would 13 = .ok (.iload_n 2, 1) := dk_28 (c := cX9_would) (pc := 13) (dk_at bnames04cX9_would_0 13)
theorem dX9_would_14 : decode cX9_would 14 = .ok (.invokestatic 299, 3) := dk_184 (c := cX9_would) (pc := 14) (a := 1) (b := 43) (dk_at bnames04cX9_would_0 14) rfl
theorem dX9_would_17 : decode cX9_would 17 = .ok (.ifCond .ne 6, 3) := dk_154 (c := cX9_would) (pc := 17) (a := 0) (b := 6) (dk_at bnames04cX9_would_0 17) (by decide)
theorem dX9_would_20 : decode cX9_would 20 = .ok (.bipush (-2), 2) := dk_16 (c := cX9_would) (pc := 20) (a := 254) (dk_at bnames04cX9_would_0 20) (by decide)
theorem dX9_would_22 : decode cX9_would 22 = .ok (.ireturn, 1) := dk_172 (c := cX9_would) (pc := 22) (dk_at bnames04cX9_would_0 22)
theorem dX9_would_23 : decode cX9_would 23 = .ok (.aload_n 0, 1) := dk_42 (c := cX9_would) (pc := 23) (dk_at bnames04cX9_would_0 23)
theorem dX9_would_24 : decode cX9_would 24 = .ok (.aload_n 0, 1) := dk_42 (c := cX9_would) (pc := 24) (dk_at bnames04cX9_would_0 24)
theorem dX9_would_25 : decode cX9_would 25 = .ok (.getfield 92, 3) := dk_180 (c := cX9_would) (pc := 25) (a := 0) (b := 92) (dk_at bnames04cX9_would_0 25) rfl
theorem dX9_would_28 : decode cX9_would 28 = .ok (.iload_n 1, 1) := dk_27 (c := cX9_would) (pc := 28) (dk_at bnames04cX9_would_0 28)
theorem dX9_would_29 : decode cX9_would 29 = .ok (.iaload, 1) := dk_46 (c := cX9_would) (pc := 29) (dk_at bnames04cX9_would_0 29)
theorem dX9_would_30 : decode cX9_would 30 = .ok (.iload_n 2, 1) := dk_28 (c := cX9_would) (pc := 30) (dk_at bnames04cX9_would_0 30)
theorem dX9_would_31 : decode cX9_would 31 = .ok (.invokevirtual 302, 3) := dk_182 (c := cX9_would) (pc := 31) (a := 1) (b := 46) (dk_at bnames04cX9_would_0 31) rfl
theorem dX9_would_34 : decode cX9_would 34 = .ok (.istore_n 3, 1) := dk_62 (c := cX9_would) (pc := 34) (dk_at bnames04cX9_would_0 34)
theorem dX9_would_35 : decode cX9_would 35 = .ok (.iload_n 3, 1) := dk_29 (c := cX9_would) (pc := 35) (dk_at bnames04cX9_would_0 35)
theorem dX9_would_36 : decode cX9_would 36 = .ok (.aload_n 0, 1) := dk_42 (c := cX9_would) (pc := 36) (dk_at bnames04cX9_would_0 36)
theorem dX9_would_37 : decode cX9_would 37 = .ok (.getfield 107, 3) := dk_180 (c := cX9_would) (pc := 37) (a := 0) (b := 107) (dk_at bnames04cX9_would_0 37) rfl
theorem dX9_would_40 : decode cX9_would 40 = .ok (.iload_n 1, 1) := dk_27 (c := cX9_would) (pc := 40) (dk_at bnames04cX9_would_0 40)
theorem dX9_would_41 : decode cX9_would 41 = .ok (.iaload, 1) := dk_46 (c := cX9_would) (pc := 41) (dk_at bnames04cX9_would_0 41)
theorem dX9_would_42 : decode cX9_would 42 = .ok (.if_icmp .le 7, 3) := dk_164 (c := cX9_would) (pc := 42) (a := 0) (b := 7) (dk_at bnames04cX9_would_0 42) (by decide)
theorem dX9_would_45 : decode cX9_would 45 = .ok (.iload_n 3, 1) := dk_29 (c := cX9_would) (pc := 45) (dk_at bnames04cX9_would_0 45)
theorem dX9_would_46 : decode cX9_would 46 = .ok (.goto 9, 3) := dk_167 (c := cX9_would) (pc := 46) (a := 0) (b := 9) (dk_at bnames04cX9_would_0 46) (by decide)
theorem bnames04cX9_would_48 : ((dk_l cX9_would).drop 48).take 8 = [9, 42, 180, 0, 107, 27, 46, 172] := by decide +kernel
theorem dX9_would_49 : decode cX9_would 49 = .ok (.aload_n 0, 1) := dk_42 (c := cX9_would) (pc := 49) (dk_at bnames04cX9_would_48 1)
theorem dX9_would_50 : decode cX9_would 50 = .ok (.getfield 107, 3) := dk_180 (c := cX9_would) (pc := 50) (a := 0) (b := 107) (dk_at bnames04cX9_would_48 2) rfl
theorem dX9_would_53 : decode cX9_would 53 = .ok (.iload_n 1, 1) := dk_27 (c := cX9_would) (pc := 53) (dk_at bnames04cX9_would_48 5)
theorem dX9_would_54 : decode cX9_would 54 = .ok (.iaload, 1) := dk_46 (c := cX9_would) (pc := 54) (dk_at bnames04cX9_would_48 6)
theorem dX9_would_55 : decode cX9_would 55 = .ok (.ireturn, 1) := dk_172 (c := cX9_would) (pc := 55) (dk_at bnames04cX9_would_48 7)
set_option maxRecDepth 20000 in
theorem ggX9_worthOf_X9_wageOf : GoodIn wsX9_worthOf wsX9_wageOf := goodIn_r _ [9, 10, 11, 12, 13, 14, 15, 16, 17, 18, 8, 19, 20, 21, 22, 23, 24, 25, 26, 27, 28, 29, 30, 31, 32, 33, 34, 35, 36, 37, 38, 39, 40, 41, 42, 43, 44, 45, 46, 47, 48, 49, 50, 51, 52, 53, 54, 55, 56, 57, 58, 59, 60, 61, 62, 63, 64, 65, 66, 67, 68, 69, 70, 71, 72, 73, 74, 75, 76, 77, 78, 79, 80, 81, 82, 83, 84, 85, 86, 87, 88, 89] rfl (by decide +kernel)
set_option maxRecDepth 20000 in
theorem gX9_worthOf_X9_wageOf : GoodIn wsX9_worthOf (wsV RX9 319 RX9 yX9_wageOf wsX9_wageOf) := goodIn_app (goodIn_r _ [5, 6, 7, 8] rfl (by decide +kernel)) ggX9_worthOf_X9_wageOf
theorem bnames04cX9_worthOf_0 : ((dk_l cX9_worthOf).drop 0).take 52 = [42, 180, 0, 98, 27, 46, 61, 42, 28, 17, 1, 44, 160, 0, 7, 28, 167, 0, 6, 28, 4, 96, 42, 180, 0, 104, 27, 46, 42, 180, 0, 95, 27, 46, 42, 180, 0, 92, 27, 46, 182, 1, 63, 42, 28, 42, 180, 0, 104, 27, 46, 42] := by decide +kernel
theorem dX9_worthOf_0 : decode cX9_worthOf 0 = .ok (.aload_n 0, 1) := dk_42 (c := cX9_worthOf) (pc := 0) (dk_at bnames04cX9_worthOf_0 0)
theorem dX9_worthOf_1 : decode cX9_worthOf 1 = .ok (.getfield 98, 3) := dk_180 (c := cX9_worthOf) (pc := 1) (a := 0) (b := 98) (dk_at bnames04cX9_worthOf_0 1) rfl
theorem dX9_worthOf_4 : decode cX9_worthOf 4 = .ok (.iload_n 1, 1) := dk_27 (c := cX9_worthOf) (pc := 4) (dk_at bnames04cX9_worthOf_0 4)
theorem dX9_worthOf_5 : decode cX9_worthOf 5 = .ok (.iaload, 1) := dk_46 (c := cX9_worthOf) (pc := 5) (dk_at bnames04cX9_worthOf_0 5)
theorem dX9_worthOf_6 : decode cX9_worthOf 6 = .ok (.istore_n 2, 1) := dk_61 (c := cX9_worthOf) (pc := 6) (dk_at bnames04cX9_worthOf_0 6)
theorem dX9_worthOf_7 : decode cX9_worthOf 7 = .ok (.aload_n 0, 1) := dk_42 (c := cX9_worthOf) (pc := 7) (dk_at bnames04cX9_worthOf_0 7)
theorem dX9_worthOf_8 : decode cX9_worthOf 8 = .ok (.iload_n 2, 1) := dk_28 (c := cX9_worthOf) (pc := 8) (dk_at bnames04cX9_worthOf_0 8)
theorem dX9_worthOf_9 : decode cX9_worthOf 9 = .ok (.sipush 300, 3) := dk_17 (c := cX9_worthOf) (pc := 9) (a := 1) (b := 44) (dk_at bnames04cX9_worthOf_0 9) (by decide)
theorem dX9_worthOf_12 : decode cX9_worthOf 12 = .ok (.if_icmp .ne 7, 3) := dk_160 (c := cX9_worthOf) (pc := 12) (a := 0) (b := 7) (dk_at bnames04cX9_worthOf_0 12) (by decide)
theorem dX9_worthOf_15 : decode cX9_worthOf 15 = .ok (.iload_n 2, 1) := dk_28 (c := cX9_worthOf) (pc := 15) (dk_at bnames04cX9_worthOf_0 15)
theorem dX9_worthOf_16 : decode cX9_worthOf 16 = .ok (.goto 6, 3) := dk_167 (c := cX9_worthOf) (pc := 16) (a := 0) (b := 6) (dk_at bnames04cX9_worthOf_0 16) (by decide)
theorem dX9_worthOf_19 : decode cX9_worthOf 19 = .ok (.iload_n 2, 1) := dk_28 (c := cX9_worthOf) (pc := 19) (dk_at bnames04cX9_worthOf_0 19)
theorem dX9_worthOf_20 : decode cX9_worthOf 20 = .ok (.iconst 1, 1) := dk_4 (c := cX9_worthOf) (pc := 20) (dk_at bnames04cX9_worthOf_0 20)
theorem dX9_worthOf_21 : decode cX9_worthOf 21 = .ok (.iadd, 1) := dk_96 (c := cX9_worthOf) (pc := 21) (dk_at bnames04cX9_worthOf_0 21)
theorem dX9_worthOf_22 : decode cX9_worthOf 22 = .ok (.aload_n 0, 1) := dk_42 (c := cX9_worthOf) (pc := 22) (dk_at bnames04cX9_worthOf_0 22)
theorem dX9_worthOf_23 : decode cX9_worthOf 23 = .ok (.getfield 104, 3) := dk_180 (c := cX9_worthOf) (pc := 23) (a := 0) (b := 104) (dk_at bnames04cX9_worthOf_0 23) rfl
theorem dX9_worthOf_26 : decode cX9_worthOf 26 = .ok (.iload_n 1, 1) := dk_27 (c := cX9_worthOf) (pc := 26) (dk_at bnames04cX9_worthOf_0 26)
theorem dX9_worthOf_27 : decode cX9_worthOf 27 = .ok (.iaload, 1) := dk_46 (c := cX9_worthOf) (pc := 27) (dk_at bnames04cX9_worthOf_0 27)
theorem dX9_worthOf_28 : decode cX9_worthOf 28 = .ok (.aload_n 0, 1) := dk_42 (c := cX9_worthOf) (pc := 28) (dk_at bnames04cX9_worthOf_0 28)
theorem dX9_worthOf_29 : decode cX9_worthOf 29 = .ok (.getfield 95, 3) := dk_180 (c := cX9_worthOf) (pc := 29) (a := 0) (b := 95) (dk_at bnames04cX9_worthOf_0 29) rfl
theorem dX9_worthOf_32 : decode cX9_worthOf 32 = .ok (.iload_n 1, 1) := dk_27 (c := cX9_worthOf) (pc := 32) (dk_at bnames04cX9_worthOf_0 32)
theorem dX9_worthOf_33 : decode cX9_worthOf 33 = .ok (.iaload, 1) := dk_46 (c := cX9_worthOf) (pc := 33) (dk_at bnames04cX9_worthOf_0 33)
theorem dX9_worthOf_34 : decode cX9_worthOf 34 = .ok (.aload_n 0, 1) := dk_42 (c := cX9_worthOf) (pc := 34) (dk_at bnames04cX9_worthOf_0 34)
theorem dX9_worthOf_35 : decode cX9_worthOf 35 = .ok (.getfield 92, 3) := dk_180 (c := cX9_worthOf) (pc := 35) (a := 0) (b := 92) (dk_at bnames04cX9_worthOf_0 35) rfl
theorem dX9_worthOf_38 : decode cX9_worthOf 38 = .ok (.iload_n 1, 1) := dk_27 (c := cX9_worthOf) (pc := 38) (dk_at bnames04cX9_worthOf_0 38)
theorem dX9_worthOf_39 : decode cX9_worthOf 39 = .ok (.iaload, 1) := dk_46 (c := cX9_worthOf) (pc := 39) (dk_at bnames04cX9_worthOf_0 39)
theorem dX9_worthOf_40 : decode cX9_worthOf 40 = .ok (.invokevirtual 319, 3) := dk_182 (c := cX9_worthOf) (pc := 40) (a := 1) (b := 63) (dk_at bnames04cX9_worthOf_0 40) rfl
theorem dX9_worthOf_43 : decode cX9_worthOf 43 = .ok (.aload_n 0, 1) := dk_42 (c := cX9_worthOf) (pc := 43) (dk_at bnames04cX9_worthOf_0 43)
theorem dX9_worthOf_44 : decode cX9_worthOf 44 = .ok (.iload_n 2, 1) := dk_28 (c := cX9_worthOf) (pc := 44) (dk_at bnames04cX9_worthOf_0 44)
theorem dX9_worthOf_45 : decode cX9_worthOf 45 = .ok (.aload_n 0, 1) := dk_42 (c := cX9_worthOf) (pc := 45) (dk_at bnames04cX9_worthOf_0 45)
theorem dX9_worthOf_46 : decode cX9_worthOf 46 = .ok (.getfield 104, 3) := dk_180 (c := cX9_worthOf) (pc := 46) (a := 0) (b := 104) (dk_at bnames04cX9_worthOf_0 46) rfl
theorem bnames04cX9_worthOf_48 : ((dk_l cX9_worthOf).drop 48).take 20 = [104, 27, 46, 42, 180, 0, 95, 27, 46, 42, 180, 0, 92, 27, 46, 182, 1, 63, 100, 172] := by decide +kernel
theorem dX9_worthOf_49 : decode cX9_worthOf 49 = .ok (.iload_n 1, 1) := dk_27 (c := cX9_worthOf) (pc := 49) (dk_at bnames04cX9_worthOf_48 1)
theorem dX9_worthOf_50 : decode cX9_worthOf 50 = .ok (.iaload, 1) := dk_46 (c := cX9_worthOf) (pc := 50) (dk_at bnames04cX9_worthOf_48 2)
theorem dX9_worthOf_51 : decode cX9_worthOf 51 = .ok (.aload_n 0, 1) := dk_42 (c := cX9_worthOf) (pc := 51) (dk_at bnames04cX9_worthOf_48 3)
theorem dX9_worthOf_52 : decode cX9_worthOf 52 = .ok (.getfield 95, 3) := dk_180 (c := cX9_worthOf) (pc := 52) (a := 0) (b := 95) (dk_at bnames04cX9_worthOf_48 4) rfl
theorem dX9_worthOf_55 : decode cX9_worthOf 55 = .ok (.iload_n 1, 1) := dk_27 (c := cX9_worthOf) (pc := 55) (dk_at bnames04cX9_worthOf_48 7)
theorem dX9_worthOf_56 : decode cX9_worthOf 56 = .ok (.iaload, 1) := dk_46 (c := cX9_worthOf) (pc := 56) (dk_at bnames04cX9_worthOf_48 8)
theorem dX9_worthOf_57 : decode cX9_worthOf 57 = .ok (.aload_n 0, 1) := dk_42 (c := cX9_worthOf) (pc := 57) (dk_at bnames04cX9_worthOf_48 9)
theorem dX9_worthOf_58 : decode cX9_worthOf 58 = .ok (.getfield 92, 3) := dk_180 (c := cX9_worthOf) (pc := 58) (a := 0) (b := 92) (dk_at bnames04cX9_worthOf_48 10) rfl
theorem dX9_worthOf_61 : decode cX9_worthOf 61 = .ok (.iload_n 1, 1) := dk_27 (c := cX9_worthOf) (pc := 61) (dk_at bnames04cX9_worthOf_48 13)
theorem dX9_worthOf_62 : decode cX9_worthOf 62 = .ok (.iaload, 1) := dk_46 (c := cX9_worthOf) (pc := 62) (dk_at bnames04cX9_worthOf_48 14)
theorem dX9_worthOf_63 : decode cX9_worthOf 63 = .ok (.invokevirtual 319, 3) := dk_182 (c := cX9_worthOf) (pc := 63) (a := 1) (b := 63) (dk_at bnames04cX9_worthOf_48 15) rfl
theorem dX9_worthOf_66 : decode cX9_worthOf 66 = .ok (.isub, 1) := dk_100 (c := cX9_worthOf) (pc := 66) (dk_at bnames04cX9_worthOf_48 18)
theorem dX9_worthOf_67 : decode cX9_worthOf 67 = .ok (.ireturn, 1) := dk_172 (c := cX9_worthOf) (pc := 67) (dk_at bnames04cX9_worthOf_48 19)
set_option maxRecDepth 20000 in
theorem ggX9_worth_X9_isThere : GoodIn wsX9_worth wsX9_isThere := goodIn_r _ [7, 8, 9, 10, 11, 6, 12, 13, 14, 15, 16, 17, 18, 19, 20, 21, 53, 54, 55, 56, 57, 58, 59, 60, 61, 62, 63, 64, 65, 66, 67, 68, 69, 70, 71, 72, 73, 74, 75, 76, 77, 78, 79, 80, 81, 82, 83, 84, 85, 86, 87, 88, 89, 90, 91, 92, 93, 94, 95, 96, 97, 98, 99, 100, 101, 102, 103, 104, 105, 106, 107, 108, 109, 110, 111, 112] rfl (by decide +kernel)
set_option maxRecDepth 20000 in
theorem gX9_worth_X9_isThere : GoodIn wsX9_worth (wsV RX9 363 RX9 yX9_isThere wsX9_isThere) := goodIn_app (goodIn_r _ [3, 4, 5, 6] rfl (by decide +kernel)) ggX9_worth_X9_isThere
set_option maxRecDepth 20000 in
theorem ggX9_worth_X9_worthOf : GoodIn wsX9_worth wsX9_worthOf := goodIn_r _ [25, 26, 27, 28, 8, 29, 30, 31, 6, 32, 33, 34, 35, 36, 37, 38, 39, 40, 41, 42, 43, 44, 45, 46, 47, 48, 49, 50, 51, 52, 53, 54, 55, 56, 57, 58, 59, 60, 61, 62, 63, 64, 65, 66, 67, 68, 69, 70, 71, 72, 73, 74, 75, 76, 77, 78, 79, 80, 81, 82, 83, 84, 85, 86, 87, 88, 89, 90, 91, 92, 93, 94, 95, 96, 97, 98, 99, 100, 101, 102, 103, 104, 105, 106, 107, 108, 109, 110, 111, 112] rfl (by decide +kernel)
set_option maxRecDepth 20000 in
theorem gX9_worth_X9_worthOf : GoodIn wsX9_worth (wsV RX9 366 RX9 yX9_worthOf wsX9_worthOf) := goodIn_app (goodIn_r _ [22, 23, 24, 6] rfl (by decide +kernel)) ggX9_worth_X9_worthOf
theorem bnames04cX9_worth_0 : ((dk_l cX9_worth).drop 0).take 25 = [42, 3, 181, 0, 125, 42, 27, 182, 1, 107, 153, 0, 11, 42, 27, 182, 1, 110, 167, 0, 6, 19, 1, 113, 172] := by decide +kernel
theorem dX9_worth_0 : decode cX9_worth 0 = .ok (.aload_n 0, 1) := dk_42 (c := cX9_worth) (pc := 0) (dk_at bnames04cX9_worth_0 0)
theorem dX9_worth_1 : decode cX9_worth 1 = .ok (.iconst 0, 1) := dk_3 (c := cX9_worth) (pc := 1) (dk_at bnames04cX9_worth_0 1)
theorem dX9_worth_2 : decode cX9_worth 2 = .ok (.putfield 125, 3) := dk_181 (c := cX9_worth) (pc := 2) (a := 0) (b := 125) (dk_at bnames04cX9_worth_0 2) rfl
theorem dX9_worth_5 : decode cX9_worth 5 = .ok (.aload_n 0, 1) := dk_42 (c := cX9_worth) (pc := 5) (dk_at bnames04cX9_worth_0 5)
theorem dX9_worth_6 : decode cX9_worth 6 = .ok (.iload_n 1, 1) := dk_27 (c := cX9_worth) (pc := 6) (dk_at bnames04cX9_worth_0 6)
theorem dX9_worth_7 : decode cX9_worth 7 = .ok (.invokevirtual 363, 3) := dk_182 (c := cX9_worth) (pc := 7) (a := 1) (b := 107) (dk_at bnames04cX9_worth_0 7) rfl
theorem dX9_worth_10 : decode cX9_worth 10 = .ok (.ifCond .eq 11, 3) := dk_153 (c := cX9_worth) (pc := 10) (a := 0) (b := 11) (dk_at bnames04cX9_worth_0 10) (by decide)
theorem dX9_worth_13 : decode cX9_worth 13 = .ok (.aload_n 0, 1) := dk_42 (c := cX9_worth) (pc := 13) (dk_at bnames04cX9_worth_0 13)
theorem dX9_worth_14 : decode cX9_worth 14 = .ok (.iload_n 1, 1) := dk_27 (c := cX9_worth) (pc := 14) (dk_at bnames04cX9_worth_0 14)
theorem dX9_worth_15 : decode cX9_worth 15 = .ok (.invokevirtual 366, 3) := dk_182 (c := cX9_worth) (pc := 15) (a := 1) (b := 110) (dk_at bnames04cX9_worth_0 15) rfl
theorem dX9_worth_18 : decode cX9_worth 18 = .ok (.goto 6, 3) := dk_167 (c := cX9_worth) (pc := 18) (a := 0) (b := 6) (dk_at bnames04cX9_worth_0 18) (by decide)
theorem dX9_worth_21 : decode cX9_worth 21 = .ok (.ldc_w 369, 3) := dk_19 (c := cX9_worth) (pc := 21) (a := 1) (b := 113) (dk_at bnames04cX9_worth_0 21) rfl
theorem dX9_worth_24 : decode cX9_worth 24 = .ok (.ireturn, 1) := dk_172 (c := cX9_worth) (pc := 24) (dk_at bnames04cX9_worth_0 24)
set_option maxRecDepth 20000 in
theorem ggX9_isHeld_X9_isThere : GoodIn wsX9_isHeld wsX9_isThere := goodIn_r _ [8, 1, 9, 10, 11, 7, 12, 13, 14, 15, 16, 17, 18, 19, 20, 21, 32, 33, 34, 35, 36, 37, 38, 39, 40, 41, 42, 43, 44, 45, 46, 47, 48, 49, 50, 51, 52, 53, 54, 55, 56, 57, 58, 59, 60, 61, 62, 63, 64, 65, 66, 67, 68, 69, 70, 71, 72, 73, 74, 75, 76, 77, 78, 79, 80, 81, 82, 83, 84, 85, 86, 87, 88, 89, 90, 91] rfl (by decide +kernel)
set_option maxRecDepth 20000 in
theorem gX9_isHeld_X9_isThere : GoodIn wsX9_isHeld (wsV RX9 363 RX9 yX9_isThere wsX9_isThere) := goodIn_app (goodIn_r _ [4, 5, 6, 7] rfl (by decide +kernel)) ggX9_isHeld_X9_isThere
set_option maxRecDepth 20000 in
theorem ggX9_isHeld_X9_forcedOf : GoodIn wsX9_isHeld wsX9_forcedOf := goodIn_r _ [25, 26, 27, 28, 29, 7, 30, 31, 32, 33, 34, 35, 36, 37, 38, 39, 40, 41, 42, 43, 44, 45, 46, 47, 48, 49, 50, 51, 52, 53, 54, 55, 56, 57, 58, 59, 60, 61, 62, 63, 64, 65, 66, 67, 68, 69, 70, 71, 72, 73, 74, 75, 76, 77, 78, 79, 80, 81, 82, 83, 84, 85, 86, 87, 88, 89, 90, 91] rfl (by decide +kernel)
set_option maxRecDepth 20000 in
theorem gX9_isHeld_X9_forcedOf : GoodIn wsX9_isHeld (wsV RX9 302 RX9 yX9_forcedOf wsX9_forcedOf) := goodIn_app (goodIn_r _ [22, 23, 24, 7] rfl (by decide +kernel)) ggX9_isHeld_X9_forcedOf
theorem bnames04cX9_isHeld_0 : ((dk_l cX9_isHeld).drop 0).take 39 = [42, 27, 182, 1, 107, 153, 0, 32, 42, 42, 180, 0, 92, 27, 46, 42, 180, 0, 95, 27, 46, 182, 1, 46, 42, 180, 0, 107, 27, 46, 164, 0, 7, 4, 167, 0, 4, 3, 172] := by decide +kernel
theorem dX9_isHeld_0 : decode cX9_isHeld 0 = .ok (.aload_n 0, 1) := dk_42 (c := cX9_isHeld) (pc := 0) (dk_at bnames04cX9_isHeld_0 0)
theorem dX9_isHeld_1 : decode cX9_isHeld 1 = .ok (.iload_n 1, 1) := dk_27 (c := cX9_isHeld) (pc := 1) (dk_at bnames04cX9_isHeld_0 1)
theorem dX9_isHeld_2 : decode cX9_isHeld 2 = .ok (.invokevirtual 363, 3) := dk_182 (c := cX9_isHeld) (pc := 2) (a := 1) (b := 107) (dk_at bnames04cX9_isHeld_0 2) rfl
theorem dX9_isHeld_5 : decode cX9_isHeld 5 = .ok (.ifCond .eq 32, 3) := dk_153 (c := cX9_isHeld) (pc := 5) (a := 0) (b := 32) (dk_at bnames04cX9_isHeld_0 5) (by decide)
theorem dX9_isHeld_8 : decode cX9_isHeld 8 = .ok (.aload_n 0, 1) := dk_42 (c := cX9_isHeld) (pc := 8) (dk_at bnames04cX9_isHeld_0 8)
theorem dX9_isHeld_9 : decode cX9_isHeld 9 = .ok (.aload_n 0, 1) := dk_42 (c := cX9_isHeld) (pc := 9) (dk_at bnames04cX9_isHeld_0 9)
theorem dX9_isHeld_10 : decode cX9_isHeld 10 = .ok (.getfield 92, 3) := dk_180 (c := cX9_isHeld) (pc := 10) (a := 0) (b := 92) (dk_at bnames04cX9_isHeld_0 10) rfl
theorem dX9_isHeld_13 : decode cX9_isHeld 13 = .ok (.iload_n 1, 1) := dk_27 (c := cX9_isHeld) (pc := 13) (dk_at bnames04cX9_isHeld_0 13)
theorem dX9_isHeld_14 : decode cX9_isHeld 14 = .ok (.iaload, 1) := dk_46 (c := cX9_isHeld) (pc := 14) (dk_at bnames04cX9_isHeld_0 14)
theorem dX9_isHeld_15 : decode cX9_isHeld 15 = .ok (.aload_n 0, 1) := dk_42 (c := cX9_isHeld) (pc := 15) (dk_at bnames04cX9_isHeld_0 15)
theorem dX9_isHeld_16 : decode cX9_isHeld 16 = .ok (.getfield 95, 3) := dk_180 (c := cX9_isHeld) (pc := 16) (a := 0) (b := 95) (dk_at bnames04cX9_isHeld_0 16) rfl
theorem dX9_isHeld_19 : decode cX9_isHeld 19 = .ok (.iload_n 1, 1) := dk_27 (c := cX9_isHeld) (pc := 19) (dk_at bnames04cX9_isHeld_0 19)
theorem dX9_isHeld_20 : decode cX9_isHeld 20 = .ok (.iaload, 1) := dk_46 (c := cX9_isHeld) (pc := 20) (dk_at bnames04cX9_isHeld_0 20)
theorem dX9_isHeld_21 : decode cX9_isHeld 21 = .ok (.invokevirtual 302, 3) := dk_182 (c := cX9_isHeld) (pc := 21) (a := 1) (b := 46) (dk_at bnames04cX9_isHeld_0 21) rfl
theorem dX9_isHeld_24 : decode cX9_isHeld 24 = .ok (.aload_n 0, 1) := dk_42 (c := cX9_isHeld) (pc := 24) (dk_at bnames04cX9_isHeld_0 24)
theorem dX9_isHeld_25 : decode cX9_isHeld 25 = .ok (.getfield 107, 3) := dk_180 (c := cX9_isHeld) (pc := 25) (a := 0) (b := 107) (dk_at bnames04cX9_isHeld_0 25) rfl
theorem dX9_isHeld_28 : decode cX9_isHeld 28 = .ok (.iload_n 1, 1) := dk_27 (c := cX9_isHeld) (pc := 28) (dk_at bnames04cX9_isHeld_0 28)
theorem dX9_isHeld_29 : decode cX9_isHeld 29 = .ok (.iaload, 1) := dk_46 (c := cX9_isHeld) (pc := 29) (dk_at bnames04cX9_isHeld_0 29)
theorem dX9_isHeld_30 : decode cX9_isHeld 30 = .ok (.if_icmp .le 7, 3) := dk_164 (c := cX9_isHeld) (pc := 30) (a := 0) (b := 7) (dk_at bnames04cX9_isHeld_0 30) (by decide)
theorem dX9_isHeld_33 : decode cX9_isHeld 33 = .ok (.iconst 1, 1) := dk_4 (c := cX9_isHeld) (pc := 33) (dk_at bnames04cX9_isHeld_0 33)
theorem dX9_isHeld_34 : decode cX9_isHeld 34 = .ok (.goto 4, 3) := dk_167 (c := cX9_isHeld) (pc := 34) (a := 0) (b := 4) (dk_at bnames04cX9_isHeld_0 34) (by decide)
theorem dX9_isHeld_37 : decode cX9_isHeld 37 = .ok (.iconst 0, 1) := dk_3 (c := cX9_isHeld) (pc := 37) (dk_at bnames04cX9_isHeld_0 37)
theorem dX9_isHeld_38 : decode cX9_isHeld 38 = .ok (.ireturn, 1) := dk_172 (c := cX9_isHeld) (pc := 38) (dk_at bnames04cX9_isHeld_0 38)
set_option maxRecDepth 20000 in
theorem ggX9_month_X9_in : GoodIn wsX9_month wsX9_in := goodIn_r _ [11] rfl (by decide +kernel)
set_option maxRecDepth 20000 in
theorem gX9_month_X9_in : GoodIn wsX9_month (va_wsS RX9 130 yX9_in wsX9_in) := goodIn_app (goodIn_r _ [8, 9, 10] rfl (by decide +kernel)) ggX9_month_X9_in
set_option maxRecDepth 20000 in
theorem ggX9_month_X9_isHeld : GoodIn wsX9_month wsX9_isHeld := goodIn_r _ [15, 16, 5, 17, 18, 19, 20, 10, 21, 22, 23, 24, 25, 4, 8, 9, 11, 26, 27, 28, 29, 30, 31, 32, 33, 34, 35, 36, 37, 38, 39, 40, 41, 42, 43, 44, 45, 46, 47, 48, 49, 50, 51, 52, 53, 54, 55, 56, 57, 58, 59, 60, 61, 62, 63, 64, 65, 66, 67, 68, 69, 70, 71, 72, 73, 74, 75, 76, 77, 78, 79, 80, 81, 82, 83, 84, 85, 86, 87, 88, 89, 90, 91, 92, 93, 94, 95, 96, 97, 98, 99, 100] rfl (by decide +kernel)
set_option maxRecDepth 20000 in
theorem gX9_month_X9_isHeld : GoodIn wsX9_month (wsV RX9 370 RX9 yX9_isHeld wsX9_isHeld) := goodIn_app (goodIn_r _ [12, 13, 14, 10] rfl (by decide +kernel)) ggX9_month_X9_isHeld
theorem bnames04cX9_month_0 : ((dk_l cX9_month).drop 0).take 52 = [42, 3, 181, 0, 125, 27, 133, 9, 20, 0, 222, 184, 0, 130, 153, 0, 15, 28, 133, 9, 20, 0, 128, 184, 0, 130, 154, 0, 5, 2, 172, 3, 62, 3, 54, 4, 21, 4, 42, 180, 0, 89, 3, 46, 162, 0, 82, 27, 153, 0, 17, 42] := by decide +kernel
theorem dX9_month_0 : decode cX9_month 0 = .ok (.aload_n 0, 1) := dk_42 (c := cX9_month) (pc := 0) (dk_at bnames04cX9_month_0 0)
theorem dX9_month_1 : decode cX9_month 1 = .ok (.iconst 0, 1) := dk_3 (c := cX9_month) (pc := 1) (dk_at bnames04cX9_month_0 1)
theorem dX9_month_2 : decode cX9_month 2 = .ok (.putfield 125, 3) := dk_181 (c := cX9_month) (pc := 2) (a := 0) (b := 125) (dk_at bnames04cX9_month_0 2) rfl
theorem dX9_month_5 : decode cX9_month 5 = .ok (.iload_n 1, 1) := dk_27 (c := cX9_month) (pc := 5) (dk_at bnames04cX9_month_0 5)
theorem dX9_month_6 : decode cX9_month 6 = .ok (.i2l, 1) := dk_133 (c := cX9_month) (pc := 6) (dk_at bnames04cX9_month_0 6)
theorem dX9_month_7 : decode cX9_month 7 = .ok (.lconst 0, 1) := dk_9 (c := cX9_month) (pc := 7) (dk_at bnames04cX9_month_0 7)
theorem dX9_month_8 : decode cX9_month 8 = .ok (.ldc2_w 222, 3) := dk_20 (c := cX9_month) (pc := 8) (a := 0) (b := 222) (dk_at bnames04cX9_month_0 8) rfl
theorem dX9_month_11 : decode cX9_month 11 = .ok (.invokestatic 130, 3) := dk_184 (c := cX9_month) (pc := 11) (a := 0) (b := 130) (dk_at bnames04cX9_month_0 11) rfl
theorem dX9_month_14 : decode cX9_month 14 = .ok (.ifCond .eq 15, 3) := dk_153 (c := cX9_month) (pc := 14) (a := 0) (b := 15) (dk_at bnames04cX9_month_0 14) (by decide)
theorem dX9_month_17 : decode cX9_month 17 = .ok (.iload_n 2, 1) := dk_28 (c := cX9_month) (pc := 17) (dk_at bnames04cX9_month_0 17)
theorem dX9_month_18 : decode cX9_month 18 = .ok (.i2l, 1) := dk_133 (c := cX9_month) (pc := 18) (dk_at bnames04cX9_month_0 18)
theorem dX9_month_19 : decode cX9_month 19 = .ok (.lconst 0, 1) := dk_9 (c := cX9_month) (pc := 19) (dk_at bnames04cX9_month_0 19)
theorem dX9_month_20 : decode cX9_month 20 = .ok (.ldc2_w 128, 3) := dk_20 (c := cX9_month) (pc := 20) (a := 0) (b := 128) (dk_at bnames04cX9_month_0 20) rfl
theorem dX9_month_23 : decode cX9_month 23 = .ok (.invokestatic 130, 3) := dk_184 (c := cX9_month) (pc := 23) (a := 0) (b := 130) (dk_at bnames04cX9_month_0 23) rfl
theorem dX9_month_26 : decode cX9_month 26 = .ok (.ifCond .ne 5, 3) := dk_154 (c := cX9_month) (pc := 26) (a := 0) (b := 5) (dk_at bnames04cX9_month_0 26) (by decide)
theorem dX9_month_29 : decode cX9_month 29 = .ok (.iconst (-1), 1) := dk_2 (c := cX9_month) (pc := 29) (dk_at bnames04cX9_month_0 29)
theorem dX9_month_30 : decode cX9_month 30 = .ok (.ireturn, 1) := dk_172 (c := cX9_month) (pc := 30) (dk_at bnames04cX9_month_0 30)
theorem dX9_month_31 : decode cX9_month 31 = .ok (.iconst 0, 1) := dk_3 (c := cX9_month) (pc := 31) (dk_at bnames04cX9_month_0 31)
theorem dX9_month_32 : decode cX9_month 32 = .ok (.istore_n 3, 1) := dk_62 (c := cX9_month) (pc := 32) (dk_at bnames04cX9_month_0 32)
theorem dX9_month_33 : decode cX9_month 33 = .ok (.iconst 0, 1) := dk_3 (c := cX9_month) (pc := 33) (dk_at bnames04cX9_month_0 33)
theorem dX9_month_34 : decode cX9_month 34 = .ok (.istore 4, 2) := dk_54 (c := cX9_month) (pc := 34) (a := 4) (dk_at bnames04cX9_month_0 34) rfl
theorem dX9_month_36 : decode cX9_month 36 = .ok (.iload 4, 2) := dk_21 (c := cX9_month) (pc := 36) (a := 4) (dk_at bnames04cX9_month_0 36) rfl
theorem dX9_month_38 : decode cX9_month 38 = .ok (.aload_n 0, 1) := dk_42 (c := cX9_month) (pc := 38) (dk_at bnames04cX9_month_0 38)
theorem dX9_month_39 : decode cX9_month 39 = .ok (.getfield 89, 3) := dk_180 (c := cX9_month) (pc := 39) (a := 0) (b := 89) (dk_at bnames04cX9_month_0 39) rfl
theorem dX9_month_42 : decode cX9_month 42 = .ok (.iconst 0, 1) := dk_3 (c := cX9_month) (pc := 42) (dk_at bnames04cX9_month_0 42)
theorem dX9_month_43 : decode cX9_month 43 = .ok (.iaload, 1) := dk_46 (c := cX9_month) (pc := 43) (dk_at bnames04cX9_month_0 43)
theorem dX9_month_44 : decode cX9_month 44 = .ok (.if_icmp .ge 82, 3) := dk_162 (c := cX9_month) (pc := 44) (a := 0) (b := 82) (dk_at bnames04cX9_month_0 44) (by decide)
theorem dX9_month_47 : decode cX9_month 47 = .ok (.iload_n 1, 1) := dk_27 (c := cX9_month) (pc := 47) (dk_at bnames04cX9_month_0 47)
theorem bnames04cX9_month_48 : ((dk_l cX9_month).drop 48).take 52 = [153, 0, 17, 42, 180, 0, 95, 21, 4, 46, 27, 159, 0, 6, 167, 0, 58, 29, 28, 154, 0, 7, 4, 167, 0, 47, 28, 4, 160, 0, 13, 42, 180, 0, 98, 21, 4, 46, 167, 0, 32, 28, 5, 160, 0, 13, 42, 180, 0, 101, 21, 4] := by decide +kernel
theorem dX9_month_48 : decode cX9_month 48 = .ok (.ifCond .eq 17, 3) := dk_153 (c := cX9_month) (pc := 48) (a := 0) (b := 17) (dk_at bnames04cX9_month_48 0) (by decide)
theorem dX9_month_51 : decode cX9_month 51 = .ok (.aload_n 0, 1) := dk_42 (c := cX9_month) (pc := 51) (dk_at bnames04cX9_month_48 3)
theorem dX9_month_52 : decode cX9_month 52 = .ok (.getfield 95, 3) := dk_180 (c := cX9_month) (pc := 52) (a := 0) (b := 95) (dk_at bnames04cX9_month_48 4) rfl
theorem dX9_month_55 : decode cX9_month 55 = .ok (.iload 4, 2) := dk_21 (c := cX9_month) (pc := 55) (a := 4) (dk_at bnames04cX9_month_48 7) rfl
theorem dX9_month_57 : decode cX9_month 57 = .ok (.iaload, 1) := dk_46 (c := cX9_month) (pc := 57) (dk_at bnames04cX9_month_48 9)
theorem dX9_month_58 : decode cX9_month 58 = .ok (.iload_n 1, 1) := dk_27 (c := cX9_month) (pc := 58) (dk_at bnames04cX9_month_48 10)
theorem dX9_month_59 : decode cX9_month 59 = .ok (.if_icmp .eq 6, 3) := dk_159 (c := cX9_month) (pc := 59) (a := 0) (b := 6) (dk_at bnames04cX9_month_48 11) (by decide)
theorem dX9_month_62 : decode cX9_month 62 = .ok (.goto 58, 3) := dk_167 (c := cX9_month) (pc := 62) (a := 0) (b := 58) (dk_at bnames04cX9_month_48 14) (by decide)
theorem dX9_month_65 : decode cX9_month 65 = .ok (.iload_n 3, 1) := dk_29 (c := cX9_month) (pc := 65) (dk_at bnames04cX9_month_48 17)
theorem dX9_month_66 : decode cX9_month 66 = .ok (.iload_n 2, 1) := dk_28 (c := cX9_month) (pc := 66) (dk_at bnames04cX9_month_48 18)
theorem dX9_month_67 : decode cX9_month 67 = .ok (.ifCond .ne 7, 3) := dk_154 (c := cX9_month) (pc := 67) (a := 0) (b := 7) (dk_at bnames04cX9_month_48 19) (by decide)
theorem dX9_month_70 : decode cX9_month 70 = .ok (.iconst 1, 1) := dk_4 (c := cX9_month) (pc := 70) (dk_at bnames04cX9_month_48 22)
theorem dX9_month_71 : decode cX9_month 71 = .ok (.goto 47, 3) := dk_167 (c := cX9_month) (pc := 71) (a := 0) (b := 47) (dk_at bnames04cX9_month_48 23) (by decide)
theorem dX9_month_74 : decode cX9_month 74 = .ok (.iload_n 2, 1) := dk_28 (c := cX9_month) (pc := 74) (dk_at bnames04cX9_month_48 26)
theorem dX9_month_75 : decode cX9_month 75 = .ok (.iconst 1, 1) := dk_4 (c := cX9_month) (pc := 75) (dk_at bnames04cX9_month_48 27)
theorem dX9_month_76 : decode cX9_month 76 = .ok (.if_icmp .ne 13, 3) := dk_160 (c := cX9_month) (pc := 76) (a := 0) (b := 13) (dk_at bnames04cX9_month_48 28) (by decide)
theorem dX9_month_79 : decode cX9_month 79 = .ok (.aload_n 0, 1) := dk_42 (c := cX9_month) (pc := 79) (dk_at bnames04cX9_month_48 31)
theorem dX9_month_80 : decode cX9_month 80 = .ok (.getfield 98, 3) := dk_180 (c := cX9_month) (pc := 80) (a := 0) (b := 98) (dk_at bnames04cX9_month_48 32) rfl
theorem dX9_month_83 : decode cX9_month 83 = .ok (.iload 4, 2) := dk_21 (c := cX9_month) (pc := 83) (a := 4) (dk_at bnames04cX9_month_48 35) rfl
theorem dX9_month_85 : decode cX9_month 85 = .ok (.iaload, 1) := dk_46 (c := cX9_month) (pc := 85) (dk_at bnames04cX9_month_48 37)
theorem dX9_month_86 : decode cX9_month 86 = .ok (.goto 32, 3) := dk_167 (c := cX9_month) (pc := 86) (a := 0) (b := 32) (dk_at bnames04cX9_month_48 38) (by decide)
theorem dX9_month_89 : decode cX9_month 89 = .ok (.iload_n 2, 1) := dk_28 (c := cX9_month) (pc := 89) (dk_at bnames04cX9_month_48 41)
theorem dX9_month_90 : decode cX9_month 90 = .ok (.iconst 2, 1) := dk_5 (c := cX9_month) (pc := 90) (dk_at bnames04cX9_month_48 42)
theorem dX9_month_91 : decode cX9_month 91 = .ok (.if_icmp .ne 13, 3) := dk_160 (c := cX9_month) (pc := 91) (a := 0) (b := 13) (dk_at bnames04cX9_month_48 43) (by decide)
theorem dX9_month_94 : decode cX9_month 94 = .ok (.aload_n 0, 1) := dk_42 (c := cX9_month) (pc := 94) (dk_at bnames04cX9_month_48 46)
theorem dX9_month_95 : decode cX9_month 95 = .ok (.getfield 101, 3) := dk_180 (c := cX9_month) (pc := 95) (a := 0) (b := 101) (dk_at bnames04cX9_month_48 47) rfl
theorem bnames04cX9_month_96 : ((dk_l cX9_month).drop 96).take 32 = [0, 101, 21, 4, 46, 167, 0, 17, 42, 21, 4, 182, 1, 114, 153, 0, 7, 4, 167, 0, 4, 3, 96, 62, 132, 4, 1, 167, 255, 169, 29, 172] := by decide +kernel
theorem dX9_month_98 : decode cX9_month 98 = .ok (.iload 4, 2) := dk_21 (c := cX9_month) (pc := 98) (a := 4) (dk_at bnames04cX9_month_96 2) rfl
theorem dX9_month_100 : decode cX9_month 100 = .ok (.iaload, 1) := dk_46 (c := cX9_month) (pc := 100) (dk_at bnames04cX9_month_96 4)
theorem dX9_month_101 : decode cX9_month 101 = .ok (.goto 17, 3) := dk_167 (c := cX9_month) (pc := 101) (a := 0) (b := 17) (dk_at bnames04cX9_month_96 5) (by decide)
theorem dX9_month_104 : decode cX9_month 104 = .ok (.aload_n 0, 1) := dk_42 (c := cX9_month) (pc := 104) (dk_at bnames04cX9_month_96 8)
theorem dX9_month_105 : decode cX9_month 105 = .ok (.iload 4, 2) := dk_21 (c := cX9_month) (pc := 105) (a := 4) (dk_at bnames04cX9_month_96 9) rfl
theorem dX9_month_107 : decode cX9_month 107 = .ok (.invokevirtual 370, 3) := dk_182 (c := cX9_month) (pc := 107) (a := 1) (b := 114) (dk_at bnames04cX9_month_96 11) rfl
theorem dX9_month_110 : decode cX9_month 110 = .ok (.ifCond .eq 7, 3) := dk_153 (c := cX9_month) (pc := 110) (a := 0) (b := 7) (dk_at bnames04cX9_month_96 14) (by decide)
theorem dX9_month_113 : decode cX9_month 113 = .ok (.iconst 1, 1) := dk_4 (c := cX9_month) (pc := 113) (dk_at bnames04cX9_month_96 17)
theorem dX9_month_114 : decode cX9_month 114 = .ok (.goto 4, 3) := dk_167 (c := cX9_month) (pc := 114) (a := 0) (b := 4) (dk_at bnames04cX9_month_96 18) (by decide)
theorem dX9_month_117 : decode cX9_month 117 = .ok (.iconst 0, 1) := dk_3 (c := cX9_month) (pc := 117) (dk_at bnames04cX9_month_96 21)
theorem dX9_month_118 : decode cX9_month 118 = .ok (.iadd, 1) := dk_96 (c := cX9_month) (pc := 118) (dk_at bnames04cX9_month_96 22)
theorem dX9_month_119 : decode cX9_month 119 = .ok (.istore_n 3, 1) := dk_62 (c := cX9_month) (pc := 119) (dk_at bnames04cX9_month_96 23)
theorem dX9_month_120 : decode cX9_month 120 = .ok (.iinc 4 1, 3) := dk_132 (c := cX9_month) (pc := 120) (a := 4) (b := 1) (dk_at bnames04cX9_month_96 24) rfl (by decide)
theorem dX9_month_123 : decode cX9_month 123 = .ok (.goto (-87), 3) := dk_167 (c := cX9_month) (pc := 123) (a := 255) (b := 169) (dk_at bnames04cX9_month_96 27) (by decide)
theorem dX9_month_126 : decode cX9_month 126 = .ok (.iload_n 3, 1) := dk_29 (c := cX9_month) (pc := 126) (dk_at bnames04cX9_month_96 30)
theorem dX9_month_127 : decode cX9_month 127 = .ok (.ireturn, 1) := dk_172 (c := cX9_month) (pc := 127) (dk_at bnames04cX9_month_96 31)
set_option maxRecDepth 20000 in
theorem ggX9_isPush_X9_in : GoodIn wsX9_isPush wsX9_in := goodIn_r _ [5] rfl (by decide +kernel)
set_option maxRecDepth 20000 in
theorem gX9_isPush_X9_in : GoodIn wsX9_isPush (va_wsS RX9 130 yX9_in wsX9_in) := goodIn_app (goodIn_r _ [2, 3, 4] rfl (by decide +kernel)) ggX9_isPush_X9_in
theorem bnames04cX9_isPush_0 : ((dk_l cX9_isPush).drop 0).take 10 = [26, 133, 10, 20, 1, 117, 184, 0, 130, 172] := by decide +kernel
theorem dX9_isPush_0 : decode cX9_isPush 0 = .ok (.iload_n 0, 1) := dk_26 (c := cX9_isPush) (pc := 0) (dk_at bnames04cX9_isPush_0 0)
theorem dX9_isPush_1 : decode cX9_isPush 1 = .ok (.i2l, 1) := dk_133 (c := cX9_isPush) (pc := 1) (dk_at bnames04cX9_isPush_0 1)
theorem dX9_isPush_2 : decode cX9_isPush 2 = .ok (.lconst 1, 1) := dk_10 (c := cX9_isPush) (pc := 2) (dk_at bnames04cX9_isPush_0 2)
theorem dX9_isPush_3 : decode cX9_isPush 3 = .ok (.ldc2_w 373, 3) := dk_20 (c := cX9_isPush) (pc := 3) (a := 1) (b := 117) (dk_at bnames04cX9_isPush_0 3) rfl
theorem dX9_isPush_6 : decode cX9_isPush 6 = .ok (.invokestatic 130, 3) := dk_184 (c := cX9_isPush) (pc := 6) (a := 0) (b := 130) (dk_at bnames04cX9_isPush_0 6) rfl
theorem dX9_isPush_9 : decode cX9_isPush 9 = .ok (.ireturn, 1) := dk_172 (c := cX9_isPush) (pc := 9) (dk_at bnames04cX9_isPush_0 9)
theorem bnames04cX9_pushes_0 : ((dk_l cX9_pushes).drop 0).take 52 = [3, 61, 28, 42, 180, 0, 89, 3, 46, 162, 0, 36, 42, 180, 0, 110, 28, 27, 42, 180, 0, 95, 28, 46, 4, 100, 122, 4, 126, 4, 160, 0, 7, 4, 167, 0, 4, 3, 84, 132, 2, 1, 167, 255, 216, 42, 42, 180, 0, 89, 3, 46] := by decide +kernel
theorem dX9_pushes_0 : decode cX9_pushes 0 = .ok (.iconst 0, 1) := dk_3 (c := cX9_pushes) (pc := 0) (dk_at bnames04cX9_pushes_0 0)
theorem dX9_pushes_1 : decode cX9_pushes 1 = .ok (.istore_n 2, 1) := dk_61 (c := cX9_pushes) (pc := 1) (dk_at bnames04cX9_pushes_0 1)
theorem dX9_pushes_2 : decode cX9_pushes 2 = .ok (.iload_n 2, 1) := dk_28 (c := cX9_pushes) (pc := 2) (dk_at bnames04cX9_pushes_0 2)
theorem dX9_pushes_3 : decode cX9_pushes 3 = .ok (.aload_n 0, 1) := dk_42 (c := cX9_pushes) (pc := 3) (dk_at bnames04cX9_pushes_0 3)
theorem dX9_pushes_4 : decode cX9_pushes 4 = .ok (.getfield 89, 3) := dk_180 (c := cX9_pushes) (pc := 4) (a := 0) (b := 89) (dk_at bnames04cX9_pushes_0 4) rfl
theorem dX9_pushes_7 : decode cX9_pushes 7 = .ok (.iconst 0, 1) := dk_3 (c := cX9_pushes) (pc := 7) (dk_at bnames04cX9_pushes_0 7)
theorem dX9_pushes_8 : decode cX9_pushes 8 = .ok (.iaload, 1) := dk_46 (c := cX9_pushes) (pc := 8) (dk_at bnames04cX9_pushes_0 8)
theorem dX9_pushes_9 : decode cX9_pushes 9 = .ok (.if_icmp .ge 36, 3) := dk_162 (c := cX9_pushes) (pc := 9) (a := 0) (b := 36) (dk_at bnames04cX9_pushes_0 9) (by decide)
theorem dX9_pushes_12 : decode cX9_pushes 12 = .ok (.aload_n 0, 1) := dk_42 (c := cX9_pushes) (pc := 12) (dk_at bnames04cX9_pushes_0 12)
theorem dX9_pushes_13 : decode cX9_pushes 13 = .ok (.getfield 110, 3) := dk_180 (c := cX9_pushes) (pc := 13) (a := 0) (b := 110) (dk_at bnames04cX9_pushes_0 13) rfl
theorem dX9_pushes_16 : decode cX9_pushes 16 = .ok (.iload_n 2, 1) := dk_28 (c := cX9_pushes) (pc := 16) (dk_at bnames04cX9_pushes_0 16)
theorem dX9_pushes_17 : decode cX9_pushes 17 = .ok (.iload_n 1, 1) := dk_27 (c := cX9_pushes) (pc := 17) (dk_at bnames04cX9_pushes_0 17)
theorem dX9_pushes_18 : decode cX9_pushes 18 = .ok (.aload_n 0, 1) := dk_42 (c := cX9_pushes) (pc := 18) (dk_at bnames04cX9_pushes_0 18)
theorem dX9_pushes_19 : decode cX9_pushes 19 = .ok (.getfield 95, 3) := dk_180 (c := cX9_pushes) (pc := 19) (a := 0) (b := 95) (dk_at bnames04cX9_pushes_0 19) rfl
theorem dX9_pushes_22 : decode cX9_pushes 22 = .ok (.iload_n 2, 1) := dk_28 (c := cX9_pushes) (pc := 22) (dk_at bnames04cX9_pushes_0 22)
theorem dX9_pushes_23 : decode cX9_pushes 23 = .ok (.iaload, 1) := dk_46 (c := cX9_pushes) (pc := 23) (dk_at bnames04cX9_pushes_0 23)
theorem dX9_pushes_24 : decode cX9_pushes 24 = .ok (.iconst 1, 1) := dk_4 (c := cX9_pushes) (pc := 24) (dk_at bnames04cX9_pushes_0 24)
theorem dX9_pushes_25 : decode cX9_pushes 25 = .ok (.isub, 1) := dk_100 (c := cX9_pushes) (pc := 25) (dk_at bnames04cX9_pushes_0 25)
theorem dX9_pushes_26 : decode cX9_pushes 26 = .ok (.ishr, 1) := dk_122 (c := cX9_pushes) (pc := 26) (dk_at bnames04cX9_pushes_0 26)
theorem dX9_pushes_27 : decode cX9_pushes 27 = .ok (.iconst 1, 1) := dk_4 (c := cX9_pushes) (pc := 27) (dk_at bnames04cX9_pushes_0 27)
theorem dX9_pushes_28 : decode cX9_pushes 28 = .ok (.iand, 1) := dk_126 (c := cX9_pushes) (pc := 28) (dk_at bnames04cX9_pushes_0 28)
theorem dX9_pushes_29 : decode cX9_pushes 29 = .ok (.iconst 1, 1) := dk_4 (c := cX9_pushes) (pc := 29) (dk_at bnames04cX9_pushes_0 29)
theorem dX9_pushes_30 : decode cX9_pushes 30 = .ok (.if_icmp .ne 7, 3) := dk_160 (c := cX9_pushes) (pc := 30) (a := 0) (b := 7) (dk_at bnames04cX9_pushes_0 30) (by decide)
theorem dX9_pushes_33 : decode cX9_pushes 33 = .ok (.iconst 1, 1) := dk_4 (c := cX9_pushes) (pc := 33) (dk_at bnames04cX9_pushes_0 33)
theorem dX9_pushes_34 : decode cX9_pushes 34 = .ok (.goto 4, 3) := dk_167 (c := cX9_pushes) (pc := 34) (a := 0) (b := 4) (dk_at bnames04cX9_pushes_0 34) (by decide)
theorem dX9_pushes_37 : decode cX9_pushes 37 = .ok (.iconst 0, 1) := dk_3 (c := cX9_pushes) (pc := 37) (dk_at bnames04cX9_pushes_0 37)
theorem dX9_pushes_38 : decode cX9_pushes 38 = .ok (.bastore, 1) := dk_84 (c := cX9_pushes) (pc := 38) (dk_at bnames04cX9_pushes_0 38)
theorem dX9_pushes_39 : decode cX9_pushes 39 = .ok (.iinc 2 1, 3) := dk_132 (c := cX9_pushes) (pc := 39) (a := 2) (b := 1) (dk_at bnames04cX9_pushes_0 39) rfl (by decide)
theorem dX9_pushes_42 : decode cX9_pushes 42 = .ok (.goto (-40), 3) := dk_167 (c := cX9_pushes) (pc := 42) (a := 255) (b := 216) (dk_at bnames04cX9_pushes_0 42) (by decide)
theorem dX9_pushes_45 : decode cX9_pushes 45 = .ok (.aload_n 0, 1) := dk_42 (c := cX9_pushes) (pc := 45) (dk_at bnames04cX9_pushes_0 45)
theorem dX9_pushes_46 : decode cX9_pushes 46 = .ok (.aload_n 0, 1) := dk_42 (c := cX9_pushes) (pc := 46) (dk_at bnames04cX9_pushes_0 46)
theorem dX9_pushes_47 : decode cX9_pushes 47 = .ok (.getfield 89, 3) := dk_180 (c := cX9_pushes) (pc := 47) (a := 0) (b := 89) (dk_at bnames04cX9_pushes_0 47) rfl
theorem bnames04cX9_pushes_48 : ((dk_l cX9_pushes).drop 48).take 8 = [0, 89, 3, 46, 181, 1, 119, 177] := by decide +kernel
theorem dX9_pushes_50 : decode cX9_pushes 50 = .ok (.iconst 0, 1) := dk_3 (c := cX9_pushes) (pc := 50) (dk_at bnames04cX9_pushes_48 2)
theorem dX9_pushes_51 : decode cX9_pushes 51 = .ok (.iaload, 1) := dk_46 (c := cX9_pushes) (pc := 51) (dk_at bnames04cX9_pushes_48 3)
theorem dX9_pushes_52 : decode cX9_pushes 52 = .ok (.putfield 375, 3) := dk_181 (c := cX9_pushes) (pc := 52) (a := 1) (b := 119) (dk_at bnames04cX9_pushes_48 4) rfl
theorem dX9_pushes_55 : decode cX9_pushes 55 = .ok (.return_, 1) := dk_177 (c := cX9_pushes) (pc := 55) (dk_at bnames04cX9_pushes_48 7)
theorem bnames04cX9_gathers_0 : ((dk_l cX9_gathers).drop 0).take 52 = [42, 9, 181, 1, 122, 42, 9, 181, 1, 125, 42, 9, 181, 1, 128, 42, 9, 181, 1, 131, 42, 9, 181, 1, 134, 42, 9, 181, 1, 137, 42, 9, 181, 1, 140, 42, 9, 181, 1, 143, 3, 60, 27, 42, 180, 1, 119, 162, 0, 153, 42, 89] := by decide +kernel
theorem dX9_gathers_0 : decode cX9_gathers 0 = .ok (.aload_n 0, 1) := dk_42 (c := cX9_gathers) (pc := 0) (dk_at bnames04cX9_gathers_0 0)
theorem dX9_gathers_1 : decode cX9_gathers 1 = .ok (.lconst 0, 1) := dk_9 (c := cX9_gathers) (pc := 1) (dk_at bnames04cX9_gathers_0 1)
theorem dX9_gathers_2 : decode cX9_gathers 2 = .ok (.putfield 378, 3) := dk_181 (c := cX9_gathers) (pc := 2) (a := 1) (b := 122) (dk_at bnames04cX9_gathers_0 2) rfl
theorem dX9_gathers_5 : decode cX9_gathers 5 = .ok (.aload_n 0, 1) := dk_42 (c := cX9_gathers) (pc := 5) (dk_at bnames04cX9_gathers_0 5)
theorem dX9_gathers_6 : decode cX9_gathers 6 = .ok (.lconst 0, 1) := dk_9 (c := cX9_gathers) (pc := 6) (dk_at bnames04cX9_gathers_0 6)
theorem dX9_gathers_7 : decode cX9_gathers 7 = .ok (.putfield 381, 3) := dk_181 (c := cX9_gathers) (pc := 7) (a := 1) (b := 125) (dk_at bnames04cX9_gathers_0 7) rfl
theorem dX9_gathers_10 : decode cX9_gathers 10 = .ok (.aload_n 0, 1) := dk_42 (c := cX9_gathers) (pc := 10) (dk_at bnames04cX9_gathers_0 10)
theorem dX9_gathers_11 : decode cX9_gathers 11 = .ok (.lconst 0, 1) := dk_9 (c := cX9_gathers) (pc := 11) (dk_at bnames04cX9_gathers_0 11)
theorem dX9_gathers_12 : decode cX9_gathers 12 = .ok (.putfield 384, 3) := dk_181 (c := cX9_gathers) (pc := 12) (a := 1) (b := 128) (dk_at bnames04cX9_gathers_0 12) rfl
theorem dX9_gathers_15 : decode cX9_gathers 15 = .ok (.aload_n 0, 1) := dk_42 (c := cX9_gathers) (pc := 15) (dk_at bnames04cX9_gathers_0 15)
theorem dX9_gathers_16 : decode cX9_gathers 16 = .ok (.lconst 0, 1) := dk_9 (c := cX9_gathers) (pc := 16) (dk_at bnames04cX9_gathers_0 16)
theorem dX9_gathers_17 : decode cX9_gathers 17 = .ok (.putfield 387, 3) := dk_181 (c := cX9_gathers) (pc := 17) (a := 1) (b := 131) (dk_at bnames04cX9_gathers_0 17) rfl
theorem dX9_gathers_20 : decode cX9_gathers 20 = .ok (.aload_n 0, 1) := dk_42 (c := cX9_gathers) (pc := 20) (dk_at bnames04cX9_gathers_0 20)
theorem dX9_gathers_21 : decode cX9_gathers 21 = .ok (.lconst 0, 1) := dk_9 (c := cX9_gathers) (pc := 21) (dk_at bnames04cX9_gathers_0 21)
theorem dX9_gathers_22 : decode cX9_gathers 22 = .ok (.putfield 390, 3) := dk_181 (c := cX9_gathers) (pc := 22) (a := 1) (b := 134) (dk_at bnames04cX9_gathers_0 22) rfl
theorem dX9_gathers_25 : decode cX9_gathers 25 = .ok (.aload_n 0, 1) := dk_42 (c := cX9_gathers) (pc := 25) (dk_at bnames04cX9_gathers_0 25)
theorem dX9_gathers_26 : decode cX9_gathers 26 = .ok (.lconst 0, 1) := dk_9 (c := cX9_gathers) (pc := 26) (dk_at bnames04cX9_gathers_0 26)
theorem dX9_gathers_27 : decode cX9_gathers 27 = .ok (.putfield 393, 3) := dk_181 (c := cX9_gathers) (pc := 27) (a := 1) (b := 137) (dk_at bnames04cX9_gathers_0 27) rfl
theorem dX9_gathers_30 : decode cX9_gathers 30 = .ok (.aload_n 0, 1) := dk_42 (c := cX9_gathers) (pc := 30) (dk_at bnames04cX9_gathers_0 30)
theorem dX9_gathers_31 : decode cX9_gathers 31 = .ok (.lconst 0, 1) := dk_9 (c := cX9_gathers) (pc := 31) (dk_at bnames04cX9_gathers_0 31)
theorem dX9_gathers_32 : decode cX9_gathers 32 = .ok (.putfield 396, 3) := dk_181 (c := cX9_gathers) (pc := 32) (a := 1) (b := 140) (dk_at bnames04cX9_gathers_0 32) rfl
theorem dX9_gathers_35 : decode cX9_gathers 35 = .ok (.aload_n 0, 1) := dk_42 (c := cX9_gathers) (pc := 35) (dk_at bnames04cX9_gathers_0 35)
theorem dX9_gathers_36 : decode cX9_gathers 36 = .ok (.lconst 0, 1) := dk_9 (c := cX9_gathers) (pc := 36) (dk_at bnames04cX9_gathers_0 36)
theorem dX9_gathers_37 : decode cX9_gathers 37 = .ok (.putfield 399, 3) := dk_181 (c := cX9_gathers) (pc := 37) (a := 1) (b := 143) (dk_at bnames04cX9_gathers_0 37) rfl
theorem dX9_gathers_40 : decode cX9_gathers 40 = .ok (.iconst 0, 1) := dk_3 (c := cX9_gathers) (pc := 40) (dk_at bnames04cX9_gathers_0 40)
theorem dX9_gathers_41 : decode cX9_gathers 41 = .ok (.istore_n 1, 1) := dk_60 (c := cX9_gathers) (pc := 41) (dk_at bnames04cX9_gathers_0 41)
theorem dX9_gathers_42 : decode cX9_gathers 42 = .ok (.iload_n 1, 1) := dk_27 (c := cX9_gathers) (pc := 42) (dk_at bnames04cX9_gathers_0 42)
theorem dX9_gathers_43 : decode cX9_gathers 43 = .ok (.aload_n 0, 1) := dk_42 (c := cX9_gathers) (pc := 43) (dk_at bnames04cX9_gathers_0 43)
theorem dX9_gathers_44 : decode cX9_gathers 44 = .ok (.getfield 375, 3) := dk_180 (c := cX9_gathers) (pc := 44) (a := 1) (b := 119) (dk_at bnames04cX9_gathers_0 44) rfl
theorem dX9_gathers_47 : decode cX9_gathers 47 = .ok (.if_icmp .ge 153, 3) := dk_162 (c := cX9_gathers) (pc := 47) (a := 0) (b := 153) (dk_at bnames04cX9_gathers_0 47) (by decide)
theorem bnames04cX9_gathers_48 : ((dk_l cX9_gathers).drop 48).take 52 = [0, 153, 42, 89, 180, 1, 140, 42, 180, 0, 98, 27, 46, 133, 42, 180, 0, 98, 27, 46, 133, 105, 97, 181, 1, 140, 42, 89, 180, 1, 143, 42, 180, 0, 98, 27, 46, 133, 42, 180, 0, 101, 27, 46, 133, 105, 97, 181, 1, 143, 42, 180] := by decide +kernel
theorem dX9_gathers_50 : decode cX9_gathers 50 = .ok (.aload_n 0, 1) := dk_42 (c := cX9_gathers) (pc := 50) (dk_at bnames04cX9_gathers_48 2)
theorem dX9_gathers_51 : decode cX9_gathers 51 = .ok (.dup, 1) := dk_89 (c := cX9_gathers) (pc := 51) (dk_at bnames04cX9_gathers_48 3)
theorem dX9_gathers_52 : decode cX9_gathers 52 = .ok (.getfield 396, 3) := dk_180 (c := cX9_gathers) (pc := 52) (a := 1) (b := 140) (dk_at bnames04cX9_gathers_48 4) rfl
theorem dX9_gathers_55 : decode cX9_gathers 55 = .ok (.aload_n 0, 1) := dk_42 (c := cX9_gathers) (pc := 55) (dk_at bnames04cX9_gathers_48 7)
theorem dX9_gathers_56 : decode cX9_gathers 56 = .ok (.getfield 98, 3) := dk_180 (c := cX9_gathers) (pc := 56) (a := 0) (b := 98) (dk_at bnames04cX9_gathers_48 8) rfl
theorem dX9_gathers_59 : decode cX9_gathers 59 = .ok (.iload_n 1, 1) := dk_27 (c := cX9_gathers) (pc := 59) (dk_at bnames04cX9_gathers_48 11)
theorem dX9_gathers_60 : decode cX9_gathers 60 = .ok (.iaload, 1) := dk_46 (c := cX9_gathers) (pc := 60) (dk_at bnames04cX9_gathers_48 12)
theorem dX9_gathers_61 : decode cX9_gathers 61 = .ok (.i2l, 1) := dk_133 (c := cX9_gathers) (pc := 61) (dk_at bnames04cX9_gathers_48 13)
theorem dX9_gathers_62 : decode cX9_gathers 62 = .ok (.aload_n 0, 1) := dk_42 (c := cX9_gathers) (pc := 62) (dk_at bnames04cX9_gathers_48 14)
theorem dX9_gathers_63 : decode cX9_gathers 63 = .ok (.getfield 98, 3) := dk_180 (c := cX9_gathers) (pc := 63) (a := 0) (b := 98) (dk_at bnames04cX9_gathers_48 15) rfl
theorem dX9_gathers_66 : decode cX9_gathers 66 = .ok (.iload_n 1, 1) := dk_27 (c := cX9_gathers) (pc := 66) (dk_at bnames04cX9_gathers_48 18)
theorem dX9_gathers_67 : decode cX9_gathers 67 = .ok (.iaload, 1) := dk_46 (c := cX9_gathers) (pc := 67) (dk_at bnames04cX9_gathers_48 19)
theorem dX9_gathers_68 : decode cX9_gathers 68 = .ok (.i2l, 1) := dk_133 (c := cX9_gathers) (pc := 68) (dk_at bnames04cX9_gathers_48 20)
theorem dX9_gathers_69 : decode cX9_gathers 69 = .ok (.lmul, 1) := dk_105 (c := cX9_gathers) (pc := 69) (dk_at bnames04cX9_gathers_48 21)
theorem dX9_gathers_70 : decode cX9_gathers 70 = .ok (.ladd, 1) := dk_97 (c := cX9_gathers) (pc := 70) (dk_at bnames04cX9_gathers_48 22)
theorem dX9_gathers_71 : decode cX9_gathers 71 = .ok (.putfield 396, 3) := dk_181 (c := cX9_gathers) (pc := 71) (a := 1) (b := 140) (dk_at bnames04cX9_gathers_48 23) rfl
theorem dX9_gathers_74 : decode cX9_gathers 74 = .ok (.aload_n 0, 1) := dk_42 (c := cX9_gathers) (pc := 74) (dk_at bnames04cX9_gathers_48 26)
theorem dX9_gathers_75 : decode cX9_gathers 75 = .ok (.dup, 1) := dk_89 (c := cX9_gathers) (pc := 75) (dk_at bnames04cX9_gathers_48 27)
theorem dX9_gathers_76 : decode cX9_gathers 76 = .ok (.getfield 399, 3) := dk_180 (c := cX9_gathers) (pc := 76) (a := 1) (b := 143) (dk_at bnames04cX9_gathers_48 28) rfl
theorem dX9_gathers_79 : decode cX9_gathers 79 = .ok (.aload_n 0, 1) := dk_42 (c := cX9_gathers) (pc := 79) (dk_at bnames04cX9_gathers_48 31)
theorem dX9_gathers_80 : decode cX9_gathers 80 = .ok (.getfield 98, 3) := dk_180 (c := cX9_gathers) (pc := 80) (a := 0) (b := 98) (dk_at bnames04cX9_gathers_48 32) rfl
theorem dX9_gathers_83 : decode cX9_gathers 83 = .ok (.iload_n 1, 1) := dk_27 (c := cX9_gathers) (pc := 83) (dk_at bnames04cX9_gathers_48 35)
theorem dX9_gathers_84 : decode cX9_gathers 84 = .ok (.iaload, 1) := dk_46 (c := cX9_gathers) (pc := 84) (dk_at bnames04cX9_gathers_48 36)
theorem dX9_gathers_85 : decode cX9_gathers 85 = .ok (.i2l, 1) := dk_133 (c := cX9_gathers) (pc := 85) (dk_at bnames04cX9_gathers_48 37)
theorem dX9_gathers_86 : decode cX9_gathers 86 = .ok (.aload_n 0, 1) := dk_42 (c := cX9_gathers) (pc := 86) (dk_at bnames04cX9_gathers_48 38)
theorem dX9_gathers_87 : decode cX9_gathers 87 = .ok (.getfield 101, 3) := dk_180 (c := cX9_gathers) (pc := 87) (a := 0) (b := 101) (dk_at bnames04cX9_gathers_48 39) rfl
theorem dX9_gathers_90 : decode cX9_gathers 90 = .ok (.iload_n 1, 1) := dk_27 (c := cX9_gathers) (pc := 90) (dk_at bnames04cX9_gathers_48 42)
theorem dX9_gathers_91 : decode cX9_gathers 91 = .ok (.iaload, 1) := dk_46 (c := cX9_gathers) (pc := 91) (dk_at bnames04cX9_gathers_48 43)
theorem dX9_gathers_92 : decode cX9_gathers 92 = .ok (.i2l, 1) := dk_133 (c := cX9_gathers) (pc := 92) (dk_at bnames04cX9_gathers_48 44)
theorem dX9_gathers_93 : decode cX9_gathers 93 = .ok (.lmul, 1) := dk_105 (c := cX9_gathers) (pc := 93) (dk_at bnames04cX9_gathers_48 45)
theorem dX9_gathers_94 : decode cX9_gathers 94 = .ok (.ladd, 1) := dk_97 (c := cX9_gathers) (pc := 94) (dk_at bnames04cX9_gathers_48 46)
theorem dX9_gathers_95 : decode cX9_gathers 95 = .ok (.putfield 399, 3) := dk_181 (c := cX9_gathers) (pc := 95) (a := 1) (b := 143) (dk_at bnames04cX9_gathers_48 47) rfl
theorem bnames04cX9_gathers_96 : ((dk_l cX9_gathers).drop 96).take 52 = [1, 143, 42, 180, 0, 110, 27, 51, 153, 0, 48, 42, 89, 180, 1, 122, 10, 97, 181, 1, 122, 42, 89, 180, 1, 128, 42, 180, 0, 98, 27, 46, 133, 97, 181, 1, 128, 42, 89, 180, 1, 134, 42, 180, 0, 101, 27, 46, 133, 97, 181, 1] := by decide +kernel
theorem dX9_gathers_98 : decode cX9_gathers 98 = .ok (.aload_n 0, 1) := dk_42 (c := cX9_gathers) (pc := 98) (dk_at bnames04cX9_gathers_96 2)
theorem dX9_gathers_99 : decode cX9_gathers 99 = .ok (.getfield 110, 3) := dk_180 (c := cX9_gathers) (pc := 99) (a := 0) (b := 110) (dk_at bnames04cX9_gathers_96 3) rfl
theorem dX9_gathers_102 : decode cX9_gathers 102 = .ok (.iload_n 1, 1) := dk_27 (c := cX9_gathers) (pc := 102) (dk_at bnames04cX9_gathers_96 6)
theorem dX9_gathers_103 : decode cX9_gathers 103 = .ok (.baload, 1) := dk_51 (c := cX9_gathers) (pc := 103) (dk_at bnames04cX9_gathers_96 7)
theorem dX9_gathers_104 : decode cX9_gathers 104 = .ok (.ifCond .eq 48, 3) := dk_153 (c := cX9_gathers) (pc := 104) (a := 0) (b := 48) (dk_at bnames04cX9_gathers_96 8) (by decide)
theorem dX9_gathers_107 : decode cX9_gathers 107 = .ok (.aload_n 0, 1) := dk_42 (c := cX9_gathers) (pc := 107) (dk_at bnames04cX9_gathers_96 11)
theorem dX9_gathers_108 : decode cX9_gathers 108 = .ok (.dup, 1) := dk_89 (c := cX9_gathers) (pc := 108) (dk_at bnames04cX9_gathers_96 12)
theorem dX9_gathers_109 : decode cX9_gathers 109 = .ok (.getfield 378, 3) := dk_180 (c := cX9_gathers) (pc := 109) (a := 1) (b := 122) (dk_at bnames04cX9_gathers_96 13) rfl
theorem dX9_gathers_112 : decode cX9_gathers 112 = .ok (.lconst 1, 1) := dk_10 (c := cX9_gathers) (pc := 112) (dk_at bnames04cX9_gathers_96 16)
theorem dX9_gathers_113 : decode cX9_gathers 113 = .ok (.ladd, 1) := dk_97 (c := cX9_gathers) (pc := 113) (dk_at bnames04cX9_gathers_96 17)
theorem dX9_gathers_114 : decode cX9_gathers 114 = .ok (.putfield 378, 3) := dk_181 (c := cX9_gathers) (pc := 114) (a := 1) (b := 122) (dk_at bnames04cX9_gathers_96 18) rfl
theorem dX9_gathers_117 : decode cX9_gathers 117 = .ok (.aload_n 0, 1) := dk_42 (c := cX9_gathers) (pc := 117) (dk_at bnames04cX9_gathers_96 21)
theorem dX9_gathers_118 : decode cX9_gathers 118 = .ok (.dup, 1) := dk_89 (c := cX9_gathers) (pc := 118) (dk_at bnames04cX9_gathers_96 22)
theorem dX9_gathers_119 : decode cX9_gathers 119 = .ok (.getfield 384, 3) := dk_180 (c := cX9_gathers) (pc := 119) (a := 1) (b := 128) (dk_at bnames04cX9_gathers_96 23) rfl
theorem dX9_gathers_122 : decode cX9_gathers 122 = .ok (.aload_n 0, 1) := dk_42 (c := cX9_gathers) (pc := 122) (dk_at bnames04cX9_gathers_96 26)
theorem dX9_gathers_123 : decode cX9_gathers 123 = .ok (.getfield 98, 3) := dk_180 (c := cX9_gathers) (pc := 123) (a := 0) (b := 98) (dk_at bnames04cX9_gathers_96 27) rfl
theorem dX9_gathers_126 : decode cX9_gathers 126 = .ok (.iload_n 1, 1) := dk_27 (c := cX9_gathers) (pc := 126) (dk_at bnames04cX9_gathers_96 30)
theorem dX9_gathers_127 : decode cX9_gathers 127 = .ok (.iaload, 1) := dk_46 (c := cX9_gathers) (pc := 127) (dk_at bnames04cX9_gathers_96 31)
theorem dX9_gathers_128 : decode cX9_gathers 128 = .ok (.i2l, 1) := dk_133 (c := cX9_gathers) (pc := 128) (dk_at bnames04cX9_gathers_96 32)
theorem dX9_gathers_129 : decode cX9_gathers 129 = .ok (.ladd, 1) := dk_97 (c := cX9_gathers) (pc := 129) (dk_at bnames04cX9_gathers_96 33)
theorem dX9_gathers_130 : decode cX9_gathers 130 = .ok (.putfield 384, 3) := dk_181 (c := cX9_gathers) (pc := 130) (a := 1) (b := 128) (dk_at bnames04cX9_gathers_96 34) rfl
theorem dX9_gathers_133 : decode cX9_gathers 133 = .ok (.aload_n 0, 1) := dk_42 (c := cX9_gathers) (pc := 133) (dk_at bnames04cX9_gathers_96 37)
theorem dX9_gathers_134 : decode cX9_gathers 134 = .ok (.dup, 1) := dk_89 (c := cX9_gathers) (pc := 134) (dk_at bnames04cX9_gathers_96 38)
theorem dX9_gathers_135 : decode cX9_gathers 135 = .ok (.getfield 390, 3) := dk_180 (c := cX9_gathers) (pc := 135) (a := 1) (b := 134) (dk_at bnames04cX9_gathers_96 39) rfl
theorem dX9_gathers_138 : decode cX9_gathers 138 = .ok (.aload_n 0, 1) := dk_42 (c := cX9_gathers) (pc := 138) (dk_at bnames04cX9_gathers_96 42)
theorem dX9_gathers_139 : decode cX9_gathers 139 = .ok (.getfield 101, 3) := dk_180 (c := cX9_gathers) (pc := 139) (a := 0) (b := 101) (dk_at bnames04cX9_gathers_96 43) rfl
theorem dX9_gathers_142 : decode cX9_gathers 142 = .ok (.iload_n 1, 1) := dk_27 (c := cX9_gathers) (pc := 142) (dk_at bnames04cX9_gathers_96 46)
theorem dX9_gathers_143 : decode cX9_gathers 143 = .ok (.iaload, 1) := dk_46 (c := cX9_gathers) (pc := 143) (dk_at bnames04cX9_gathers_96 47)
theorem bnames04cX9_gathers_144 : ((dk_l cX9_gathers).drop 144).take 52 = [133, 97, 181, 1, 134, 167, 0, 45, 42, 89, 180, 1, 125, 10, 97, 181, 1, 125, 42, 89, 180, 1, 131, 42, 180, 0, 98, 27, 46, 133, 97, 181, 1, 131, 42, 89, 180, 1, 137, 42, 180, 0, 101, 27, 46, 133, 97, 181, 1, 137, 132, 1] := by decide +kernel
theorem dX9_gathers_144 : decode cX9_gathers 144 = .ok (.i2l, 1) := dk_133 (c := cX9_gathers) (pc := 144) (dk_at bnames04cX9_gathers_144 0)
theorem dX9_gathers_145 : decode cX9_gathers 145 = .ok (.ladd, 1) := dk_97 (c := cX9_gathers) (pc := 145) (dk_at bnames04cX9_gathers_144 1)
theorem dX9_gathers_146 : decode cX9_gathers 146 = .ok (.putfield 390, 3) := dk_181 (c := cX9_gathers) (pc := 146) (a := 1) (b := 134) (dk_at bnames04cX9_gathers_144 2) rfl
theorem dX9_gathers_149 : decode cX9_gathers 149 = .ok (.goto 45, 3) := dk_167 (c := cX9_gathers) (pc := 149) (a := 0) (b := 45) (dk_at bnames04cX9_gathers_144 5) (by decide)
theorem dX9_gathers_152 : decode cX9_gathers 152 = .ok (.aload_n 0, 1) := dk_42 (c := cX9_gathers) (pc := 152) (dk_at bnames04cX9_gathers_144 8)
theorem dX9_gathers_153 : decode cX9_gathers 153 = .ok (.dup, 1) := dk_89 (c := cX9_gathers) (pc := 153) (dk_at bnames04cX9_gathers_144 9)
theorem dX9_gathers_154 : decode cX9_gathers 154 = .ok (.getfield 381, 3) := dk_180 (c := cX9_gathers) (pc := 154) (a := 1) (b := 125) (dk_at bnames04cX9_gathers_144 10) rfl
theorem dX9_gathers_157 : decode cX9_gathers 157 = .ok (.lconst 1, 1) := dk_10 (c := cX9_gathers) (pc := 157) (dk_at bnames04cX9_gathers_144 13)
theorem dX9_gathers_158 : decode cX9_gathers 158 = .ok (.ladd, 1) := dk_97 (c := cX9_gathers) (pc := 158) (dk_at bnames04cX9_gathers_144 14)
theorem dX9_gathers_159 : decode cX9_gathers 159 = .ok (.putfield 381, 3) := dk_181 (c := cX9_gathers) (pc := 159) (a := 1) (b := 125) (dk_at bnames04cX9_gathers_144 15) rfl
theorem dX9_gathers_162 : decode cX9_gathers 162 = .ok (.aload_n 0, 1) := dk_42 (c := cX9_gathers) (pc := 162) (dk_at bnames04cX9_gathers_144 18)
theorem dX9_gathers_163 : decode cX9_gathers 163 = .ok (.dup, 1) := dk_89 (c := cX9_gathers) (pc := 163) (dk_at bnames04cX9_gathers_144 19)
theorem dX9_gathers_164 : decode cX9_gathers 164 = .ok (.getfield 387, 3) := dk_180 (c := cX9_gathers) (pc := 164) (a := 1) (b := 131) (dk_at bnames04cX9_gathers_144 20) rfl
theorem dX9_gathers_167 : decode cX9_gathers 167 = .ok (.aload_n 0, 1) := dk_42 (c := cX9_gathers) (pc := 167) (dk_at bnames04cX9_gathers_144 23)
theorem dX9_gathers_168 : decode cX9_gathers 168 = .ok (.getfield 98, 3) := dk_180 (c := cX9_gathers) (pc := 168) (a := 0) (b := 98) (dk_at bnames04cX9_gathers_144 24) rfl
theorem dX9_gathers_171 : decode cX9_gathers 171 = .ok (.iload_n 1, 1) := dk_27 (c := cX9_gathers) (pc := 171) (dk_at bnames04cX9_gathers_144 27)
theorem dX9_gathers_172 : decode cX9_gathers 172 = .ok (.iaload, 1) := dk_46 (c := cX9_gathers) (pc := 172) (dk_at bnames04cX9_gathers_144 28)
theorem dX9_gathers_173 : decode cX9_gathers 173 = .ok (.i2l, 1) := dk_133 (c := cX9_gathers) (pc := 173) (dk_at bnames04cX9_gathers_144 29)
theorem dX9_gathers_174 : decode cX9_gathers 174 = .ok (.ladd, 1) := dk_97 (c := cX9_gathers) (pc := 174) (dk_at bnames04cX9_gathers_144 30)
theorem dX9_gathers_175 : decode cX9_gathers 175 = .ok (.putfield 387, 3) := dk_181 (c := cX9_gathers) (pc := 175) (a := 1) (b := 131) (dk_at bnames04cX9_gathers_144 31) rfl
theorem dX9_gathers_178 : decode cX9_gathers 178 = .ok (.aload_n 0, 1) := dk_42 (c := cX9_gathers) (pc := 178) (dk_at bnames04cX9_gathers_144 34)
theorem dX9_gathers_179 : decode cX9_gathers 179 = .ok (.dup, 1) := dk_89 (c := cX9_gathers) (pc := 179) (dk_at bnames04cX9_gathers_144 35)
theorem dX9_gathers_180 : decode cX9_gathers 180 = .ok (.getfield 393, 3) := dk_180 (c := cX9_gathers) (pc := 180) (a := 1) (b := 137) (dk_at bnames04cX9_gathers_144 36) rfl
theorem dX9_gathers_183 : decode cX9_gathers 183 = .ok (.aload_n 0, 1) := dk_42 (c := cX9_gathers) (pc := 183) (dk_at bnames04cX9_gathers_144 39)
theorem dX9_gathers_184 : decode cX9_gathers 184 = .ok (.getfield 101, 3) := dk_180 (c := cX9_gathers) (pc := 184) (a := 0) (b := 101) (dk_at bnames04cX9_gathers_144 40) rfl
theorem dX9_gathers_187 : decode cX9_gathers 187 = .ok (.iload_n 1, 1) := dk_27 (c := cX9_gathers) (pc := 187) (dk_at bnames04cX9_gathers_144 43)
theorem dX9_gathers_188 : decode cX9_gathers 188 = .ok (.iaload, 1) := dk_46 (c := cX9_gathers) (pc := 188) (dk_at bnames04cX9_gathers_144 44)
theorem dX9_gathers_189 : decode cX9_gathers 189 = .ok (.i2l, 1) := dk_133 (c := cX9_gathers) (pc := 189) (dk_at bnames04cX9_gathers_144 45)
theorem dX9_gathers_190 : decode cX9_gathers 190 = .ok (.ladd, 1) := dk_97 (c := cX9_gathers) (pc := 190) (dk_at bnames04cX9_gathers_144 46)
theorem dX9_gathers_191 : decode cX9_gathers 191 = .ok (.putfield 393, 3) := dk_181 (c := cX9_gathers) (pc := 191) (a := 1) (b := 137) (dk_at bnames04cX9_gathers_144 47) rfl
theorem bnames04cX9_gathers_192 : ((dk_l cX9_gathers).drop 192).take 9 = [1, 137, 132, 1, 1, 167, 255, 101, 177] := by decide +kernel
theorem dX9_gathers_194 : decode cX9_gathers 194 = .ok (.iinc 1 1, 3) := dk_132 (c := cX9_gathers) (pc := 194) (a := 1) (b := 1) (dk_at bnames04cX9_gathers_192 2) rfl (by decide)
theorem dX9_gathers_197 : decode cX9_gathers 197 = .ok (.goto (-155), 3) := dk_167 (c := cX9_gathers) (pc := 197) (a := 255) (b := 101) (dk_at bnames04cX9_gathers_192 5) (by decide)
theorem dX9_gathers_200 : decode cX9_gathers 200 = .ok (.return_, 1) := dk_177 (c := cX9_gathers) (pc := 200) (dk_at bnames04cX9_gathers_192 8)
theorem bnames04cX9_areBoth_0 : ((dk_l cX9_areBoth).drop 0).take 24 = [42, 180, 1, 122, 9, 148, 158, 0, 16, 42, 180, 1, 125, 9, 148, 158, 0, 7, 4, 167, 0, 4, 3, 172] := by decide +kernel
theorem dX9_areBoth_0 : decode cX9_areBoth 0 = .ok (.aload_n 0, 1) := dk_42 (c := cX9_areBoth) (pc := 0) (dk_at bnames04cX9_areBoth_0 0)
theorem dX9_areBoth_1 : decode cX9_areBoth 1 = .ok (.getfield 378, 3) := dk_180 (c := cX9_areBoth) (pc := 1) (a := 1) (b := 122) (dk_at bnames04cX9_areBoth_0 1) rfl
theorem dX9_areBoth_4 : decode cX9_areBoth 4 = .ok (.lconst 0, 1) := dk_9 (c := cX9_areBoth) (pc := 4) (dk_at bnames04cX9_areBoth_0 4)
theorem dX9_areBoth_5 : decode cX9_areBoth 5 = .ok (.lcmp, 1) := dk_148 (c := cX9_areBoth) (pc := 5) (dk_at bnames04cX9_areBoth_0 5)
theorem dX9_areBoth_6 : decode cX9_areBoth 6 = .ok (.ifCond .le 16, 3) := dk_158 (c := cX9_areBoth) (pc := 6) (a := 0) (b := 16) (dk_at bnames04cX9_areBoth_0 6) (by decide)
theorem dX9_areBoth_9 : decode cX9_areBoth 9 = .ok (.aload_n 0, 1) := dk_42 (c := cX9_areBoth) (pc := 9) (dk_at bnames04cX9_areBoth_0 9)
theorem dX9_areBoth_10 : decode cX9_areBoth 10 = .ok (.getfield 381, 3) := dk_180 (c := cX9_areBoth) (pc := 10) (a := 1) (b := 125) (dk_at bnames04cX9_areBoth_0 10) rfl
theorem dX9_areBoth_13 : decode cX9_areBoth 13 = .ok (.lconst 0, 1) := dk_9 (c := cX9_areBoth) (pc := 13) (dk_at bnames04cX9_areBoth_0 13)
theorem dX9_areBoth_14 : decode cX9_areBoth 14 = .ok (.lcmp, 1) := dk_148 (c := cX9_areBoth) (pc := 14) (dk_at bnames04cX9_areBoth_0 14)
theorem dX9_areBoth_15 : decode cX9_areBoth 15 = .ok (.ifCond .le 7, 3) := dk_158 (c := cX9_areBoth) (pc := 15) (a := 0) (b := 7) (dk_at bnames04cX9_areBoth_0 15) (by decide)
theorem dX9_areBoth_18 : decode cX9_areBoth 18 = .ok (.iconst 1, 1) := dk_4 (c := cX9_areBoth) (pc := 18) (dk_at bnames04cX9_areBoth_0 18)
theorem dX9_areBoth_19 : decode cX9_areBoth 19 = .ok (.goto 4, 3) := dk_167 (c := cX9_areBoth) (pc := 19) (a := 0) (b := 4) (dk_at bnames04cX9_areBoth_0 19) (by decide)
theorem dX9_areBoth_22 : decode cX9_areBoth 22 = .ok (.iconst 0, 1) := dk_3 (c := cX9_areBoth) (pc := 22) (dk_at bnames04cX9_areBoth_0 22)
theorem dX9_areBoth_23 : decode cX9_areBoth 23 = .ok (.ireturn, 1) := dk_172 (c := cX9_areBoth) (pc := 23) (dk_at bnames04cX9_areBoth_0 23)
theorem bnames04cX9_ratio_0 : ((dk_l cX9_ratio).drop 0).take 36 = [42, 33, 9, 148, 153, 0, 7, 4, 167, 0, 4, 3, 181, 1, 146, 42, 180, 1, 146, 153, 0, 13, 20, 1, 150, 31, 105, 33, 109, 167, 0, 6, 20, 1, 152, 173] := by decide +kernel
theorem dX9_ratio_0 : decode cX9_ratio 0 = .ok (.aload_n 0, 1) := dk_42 (c := cX9_ratio) (pc := 0) (dk_at bnames04cX9_ratio_0 0)
theorem dX9_ratio_1 : decode cX9_ratio 1 = .ok (.lload_n 3, 1) := dk_33 (c := cX9_ratio) (pc := 1) (dk_at bnames04cX9_ratio_0 1)
theorem dX9_ratio_2 : decode cX9_ratio 2 = .ok (.lconst 0, 1) := dk_9 (c := cX9_ratio) (pc := 2) (dk_at bnames04cX9_ratio_0 2)
theorem dX9_ratio_3 : decode cX9_ratio 3 = .ok (.lcmp, 1) := dk_148 (c := cX9_ratio) (pc := 3) (dk_at bnames04cX9_ratio_0 3)
theorem dX9_ratio_4 : decode cX9_ratio 4 = .ok (.ifCond .eq 7, 3) := dk_153 (c := cX9_ratio) (pc := 4) (a := 0) (b := 7) (dk_at bnames04cX9_ratio_0 4) (by decide)
theorem dX9_ratio_7 : decode cX9_ratio 7 = .ok (.iconst 1, 1) := dk_4 (c := cX9_ratio) (pc := 7) (dk_at bnames04cX9_ratio_0 7)
theorem dX9_ratio_8 : decode cX9_ratio 8 = .ok (.goto 4, 3) := dk_167 (c := cX9_ratio) (pc := 8) (a := 0) (b := 4) (dk_at bnames04cX9_ratio_0 8) (by decide)
theorem dX9_ratio_11 : decode cX9_ratio 11 = .ok (.iconst 0, 1) := dk_3 (c := cX9_ratio) (pc := 11) (dk_at bnames04cX9_ratio_0 11)
theorem dX9_ratio_12 : decode cX9_ratio 12 = .ok (.putfield 402, 3) := dk_181 (c := cX9_ratio) (pc := 12) (a := 1) (b := 146) (dk_at bnames04cX9_ratio_0 12) rfl
theorem dX9_ratio_15 : decode cX9_ratio 15 = .ok (.aload_n 0, 1) := dk_42 (c := cX9_ratio) (pc := 15) (dk_at bnames04cX9_ratio_0 15)
theorem dX9_ratio_16 : decode cX9_ratio 16 = .ok (.getfield 402, 3) := dk_180 (c := cX9_ratio) (pc := 16) (a := 1) (b := 146) (dk_at bnames04cX9_ratio_0 16) rfl
theorem dX9_ratio_19 : decode cX9_ratio 19 = .ok (.ifCond .eq 13, 3) := dk_153 (c := cX9_ratio) (pc := 19) (a := 0) (b := 13) (dk_at bnames04cX9_ratio_0 19) (by decide)
theorem dX9_ratio_22 : decode cX9_ratio 22 = .ok (.ldc2_w 406, 3) := dk_20 (c := cX9_ratio) (pc := 22) (a := 1) (b := 150) (dk_at bnames04cX9_ratio_0 22) rfl
theorem dX9_ratio_25 : decode cX9_ratio 25 = .ok (.lload_n 1, 1) := dk_31 (c := cX9_ratio) (pc := 25) (dk_at bnames04cX9_ratio_0 25)
theorem dX9_ratio_26 : decode cX9_ratio 26 = .ok (.lmul, 1) := dk_105 (c := cX9_ratio) (pc := 26) (dk_at bnames04cX9_ratio_0 26)
theorem dX9_ratio_27 : decode cX9_ratio 27 = .ok (.lload_n 3, 1) := dk_33 (c := cX9_ratio) (pc := 27) (dk_at bnames04cX9_ratio_0 27)
theorem dX9_ratio_28 : decode cX9_ratio 28 = .ok (.ldiv, 1) := dk_109 (c := cX9_ratio) (pc := 28) (dk_at bnames04cX9_ratio_0 28)
theorem dX9_ratio_29 : decode cX9_ratio 29 = .ok (.goto 6, 3) := dk_167 (c := cX9_ratio) (pc := 29) (a := 0) (b := 6) (dk_at bnames04cX9_ratio_0 29) (by decide)
theorem dX9_ratio_32 : decode cX9_ratio 32 = .ok (.ldc2_w 408, 3) := dk_20 (c := cX9_ratio) (pc := 32) (a := 1) (b := 152) (dk_at bnames04cX9_ratio_0 32) rfl
theorem dX9_ratio_35 : decode cX9_ratio 35 = .ok (.lreturn, 1) := dk_173 (c := cX9_ratio) (pc := 35) (dk_at bnames04cX9_ratio_0 35)
theorem bnames04cX9_untold_0 : ((dk_l cX9_untold).drop 0).take 9 = [42, 3, 181, 1, 146, 20, 1, 152, 173] := by decide +kernel
theorem dX9_untold_0 : decode cX9_untold 0 = .ok (.aload_n 0, 1) := dk_42 (c := cX9_untold) (pc := 0) (dk_at bnames04cX9_untold_0 0)
theorem dX9_untold_1 : decode cX9_untold 1 = .ok (.iconst 0, 1) := dk_3 (c := cX9_untold) (pc := 1) (dk_at bnames04cX9_untold_0 1)
theorem dX9_untold_2 : decode cX9_untold 2 = .ok (.putfield 402, 3) := dk_181 (c := cX9_untold) (pc := 2) (a := 1) (b := 146) (dk_at bnames04cX9_untold_0 2) rfl
theorem dX9_untold_5 : decode cX9_untold 5 = .ok (.ldc2_w 408, 3) := dk_20 (c := cX9_untold) (pc := 5) (a := 1) (b := 152) (dk_at bnames04cX9_untold_0 5) rfl
theorem dX9_untold_8 : decode cX9_untold 8 = .ok (.lreturn, 1) := dk_173 (c := cX9_untold) (pc := 8) (dk_at bnames04cX9_untold_0 8)
set_option maxRecDepth 20000 in
theorem ggX9_plainOf_X9_pushes : GoodIn wsX9_plainOf wsX9_pushes := goodIn_r _ [10, 11, 12, 13, 14, 31, 32, 33, 34, 35, 36, 37, 38, 39, 40, 41, 42, 43, 44, 45, 46, 47, 48, 49, 50, 51, 52, 53, 54, 55, 56, 57, 58, 59, 60, 61, 62, 63, 64, 65, 66, 67, 68, 69, 70, 71, 72, 73, 74, 75, 76, 77, 78, 79, 80, 81, 82, 83, 84, 85, 86, 87, 88, 89, 90] rfl (by decide +kernel)
set_option maxRecDepth 20000 in
theorem gX9_plainOf_X9_pushes : GoodIn wsX9_plainOf (wsV RX9 410 RX9 yX9_pushes wsX9_pushes) := goodIn_app (goodIn_r _ [6, 7, 8, 9] rfl (by decide +kernel)) ggX9_plainOf_X9_pushes
set_option maxRecDepth 20000 in
theorem ggX9_plainOf_X9_gathers : GoodIn wsX9_plainOf wsX9_gathers := goodIn_r _ [18, 19, 1, 20, 3, 21, 4, 5, 2, 14, 22, 23, 12, 31, 32, 33, 34, 35, 36, 37, 38, 39, 40, 41, 42, 43, 44, 45, 46, 47, 48, 49, 50, 51, 52, 53, 54, 55, 56, 57, 58, 59, 60, 61, 62, 63, 64, 65, 66, 67, 68, 69, 70, 71, 72, 73, 74, 75, 76, 77, 78, 79, 80, 81, 82, 83, 84, 85, 86, 87, 88, 89, 90] rfl (by decide +kernel)
set_option maxRecDepth 20000 in
theorem gX9_plainOf_X9_gathers : GoodIn wsX9_plainOf (wsV RX9 413 RX9 yX9_gathers wsX9_gathers) := goodIn_app (goodIn_r _ [15, 16, 17, 9] rfl (by decide +kernel)) ggX9_plainOf_X9_gathers
set_option maxRecDepth 20000 in
theorem ggX9_plainOf_X9_ratio : GoodIn wsX9_plainOf wsX9_ratio := goodIn_r _ [27, 28, 29, 30, 31, 32, 33, 34, 35, 36, 37, 38, 39, 40, 41, 42, 43, 44, 45, 46, 47, 48, 49, 50, 51, 52, 53, 54, 55, 56, 57, 58, 59, 60, 61, 62, 63, 64, 65, 66, 67, 68, 69, 70, 71, 72, 73, 74, 75, 76, 77, 78, 79, 80, 81, 82, 83, 84, 85, 86, 87, 88, 89, 90] rfl (by decide +kernel)
set_option maxRecDepth 20000 in
theorem gX9_plainOf_X9_ratio : GoodIn wsX9_plainOf (wsV RX9 416 RX9 yX9_ratio wsX9_ratio) := goodIn_app (goodIn_r _ [24, 25, 26, 9] rfl (by decide +kernel)) ggX9_plainOf_X9_ratio
theorem bnames04cX9_plainOf_0 : ((dk_l cX9_plainOf).drop 0).take 52 = [42, 3, 182, 1, 154, 42, 182, 1, 157, 42, 42, 180, 1, 125, 42, 180, 1, 143, 105, 42, 180, 1, 131, 42, 180, 1, 137, 105, 101, 42, 180, 1, 125, 42, 180, 1, 140, 105, 42, 180, 1, 131, 42, 180, 1, 131, 105, 101, 182, 1, 160, 173] := by decide +kernel
theorem dX9_plainOf_0 : decode cX9_plainOf 0 = .ok (.aload_n 0, 1) := dk_42 (c := cX9_plainOf) (pc := 0) (dk_at bnames04cX9_plainOf_0 0)
theorem dX9_plainOf_1 : decode cX9_plainOf 1 = .ok (.iconst 0, 1) := dk_3 (c := cX9_plainOf) (pc := 1) (dk_at bnames04cX9_plainOf_0 1)
theorem dX9_plainOf_2 : decode cX9_plainOf 2 = .ok (.invokevirtual 410, 3) := dk_182 (c := cX9_plainOf) (pc := 2) (a := 1) (b := 154) (dk_at bnames04cX9_plainOf_0 2) rfl
theorem dX9_plainOf_5 : decode cX9_plainOf 5 = .ok (.aload_n 0, 1) := dk_42 (c := cX9_plainOf) (pc := 5) (dk_at bnames04cX9_plainOf_0 5)
theorem dX9_plainOf_6 : decode cX9_plainOf 6 = .ok (.invokevirtual 413, 3) := dk_182 (c := cX9_plainOf) (pc := 6) (a := 1) (b := 157) (dk_at bnames04cX9_plainOf_0 6) rfl
theorem dX9_plainOf_9 : decode cX9_plainOf 9 = .ok (.aload_n 0, 1) := dk_42 (c := cX9_plainOf) (pc := 9) (dk_at bnames04cX9_plainOf_0 9)
theorem dX9_plainOf_10 : decode cX9_plainOf 10 = .ok (.aload_n 0, 1) := dk_42 (c := cX9_plainOf) (pc := 10) (dk_at bnames04cX9_plainOf_0 10)
theorem dX9_plainOf_11 : decode cX9_plainOf 11 = .ok (.getfield 381, 3) := dk_180 (c := cX9_plainOf) (pc := 11) (a := 1) (b := 125) (dk_at bnames04cX9_plainOf_0 11) rfl
theorem dX9_plainOf_14 : decode cX9_plainOf 14 = .ok (.aload_n 0, 1) := dk_42 (c := cX9_plainOf) (pc := 14) (dk_at bnames04cX9_plainOf_0 14)
theorem dX9_plainOf_15 : decode cX9_plainOf 15 = .ok (.getfield 399, 3) := dk_180 (c := cX9_plainOf) (pc := 15) (a := 1) (b := 143) (dk_at bnames04cX9_plainOf_0 15) rfl
theorem dX9_plainOf_18 : decode cX9_plainOf 18 = .ok (.lmul, 1) := dk_105 (c := cX9_plainOf) (pc := 18) (dk_at bnames04cX9_plainOf_0 18)
theorem dX9_plainOf_19 : decode cX9_plainOf 19 = .ok (.aload_n 0, 1) := dk_42 (c := cX9_plainOf) (pc := 19) (dk_at bnames04cX9_plainOf_0 19)
theorem dX9_plainOf_20 : decode cX9_plainOf 20 = .ok (.getfield 387, 3) := dk_180 (c := cX9_plainOf) (pc := 20) (a := 1) (b := 131) (dk_at bnames04cX9_plainOf_0 20) rfl
theorem dX9_plainOf_23 : decode cX9_plainOf 23 = .ok (.aload_n 0, 1) := dk_42 (c := cX9_plainOf) (pc := 23) (dk_at bnames04cX9_plainOf_0 23)
theorem dX9_plainOf_24 : decode cX9_plainOf 24 = .ok (.getfield 393, 3) := dk_180 (c := cX9_plainOf) (pc := 24) (a := 1) (b := 137) (dk_at bnames04cX9_plainOf_0 24) rfl
theorem dX9_plainOf_27 : decode cX9_plainOf 27 = .ok (.lmul, 1) := dk_105 (c := cX9_plainOf) (pc := 27) (dk_at bnames04cX9_plainOf_0 27)
theorem dX9_plainOf_28 : decode cX9_plainOf 28 = .ok (.lsub, 1) := dk_101 (c := cX9_plainOf) (pc := 28) (dk_at bnames04cX9_plainOf_0 28)
theorem dX9_plainOf_29 : decode cX9_plainOf 29 = .ok (.aload_n 0, 1) := dk_42 (c := cX9_plainOf) (pc := 29) (dk_at bnames04cX9_plainOf_0 29)
theorem dX9_plainOf_30 : decode cX9_plainOf 30 = .ok (.getfield 381, 3) := dk_180 (c := cX9_plainOf) (pc := 30) (a := 1) (b := 125) (dk_at bnames04cX9_plainOf_0 30) rfl
theorem dX9_plainOf_33 : decode cX9_plainOf 33 = .ok (.aload_n 0, 1) := dk_42 (c := cX9_plainOf) (pc := 33) (dk_at bnames04cX9_plainOf_0 33)
theorem dX9_plainOf_34 : decode cX9_plainOf 34 = .ok (.getfield 396, 3) := dk_180 (c := cX9_plainOf) (pc := 34) (a := 1) (b := 140) (dk_at bnames04cX9_plainOf_0 34) rfl
theorem dX9_plainOf_37 : decode cX9_plainOf 37 = .ok (.lmul, 1) := dk_105 (c := cX9_plainOf) (pc := 37) (dk_at bnames04cX9_plainOf_0 37)
theorem dX9_plainOf_38 : decode cX9_plainOf 38 = .ok (.aload_n 0, 1) := dk_42 (c := cX9_plainOf) (pc := 38) (dk_at bnames04cX9_plainOf_0 38)
theorem dX9_plainOf_39 : decode cX9_plainOf 39 = .ok (.getfield 387, 3) := dk_180 (c := cX9_plainOf) (pc := 39) (a := 1) (b := 131) (dk_at bnames04cX9_plainOf_0 39) rfl
theorem dX9_plainOf_42 : decode cX9_plainOf 42 = .ok (.aload_n 0, 1) := dk_42 (c := cX9_plainOf) (pc := 42) (dk_at bnames04cX9_plainOf_0 42)
theorem dX9_plainOf_43 : decode cX9_plainOf 43 = .ok (.getfield 387, 3) := dk_180 (c := cX9_plainOf) (pc := 43) (a := 1) (b := 131) (dk_at bnames04cX9_plainOf_0 43) rfl
theorem dX9_plainOf_46 : decode cX9_plainOf 46 = .ok (.lmul, 1) := dk_105 (c := cX9_plainOf) (pc := 46) (dk_at bnames04cX9_plainOf_0 46)
theorem dX9_plainOf_47 : decode cX9_plainOf 47 = .ok (.lsub, 1) := dk_101 (c := cX9_plainOf) (pc := 47) (dk_at bnames04cX9_plainOf_0 47)
theorem bnames04cX9_plainOf_48 : ((dk_l cX9_plainOf).drop 48).take 4 = [182, 1, 160, 173] := by decide +kernel
theorem dX9_plainOf_48 : decode cX9_plainOf 48 = .ok (.invokevirtual 416, 3) := dk_182 (c := cX9_plainOf) (pc := 48) (a := 1) (b := 160) (dk_at bnames04cX9_plainOf_48 0) rfl
theorem dX9_plainOf_51 : decode cX9_plainOf 51 = .ok (.lreturn, 1) := dk_173 (c := cX9_plainOf) (pc := 51) (dk_at bnames04cX9_plainOf_48 3)
set_option maxRecDepth 20000 in
theorem ggX9_plain_X9_plainOf : GoodIn wsX9_plain wsX9_plainOf := goodIn_r _ [6, 7, 8, 9, 10, 11, 12, 13, 14, 5, 15, 16, 17, 18, 19, 20, 21, 22, 23, 24, 25, 26, 27, 28, 29, 30, 31, 32, 33, 34, 35, 36, 37, 38, 39, 40, 41, 42, 43, 44, 45, 46, 47, 48, 49, 50, 51, 52, 53, 54, 55, 56, 57, 58, 59, 60, 61, 62, 63, 64, 65, 66, 67, 68, 69, 70, 71, 72, 73, 74, 75, 76, 77, 78, 79, 80, 81, 82, 83, 84, 85, 86, 87, 88, 89, 90, 91, 92, 93, 94, 95] rfl (by decide +kernel)
set_option maxRecDepth 20000 in
theorem gX9_plain_X9_plainOf : GoodIn wsX9_plain (wsV RX9 420 RX9 yX9_plainOf wsX9_plainOf) := goodIn_app (goodIn_r _ [2, 3, 4, 5] rfl (by decide +kernel)) ggX9_plain_X9_plainOf
theorem bnames04cX9_plain_0 : ((dk_l cX9_plain).drop 0).take 10 = [42, 3, 181, 0, 125, 42, 182, 1, 164, 173] := by decide +kernel
theorem dX9_plain_0 : decode cX9_plain 0 = .ok (.aload_n 0, 1) := dk_42 (c := cX9_plain) (pc := 0) (dk_at bnames04cX9_plain_0 0)
theorem dX9_plain_1 : decode cX9_plain 1 = .ok (.iconst 0, 1) := dk_3 (c := cX9_plain) (pc := 1) (dk_at bnames04cX9_plain_0 1)
theorem dX9_plain_2 : decode cX9_plain 2 = .ok (.putfield 125, 3) := dk_181 (c := cX9_plain) (pc := 2) (a := 0) (b := 125) (dk_at bnames04cX9_plain_0 2) rfl
theorem dX9_plain_5 : decode cX9_plain 5 = .ok (.aload_n 0, 1) := dk_42 (c := cX9_plain) (pc := 5) (dk_at bnames04cX9_plain_0 5)
theorem dX9_plain_6 : decode cX9_plain 6 = .ok (.invokevirtual 420, 3) := dk_182 (c := cX9_plain) (pc := 6) (a := 1) (b := 164) (dk_at bnames04cX9_plain_0 6) rfl
theorem dX9_plain_9 : decode cX9_plain 9 = .ok (.lreturn, 1) := dk_173 (c := cX9_plain) (pc := 9) (dk_at bnames04cX9_plain_0 9)
set_option maxRecDepth 20000 in
theorem ggX9_byMoved_X9_gathers : GoodIn wsX9_byMoved wsX9_gathers := goodIn_r _ [11, 4, 2, 5, 6, 1, 3, 12, 13, 14, 15, 16, 17, 33, 34, 35, 36, 37, 38, 39, 40, 41, 42, 43, 44, 45, 46, 47, 48, 49, 50, 51, 52, 53, 54, 55, 56, 57, 58, 59, 60, 61, 62, 63, 64, 65, 66, 67, 68, 69, 70, 71, 72, 73, 74, 75, 76, 77, 78, 79, 80, 81, 82, 83, 84, 85, 86, 87, 88, 89, 90, 91, 92] rfl (by decide +kernel)
set_option maxRecDepth 20000 in
theorem gX9_byMoved_X9_gathers : GoodIn wsX9_byMoved (wsV RX9 413 RX9 yX9_gathers wsX9_gathers) := goodIn_app (goodIn_r _ [7, 8, 9, 10] rfl (by decide +kernel)) ggX9_byMoved_X9_gathers
set_option maxRecDepth 20000 in
theorem ggX9_byMoved_X9_areBoth : GoodIn wsX9_byMoved wsX9_areBoth := goodIn_r _ [21, 4, 2, 33, 34, 35, 36, 37, 38, 39, 40, 41, 42, 43, 44, 45, 46, 47, 48, 49, 50, 51, 52, 53, 54, 55, 56, 57, 58, 59, 60, 61, 62, 63, 64, 65, 66, 67, 68, 69, 70, 71, 72, 73, 74, 75, 76, 77, 78, 79, 80, 81, 82, 83, 84, 85, 86, 87, 88, 89, 90, 91, 92] rfl (by decide +kernel)
set_option maxRecDepth 20000 in
theorem gX9_byMoved_X9_areBoth : GoodIn wsX9_byMoved (wsV RX9 424 RX9 yX9_areBoth wsX9_areBoth) := goodIn_app (goodIn_r _ [18, 19, 20, 10] rfl (by decide +kernel)) ggX9_byMoved_X9_areBoth
set_option maxRecDepth 20000 in
theorem ggX9_byMoved_X9_ratio : GoodIn wsX9_byMoved wsX9_ratio := goodIn_r _ [25, 26, 27, 28, 33, 34, 35, 36, 37, 38, 39, 40, 41, 42, 43, 44, 45, 46, 47, 48, 49, 50, 51, 52, 53, 54, 55, 56, 57, 58, 59, 60, 61, 62, 63, 64, 65, 66, 67, 68, 69, 70, 71, 72, 73, 74, 75, 76, 77, 78, 79, 80, 81, 82, 83, 84, 85, 86, 87, 88, 89, 90, 91, 92] rfl (by decide +kernel)
set_option maxRecDepth 20000 in
theorem gX9_byMoved_X9_ratio : GoodIn wsX9_byMoved (wsV RX9 416 RX9 yX9_ratio wsX9_ratio) := goodIn_app (goodIn_r _ [22, 23, 24, 10] rfl (by decide +kernel)) ggX9_byMoved_X9_ratio
set_option maxRecDepth 20000 in
theorem ggX9_byMoved_X9_untold : GoodIn wsX9_byMoved wsX9_untold := goodIn_r _ [32, 26, 28, 33, 34, 35, 36, 37, 38, 39, 40, 41, 42, 43, 44, 45, 46, 47, 48, 49, 50, 51, 52, 53, 54, 55, 56, 57, 58, 59, 60, 61, 62, 63, 64, 65, 66, 67, 68, 69, 70, 71, 72, 73, 74, 75, 76, 77, 78, 79, 80, 81, 82, 83, 84, 85, 86, 87, 88, 89, 90, 91, 92] rfl (by decide +kernel)
set_option maxRecDepth 20000 in
theorem gX9_byMoved_X9_untold : GoodIn wsX9_byMoved (wsV RX9 427 RX9 yX9_untold wsX9_untold) := goodIn_app (goodIn_r _ [29, 30, 31, 10] rfl (by decide +kernel)) ggX9_byMoved_X9_untold
theorem bnames04cX9_byMoved_0 : ((dk_l cX9_byMoved).drop 0).take 52 = [42, 182, 1, 157, 42, 182, 1, 168, 153, 0, 48, 42, 42, 180, 1, 134, 42, 180, 1, 125, 105, 42, 180, 1, 137, 42, 180, 1, 122, 105, 101, 42, 180, 1, 128, 42, 180, 1, 125, 105, 42, 180, 1, 131, 42, 180, 1, 122, 105, 101, 182, 1] := by decide +kernel
theorem dX9_byMoved_0 : decode cX9_byMoved 0 = .ok (.aload_n 0, 1) := dk_42 (c := cX9_byMoved) (pc := 0) (dk_at bnames04cX9_byMoved_0 0)
theorem dX9_byMoved_1 : decode cX9_byMoved 1 = .ok (.invokevirtual 413, 3) := dk_182 (c := cX9_byMoved) (pc := 1) (a := 1) (b := 157) (dk_at bnames04cX9_byMoved_0 1) rfl
theorem dX9_byMoved_4 : decode cX9_byMoved 4 = .ok (.aload_n 0, 1) := dk_42 (c := cX9_byMoved) (pc := 4) (dk_at bnames04cX9_byMoved_0 4)
theorem dX9_byMoved_5 : decode cX9_byMoved 5 = .ok (.invokevirtual 424, 3) := dk_182 (c := cX9_byMoved) (pc := 5) (a := 1) (b := 168) (dk_at bnames04cX9_byMoved_0 5) rfl
theorem dX9_byMoved_8 : decode cX9_byMoved 8 = .ok (.ifCond .eq 48, 3) := dk_153 (c := cX9_byMoved) (pc := 8) (a := 0) (b := 48) (dk_at bnames04cX9_byMoved_0 8) (by decide)
theorem dX9_byMoved_11 : decode cX9_byMoved 11 = .ok (.aload_n 0, 1) := dk_42 (c := cX9_byMoved) (pc := 11) (dk_at bnames04cX9_byMoved_0 11)
theorem dX9_byMoved_12 : decode cX9_byMoved 12 = .ok (.aload_n 0, 1) := dk_42 (c := cX9_byMoved) (pc := 12) (dk_at bnames04cX9_byMoved_0 12)
theorem dX9_byMoved_13 : decode cX9_byMoved 13 = .ok (.getfield 390, 3) := dk_180 (c := cX9_byMoved) (pc := 13) (a := 1) (b := 134) (dk_at bnames04cX9_byMoved_0 13) rfl
theorem dX9_byMoved_16 : decode cX9_byMoved 16 = .ok (.aload_n 0, 1) := dk_42 (c := cX9_byMoved) (pc := 16) (dk_at bnames04cX9_byMoved_0 16)
theorem dX9_byMoved_17 : decode cX9_byMoved 17 = .ok (.getfield 381, 3) := dk_180 (c := cX9_byMoved) (pc := 17) (a := 1) (b := 125) (dk_at bnames04cX9_byMoved_0 17) rfl
theorem dX9_byMoved_20 : decode cX9_byMoved 20 = .ok (.lmul, 1) := dk_105 (c := cX9_byMoved) (pc := 20) (dk_at bnames04cX9_byMoved_0 20)
theorem dX9_byMoved_21 : decode cX9_byMoved 21 = .ok (.aload_n 0, 1) := dk_42 (c := cX9_byMoved) (pc := 21) (dk_at bnames04cX9_byMoved_0 21)
theorem dX9_byMoved_22 : decode cX9_byMoved 22 = .ok (.getfield 393, 3) := dk_180 (c := cX9_byMoved) (pc := 22) (a := 1) (b := 137) (dk_at bnames04cX9_byMoved_0 22) rfl
theorem dX9_byMoved_25 : decode cX9_byMoved 25 = .ok (.aload_n 0, 1) := dk_42 (c := cX9_byMoved) (pc := 25) (dk_at bnames04cX9_byMoved_0 25)
theorem dX9_byMoved_26 : decode cX9_byMoved 26 = .ok (.getfield 378, 3) := dk_180 (c := cX9_byMoved) (pc := 26) (a := 1) (b := 122) (dk_at bnames04cX9_byMoved_0 26) rfl
theorem dX9_byMoved_29 : decode cX9_byMoved 29 = .ok (.lmul, 1) := dk_105 (c := cX9_byMoved) (pc := 29) (dk_at bnames04cX9_byMoved_0 29)
theorem dX9_byMoved_30 : decode cX9_byMoved 30 = .ok (.lsub, 1) := dk_101 (c := cX9_byMoved) (pc := 30) (dk_at bnames04cX9_byMoved_0 30)
theorem dX9_byMoved_31 : decode cX9_byMoved 31 = .ok (.aload_n 0, 1) := dk_42 (c := cX9_byMoved) (pc := 31) (dk_at bnames04cX9_byMoved_0 31)
theorem dX9_byMoved_32 : decode cX9_byMoved 32 = .ok (.getfield 384, 3) := dk_180 (c := cX9_byMoved) (pc := 32) (a := 1) (b := 128) (dk_at bnames04cX9_byMoved_0 32) rfl
theorem dX9_byMoved_35 : decode cX9_byMoved 35 = .ok (.aload_n 0, 1) := dk_42 (c := cX9_byMoved) (pc := 35) (dk_at bnames04cX9_byMoved_0 35)
theorem dX9_byMoved_36 : decode cX9_byMoved 36 = .ok (.getfield 381, 3) := dk_180 (c := cX9_byMoved) (pc := 36) (a := 1) (b := 125) (dk_at bnames04cX9_byMoved_0 36) rfl
theorem dX9_byMoved_39 : decode cX9_byMoved 39 = .ok (.lmul, 1) := dk_105 (c := cX9_byMoved) (pc := 39) (dk_at bnames04cX9_byMoved_0 39)
theorem dX9_byMoved_40 : decode cX9_byMoved 40 = .ok (.aload_n 0, 1) := dk_42 (c := cX9_byMoved) (pc := 40) (dk_at bnames04cX9_byMoved_0 40)
theorem dX9_byMoved_41 : decode cX9_byMoved 41 = .ok (.getfield 387, 3) := dk_180 (c := cX9_byMoved) (pc := 41) (a := 1) (b := 131) (dk_at bnames04cX9_byMoved_0 41) rfl
theorem dX9_byMoved_44 : decode cX9_byMoved 44 = .ok (.aload_n 0, 1) := dk_42 (c := cX9_byMoved) (pc := 44) (dk_at bnames04cX9_byMoved_0 44)
theorem dX9_byMoved_45 : decode cX9_byMoved 45 = .ok (.getfield 378, 3) := dk_180 (c := cX9_byMoved) (pc := 45) (a := 1) (b := 122) (dk_at bnames04cX9_byMoved_0 45) rfl
theorem bnames04cX9_byMoved_48 : ((dk_l cX9_byMoved).drop 48).take 13 = [105, 101, 182, 1, 160, 167, 0, 7, 42, 182, 1, 171, 173] := by decide +kernel
theorem dX9_byMoved_48 : decode cX9_byMoved 48 = .ok (.lmul, 1) := dk_105 (c := cX9_byMoved) (pc := 48) (dk_at bnames04cX9_byMoved_48 0)
theorem dX9_byMoved_49 : decode cX9_byMoved 49 = .ok (.lsub, 1) := dk_101 (c := cX9_byMoved) (pc := 49) (dk_at bnames04cX9_byMoved_48 1)
theorem dX9_byMoved_50 : decode cX9_byMoved 50 = .ok (.invokevirtual 416, 3) := dk_182 (c := cX9_byMoved) (pc := 50) (a := 1) (b := 160) (dk_at bnames04cX9_byMoved_48 2) rfl
theorem dX9_byMoved_53 : decode cX9_byMoved 53 = .ok (.goto 7, 3) := dk_167 (c := cX9_byMoved) (pc := 53) (a := 0) (b := 7) (dk_at bnames04cX9_byMoved_48 5) (by decide)
theorem dX9_byMoved_56 : decode cX9_byMoved 56 = .ok (.aload_n 0, 1) := dk_42 (c := cX9_byMoved) (pc := 56) (dk_at bnames04cX9_byMoved_48 8)
theorem dX9_byMoved_57 : decode cX9_byMoved 57 = .ok (.invokevirtual 427, 3) := dk_182 (c := cX9_byMoved) (pc := 57) (a := 1) (b := 171) (dk_at bnames04cX9_byMoved_48 9) rfl
theorem dX9_byMoved_60 : decode cX9_byMoved 60 = .ok (.lreturn, 1) := dk_173 (c := cX9_byMoved) (pc := 60) (dk_at bnames04cX9_byMoved_48 12)
set_option maxRecDepth 20000 in
theorem ggX9_byOf_X9_isPush : GoodIn wsX9_byOf wsX9_isPush := goodIn_r _ [4, 5, 6, 7, 3, 8] rfl (by decide +kernel)
set_option maxRecDepth 20000 in
theorem gX9_byOf_X9_isPush : GoodIn wsX9_byOf (va_wsS RX9 430 yX9_isPush wsX9_isPush) := goodIn_app (goodIn_r _ [1, 2, 3] rfl (by decide +kernel)) ggX9_byOf_X9_isPush
set_option maxRecDepth 20000 in
theorem ggX9_byOf_X9_untold : GoodIn wsX9_byOf wsX9_untold := goodIn_r _ [12, 13, 14, 50, 51, 52, 53, 54, 55, 56, 57, 58, 59, 60, 61, 62, 63, 64, 65, 66, 67, 68, 69, 70, 71, 72, 73, 74, 75, 76, 77, 78, 79, 80, 81, 82, 83, 84, 85, 86, 87, 88, 89, 90, 91, 92, 93, 94, 95, 96, 97, 98, 99, 100, 101, 102, 103, 104, 105, 106, 107, 108, 109] rfl (by decide +kernel)
set_option maxRecDepth 20000 in
theorem gX9_byOf_X9_untold : GoodIn wsX9_byOf (wsV RX9 427 RX9 yX9_untold wsX9_untold) := goodIn_app (goodIn_r _ [9, 10, 11, 3] rfl (by decide +kernel)) ggX9_byOf_X9_untold
set_option maxRecDepth 20000 in
theorem ggX9_byOf_X9_pushes : GoodIn wsX9_byOf wsX9_pushes := goodIn_r _ [18, 19, 20, 21, 22, 50, 51, 52, 53, 54, 55, 56, 57, 58, 59, 60, 61, 62, 63, 64, 65, 66, 67, 68, 69, 70, 71, 72, 73, 74, 75, 76, 77, 78, 79, 80, 81, 82, 83, 84, 85, 86, 87, 88, 89, 90, 91, 92, 93, 94, 95, 96, 97, 98, 99, 100, 101, 102, 103, 104, 105, 106, 107, 108, 109] rfl (by decide +kernel)
set_option maxRecDepth 20000 in
theorem gX9_byOf_X9_pushes : GoodIn wsX9_byOf (wsV RX9 410 RX9 yX9_pushes wsX9_pushes) := goodIn_app (goodIn_r _ [15, 16, 17, 3] rfl (by decide +kernel)) ggX9_byOf_X9_pushes
set_option maxRecDepth 20000 in
theorem ggX9_byOf_X9_byMoved : GoodIn wsX9_byOf wsX9_byMoved := goodIn_r _ [26, 27, 28, 29, 30, 31, 32, 33, 34, 35, 3, 36, 37, 38, 22, 39, 40, 20, 41, 42, 43, 44, 45, 46, 47, 48, 13, 49, 14, 9, 10, 11, 12, 50, 51, 52, 53, 54, 55, 56, 57, 58, 59, 60, 61, 62, 63, 64, 65, 66, 67, 68, 69, 70, 71, 72, 73, 74, 75, 76, 77, 78, 79, 80, 81, 82, 83, 84, 85, 86, 87, 88, 89, 90, 91, 92, 93, 94, 95, 96, 97, 98, 99, 100, 101, 102, 103, 104, 105, 106, 107, 108, 109] rfl (by decide +kernel)
set_option maxRecDepth 20000 in
theorem gX9_byOf_X9_byMoved : GoodIn wsX9_byOf (wsV RX9 433 RX9 yX9_byMoved wsX9_byMoved) := goodIn_app (goodIn_r _ [23, 24, 25, 3] rfl (by decide +kernel)) ggX9_byOf_X9_byMoved
theorem bnames04cX9_byOf_0 : ((dk_l cX9_byOf).drop 0).take 22 = [27, 184, 1, 174, 154, 0, 8, 42, 182, 1, 171, 173, 42, 27, 182, 1, 154, 42, 182, 1, 177, 173] := by decide +kernel
theorem dX9_byOf_0 : decode cX9_byOf 0 = .ok (.iload_n 1, 1) := dk_27 (c := cX9_byOf) (pc := 0) (dk_at bnames04cX9_byOf_0 0)
theorem dX9_byOf_1 : decode cX9_byOf 1 = .ok (.invokestatic 430, 3) := dk_184 (c := cX9_byOf) (pc := 1) (a := 1) (b := 174) (dk_at bnames04cX9_byOf_0 1) rfl
theorem dX9_byOf_4 : decode cX9_byOf 4 = .ok (.ifCond .ne 8, 3) := dk_154 (c := cX9_byOf) (pc := 4) (a := 0) (b := 8) (dk_at bnames04cX9_byOf_0 4) (by decide)
theorem dX9_byOf_7 : decode cX9_byOf 7 = .ok (.aload_n 0, 1) := dk_42 (c := cX9_byOf) (pc := 7) (dk_at bnames04cX9_byOf_0 7)
theorem dX9_byOf_8 : decode cX9_byOf 8 = .ok (.invokevirtual 427, 3) := dk_182 (c := cX9_byOf) (pc := 8) (a := 1) (b := 171) (dk_at bnames04cX9_byOf_0 8) rfl
theorem dX9_byOf_11 : decode cX9_byOf 11 = .ok (.lreturn, 1) := dk_173 (c := cX9_byOf) (pc := 11) (dk_at bnames04cX9_byOf_0 11)
theorem dX9_byOf_12 : decode cX9_byOf 12 = .ok (.aload_n 0, 1) := dk_42 (c := cX9_byOf) (pc := 12) (dk_at bnames04cX9_byOf_0 12)
theorem dX9_byOf_13 : decode cX9_byOf 13 = .ok (.iload_n 1, 1) := dk_27 (c := cX9_byOf) (pc := 13) (dk_at bnames04cX9_byOf_0 13)
theorem dX9_byOf_14 : decode cX9_byOf 14 = .ok (.invokevirtual 410, 3) := dk_182 (c := cX9_byOf) (pc := 14) (a := 1) (b := 154) (dk_at bnames04cX9_byOf_0 14) rfl
theorem dX9_byOf_17 : decode cX9_byOf 17 = .ok (.aload_n 0, 1) := dk_42 (c := cX9_byOf) (pc := 17) (dk_at bnames04cX9_byOf_0 17)
theorem dX9_byOf_18 : decode cX9_byOf 18 = .ok (.invokevirtual 433, 3) := dk_182 (c := cX9_byOf) (pc := 18) (a := 1) (b := 177) (dk_at bnames04cX9_byOf_0 18) rfl
theorem dX9_byOf_21 : decode cX9_byOf 21 = .ok (.lreturn, 1) := dk_173 (c := cX9_byOf) (pc := 21) (dk_at bnames04cX9_byOf_0 21)
set_option maxRecDepth 20000 in
theorem ggX9_by_X9_byOf : GoodIn wsX9_by wsX9_byOf := goodIn_r _ [6, 7, 8, 5, 9, 10, 11, 12, 13, 14, 15, 16, 17, 18, 19, 20, 21, 22, 23, 24, 25, 26, 27, 28, 29, 30, 31, 32, 33, 34, 35, 36, 37, 38, 39, 40, 41, 42, 43, 44, 45, 46, 47, 48, 49, 50, 51, 52, 53, 54, 55, 56, 57, 58, 59, 60, 61, 62, 63, 64, 65, 66, 67, 68, 69, 70, 71, 72, 73, 74, 75, 76, 77, 78, 79, 80, 81, 82, 83, 84, 85, 86, 87, 88, 89, 90, 91, 92, 93, 94, 95, 96, 97, 98, 99, 100, 101, 102, 103, 104, 105, 106, 107, 108, 109, 110, 111, 112, 113, 114] rfl (by decide +kernel)
set_option maxRecDepth 20000 in
theorem gX9_by_X9_byOf : GoodIn wsX9_by (wsV RX9 436 RX9 yX9_byOf wsX9_byOf) := goodIn_app (goodIn_r _ [2, 3, 4, 5] rfl (by decide +kernel)) ggX9_by_X9_byOf
theorem bnames04cX9_by_0 : ((dk_l cX9_by).drop 0).take 11 = [42, 3, 181, 0, 125, 42, 27, 182, 1, 180, 173] := by decide +kernel
theorem dX9_by_0 : decode cX9_by 0 = .ok (.aload_n 0, 1) := dk_42 (c := cX9_by) (pc := 0) (dk_at bnames04cX9_by_0 0)
theorem dX9_by_1 : decode cX9_by 1 = .ok (.iconst 0, 1) := dk_3 (c := cX9_by) (pc := 1) (dk_at bnames04cX9_by_0 1)
theorem dX9_by_2 : decode cX9_by 2 = .ok (.putfield 125, 3) := dk_181 (c := cX9_by) (pc := 2) (a := 0) (b := 125) (dk_at bnames04cX9_by_0 2) rfl
theorem dX9_by_5 : decode cX9_by 5 = .ok (.aload_n 0, 1) := dk_42 (c := cX9_by) (pc := 5) (dk_at bnames04cX9_by_0 5)
theorem dX9_by_6 : decode cX9_by 6 = .ok (.iload_n 1, 1) := dk_27 (c := cX9_by) (pc := 6) (dk_at bnames04cX9_by_0 6)
theorem dX9_by_7 : decode cX9_by 7 = .ok (.invokevirtual 436, 3) := dk_182 (c := cX9_by) (pc := 7) (a := 1) (b := 180) (dk_at bnames04cX9_by_0 7) rfl
theorem dX9_by_10 : decode cX9_by 10 = .ok (.lreturn, 1) := dk_173 (c := cX9_by) (pc := 10) (dk_at bnames04cX9_by_0 10)
theorem bnames04cX9_groupsOf_0 : ((dk_l cX9_groupsOf).drop 0).take 52 = [3, 60, 27, 16, 72, 162, 0, 30, 42, 180, 0, 113, 27, 9, 80, 42, 180, 0, 116, 27, 9, 80, 42, 180, 0, 119, 27, 9, 80, 132, 1, 1, 167, 255, 226, 3, 60, 27, 42, 180, 0, 89, 3, 46, 162, 0, 70, 16, 12, 42, 180, 0] := by decide +kernel
theorem dX9_groupsOf_0 : decode cX9_groupsOf 0 = .ok (.iconst 0, 1) := dk_3 (c := cX9_groupsOf) (pc := 0) (dk_at bnames04cX9_groupsOf_0 0)
theorem dX9_groupsOf_1 : decode cX9_groupsOf 1 = .ok (.istore_n 1, 1) := dk_60 (c := cX9_groupsOf) (pc := 1) (dk_at bnames04cX9_groupsOf_0 1)
theorem dX9_groupsOf_2 : decode cX9_groupsOf 2 = .ok (.iload_n 1, 1) := dk_27 (c := cX9_groupsOf) (pc := 2) (dk_at bnames04cX9_groupsOf_0 2)
theorem dX9_groupsOf_3 : decode cX9_groupsOf 3 = .ok (.bipush 72, 2) := dk_16 (c := cX9_groupsOf) (pc := 3) (a := 72) (dk_at bnames04cX9_groupsOf_0 3) (by decide)
theorem dX9_groupsOf_5 : decode cX9_groupsOf 5 = .ok (.if_icmp .ge 30, 3) := dk_162 (c := cX9_groupsOf) (pc := 5) (a := 0) (b := 30) (dk_at bnames04cX9_groupsOf_0 5) (by decide)
theorem dX9_groupsOf_8 : decode cX9_groupsOf 8 = .ok (.aload_n 0, 1) := dk_42 (c := cX9_groupsOf) (pc := 8) (dk_at bnames04cX9_groupsOf_0 8)
theorem dX9_groupsOf_9 : decode cX9_groupsOf 9 = .ok (.getfield 113, 3) := dk_180 (c := cX9_groupsOf) (pc := 9) (a := 0) (b := 113) (dk_at bnames04cX9_groupsOf_0 9) rfl
theorem dX9_groupsOf_12 : decode cX9_groupsOf 12 = .ok (.iload_n 1, 1) := dk_27 (c := cX9_groupsOf) (pc := 12) (dk_at bnames04cX9_groupsOf_0 12)
theorem dX9_groupsOf_13 : decode cX9_groupsOf 13 = .ok (.lconst 0, 1) := dk_9 (c := cX9_groupsOf) (pc := 13) (dk_at bnames04cX9_groupsOf_0 13)
theorem dX9_groupsOf_14 : decode cX9_groupsOf 14 = .ok (.lastore, 1) := dk_80 (c := cX9_groupsOf) (pc := 14) (dk_at bnames04cX9_groupsOf_0 14)
theorem dX9_groupsOf_15 : decode cX9_groupsOf 15 = .ok (.aload_n 0, 1) := dk_42 (c := cX9_groupsOf) (pc := 15) (dk_at bnames04cX9_groupsOf_0 15)
theorem dX9_groupsOf_16 : decode cX9_groupsOf 16 = .ok (.getfield 116, 3) := dk_180 (c := cX9_groupsOf) (pc := 16) (a := 0) (b := 116) (dk_at bnames04cX9_groupsOf_0 16) rfl
theorem dX9_groupsOf_19 : decode cX9_groupsOf 19 = .ok (.iload_n 1, 1) := dk_27 (c := cX9_groupsOf) (pc := 19) (dk_at bnames04cX9_groupsOf_0 19)
theorem dX9_groupsOf_20 : decode cX9_groupsOf 20 = .ok (.lconst 0, 1) := dk_9 (c := cX9_groupsOf) (pc := 20) (dk_at bnames04cX9_groupsOf_0 20)
theorem dX9_groupsOf_21 : decode cX9_groupsOf 21 = .ok (.lastore, 1) := dk_80 (c := cX9_groupsOf) (pc := 21) (dk_at bnames04cX9_groupsOf_0 21)
theorem dX9_groupsOf_22 : decode cX9_groupsOf 22 = .ok (.aload_n 0, 1) := dk_42 (c := cX9_groupsOf) (pc := 22) (dk_at bnames04cX9_groupsOf_0 22)
theorem dX9_groupsOf_23 : decode cX9_groupsOf 23 = .ok (.getfield 119, 3) := dk_180 (c := cX9_groupsOf) (pc := 23) (a := 0) (b := 119) (dk_at bnames04cX9_groupsOf_0 23) rfl
theorem dX9_groupsOf_26 : decode cX9_groupsOf 26 = .ok (.iload_n 1, 1) := dk_27 (c := cX9_groupsOf) (pc := 26) (dk_at bnames04cX9_groupsOf_0 26)
theorem dX9_groupsOf_27 : decode cX9_groupsOf 27 = .ok (.lconst 0, 1) := dk_9 (c := cX9_groupsOf) (pc := 27) (dk_at bnames04cX9_groupsOf_0 27)
theorem dX9_groupsOf_28 : decode cX9_groupsOf 28 = .ok (.lastore, 1) := dk_80 (c := cX9_groupsOf) (pc := 28) (dk_at bnames04cX9_groupsOf_0 28)
theorem dX9_groupsOf_29 : decode cX9_groupsOf 29 = .ok (.iinc 1 1, 3) := dk_132 (c := cX9_groupsOf) (pc := 29) (a := 1) (b := 1) (dk_at bnames04cX9_groupsOf_0 29) rfl (by decide)
theorem dX9_groupsOf_32 : decode cX9_groupsOf 32 = .ok (.goto (-30), 3) := dk_167 (c := cX9_groupsOf) (pc := 32) (a := 255) (b := 226) (dk_at bnames04cX9_groupsOf_0 32) (by decide)
theorem dX9_groupsOf_35 : decode cX9_groupsOf 35 = .ok (.iconst 0, 1) := dk_3 (c := cX9_groupsOf) (pc := 35) (dk_at bnames04cX9_groupsOf_0 35)
theorem dX9_groupsOf_36 : decode cX9_groupsOf 36 = .ok (.istore_n 1, 1) := dk_60 (c := cX9_groupsOf) (pc := 36) (dk_at bnames04cX9_groupsOf_0 36)
theorem dX9_groupsOf_37 : decode cX9_groupsOf 37 = .ok (.iload_n 1, 1) := dk_27 (c := cX9_groupsOf) (pc := 37) (dk_at bnames04cX9_groupsOf_0 37)
theorem dX9_groupsOf_38 : decode cX9_groupsOf 38 = .ok (.aload_n 0, 1) := dk_42 (c := cX9_groupsOf) (pc := 38) (dk_at bnames04cX9_groupsOf_0 38)
theorem dX9_groupsOf_39 : decode cX9_groupsOf 39 = .ok (.getfield 89, 3) := dk_180 (c := cX9_groupsOf) (pc := 39) (a := 0) (b := 89) (dk_at bnames04cX9_groupsOf_0 39) rfl
theorem dX9_groupsOf_42 : decode cX9_groupsOf 42 = .ok (.iconst 0, 1) := dk_3 (c := cX9_groupsOf) (pc := 42) (dk_at bnames04cX9_groupsOf_0 42)
theorem dX9_groupsOf_43 : decode cX9_groupsOf 43 = .ok (.iaload, 1) := dk_46 (c := cX9_groupsOf) (pc := 43) (dk_at bnames04cX9_groupsOf_0 43)
theorem dX9_groupsOf_44 : decode cX9_groupsOf 44 = .ok (.if_icmp .ge 70, 3) := dk_162 (c := cX9_groupsOf) (pc := 44) (a := 0) (b := 70) (dk_at bnames04cX9_groupsOf_0 44) (by decide)
theorem dX9_groupsOf_47 : decode cX9_groupsOf 47 = .ok (.bipush 12, 2) := dk_16 (c := cX9_groupsOf) (pc := 47) (a := 12) (dk_at bnames04cX9_groupsOf_0 47) (by decide)
theorem bnames04cX9_groupsOf_48 : ((dk_l cX9_groupsOf).drop 48).take 52 = [12, 42, 180, 0, 92, 27, 46, 104, 42, 180, 0, 95, 27, 46, 96, 4, 100, 61, 42, 180, 0, 113, 28, 92, 47, 10, 97, 80, 42, 180, 0, 116, 28, 92, 47, 42, 180, 0, 98, 27, 46, 133, 97, 80, 42, 180, 0, 119, 28, 92, 47, 42] := by decide +kernel
theorem dX9_groupsOf_49 : decode cX9_groupsOf 49 = .ok (.aload_n 0, 1) := dk_42 (c := cX9_groupsOf) (pc := 49) (dk_at bnames04cX9_groupsOf_48 1)
theorem dX9_groupsOf_50 : decode cX9_groupsOf 50 = .ok (.getfield 92, 3) := dk_180 (c := cX9_groupsOf) (pc := 50) (a := 0) (b := 92) (dk_at bnames04cX9_groupsOf_48 2) rfl
theorem dX9_groupsOf_53 : decode cX9_groupsOf 53 = .ok (.iload_n 1, 1) := dk_27 (c := cX9_groupsOf) (pc := 53) (dk_at bnames04cX9_groupsOf_48 5)
theorem dX9_groupsOf_54 : decode cX9_groupsOf 54 = .ok (.iaload, 1) := dk_46 (c := cX9_groupsOf) (pc := 54) (dk_at bnames04cX9_groupsOf_48 6)
theorem dX9_groupsOf_55 : decode cX9_groupsOf 55 = .ok (.imul, 1) := dk_104 (c := cX9_groupsOf) (pc := 55) (dk_at bnames04cX9_groupsOf_48 7)
theorem dX9_groupsOf_56 : decode cX9_groupsOf 56 = .ok (.aload_n 0, 1) := dk_42 (c := cX9_groupsOf) (pc := 56) (dk_at bnames04cX9_groupsOf_48 8)
theorem dX9_groupsOf_57 : decode cX9_groupsOf 57 = .ok (.getfield 95, 3) := dk_180 (c := cX9_groupsOf) (pc := 57) (a := 0) (b := 95) (dk_at bnames04cX9_groupsOf_48 9) rfl
theorem dX9_groupsOf_60 : decode cX9_groupsOf 60 = .ok (.iload_n 1, 1) := dk_27 (c := cX9_groupsOf) (pc := 60) (dk_at bnames04cX9_groupsOf_48 12)
theorem dX9_groupsOf_61 : decode cX9_groupsOf 61 = .ok (.iaload, 1) := dk_46 (c := cX9_groupsOf) (pc := 61) (dk_at bnames04cX9_groupsOf_48 13)
theorem dX9_groupsOf_62 : decode cX9_groupsOf 62 = .ok (.iadd, 1) := dk_96 (c := cX9_groupsOf) (pc := 62) (dk_at bnames04cX9_groupsOf_48 14)
theorem dX9_groupsOf_63 : decode cX9_groupsOf 63 = .ok (.iconst 1, 1) := dk_4 (c := cX9_groupsOf) (pc := 63) (dk_at bnames04cX9_groupsOf_48 15)
theorem dX9_groupsOf_64 : decode cX9_groupsOf 64 = .ok (.isub, 1) := dk_100 (c := cX9_groupsOf) (pc := 64) (dk_at bnames04cX9_groupsOf_48 16)
theorem dX9_groupsOf_65 : decode cX9_groupsOf 65 = .ok (.istore_n 2, 1) := dk_61 (c := cX9_groupsOf) (pc := 65) (dk_at bnames04cX9_groupsOf_48 17)
theorem dX9_groupsOf_66 : decode cX9_groupsOf 66 = .ok (.aload_n 0, 1) := dk_42 (c := cX9_groupsOf) (pc := 66) (dk_at bnames04cX9_groupsOf_48 18)
theorem dX9_groupsOf_67 : decode cX9_groupsOf 67 = .ok (.getfield 113, 3) := dk_180 (c := cX9_groupsOf) (pc := 67) (a := 0) (b := 113) (dk_at bnames04cX9_groupsOf_48 19) rfl
theorem dX9_groupsOf_70 : decode cX9_groupsOf 70 = .ok (.iload_n 2, 1) := dk_28 (c := cX9_groupsOf) (pc := 70) (dk_at bnames04cX9_groupsOf_48 22)
theorem dX9_groupsOf_71 : decode cX9_groupsOf 71 = .ok (.dup2, 1) := dk_92 (c := cX9_groupsOf) (pc := 71) (dk_at bnames04cX9_groupsOf_48 23)
theorem dX9_groupsOf_72 : decode cX9_groupsOf 72 = .ok (.laload, 1) := dk_47 (c := cX9_groupsOf) (pc := 72) (dk_at bnames04cX9_groupsOf_48 24)
theorem dX9_groupsOf_73 : decode cX9_groupsOf 73 = .ok (.lconst 1, 1) := dk_10 (c := cX9_groupsOf) (pc := 73) (dk_at bnames04cX9_groupsOf_48 25)
theorem dX9_groupsOf_74 : decode cX9_groupsOf 74 = .ok (.ladd, 1) := dk_97 (c := cX9_groupsOf) (pc := 74) (dk_at bnames04cX9_groupsOf_48 26)
theorem dX9_groupsOf_75 : decode cX9_groupsOf 75 = .ok (.lastore, 1) := dk_80 (c := cX9_groupsOf) (pc := 75) (dk_at bnames04cX9_groupsOf_48 27)
theorem dX9_groupsOf_76 : decode cX9_groupsOf 76 = .ok (.aload_n 0, 1) := dk_42 (c := cX9_groupsOf) (pc := 76) (dk_at bnames04cX9_groupsOf_48 28)
theorem dX9_groupsOf_77 : decode cX9_groupsOf 77 = .ok (.getfield 116, 3) := dk_180 (c := cX9_groupsOf) (pc := 77) (a := 0) (b := 116) (dk_at bnames04cX9_groupsOf_48 29) rfl
theorem dX9_groupsOf_80 : decode cX9_groupsOf 80 = .ok (.iload_n 2, 1) := dk_28 (c := cX9_groupsOf) (pc := 80) (dk_at bnames04cX9_groupsOf_48 32)
theorem dX9_groupsOf_81 : decode cX9_groupsOf 81 = .ok (.dup2, 1) := dk_92 (c := cX9_groupsOf) (pc := 81) (dk_at bnames04cX9_groupsOf_48 33)
theorem dX9_groupsOf_82 : decode cX9_groupsOf 82 = .ok (.laload, 1) := dk_47 (c := cX9_groupsOf) (pc := 82) (dk_at bnames04cX9_groupsOf_48 34)
theorem dX9_groupsOf_83 : decode cX9_groupsOf 83 = .ok (.aload_n 0, 1) := dk_42 (c := cX9_groupsOf) (pc := 83) (dk_at bnames04cX9_groupsOf_48 35)
theorem dX9_groupsOf_84 : decode cX9_groupsOf 84 = .ok (.getfield 98, 3) := dk_180 (c := cX9_groupsOf) (pc := 84) (a := 0) (b := 98) (dk_at bnames04cX9_groupsOf_48 36) rfl
theorem dX9_groupsOf_87 : decode cX9_groupsOf 87 = .ok (.iload_n 1, 1) := dk_27 (c := cX9_groupsOf) (pc := 87) (dk_at bnames04cX9_groupsOf_48 39)
theorem dX9_groupsOf_88 : decode cX9_groupsOf 88 = .ok (.iaload, 1) := dk_46 (c := cX9_groupsOf) (pc := 88) (dk_at bnames04cX9_groupsOf_48 40)
theorem dX9_groupsOf_89 : decode cX9_groupsOf 89 = .ok (.i2l, 1) := dk_133 (c := cX9_groupsOf) (pc := 89) (dk_at bnames04cX9_groupsOf_48 41)
theorem dX9_groupsOf_90 : decode cX9_groupsOf 90 = .ok (.ladd, 1) := dk_97 (c := cX9_groupsOf) (pc := 90) (dk_at bnames04cX9_groupsOf_48 42)
theorem dX9_groupsOf_91 : decode cX9_groupsOf 91 = .ok (.lastore, 1) := dk_80 (c := cX9_groupsOf) (pc := 91) (dk_at bnames04cX9_groupsOf_48 43)
theorem dX9_groupsOf_92 : decode cX9_groupsOf 92 = .ok (.aload_n 0, 1) := dk_42 (c := cX9_groupsOf) (pc := 92) (dk_at bnames04cX9_groupsOf_48 44)
theorem dX9_groupsOf_93 : decode cX9_groupsOf 93 = .ok (.getfield 119, 3) := dk_180 (c := cX9_groupsOf) (pc := 93) (a := 0) (b := 119) (dk_at bnames04cX9_groupsOf_48 45) rfl
theorem bnames04cX9_groupsOf_96 : ((dk_l cX9_groupsOf).drop 96).take 52 = [28, 92, 47, 42, 180, 0, 101, 27, 46, 133, 97, 80, 132, 1, 1, 167, 255, 182, 3, 60, 3, 61, 28, 16, 72, 162, 0, 28, 27, 42, 180, 0, 113, 28, 47, 9, 148, 158, 0, 7, 4, 167, 0, 4, 3, 96, 60, 132, 2, 1, 167, 255] := by decide +kernel
theorem dX9_groupsOf_96 : decode cX9_groupsOf 96 = .ok (.iload_n 2, 1) := dk_28 (c := cX9_groupsOf) (pc := 96) (dk_at bnames04cX9_groupsOf_96 0)
theorem dX9_groupsOf_97 : decode cX9_groupsOf 97 = .ok (.dup2, 1) := dk_92 (c := cX9_groupsOf) (pc := 97) (dk_at bnames04cX9_groupsOf_96 1)
theorem dX9_groupsOf_98 : decode cX9_groupsOf 98 = .ok (.laload, 1) := dk_47 (c := cX9_groupsOf) (pc := 98) (dk_at bnames04cX9_groupsOf_96 2)
theorem dX9_groupsOf_99 : decode cX9_groupsOf 99 = .ok (.aload_n 0, 1) := dk_42 (c := cX9_groupsOf) (pc := 99) (dk_at bnames04cX9_groupsOf_96 3)
theorem dX9_groupsOf_100 : decode cX9_groupsOf 100 = .ok (.getfield 101, 3) := dk_180 (c := cX9_groupsOf) (pc := 100) (a := 0) (b := 101) (dk_at bnames04cX9_groupsOf_96 4) rfl
theorem dX9_groupsOf_103 : decode cX9_groupsOf 103 = .ok (.iload_n 1, 1) := dk_27 (c := cX9_groupsOf) (pc := 103) (dk_at bnames04cX9_groupsOf_96 7)
theorem dX9_groupsOf_104 : decode cX9_groupsOf 104 = .ok (.iaload, 1) := dk_46 (c := cX9_groupsOf) (pc := 104) (dk_at bnames04cX9_groupsOf_96 8)
theorem dX9_groupsOf_105 : decode cX9_groupsOf 105 = .ok (.i2l, 1) := dk_133 (c := cX9_groupsOf) (pc := 105) (dk_at bnames04cX9_groupsOf_96 9)
theorem dX9_groupsOf_106 : decode cX9_groupsOf 106 = .ok (.ladd, 1) := dk_97 (c := cX9_groupsOf) (pc := 106) (dk_at bnames04cX9_groupsOf_96 10)
theorem dX9_groupsOf_107 : decode cX9_groupsOf 107 = .ok (.lastore, 1) := dk_80 (c := cX9_groupsOf) (pc := 107) (dk_at bnames04cX9_groupsOf_96 11)
theorem dX9_groupsOf_108 : decode cX9_groupsOf 108 = .ok (.iinc 1 1, 3) := dk_132 (c := cX9_groupsOf) (pc := 108) (a := 1) (b := 1) (dk_at bnames04cX9_groupsOf_96 12) rfl (by decide)
theorem dX9_groupsOf_111 : decode cX9_groupsOf 111 = .ok (.goto (-74), 3) := dk_167 (c := cX9_groupsOf) (pc := 111) (a := 255) (b := 182) (dk_at bnames04cX9_groupsOf_96 15) (by decide)
theorem dX9_groupsOf_114 : decode cX9_groupsOf 114 = .ok (.iconst 0, 1) := dk_3 (c := cX9_groupsOf) (pc := 114) (dk_at bnames04cX9_groupsOf_96 18)
theorem dX9_groupsOf_115 : decode cX9_groupsOf 115 = .ok (.istore_n 1, 1) := dk_60 (c := cX9_groupsOf) (pc := 115) (dk_at bnames04cX9_groupsOf_96 19)
theorem dX9_groupsOf_116 : decode cX9_groupsOf 116 = .ok (.iconst 0, 1) := dk_3 (c := cX9_groupsOf) (pc := 116) (dk_at bnames04cX9_groupsOf_96 20)
theorem dX9_groupsOf_117 : decode cX9_groupsOf 117 = .ok (.istore_n 2, 1) := dk_61 (c := cX9_groupsOf) (pc := 117) (dk_at bnames04cX9_groupsOf_96 21)
theorem dX9_groupsOf_118 : decode cX9_groupsOf 118 = .ok (.iload_n 2, 1) := dk_28 (c := cX9_groupsOf) (pc := 118) (dk_at bnames04cX9_groupsOf_96 22)
theorem dX9_groupsOf_119 : decode cX9_groupsOf 119 = .ok (.bipush 72, 2) := dk_16 (c := cX9_groupsOf) (pc := 119) (a := 72) (dk_at bnames04cX9_groupsOf_96 23) (by decide)
theorem dX9_groupsOf_121 : decode cX9_groupsOf 121 = .ok (.if_icmp .ge 28, 3) := dk_162 (c := cX9_groupsOf) (pc := 121) (a := 0) (b := 28) (dk_at bnames04cX9_groupsOf_96 25) (by decide)
theorem dX9_groupsOf_124 : decode cX9_groupsOf 124 = .ok (.iload_n 1, 1) := dk_27 (c := cX9_groupsOf) (pc := 124) (dk_at bnames04cX9_groupsOf_96 28)
theorem dX9_groupsOf_125 : decode cX9_groupsOf 125 = .ok (.aload_n 0, 1) := dk_42 (c := cX9_groupsOf) (pc := 125) (dk_at bnames04cX9_groupsOf_96 29)
theorem dX9_groupsOf_126 : decode cX9_groupsOf 126 = .ok (.getfield 113, 3) := dk_180 (c := cX9_groupsOf) (pc := 126) (a := 0) (b := 113) (dk_at bnames04cX9_groupsOf_96 30) rfl
theorem dX9_groupsOf_129 : decode cX9_groupsOf 129 = .ok (.iload_n 2, 1) := dk_28 (c := cX9_groupsOf) (pc := 129) (dk_at bnames04cX9_groupsOf_96 33)
theorem dX9_groupsOf_130 : decode cX9_groupsOf 130 = .ok (.laload, 1) := dk_47 (c := cX9_groupsOf) (pc := 130) (dk_at bnames04cX9_groupsOf_96 34)
theorem dX9_groupsOf_131 : decode cX9_groupsOf 131 = .ok (.lconst 0, 1) := dk_9 (c := cX9_groupsOf) (pc := 131) (dk_at bnames04cX9_groupsOf_96 35)
theorem dX9_groupsOf_132 : decode cX9_groupsOf 132 = .ok (.lcmp, 1) := dk_148 (c := cX9_groupsOf) (pc := 132) (dk_at bnames04cX9_groupsOf_96 36)
theorem dX9_groupsOf_133 : decode cX9_groupsOf 133 = .ok (.ifCond .le 7, 3) := dk_158 (c := cX9_groupsOf) (pc := 133) (a := 0) (b := 7) (dk_at bnames04cX9_groupsOf_96 37) (by decide)
theorem dX9_groupsOf_136 : decode cX9_groupsOf 136 = .ok (.iconst 1, 1) := dk_4 (c := cX9_groupsOf) (pc := 136) (dk_at bnames04cX9_groupsOf_96 40)
theorem dX9_groupsOf_137 : decode cX9_groupsOf 137 = .ok (.goto 4, 3) := dk_167 (c := cX9_groupsOf) (pc := 137) (a := 0) (b := 4) (dk_at bnames04cX9_groupsOf_96 41) (by decide)
theorem dX9_groupsOf_140 : decode cX9_groupsOf 140 = .ok (.iconst 0, 1) := dk_3 (c := cX9_groupsOf) (pc := 140) (dk_at bnames04cX9_groupsOf_96 44)
theorem dX9_groupsOf_141 : decode cX9_groupsOf 141 = .ok (.iadd, 1) := dk_96 (c := cX9_groupsOf) (pc := 141) (dk_at bnames04cX9_groupsOf_96 45)
theorem dX9_groupsOf_142 : decode cX9_groupsOf 142 = .ok (.istore_n 1, 1) := dk_60 (c := cX9_groupsOf) (pc := 142) (dk_at bnames04cX9_groupsOf_96 46)
theorem dX9_groupsOf_143 : decode cX9_groupsOf 143 = .ok (.iinc 2 1, 3) := dk_132 (c := cX9_groupsOf) (pc := 143) (a := 2) (b := 1) (dk_at bnames04cX9_groupsOf_96 47) rfl (by decide)
theorem bnames04cX9_groupsOf_144 : ((dk_l cX9_groupsOf).drop 144).take 7 = [2, 1, 167, 255, 228, 27, 172] := by decide +kernel
theorem dX9_groupsOf_146 : decode cX9_groupsOf 146 = .ok (.goto (-28), 3) := dk_167 (c := cX9_groupsOf) (pc := 146) (a := 255) (b := 228) (dk_at bnames04cX9_groupsOf_144 2) (by decide)
theorem dX9_groupsOf_149 : decode cX9_groupsOf 149 = .ok (.iload_n 1, 1) := dk_27 (c := cX9_groupsOf) (pc := 149) (dk_at bnames04cX9_groupsOf_144 5)
theorem dX9_groupsOf_150 : decode cX9_groupsOf 150 = .ok (.ireturn, 1) := dk_172 (c := cX9_groupsOf) (pc := 150) (dk_at bnames04cX9_groupsOf_144 6)
set_option maxRecDepth 20000 in
theorem ggX9_manyOf_X9_pushes : GoodIn wsX9_manyOf wsX9_pushes := goodIn_r _ [11, 12, 13, 14, 15, 39, 40, 41, 42, 43, 44, 45, 46, 47, 48, 49, 50, 51, 52, 53, 54, 55, 56, 57, 58, 59, 60, 61, 62, 63, 64, 65, 66, 67, 68, 69, 70, 71, 72, 73, 74, 75, 76, 77, 78, 79, 80, 81, 82, 83, 84, 85, 86, 87, 88, 89, 90, 91, 92, 93, 94, 95, 96, 97, 98] rfl (by decide +kernel)
set_option maxRecDepth 20000 in
theorem gX9_manyOf_X9_pushes : GoodIn wsX9_manyOf (wsV RX9 410 RX9 yX9_pushes wsX9_pushes) := goodIn_app (goodIn_r _ [7, 8, 9, 10] rfl (by decide +kernel)) ggX9_manyOf_X9_pushes
set_option maxRecDepth 20000 in
theorem ggX9_manyOf_X9_gathers : GoodIn wsX9_manyOf wsX9_gathers := goodIn_r _ [19, 20, 4, 21, 5, 22, 6, 23, 24, 15, 25, 26, 13, 39, 40, 41, 42, 43, 44, 45, 46, 47, 48, 49, 50, 51, 52, 53, 54, 55, 56, 57, 58, 59, 60, 61, 62, 63, 64, 65, 66, 67, 68, 69, 70, 71, 72, 73, 74, 75, 76, 77, 78, 79, 80, 81, 82, 83, 84, 85, 86, 87, 88, 89, 90, 91, 92, 93, 94, 95, 96, 97, 98] rfl (by decide +kernel)
set_option maxRecDepth 20000 in
theorem gX9_manyOf_X9_gathers : GoodIn wsX9_manyOf (wsV RX9 413 RX9 yX9_gathers wsX9_gathers) := goodIn_app (goodIn_r _ [16, 17, 18, 10] rfl (by decide +kernel)) ggX9_manyOf_X9_gathers
set_option maxRecDepth 20000 in
theorem ggX9_manyOf_X9_groupsOf : GoodIn wsX9_manyOf wsX9_groupsOf := goodIn_r _ [30, 1, 2, 3, 12, 31, 14, 25, 26, 39, 40, 41, 42, 43, 44, 45, 46, 47, 48, 49, 50, 51, 52, 53, 54, 55, 56, 57, 58, 59, 60, 61, 62, 63, 64, 65, 66, 67, 68, 69, 70, 71, 72, 73, 74, 75, 76, 77, 78, 79, 80, 81, 82, 83, 84, 85, 86, 87, 88, 89, 90, 91, 92, 93, 94, 95, 96, 97, 98] rfl (by decide +kernel)
set_option maxRecDepth 20000 in
theorem gX9_manyOf_X9_groupsOf : GoodIn wsX9_manyOf (wsV RX9 440 RX9 yX9_groupsOf wsX9_groupsOf) := goodIn_app (goodIn_r _ [27, 28, 29, 10] rfl (by decide +kernel)) ggX9_manyOf_X9_groupsOf
set_option maxRecDepth 20000 in
theorem ggX9_manyOf_X9_ratio : GoodIn wsX9_manyOf wsX9_ratio := goodIn_r _ [35, 36, 37, 38, 39, 40, 41, 42, 43, 44, 45, 46, 47, 48, 49, 50, 51, 52, 53, 54, 55, 56, 57, 58, 59, 60, 61, 62, 63, 64, 65, 66, 67, 68, 69, 70, 71, 72, 73, 74, 75, 76, 77, 78, 79, 80, 81, 82, 83, 84, 85, 86, 87, 88, 89, 90, 91, 92, 93, 94, 95, 96, 97, 98] rfl (by decide +kernel)
set_option maxRecDepth 20000 in
theorem gX9_manyOf_X9_ratio : GoodIn wsX9_manyOf (wsV RX9 416 RX9 yX9_ratio wsX9_ratio) := goodIn_app (goodIn_r _ [32, 33, 34, 10] rfl (by decide +kernel)) ggX9_manyOf_X9_ratio
theorem bnames04cX9_manyOf_0 : ((dk_l cX9_manyOf).drop 0).take 52 = [42, 3, 182, 1, 154, 42, 182, 1, 157, 42, 182, 1, 184, 87, 9, 64, 9, 66, 3, 54, 5, 21, 5, 16, 72, 162, 0, 76, 42, 180, 0, 113, 21, 5, 47, 9, 148, 154, 0, 6, 167, 0, 55, 31, 42, 180, 0, 116, 21, 5, 47, 42] := by decide +kernel
theorem dX9_manyOf_0 : decode cX9_manyOf 0 = .ok (.aload_n 0, 1) := dk_42 (c := cX9_manyOf) (pc := 0) (dk_at bnames04cX9_manyOf_0 0)
theorem dX9_manyOf_1 : decode cX9_manyOf 1 = .ok (.iconst 0, 1) := dk_3 (c := cX9_manyOf) (pc := 1) (dk_at bnames04cX9_manyOf_0 1)
theorem dX9_manyOf_2 : decode cX9_manyOf 2 = .ok (.invokevirtual 410, 3) := dk_182 (c := cX9_manyOf) (pc := 2) (a := 1) (b := 154) (dk_at bnames04cX9_manyOf_0 2) rfl
theorem dX9_manyOf_5 : decode cX9_manyOf 5 = .ok (.aload_n 0, 1) := dk_42 (c := cX9_manyOf) (pc := 5) (dk_at bnames04cX9_manyOf_0 5)
theorem dX9_manyOf_6 : decode cX9_manyOf 6 = .ok (.invokevirtual 413, 3) := dk_182 (c := cX9_manyOf) (pc := 6) (a := 1) (b := 157) (dk_at bnames04cX9_manyOf_0 6) rfl
theorem dX9_manyOf_9 : decode cX9_manyOf 9 = .ok (.aload_n 0, 1) := dk_42 (c := cX9_manyOf) (pc := 9) (dk_at bnames04cX9_manyOf_0 9)
theorem dX9_manyOf_10 : decode cX9_manyOf 10 = .ok (.invokevirtual 440, 3) := dk_182 (c := cX9_manyOf) (pc := 10) (a := 1) (b := 184) (dk_at bnames04cX9_manyOf_0 10) rfl
theorem dX9_manyOf_13 : decode cX9_manyOf 13 = .ok (.pop, 1) := dk_87 (c := cX9_manyOf) (pc := 13) (dk_at bnames04cX9_manyOf_0 13)
theorem dX9_manyOf_14 : decode cX9_manyOf 14 = .ok (.lconst 0, 1) := dk_9 (c := cX9_manyOf) (pc := 14) (dk_at bnames04cX9_manyOf_0 14)
theorem dX9_manyOf_15 : decode cX9_manyOf 15 = .ok (.lstore_n 1, 1) := dk_64 (c := cX9_manyOf) (pc := 15) (dk_at bnames04cX9_manyOf_0 15)
theorem dX9_manyOf_16 : decode cX9_manyOf 16 = .ok (.lconst 0, 1) := dk_9 (c := cX9_manyOf) (pc := 16) (dk_at bnames04cX9_manyOf_0 16)
theorem dX9_manyOf_17 : decode cX9_manyOf 17 = .ok (.lstore_n 3, 1) := dk_66 (c := cX9_manyOf) (pc := 17) (dk_at bnames04cX9_manyOf_0 17)
theorem dX9_manyOf_18 : decode cX9_manyOf 18 = .ok (.iconst 0, 1) := dk_3 (c := cX9_manyOf) (pc := 18) (dk_at bnames04cX9_manyOf_0 18)
theorem dX9_manyOf_19 : decode cX9_manyOf 19 = .ok (.istore 5, 2) := dk_54 (c := cX9_manyOf) (pc := 19) (a := 5) (dk_at bnames04cX9_manyOf_0 19) rfl
theorem dX9_manyOf_21 : decode cX9_manyOf 21 = .ok (.iload 5, 2) := dk_21 (c := cX9_manyOf) (pc := 21) (a := 5) (dk_at bnames04cX9_manyOf_0 21) rfl
theorem dX9_manyOf_23 : decode cX9_manyOf 23 = .ok (.bipush 72, 2) := dk_16 (c := cX9_manyOf) (pc := 23) (a := 72) (dk_at bnames04cX9_manyOf_0 23) (by decide)
theorem dX9_manyOf_25 : decode cX9_manyOf 25 = .ok (.if_icmp .ge 76, 3) := dk_162 (c := cX9_manyOf) (pc := 25) (a := 0) (b := 76) (dk_at bnames04cX9_manyOf_0 25) (by decide)
theorem dX9_manyOf_28 : decode cX9_manyOf 28 = .ok (.aload_n 0, 1) := dk_42 (c := cX9_manyOf) (pc := 28) (dk_at bnames04cX9_manyOf_0 28)
theorem dX9_manyOf_29 : decode cX9_manyOf 29 = .ok (.getfield 113, 3) := dk_180 (c := cX9_manyOf) (pc := 29) (a := 0) (b := 113) (dk_at bnames04cX9_manyOf_0 29) rfl
theorem dX9_manyOf_32 : decode cX9_manyOf 32 = .ok (.iload 5, 2) := dk_21 (c := cX9_manyOf) (pc := 32) (a := 5) (dk_at bnames04cX9_manyOf_0 32) rfl
theorem dX9_manyOf_34 : decode cX9_manyOf 34 = .ok (.laload, 1) := dk_47 (c := cX9_manyOf) (pc := 34) (dk_at bnames04cX9_manyOf_0 34)
theorem dX9_manyOf_35 : decode cX9_manyOf 35 = .ok (.lconst 0, 1) := dk_9 (c := cX9_manyOf) (pc := 35) (dk_at bnames04cX9_manyOf_0 35)
theorem dX9_manyOf_36 : decode cX9_manyOf 36 = .ok (.lcmp, 1) := dk_148 (c := cX9_manyOf) (pc := 36) (dk_at bnames04cX9_manyOf_0 36)
theorem dX9_manyOf_37 : decode cX9_manyOf 37 = .ok (.ifCond .ne 6, 3) := dk_154 (c := cX9_manyOf) (pc := 37) (a := 0) (b := 6) (dk_at bnames04cX9_manyOf_0 37) (by decide)
theorem dX9_manyOf_40 : decode cX9_manyOf 40 = .ok (.goto 55, 3) := dk_167 (c := cX9_manyOf) (pc := 40) (a := 0) (b := 55) (dk_at bnames04cX9_manyOf_0 40) (by decide)
theorem dX9_manyOf_43 : decode cX9_manyOf 43 = .ok (.lload_n 1, 1) := dk_31 (c := cX9_manyOf) (pc := 43) (dk_at bnames04cX9_manyOf_0 43)
theorem dX9_manyOf_44 : decode cX9_manyOf 44 = .ok (.aload_n 0, 1) := dk_42 (c := cX9_manyOf) (pc := 44) (dk_at bnames04cX9_manyOf_0 44)
theorem dX9_manyOf_45 : decode cX9_manyOf 45 = .ok (.getfield 116, 3) := dk_180 (c := cX9_manyOf) (pc := 45) (a := 0) (b := 116) (dk_at bnames04cX9_manyOf_0 45) rfl
theorem bnames04cX9_manyOf_48 : ((dk_l cX9_manyOf).drop 48).take 52 = [21, 5, 47, 42, 180, 0, 119, 21, 5, 47, 105, 42, 180, 0, 113, 21, 5, 47, 109, 97, 64, 33, 42, 180, 0, 116, 21, 5, 47, 42, 180, 0, 116, 21, 5, 47, 105, 42, 180, 0, 113, 21, 5, 47, 109, 97, 66, 132, 5, 1, 167, 255] := by decide +kernel
theorem dX9_manyOf_48 : decode cX9_manyOf 48 = .ok (.iload 5, 2) := dk_21 (c := cX9_manyOf) (pc := 48) (a := 5) (dk_at bnames04cX9_manyOf_48 0) rfl
theorem dX9_manyOf_50 : decode cX9_manyOf 50 = .ok (.laload, 1) := dk_47 (c := cX9_manyOf) (pc := 50) (dk_at bnames04cX9_manyOf_48 2)
theorem dX9_manyOf_51 : decode cX9_manyOf 51 = .ok (.aload_n 0, 1) := dk_42 (c := cX9_manyOf) (pc := 51) (dk_at bnames04cX9_manyOf_48 3)
theorem dX9_manyOf_52 : decode cX9_manyOf 52 = .ok (.getfield 119, 3) := dk_180 (c := cX9_manyOf) (pc := 52) (a := 0) (b := 119) (dk_at bnames04cX9_manyOf_48 4) rfl
theorem dX9_manyOf_55 : decode cX9_manyOf 55 = .ok (.iload 5, 2) := dk_21 (c := cX9_manyOf) (pc := 55) (a := 5) (dk_at bnames04cX9_manyOf_48 7) rfl
theorem dX9_manyOf_57 : decode cX9_manyOf 57 = .ok (.laload, 1) := dk_47 (c := cX9_manyOf) (pc := 57) (dk_at bnames04cX9_manyOf_48 9)
theorem dX9_manyOf_58 : decode cX9_manyOf 58 = .ok (.lmul, 1) := dk_105 (c := cX9_manyOf) (pc := 58) (dk_at bnames04cX9_manyOf_48 10)
theorem dX9_manyOf_59 : decode cX9_manyOf 59 = .ok (.aload_n 0, 1) := dk_42 (c := cX9_manyOf) (pc := 59) (dk_at bnames04cX9_manyOf_48 11)
theorem dX9_manyOf_60 : decode cX9_manyOf 60 = .ok (.getfield 113, 3) := dk_180 (c := cX9_manyOf) (pc := 60) (a := 0) (b := 113) (dk_at bnames04cX9_manyOf_48 12) rfl
theorem dX9_manyOf_63 : decode cX9_manyOf 63 = .ok (.iload 5, 2) := dk_21 (c := cX9_manyOf) (pc := 63) (a := 5) (dk_at bnames04cX9_manyOf_48 15) rfl
theorem dX9_manyOf_65 : decode cX9_manyOf 65 = .ok (.laload, 1) := dk_47 (c := cX9_manyOf) (pc := 65) (dk_at bnames04cX9_manyOf_48 17)
theorem dX9_manyOf_66 : decode cX9_manyOf 66 = .ok (.ldiv, 1) := dk_109 (c := cX9_manyOf) (pc := 66) (dk_at bnames04cX9_manyOf_48 18)
theorem dX9_manyOf_67 : decode cX9_manyOf 67 = .ok (.ladd, 1) := dk_97 (c := cX9_manyOf) (pc := 67) (dk_at bnames04cX9_manyOf_48 19)
theorem dX9_manyOf_68 : decode cX9_manyOf 68 = .ok (.lstore_n 1, 1) := dk_64 (c := cX9_manyOf) (pc := 68) (dk_at bnames04cX9_manyOf_48 20)
theorem dX9_manyOf_69 : decode cX9_manyOf 69 = .ok (.lload_n 3, 1) := dk_33 (c := cX9_manyOf) (pc := 69) (dk_at bnames04cX9_manyOf_48 21)
theorem dX9_manyOf_70 : decode cX9_manyOf 70 = .ok (.aload_n 0, 1) := dk_42 (c := cX9_manyOf) (pc := 70) (dk_at bnames04cX9_manyOf_48 22)
theorem dX9_manyOf_71 : decode cX9_manyOf 71 = .ok (.getfield 116, 3) := dk_180 (c := cX9_manyOf) (pc := 71) (a := 0) (b := 116) (dk_at bnames04cX9_manyOf_48 23) rfl
theorem dX9_manyOf_74 : decode cX9_manyOf 74 = .ok (.iload 5, 2) := dk_21 (c := cX9_manyOf) (pc := 74) (a := 5) (dk_at bnames04cX9_manyOf_48 26) rfl
theorem dX9_manyOf_76 : decode cX9_manyOf 76 = .ok (.laload, 1) := dk_47 (c := cX9_manyOf) (pc := 76) (dk_at bnames04cX9_manyOf_48 28)
theorem dX9_manyOf_77 : decode cX9_manyOf 77 = .ok (.aload_n 0, 1) := dk_42 (c := cX9_manyOf) (pc := 77) (dk_at bnames04cX9_manyOf_48 29)
theorem dX9_manyOf_78 : decode cX9_manyOf 78 = .ok (.getfield 116, 3) := dk_180 (c := cX9_manyOf) (pc := 78) (a := 0) (b := 116) (dk_at bnames04cX9_manyOf_48 30) rfl
theorem dX9_manyOf_81 : decode cX9_manyOf 81 = .ok (.iload 5, 2) := dk_21 (c := cX9_manyOf) (pc := 81) (a := 5) (dk_at bnames04cX9_manyOf_48 33) rfl
theorem dX9_manyOf_83 : decode cX9_manyOf 83 = .ok (.laload, 1) := dk_47 (c := cX9_manyOf) (pc := 83) (dk_at bnames04cX9_manyOf_48 35)
theorem dX9_manyOf_84 : decode cX9_manyOf 84 = .ok (.lmul, 1) := dk_105 (c := cX9_manyOf) (pc := 84) (dk_at bnames04cX9_manyOf_48 36)
theorem dX9_manyOf_85 : decode cX9_manyOf 85 = .ok (.aload_n 0, 1) := dk_42 (c := cX9_manyOf) (pc := 85) (dk_at bnames04cX9_manyOf_48 37)
theorem dX9_manyOf_86 : decode cX9_manyOf 86 = .ok (.getfield 113, 3) := dk_180 (c := cX9_manyOf) (pc := 86) (a := 0) (b := 113) (dk_at bnames04cX9_manyOf_48 38) rfl
theorem dX9_manyOf_89 : decode cX9_manyOf 89 = .ok (.iload 5, 2) := dk_21 (c := cX9_manyOf) (pc := 89) (a := 5) (dk_at bnames04cX9_manyOf_48 41) rfl
theorem dX9_manyOf_91 : decode cX9_manyOf 91 = .ok (.laload, 1) := dk_47 (c := cX9_manyOf) (pc := 91) (dk_at bnames04cX9_manyOf_48 43)
theorem dX9_manyOf_92 : decode cX9_manyOf 92 = .ok (.ldiv, 1) := dk_109 (c := cX9_manyOf) (pc := 92) (dk_at bnames04cX9_manyOf_48 44)
theorem dX9_manyOf_93 : decode cX9_manyOf 93 = .ok (.ladd, 1) := dk_97 (c := cX9_manyOf) (pc := 93) (dk_at bnames04cX9_manyOf_48 45)
theorem dX9_manyOf_94 : decode cX9_manyOf 94 = .ok (.lstore_n 3, 1) := dk_66 (c := cX9_manyOf) (pc := 94) (dk_at bnames04cX9_manyOf_48 46)
theorem dX9_manyOf_95 : decode cX9_manyOf 95 = .ok (.iinc 5 1, 3) := dk_132 (c := cX9_manyOf) (pc := 95) (a := 5) (b := 1) (dk_at bnames04cX9_manyOf_48 47) rfl (by decide)
theorem bnames04cX9_manyOf_96 : ((dk_l cX9_manyOf).drop 96).take 42 = [5, 1, 167, 255, 179, 42, 42, 180, 1, 125, 31, 105, 42, 180, 1, 131, 42, 180, 1, 137, 105, 101, 42, 180, 1, 125, 33, 105, 42, 180, 1, 131, 42, 180, 1, 131, 105, 101, 182, 1, 160, 173] := by decide +kernel
theorem dX9_manyOf_98 : decode cX9_manyOf 98 = .ok (.goto (-77), 3) := dk_167 (c := cX9_manyOf) (pc := 98) (a := 255) (b := 179) (dk_at bnames04cX9_manyOf_96 2) (by decide)
theorem dX9_manyOf_101 : decode cX9_manyOf 101 = .ok (.aload_n 0, 1) := dk_42 (c := cX9_manyOf) (pc := 101) (dk_at bnames04cX9_manyOf_96 5)
theorem dX9_manyOf_102 : decode cX9_manyOf 102 = .ok (.aload_n 0, 1) := dk_42 (c := cX9_manyOf) (pc := 102) (dk_at bnames04cX9_manyOf_96 6)
theorem dX9_manyOf_103 : decode cX9_manyOf 103 = .ok (.getfield 381, 3) := dk_180 (c := cX9_manyOf) (pc := 103) (a := 1) (b := 125) (dk_at bnames04cX9_manyOf_96 7) rfl
theorem dX9_manyOf_106 : decode cX9_manyOf 106 = .ok (.lload_n 1, 1) := dk_31 (c := cX9_manyOf) (pc := 106) (dk_at bnames04cX9_manyOf_96 10)
theorem dX9_manyOf_107 : decode cX9_manyOf 107 = .ok (.lmul, 1) := dk_105 (c := cX9_manyOf) (pc := 107) (dk_at bnames04cX9_manyOf_96 11)
theorem dX9_manyOf_108 : decode cX9_manyOf 108 = .ok (.aload_n 0, 1) := dk_42 (c := cX9_manyOf) (pc := 108) (dk_at bnames04cX9_manyOf_96 12)
theorem dX9_manyOf_109 : decode cX9_manyOf 109 = .ok (.getfield 387, 3) := dk_180 (c := cX9_manyOf) (pc := 109) (a := 1) (b := 131) (dk_at bnames04cX9_manyOf_96 13) rfl
theorem dX9_manyOf_112 : decode cX9_manyOf 112 = .ok (.aload_n 0, 1) := dk_42 (c := cX9_manyOf) (pc := 112) (dk_at bnames04cX9_manyOf_96 16)
theorem dX9_manyOf_113 : decode cX9_manyOf 113 = .ok (.getfield 393, 3) := dk_180 (c := cX9_manyOf) (pc := 113) (a := 1) (b := 137) (dk_at bnames04cX9_manyOf_96 17) rfl
theorem dX9_manyOf_116 : decode cX9_manyOf 116 = .ok (.lmul, 1) := dk_105 (c := cX9_manyOf) (pc := 116) (dk_at bnames04cX9_manyOf_96 20)
theorem dX9_manyOf_117 : decode cX9_manyOf 117 = .ok (.lsub, 1) := dk_101 (c := cX9_manyOf) (pc := 117) (dk_at bnames04cX9_manyOf_96 21)
theorem dX9_manyOf_118 : decode cX9_manyOf 118 = .ok (.aload_n 0, 1) := dk_42 (c := cX9_manyOf) (pc := 118) (dk_at bnames04cX9_manyOf_96 22)
theorem dX9_manyOf_119 : decode cX9_manyOf 119 = .ok (.getfield 381, 3) := dk_180 (c := cX9_manyOf) (pc := 119) (a := 1) (b := 125) (dk_at bnames04cX9_manyOf_96 23) rfl
theorem dX9_manyOf_122 : decode cX9_manyOf 122 = .ok (.lload_n 3, 1) := dk_33 (c := cX9_manyOf) (pc := 122) (dk_at bnames04cX9_manyOf_96 26)
theorem dX9_manyOf_123 : decode cX9_manyOf 123 = .ok (.lmul, 1) := dk_105 (c := cX9_manyOf) (pc := 123) (dk_at bnames04cX9_manyOf_96 27)
theorem dX9_manyOf_124 : decode cX9_manyOf 124 = .ok (.aload_n 0, 1) := dk_42 (c := cX9_manyOf) (pc := 124) (dk_at bnames04cX9_manyOf_96 28)
theorem dX9_manyOf_125 : decode cX9_manyOf 125 = .ok (.getfield 387, 3) := dk_180 (c := cX9_manyOf) (pc := 125) (a := 1) (b := 131) (dk_at bnames04cX9_manyOf_96 29) rfl
theorem dX9_manyOf_128 : decode cX9_manyOf 128 = .ok (.aload_n 0, 1) := dk_42 (c := cX9_manyOf) (pc := 128) (dk_at bnames04cX9_manyOf_96 32)
theorem dX9_manyOf_129 : decode cX9_manyOf 129 = .ok (.getfield 387, 3) := dk_180 (c := cX9_manyOf) (pc := 129) (a := 1) (b := 131) (dk_at bnames04cX9_manyOf_96 33) rfl
theorem dX9_manyOf_132 : decode cX9_manyOf 132 = .ok (.lmul, 1) := dk_105 (c := cX9_manyOf) (pc := 132) (dk_at bnames04cX9_manyOf_96 36)
theorem dX9_manyOf_133 : decode cX9_manyOf 133 = .ok (.lsub, 1) := dk_101 (c := cX9_manyOf) (pc := 133) (dk_at bnames04cX9_manyOf_96 37)
theorem dX9_manyOf_134 : decode cX9_manyOf 134 = .ok (.invokevirtual 416, 3) := dk_182 (c := cX9_manyOf) (pc := 134) (a := 1) (b := 160) (dk_at bnames04cX9_manyOf_96 38) rfl
theorem dX9_manyOf_137 : decode cX9_manyOf 137 = .ok (.lreturn, 1) := dk_173 (c := cX9_manyOf) (pc := 137) (dk_at bnames04cX9_manyOf_96 41)
set_option maxRecDepth 20000 in
theorem ggX9_many_X9_manyOf : GoodIn wsX9_many wsX9_manyOf := goodIn_r _ [6, 7, 8, 9, 10, 11, 12, 13, 14, 15, 5, 16, 17, 18, 19, 20, 21, 22, 23, 24, 25, 26, 27, 28, 29, 30, 31, 32, 33, 34, 35, 36, 37, 38, 39, 40, 41, 42, 43, 44, 45, 46, 47, 48, 49, 50, 51, 52, 53, 54, 55, 56, 57, 58, 59, 60, 61, 62, 63, 64, 65, 66, 67, 68, 69, 70, 71, 72, 73, 74, 75, 76, 77, 78, 79, 80, 81, 82, 83, 84, 85, 86, 87, 88, 89, 90, 91, 92, 93, 94, 95, 96, 97, 98, 99, 100, 101, 102, 103] rfl (by decide +kernel)
set_option maxRecDepth 20000 in
theorem gX9_many_X9_manyOf : GoodIn wsX9_many (wsV RX9 444 RX9 yX9_manyOf wsX9_manyOf) := goodIn_app (goodIn_r _ [2, 3, 4, 5] rfl (by decide +kernel)) ggX9_many_X9_manyOf
theorem bnames04cX9_many_0 : ((dk_l cX9_many).drop 0).take 10 = [42, 3, 181, 0, 125, 42, 182, 1, 188, 173] := by decide +kernel
theorem dX9_many_0 : decode cX9_many 0 = .ok (.aload_n 0, 1) := dk_42 (c := cX9_many) (pc := 0) (dk_at bnames04cX9_many_0 0)
theorem dX9_many_1 : decode cX9_many 1 = .ok (.iconst 0, 1) := dk_3 (c := cX9_many) (pc := 1) (dk_at bnames04cX9_many_0 1)
theorem dX9_many_2 : decode cX9_many 2 = .ok (.putfield 125, 3) := dk_181 (c := cX9_many) (pc := 2) (a := 0) (b := 125) (dk_at bnames04cX9_many_0 2) rfl
theorem dX9_many_5 : decode cX9_many 5 = .ok (.aload_n 0, 1) := dk_42 (c := cX9_many) (pc := 5) (dk_at bnames04cX9_many_0 5)
theorem dX9_many_6 : decode cX9_many 6 = .ok (.invokevirtual 444, 3) := dk_182 (c := cX9_many) (pc := 6) (a := 1) (b := 188) (dk_at bnames04cX9_many_0 6) rfl
theorem dX9_many_9 : decode cX9_many 9 = .ok (.lreturn, 1) := dk_173 (c := cX9_many) (pc := 9) (dk_at bnames04cX9_many_0 9)
set_option maxRecDepth 20000 in
theorem ggX9_groups_X9_groupsOf : GoodIn wsX9_groups wsX9_groupsOf := goodIn_r _ [6, 7, 8, 9, 10, 11, 12, 13, 14, 15, 16, 17, 18, 19, 20, 21, 22, 23, 24, 25, 26, 27, 28, 29, 30, 31, 32, 33, 34, 35, 36, 37, 38, 39, 40, 41, 42, 43, 44, 45, 46, 47, 48, 49, 50, 51, 52, 53, 54, 55, 56, 57, 58, 59, 60, 61, 62, 63, 64, 65, 66, 67, 68, 69, 70, 71, 72, 73, 74] rfl (by decide +kernel)
set_option maxRecDepth 20000 in
theorem gX9_groups_X9_groupsOf : GoodIn wsX9_groups (wsV RX9 440 RX9 yX9_groupsOf wsX9_groupsOf) := goodIn_app (goodIn_r _ [2, 3, 4, 5] rfl (by decide +kernel)) ggX9_groups_X9_groupsOf
theorem bnames04cX9_groups_0 : ((dk_l cX9_groups).drop 0).take 10 = [42, 3, 181, 0, 125, 42, 182, 1, 184, 172] := by decide +kernel
theorem dX9_groups_0 : decode cX9_groups 0 = .ok (.aload_n 0, 1) := dk_42 (c := cX9_groups) (pc := 0) (dk_at bnames04cX9_groups_0 0)
theorem dX9_groups_1 : decode cX9_groups 1 = .ok (.iconst 0, 1) := dk_3 (c := cX9_groups) (pc := 1) (dk_at bnames04cX9_groups_0 1)
theorem dX9_groups_2 : decode cX9_groups 2 = .ok (.putfield 125, 3) := dk_181 (c := cX9_groups) (pc := 2) (a := 0) (b := 125) (dk_at bnames04cX9_groups_0 2) rfl
theorem dX9_groups_5 : decode cX9_groups 5 = .ok (.aload_n 0, 1) := dk_42 (c := cX9_groups) (pc := 5) (dk_at bnames04cX9_groups_0 5)
theorem dX9_groups_6 : decode cX9_groups 6 = .ok (.invokevirtual 440, 3) := dk_182 (c := cX9_groups) (pc := 6) (a := 1) (b := 184) (dk_at bnames04cX9_groups_0 6) rfl
theorem dX9_groups_9 : decode cX9_groups 9 = .ok (.ireturn, 1) := dk_172 (c := cX9_groups) (pc := 9) (dk_at bnames04cX9_groups_0 9)
set_option maxRecDepth 20000 in
theorem ggX9_moves_X9_isPush : GoodIn wsX9_moves wsX9_isPush := goodIn_r _ [10, 11, 12, 13, 9, 14] rfl (by decide +kernel)
set_option maxRecDepth 20000 in
theorem gX9_moves_X9_isPush : GoodIn wsX9_moves (va_wsS RX9 430 yX9_isPush wsX9_isPush) := goodIn_app (goodIn_r _ [7, 8, 9] rfl (by decide +kernel)) ggX9_moves_X9_isPush
set_option maxRecDepth 20000 in
theorem ggX9_moves_X9_pushes : GoodIn wsX9_moves wsX9_pushes := goodIn_r _ [18, 19, 20, 21, 22, 43, 44, 45, 46, 47, 48, 49, 50, 51, 52, 53, 54, 55, 56, 57, 58, 59, 60, 61, 62, 63, 64, 65, 66, 67, 68, 69, 70, 71, 72, 73, 74, 75, 76, 77, 78, 79, 80, 81, 82, 83, 84, 85, 86, 87, 88, 89, 90, 91, 92, 93, 94, 95, 96, 97, 98, 99, 100, 101, 102] rfl (by decide +kernel)
set_option maxRecDepth 20000 in
theorem gX9_moves_X9_pushes : GoodIn wsX9_moves (wsV RX9 410 RX9 yX9_pushes wsX9_pushes) := goodIn_app (goodIn_r _ [15, 16, 17, 9] rfl (by decide +kernel)) ggX9_moves_X9_pushes
set_option maxRecDepth 20000 in
theorem ggX9_moves_X9_gathers : GoodIn wsX9_moves wsX9_gathers := goodIn_r _ [26, 6, 4, 3, 5, 27, 28, 29, 30, 22, 31, 32, 20, 43, 44, 45, 46, 47, 48, 49, 50, 51, 52, 53, 54, 55, 56, 57, 58, 59, 60, 61, 62, 63, 64, 65, 66, 67, 68, 69, 70, 71, 72, 73, 74, 75, 76, 77, 78, 79, 80, 81, 82, 83, 84, 85, 86, 87, 88, 89, 90, 91, 92, 93, 94, 95, 96, 97, 98, 99, 100, 101, 102] rfl (by decide +kernel)
set_option maxRecDepth 20000 in
theorem gX9_moves_X9_gathers : GoodIn wsX9_moves (wsV RX9 413 RX9 yX9_gathers wsX9_gathers) := goodIn_app (goodIn_r _ [23, 24, 25, 9] rfl (by decide +kernel)) ggX9_moves_X9_gathers
set_option maxRecDepth 20000 in
theorem ggX9_moves_X9_areBoth : GoodIn wsX9_moves wsX9_areBoth := goodIn_r _ [36, 6, 4, 43, 44, 45, 46, 47, 48, 49, 50, 51, 52, 53, 54, 55, 56, 57, 58, 59, 60, 61, 62, 63, 64, 65, 66, 67, 68, 69, 70, 71, 72, 73, 74, 75, 76, 77, 78, 79, 80, 81, 82, 83, 84, 85, 86, 87, 88, 89, 90, 91, 92, 93, 94, 95, 96, 97, 98, 99, 100, 101, 102] rfl (by decide +kernel)
set_option maxRecDepth 20000 in
theorem gX9_moves_X9_areBoth : GoodIn wsX9_moves (wsV RX9 424 RX9 yX9_areBoth wsX9_areBoth) := goodIn_app (goodIn_r _ [33, 34, 35, 9] rfl (by decide +kernel)) ggX9_moves_X9_areBoth
set_option maxRecDepth 20000 in
theorem ggX9_moves_X9_ratio : GoodIn wsX9_moves wsX9_ratio := goodIn_r _ [40, 41, 42, 2, 43, 44, 45, 46, 47, 48, 49, 50, 51, 52, 53, 54, 55, 56, 57, 58, 59, 60, 61, 62, 63, 64, 65, 66, 67, 68, 69, 70, 71, 72, 73, 74, 75, 76, 77, 78, 79, 80, 81, 82, 83, 84, 85, 86, 87, 88, 89, 90, 91, 92, 93, 94, 95, 96, 97, 98, 99, 100, 101, 102] rfl (by decide +kernel)
set_option maxRecDepth 20000 in
theorem gX9_moves_X9_ratio : GoodIn wsX9_moves (wsV RX9 416 RX9 yX9_ratio wsX9_ratio) := goodIn_app (goodIn_r _ [37, 38, 39, 9] rfl (by decide +kernel)) ggX9_moves_X9_ratio
theorem bnames04cX9_moves_0 : ((dk_l cX9_moves).drop 0).take 52 = [42, 3, 181, 0, 125, 27, 184, 1, 174, 154, 0, 7, 20, 1, 152, 173, 42, 27, 182, 1, 154, 42, 182, 1, 157, 42, 182, 1, 168, 153, 0, 38, 42, 42, 180, 1, 128, 42, 180, 1, 125, 105, 42, 180, 1, 131, 42, 180, 1, 122, 105, 101] := by decide +kernel
theorem dX9_moves_0 : decode cX9_moves 0 = .ok (.aload_n 0, 1) := dk_42 (c := cX9_moves) (pc := 0) (dk_at bnames04cX9_moves_0 0)
theorem dX9_moves_1 : decode cX9_moves 1 = .ok (.iconst 0, 1) := dk_3 (c := cX9_moves) (pc := 1) (dk_at bnames04cX9_moves_0 1)
theorem dX9_moves_2 : decode cX9_moves 2 = .ok (.putfield 125, 3) := dk_181 (c := cX9_moves) (pc := 2) (a := 0) (b := 125) (dk_at bnames04cX9_moves_0 2) rfl
theorem dX9_moves_5 : decode cX9_moves 5 = .ok (.iload_n 1, 1) := dk_27 (c := cX9_moves) (pc := 5) (dk_at bnames04cX9_moves_0 5)
theorem dX9_moves_6 : decode cX9_moves 6 = .ok (.invokestatic 430, 3) := dk_184 (c := cX9_moves) (pc := 6) (a := 1) (b := 174) (dk_at bnames04cX9_moves_0 6) rfl
theorem dX9_moves_9 : decode cX9_moves 9 = .ok (.ifCond .ne 7, 3) := dk_154 (c := cX9_moves) (pc := 9) (a := 0) (b := 7) (dk_at bnames04cX9_moves_0 9) (by decide)
theorem dX9_moves_12 : decode cX9_moves 12 = .ok (.ldc2_w 408, 3) := dk_20 (c := cX9_moves) (pc := 12) (a := 1) (b := 152) (dk_at bnames04cX9_moves_0 12) rfl
theorem dX9_moves_15 : decode cX9_moves 15 = .ok (.lreturn, 1) := dk_173 (c := cX9_moves) (pc := 15) (dk_at bnames04cX9_moves_0 15)
theorem dX9_moves_16 : decode cX9_moves 16 = .ok (.aload_n 0, 1) := dk_42 (c := cX9_moves) (pc := 16) (dk_at bnames04cX9_moves_0 16)
theorem dX9_moves_17 : decode cX9_moves 17 = .ok (.iload_n 1, 1) := dk_27 (c := cX9_moves) (pc := 17) (dk_at bnames04cX9_moves_0 17)
theorem dX9_moves_18 : decode cX9_moves 18 = .ok (.invokevirtual 410, 3) := dk_182 (c := cX9_moves) (pc := 18) (a := 1) (b := 154) (dk_at bnames04cX9_moves_0 18) rfl
theorem dX9_moves_21 : decode cX9_moves 21 = .ok (.aload_n 0, 1) := dk_42 (c := cX9_moves) (pc := 21) (dk_at bnames04cX9_moves_0 21)
theorem dX9_moves_22 : decode cX9_moves 22 = .ok (.invokevirtual 413, 3) := dk_182 (c := cX9_moves) (pc := 22) (a := 1) (b := 157) (dk_at bnames04cX9_moves_0 22) rfl
theorem dX9_moves_25 : decode cX9_moves 25 = .ok (.aload_n 0, 1) := dk_42 (c := cX9_moves) (pc := 25) (dk_at bnames04cX9_moves_0 25)
theorem dX9_moves_26 : decode cX9_moves 26 = .ok (.invokevirtual 424, 3) := dk_182 (c := cX9_moves) (pc := 26) (a := 1) (b := 168) (dk_at bnames04cX9_moves_0 26) rfl
theorem dX9_moves_29 : decode cX9_moves 29 = .ok (.ifCond .eq 38, 3) := dk_153 (c := cX9_moves) (pc := 29) (a := 0) (b := 38) (dk_at bnames04cX9_moves_0 29) (by decide)
theorem dX9_moves_32 : decode cX9_moves 32 = .ok (.aload_n 0, 1) := dk_42 (c := cX9_moves) (pc := 32) (dk_at bnames04cX9_moves_0 32)
theorem dX9_moves_33 : decode cX9_moves 33 = .ok (.aload_n 0, 1) := dk_42 (c := cX9_moves) (pc := 33) (dk_at bnames04cX9_moves_0 33)
theorem dX9_moves_34 : decode cX9_moves 34 = .ok (.getfield 384, 3) := dk_180 (c := cX9_moves) (pc := 34) (a := 1) (b := 128) (dk_at bnames04cX9_moves_0 34) rfl
theorem dX9_moves_37 : decode cX9_moves 37 = .ok (.aload_n 0, 1) := dk_42 (c := cX9_moves) (pc := 37) (dk_at bnames04cX9_moves_0 37)
theorem dX9_moves_38 : decode cX9_moves 38 = .ok (.getfield 381, 3) := dk_180 (c := cX9_moves) (pc := 38) (a := 1) (b := 125) (dk_at bnames04cX9_moves_0 38) rfl
theorem dX9_moves_41 : decode cX9_moves 41 = .ok (.lmul, 1) := dk_105 (c := cX9_moves) (pc := 41) (dk_at bnames04cX9_moves_0 41)
theorem dX9_moves_42 : decode cX9_moves 42 = .ok (.aload_n 0, 1) := dk_42 (c := cX9_moves) (pc := 42) (dk_at bnames04cX9_moves_0 42)
theorem dX9_moves_43 : decode cX9_moves 43 = .ok (.getfield 387, 3) := dk_180 (c := cX9_moves) (pc := 43) (a := 1) (b := 131) (dk_at bnames04cX9_moves_0 43) rfl
theorem dX9_moves_46 : decode cX9_moves 46 = .ok (.aload_n 0, 1) := dk_42 (c := cX9_moves) (pc := 46) (dk_at bnames04cX9_moves_0 46)
theorem dX9_moves_47 : decode cX9_moves 47 = .ok (.getfield 378, 3) := dk_180 (c := cX9_moves) (pc := 47) (a := 1) (b := 122) (dk_at bnames04cX9_moves_0 47) rfl
theorem bnames04cX9_moves_48 : ((dk_l cX9_moves).drop 48).take 23 = [1, 122, 105, 101, 42, 180, 1, 122, 42, 180, 1, 125, 105, 182, 1, 160, 167, 0, 6, 20, 1, 152, 173] := by decide +kernel
theorem dX9_moves_50 : decode cX9_moves 50 = .ok (.lmul, 1) := dk_105 (c := cX9_moves) (pc := 50) (dk_at bnames04cX9_moves_48 2)
theorem dX9_moves_51 : decode cX9_moves 51 = .ok (.lsub, 1) := dk_101 (c := cX9_moves) (pc := 51) (dk_at bnames04cX9_moves_48 3)
theorem dX9_moves_52 : decode cX9_moves 52 = .ok (.aload_n 0, 1) := dk_42 (c := cX9_moves) (pc := 52) (dk_at bnames04cX9_moves_48 4)
theorem dX9_moves_53 : decode cX9_moves 53 = .ok (.getfield 378, 3) := dk_180 (c := cX9_moves) (pc := 53) (a := 1) (b := 122) (dk_at bnames04cX9_moves_48 5) rfl
theorem dX9_moves_56 : decode cX9_moves 56 = .ok (.aload_n 0, 1) := dk_42 (c := cX9_moves) (pc := 56) (dk_at bnames04cX9_moves_48 8)
theorem dX9_moves_57 : decode cX9_moves 57 = .ok (.getfield 381, 3) := dk_180 (c := cX9_moves) (pc := 57) (a := 1) (b := 125) (dk_at bnames04cX9_moves_48 9) rfl
theorem dX9_moves_60 : decode cX9_moves 60 = .ok (.lmul, 1) := dk_105 (c := cX9_moves) (pc := 60) (dk_at bnames04cX9_moves_48 12)
theorem dX9_moves_61 : decode cX9_moves 61 = .ok (.invokevirtual 416, 3) := dk_182 (c := cX9_moves) (pc := 61) (a := 1) (b := 160) (dk_at bnames04cX9_moves_48 13) rfl
theorem dX9_moves_64 : decode cX9_moves 64 = .ok (.goto 6, 3) := dk_167 (c := cX9_moves) (pc := 64) (a := 0) (b := 6) (dk_at bnames04cX9_moves_48 16) (by decide)
theorem dX9_moves_67 : decode cX9_moves 67 = .ok (.ldc2_w 408, 3) := dk_20 (c := cX9_moves) (pc := 67) (a := 1) (b := 152) (dk_at bnames04cX9_moves_48 19) rfl
theorem dX9_moves_70 : decode cX9_moves 70 = .ok (.lreturn, 1) := dk_173 (c := cX9_moves) (pc := 70) (dk_at bnames04cX9_moves_48 22)
set_option maxRecDepth 20000 in
theorem ggX9_leak_X9_isPush : GoodIn wsX9_leak wsX9_isPush := goodIn_r _ [10, 11, 12, 13, 9, 14] rfl (by decide +kernel)
set_option maxRecDepth 20000 in
theorem gX9_leak_X9_isPush : GoodIn wsX9_leak (va_wsS RX9 430 yX9_isPush wsX9_isPush) := goodIn_app (goodIn_r _ [7, 8, 9] rfl (by decide +kernel)) ggX9_leak_X9_isPush
set_option maxRecDepth 20000 in
theorem ggX9_leak_X9_pushes : GoodIn wsX9_leak wsX9_pushes := goodIn_r _ [18, 19, 20, 21, 22, 43, 44, 45, 46, 47, 48, 49, 50, 51, 52, 53, 54, 55, 56, 57, 58, 59, 60, 61, 62, 63, 64, 65, 66, 67, 68, 69, 70, 71, 72, 73, 74, 75, 76, 77, 78, 79, 80, 81, 82, 83, 84, 85, 86, 87, 88, 89, 90, 91, 92, 93, 94, 95, 96, 97, 98, 99, 100, 101, 102] rfl (by decide +kernel)
set_option maxRecDepth 20000 in
theorem gX9_leak_X9_pushes : GoodIn wsX9_leak (wsV RX9 410 RX9 yX9_pushes wsX9_pushes) := goodIn_app (goodIn_r _ [15, 16, 17, 9] rfl (by decide +kernel)) ggX9_leak_X9_pushes
set_option maxRecDepth 20000 in
theorem ggX9_leak_X9_gathers : GoodIn wsX9_leak wsX9_gathers := goodIn_r _ [26, 6, 4, 27, 28, 3, 5, 29, 30, 22, 31, 32, 20, 43, 44, 45, 46, 47, 48, 49, 50, 51, 52, 53, 54, 55, 56, 57, 58, 59, 60, 61, 62, 63, 64, 65, 66, 67, 68, 69, 70, 71, 72, 73, 74, 75, 76, 77, 78, 79, 80, 81, 82, 83, 84, 85, 86, 87, 88, 89, 90, 91, 92, 93, 94, 95, 96, 97, 98, 99, 100, 101, 102] rfl (by decide +kernel)
set_option maxRecDepth 20000 in
theorem gX9_leak_X9_gathers : GoodIn wsX9_leak (wsV RX9 413 RX9 yX9_gathers wsX9_gathers) := goodIn_app (goodIn_r _ [23, 24, 25, 9] rfl (by decide +kernel)) ggX9_leak_X9_gathers
set_option maxRecDepth 20000 in
theorem ggX9_leak_X9_areBoth : GoodIn wsX9_leak wsX9_areBoth := goodIn_r _ [36, 6, 4, 43, 44, 45, 46, 47, 48, 49, 50, 51, 52, 53, 54, 55, 56, 57, 58, 59, 60, 61, 62, 63, 64, 65, 66, 67, 68, 69, 70, 71, 72, 73, 74, 75, 76, 77, 78, 79, 80, 81, 82, 83, 84, 85, 86, 87, 88, 89, 90, 91, 92, 93, 94, 95, 96, 97, 98, 99, 100, 101, 102] rfl (by decide +kernel)
set_option maxRecDepth 20000 in
theorem gX9_leak_X9_areBoth : GoodIn wsX9_leak (wsV RX9 424 RX9 yX9_areBoth wsX9_areBoth) := goodIn_app (goodIn_r _ [33, 34, 35, 9] rfl (by decide +kernel)) ggX9_leak_X9_areBoth
set_option maxRecDepth 20000 in
theorem ggX9_leak_X9_ratio : GoodIn wsX9_leak wsX9_ratio := goodIn_r _ [40, 41, 42, 2, 43, 44, 45, 46, 47, 48, 49, 50, 51, 52, 53, 54, 55, 56, 57, 58, 59, 60, 61, 62, 63, 64, 65, 66, 67, 68, 69, 70, 71, 72, 73, 74, 75, 76, 77, 78, 79, 80, 81, 82, 83, 84, 85, 86, 87, 88, 89, 90, 91, 92, 93, 94, 95, 96, 97, 98, 99, 100, 101, 102] rfl (by decide +kernel)
set_option maxRecDepth 20000 in
theorem gX9_leak_X9_ratio : GoodIn wsX9_leak (wsV RX9 416 RX9 yX9_ratio wsX9_ratio) := goodIn_app (goodIn_r _ [37, 38, 39, 9] rfl (by decide +kernel)) ggX9_leak_X9_ratio
theorem bnames04cX9_leak_0 : ((dk_l cX9_leak).drop 0).take 52 = [42, 3, 181, 0, 125, 27, 184, 1, 174, 154, 0, 7, 20, 1, 152, 173, 42, 27, 182, 1, 154, 42, 182, 1, 157, 42, 182, 1, 168, 153, 0, 38, 42, 42, 180, 1, 134, 42, 180, 1, 125, 105, 42, 180, 1, 137, 42, 180, 1, 122, 105, 101] := by decide +kernel
theorem dX9_leak_0 : decode cX9_leak 0 = .ok (.aload_n 0, 1) := dk_42 (c := cX9_leak) (pc := 0) (dk_at bnames04cX9_leak_0 0)
theorem dX9_leak_1 : decode cX9_leak 1 = .ok (.iconst 0, 1) := dk_3 (c := cX9_leak) (pc := 1) (dk_at bnames04cX9_leak_0 1)
theorem dX9_leak_2 : decode cX9_leak 2 = .ok (.putfield 125, 3) := dk_181 (c := cX9_leak) (pc := 2) (a := 0) (b := 125) (dk_at bnames04cX9_leak_0 2) rfl
theorem dX9_leak_5 : decode cX9_leak 5 = .ok (.iload_n 1, 1) := dk_27 (c := cX9_leak) (pc := 5) (dk_at bnames04cX9_leak_0 5)
theorem dX9_leak_6 : decode cX9_leak 6 = .ok (.invokestatic 430, 3) := dk_184 (c := cX9_leak) (pc := 6) (a := 1) (b := 174) (dk_at bnames04cX9_leak_0 6) rfl
theorem dX9_leak_9 : decode cX9_leak 9 = .ok (.ifCond .ne 7, 3) := dk_154 (c := cX9_leak) (pc := 9) (a := 0) (b := 7) (dk_at bnames04cX9_leak_0 9) (by decide)
theorem dX9_leak_12 : decode cX9_leak 12 = .ok (.ldc2_w 408, 3) := dk_20 (c := cX9_leak) (pc := 12) (a := 1) (b := 152) (dk_at bnames04cX9_leak_0 12) rfl
theorem dX9_leak_15 : decode cX9_leak 15 = .ok (.lreturn, 1) := dk_173 (c := cX9_leak) (pc := 15) (dk_at bnames04cX9_leak_0 15)
theorem dX9_leak_16 : decode cX9_leak 16 = .ok (.aload_n 0, 1) := dk_42 (c := cX9_leak) (pc := 16) (dk_at bnames04cX9_leak_0 16)
theorem dX9_leak_17 : decode cX9_leak 17 = .ok (.iload_n 1, 1) := dk_27 (c := cX9_leak) (pc := 17) (dk_at bnames04cX9_leak_0 17)
theorem dX9_leak_18 : decode cX9_leak 18 = .ok (.invokevirtual 410, 3) := dk_182 (c := cX9_leak) (pc := 18) (a := 1) (b := 154) (dk_at bnames04cX9_leak_0 18) rfl
theorem dX9_leak_21 : decode cX9_leak 21 = .ok (.aload_n 0, 1) := dk_42 (c := cX9_leak) (pc := 21) (dk_at bnames04cX9_leak_0 21)
theorem dX9_leak_22 : decode cX9_leak 22 = .ok (.invokevirtual 413, 3) := dk_182 (c := cX9_leak) (pc := 22) (a := 1) (b := 157) (dk_at bnames04cX9_leak_0 22) rfl
theorem dX9_leak_25 : decode cX9_leak 25 = .ok (.aload_n 0, 1) := dk_42 (c := cX9_leak) (pc := 25) (dk_at bnames04cX9_leak_0 25)
theorem dX9_leak_26 : decode cX9_leak 26 = .ok (.invokevirtual 424, 3) := dk_182 (c := cX9_leak) (pc := 26) (a := 1) (b := 168) (dk_at bnames04cX9_leak_0 26) rfl
theorem dX9_leak_29 : decode cX9_leak 29 = .ok (.ifCond .eq 38, 3) := dk_153 (c := cX9_leak) (pc := 29) (a := 0) (b := 38) (dk_at bnames04cX9_leak_0 29) (by decide)
theorem dX9_leak_32 : decode cX9_leak 32 = .ok (.aload_n 0, 1) := dk_42 (c := cX9_leak) (pc := 32) (dk_at bnames04cX9_leak_0 32)
theorem dX9_leak_33 : decode cX9_leak 33 = .ok (.aload_n 0, 1) := dk_42 (c := cX9_leak) (pc := 33) (dk_at bnames04cX9_leak_0 33)
theorem dX9_leak_34 : decode cX9_leak 34 = .ok (.getfield 390, 3) := dk_180 (c := cX9_leak) (pc := 34) (a := 1) (b := 134) (dk_at bnames04cX9_leak_0 34) rfl
theorem dX9_leak_37 : decode cX9_leak 37 = .ok (.aload_n 0, 1) := dk_42 (c := cX9_leak) (pc := 37) (dk_at bnames04cX9_leak_0 37)
theorem dX9_leak_38 : decode cX9_leak 38 = .ok (.getfield 381, 3) := dk_180 (c := cX9_leak) (pc := 38) (a := 1) (b := 125) (dk_at bnames04cX9_leak_0 38) rfl
theorem dX9_leak_41 : decode cX9_leak 41 = .ok (.lmul, 1) := dk_105 (c := cX9_leak) (pc := 41) (dk_at bnames04cX9_leak_0 41)
theorem dX9_leak_42 : decode cX9_leak 42 = .ok (.aload_n 0, 1) := dk_42 (c := cX9_leak) (pc := 42) (dk_at bnames04cX9_leak_0 42)
theorem dX9_leak_43 : decode cX9_leak 43 = .ok (.getfield 393, 3) := dk_180 (c := cX9_leak) (pc := 43) (a := 1) (b := 137) (dk_at bnames04cX9_leak_0 43) rfl
theorem dX9_leak_46 : decode cX9_leak 46 = .ok (.aload_n 0, 1) := dk_42 (c := cX9_leak) (pc := 46) (dk_at bnames04cX9_leak_0 46)
theorem dX9_leak_47 : decode cX9_leak 47 = .ok (.getfield 378, 3) := dk_180 (c := cX9_leak) (pc := 47) (a := 1) (b := 122) (dk_at bnames04cX9_leak_0 47) rfl
theorem bnames04cX9_leak_48 : ((dk_l cX9_leak).drop 48).take 23 = [1, 122, 105, 101, 42, 180, 1, 122, 42, 180, 1, 125, 105, 182, 1, 160, 167, 0, 6, 20, 1, 152, 173] := by decide +kernel
theorem dX9_leak_50 : decode cX9_leak 50 = .ok (.lmul, 1) := dk_105 (c := cX9_leak) (pc := 50) (dk_at bnames04cX9_leak_48 2)
theorem dX9_leak_51 : decode cX9_leak 51 = .ok (.lsub, 1) := dk_101 (c := cX9_leak) (pc := 51) (dk_at bnames04cX9_leak_48 3)
theorem dX9_leak_52 : decode cX9_leak 52 = .ok (.aload_n 0, 1) := dk_42 (c := cX9_leak) (pc := 52) (dk_at bnames04cX9_leak_48 4)
theorem dX9_leak_53 : decode cX9_leak 53 = .ok (.getfield 378, 3) := dk_180 (c := cX9_leak) (pc := 53) (a := 1) (b := 122) (dk_at bnames04cX9_leak_48 5) rfl
theorem dX9_leak_56 : decode cX9_leak 56 = .ok (.aload_n 0, 1) := dk_42 (c := cX9_leak) (pc := 56) (dk_at bnames04cX9_leak_48 8)
theorem dX9_leak_57 : decode cX9_leak 57 = .ok (.getfield 381, 3) := dk_180 (c := cX9_leak) (pc := 57) (a := 1) (b := 125) (dk_at bnames04cX9_leak_48 9) rfl
theorem dX9_leak_60 : decode cX9_leak 60 = .ok (.lmul, 1) := dk_105 (c := cX9_leak) (pc := 60) (dk_at bnames04cX9_leak_48 12)
theorem dX9_leak_61 : decode cX9_leak 61 = .ok (.invokevirtual 416, 3) := dk_182 (c := cX9_leak) (pc := 61) (a := 1) (b := 160) (dk_at bnames04cX9_leak_48 13) rfl
theorem dX9_leak_64 : decode cX9_leak 64 = .ok (.goto 6, 3) := dk_167 (c := cX9_leak) (pc := 64) (a := 0) (b := 6) (dk_at bnames04cX9_leak_48 16) (by decide)
theorem dX9_leak_67 : decode cX9_leak 67 = .ok (.ldc2_w 408, 3) := dk_20 (c := cX9_leak) (pc := 67) (a := 1) (b := 152) (dk_at bnames04cX9_leak_48 19) rfl
theorem dX9_leak_70 : decode cX9_leak 70 = .ok (.lreturn, 1) := dk_173 (c := cX9_leak) (pc := 70) (dk_at bnames04cX9_leak_48 22)
set_option maxRecDepth 20000 in
theorem ggX9_homes_X9_isPush : GoodIn wsX9_homes wsX9_isPush := goodIn_r _ [11, 12, 13, 14, 10, 15] rfl (by decide +kernel)
set_option maxRecDepth 20000 in
theorem gX9_homes_X9_isPush : GoodIn wsX9_homes (va_wsS RX9 430 yX9_isPush wsX9_isPush) := goodIn_app (goodIn_r _ [8, 9, 10] rfl (by decide +kernel)) ggX9_homes_X9_isPush
set_option maxRecDepth 20000 in
theorem ggX9_homes_X9_pushes : GoodIn wsX9_homes wsX9_pushes := goodIn_r _ [19, 3, 4, 20, 21, 44, 45, 46, 47, 48, 49, 50, 51, 52, 53, 54, 55, 56, 57, 58, 59, 60, 61, 62, 63, 64, 65, 66, 67, 68, 69, 70, 71, 72, 73, 74, 75, 76, 77, 78, 79, 80, 81, 82, 83, 84, 85, 86, 87, 88, 89, 90, 91, 92, 93, 94, 95, 96, 97, 98, 99, 100, 101, 102, 103] rfl (by decide +kernel)
set_option maxRecDepth 20000 in
theorem gX9_homes_X9_pushes : GoodIn wsX9_homes (wsV RX9 410 RX9 yX9_pushes wsX9_pushes) := goodIn_app (goodIn_r _ [16, 17, 18, 10] rfl (by decide +kernel)) ggX9_homes_X9_pushes
set_option maxRecDepth 20000 in
theorem ggX9_homes_X9_gathers : GoodIn wsX9_homes wsX9_gathers := goodIn_r _ [25, 7, 6, 26, 27, 28, 29, 30, 31, 21, 32, 33, 4, 44, 45, 46, 47, 48, 49, 50, 51, 52, 53, 54, 55, 56, 57, 58, 59, 60, 61, 62, 63, 64, 65, 66, 67, 68, 69, 70, 71, 72, 73, 74, 75, 76, 77, 78, 79, 80, 81, 82, 83, 84, 85, 86, 87, 88, 89, 90, 91, 92, 93, 94, 95, 96, 97, 98, 99, 100, 101, 102, 103] rfl (by decide +kernel)
set_option maxRecDepth 20000 in
theorem gX9_homes_X9_gathers : GoodIn wsX9_homes (wsV RX9 413 RX9 yX9_gathers wsX9_gathers) := goodIn_app (goodIn_r _ [22, 23, 24, 10] rfl (by decide +kernel)) ggX9_homes_X9_gathers
set_option maxRecDepth 20000 in
theorem ggX9_homes_X9_areBoth : GoodIn wsX9_homes wsX9_areBoth := goodIn_r _ [37, 7, 6, 44, 45, 46, 47, 48, 49, 50, 51, 52, 53, 54, 55, 56, 57, 58, 59, 60, 61, 62, 63, 64, 65, 66, 67, 68, 69, 70, 71, 72, 73, 74, 75, 76, 77, 78, 79, 80, 81, 82, 83, 84, 85, 86, 87, 88, 89, 90, 91, 92, 93, 94, 95, 96, 97, 98, 99, 100, 101, 102, 103] rfl (by decide +kernel)
set_option maxRecDepth 20000 in
theorem gX9_homes_X9_areBoth : GoodIn wsX9_homes (wsV RX9 424 RX9 yX9_areBoth wsX9_areBoth) := goodIn_app (goodIn_r _ [34, 35, 36, 10] rfl (by decide +kernel)) ggX9_homes_X9_areBoth
set_option maxRecDepth 20000 in
theorem ggX9_homes_X9_ratio : GoodIn wsX9_homes wsX9_ratio := goodIn_r _ [41, 42, 43, 2, 44, 45, 46, 47, 48, 49, 50, 51, 52, 53, 54, 55, 56, 57, 58, 59, 60, 61, 62, 63, 64, 65, 66, 67, 68, 69, 70, 71, 72, 73, 74, 75, 76, 77, 78, 79, 80, 81, 82, 83, 84, 85, 86, 87, 88, 89, 90, 91, 92, 93, 94, 95, 96, 97, 98, 99, 100, 101, 102, 103] rfl (by decide +kernel)
set_option maxRecDepth 20000 in
theorem gX9_homes_X9_ratio : GoodIn wsX9_homes (wsV RX9 416 RX9 yX9_ratio wsX9_ratio) := goodIn_app (goodIn_r _ [38, 39, 40, 10] rfl (by decide +kernel)) ggX9_homes_X9_ratio
theorem bnames04cX9_homes_0 : ((dk_l cX9_homes).drop 0).take 52 = [42, 3, 181, 0, 125, 27, 184, 1, 174, 154, 0, 7, 20, 1, 152, 173, 42, 27, 182, 1, 154, 42, 182, 1, 157, 9, 65, 9, 55, 4, 3, 54, 6, 21, 6, 42, 180, 0, 89, 3, 46, 162, 0, 46, 42, 180, 0, 110, 21, 6, 51, 153] := by decide +kernel
theorem dX9_homes_0 : decode cX9_homes 0 = .ok (.aload_n 0, 1) := dk_42 (c := cX9_homes) (pc := 0) (dk_at bnames04cX9_homes_0 0)
theorem dX9_homes_1 : decode cX9_homes 1 = .ok (.iconst 0, 1) := dk_3 (c := cX9_homes) (pc := 1) (dk_at bnames04cX9_homes_0 1)
theorem dX9_homes_2 : decode cX9_homes 2 = .ok (.putfield 125, 3) := dk_181 (c := cX9_homes) (pc := 2) (a := 0) (b := 125) (dk_at bnames04cX9_homes_0 2) rfl
theorem dX9_homes_5 : decode cX9_homes 5 = .ok (.iload_n 1, 1) := dk_27 (c := cX9_homes) (pc := 5) (dk_at bnames04cX9_homes_0 5)
theorem dX9_homes_6 : decode cX9_homes 6 = .ok (.invokestatic 430, 3) := dk_184 (c := cX9_homes) (pc := 6) (a := 1) (b := 174) (dk_at bnames04cX9_homes_0 6) rfl
theorem dX9_homes_9 : decode cX9_homes 9 = .ok (.ifCond .ne 7, 3) := dk_154 (c := cX9_homes) (pc := 9) (a := 0) (b := 7) (dk_at bnames04cX9_homes_0 9) (by decide)
theorem dX9_homes_12 : decode cX9_homes 12 = .ok (.ldc2_w 408, 3) := dk_20 (c := cX9_homes) (pc := 12) (a := 1) (b := 152) (dk_at bnames04cX9_homes_0 12) rfl
theorem dX9_homes_15 : decode cX9_homes 15 = .ok (.lreturn, 1) := dk_173 (c := cX9_homes) (pc := 15) (dk_at bnames04cX9_homes_0 15)
theorem dX9_homes_16 : decode cX9_homes 16 = .ok (.aload_n 0, 1) := dk_42 (c := cX9_homes) (pc := 16) (dk_at bnames04cX9_homes_0 16)
theorem dX9_homes_17 : decode cX9_homes 17 = .ok (.iload_n 1, 1) := dk_27 (c := cX9_homes) (pc := 17) (dk_at bnames04cX9_homes_0 17)
theorem dX9_homes_18 : decode cX9_homes 18 = .ok (.invokevirtual 410, 3) := dk_182 (c := cX9_homes) (pc := 18) (a := 1) (b := 154) (dk_at bnames04cX9_homes_0 18) rfl
theorem dX9_homes_21 : decode cX9_homes 21 = .ok (.aload_n 0, 1) := dk_42 (c := cX9_homes) (pc := 21) (dk_at bnames04cX9_homes_0 21)
theorem dX9_homes_22 : decode cX9_homes 22 = .ok (.invokevirtual 413, 3) := dk_182 (c := cX9_homes) (pc := 22) (a := 1) (b := 157) (dk_at bnames04cX9_homes_0 22) rfl
theorem dX9_homes_25 : decode cX9_homes 25 = .ok (.lconst 0, 1) := dk_9 (c := cX9_homes) (pc := 25) (dk_at bnames04cX9_homes_0 25)
theorem dX9_homes_26 : decode cX9_homes 26 = .ok (.lstore_n 2, 1) := dk_65 (c := cX9_homes) (pc := 26) (dk_at bnames04cX9_homes_0 26)
theorem dX9_homes_27 : decode cX9_homes 27 = .ok (.lconst 0, 1) := dk_9 (c := cX9_homes) (pc := 27) (dk_at bnames04cX9_homes_0 27)
theorem dX9_homes_28 : decode cX9_homes 28 = .ok (.lstore 4, 2) := dk_55 (c := cX9_homes) (pc := 28) (a := 4) (dk_at bnames04cX9_homes_0 28) rfl
theorem dX9_homes_30 : decode cX9_homes 30 = .ok (.iconst 0, 1) := dk_3 (c := cX9_homes) (pc := 30) (dk_at bnames04cX9_homes_0 30)
theorem dX9_homes_31 : decode cX9_homes 31 = .ok (.istore 6, 2) := dk_54 (c := cX9_homes) (pc := 31) (a := 6) (dk_at bnames04cX9_homes_0 31) rfl
theorem dX9_homes_33 : decode cX9_homes 33 = .ok (.iload 6, 2) := dk_21 (c := cX9_homes) (pc := 33) (a := 6) (dk_at bnames04cX9_homes_0 33) rfl
theorem dX9_homes_35 : decode cX9_homes 35 = .ok (.aload_n 0, 1) := dk_42 (c := cX9_homes) (pc := 35) (dk_at bnames04cX9_homes_0 35)
theorem dX9_homes_36 : decode cX9_homes 36 = .ok (.getfield 89, 3) := dk_180 (c := cX9_homes) (pc := 36) (a := 0) (b := 89) (dk_at bnames04cX9_homes_0 36) rfl
theorem dX9_homes_39 : decode cX9_homes 39 = .ok (.iconst 0, 1) := dk_3 (c := cX9_homes) (pc := 39) (dk_at bnames04cX9_homes_0 39)
theorem dX9_homes_40 : decode cX9_homes 40 = .ok (.iaload, 1) := dk_46 (c := cX9_homes) (pc := 40) (dk_at bnames04cX9_homes_0 40)
theorem dX9_homes_41 : decode cX9_homes 41 = .ok (.if_icmp .ge 46, 3) := dk_162 (c := cX9_homes) (pc := 41) (a := 0) (b := 46) (dk_at bnames04cX9_homes_0 41) (by decide)
theorem dX9_homes_44 : decode cX9_homes 44 = .ok (.aload_n 0, 1) := dk_42 (c := cX9_homes) (pc := 44) (dk_at bnames04cX9_homes_0 44)
theorem dX9_homes_45 : decode cX9_homes 45 = .ok (.getfield 110, 3) := dk_180 (c := cX9_homes) (pc := 45) (a := 0) (b := 110) (dk_at bnames04cX9_homes_0 45) rfl
theorem bnames04cX9_homes_48 : ((dk_l cX9_homes).drop 48).take 52 = [21, 6, 51, 153, 0, 17, 32, 42, 180, 0, 104, 21, 6, 46, 133, 97, 65, 167, 0, 16, 22, 4, 42, 180, 0, 104, 21, 6, 46, 133, 97, 55, 4, 132, 6, 1, 167, 255, 205, 42, 182, 1, 168, 153, 0, 33, 42, 32, 42, 180, 1, 125] := by decide +kernel
theorem dX9_homes_48 : decode cX9_homes 48 = .ok (.iload 6, 2) := dk_21 (c := cX9_homes) (pc := 48) (a := 6) (dk_at bnames04cX9_homes_48 0) rfl
theorem dX9_homes_50 : decode cX9_homes 50 = .ok (.baload, 1) := dk_51 (c := cX9_homes) (pc := 50) (dk_at bnames04cX9_homes_48 2)
theorem dX9_homes_51 : decode cX9_homes 51 = .ok (.ifCond .eq 17, 3) := dk_153 (c := cX9_homes) (pc := 51) (a := 0) (b := 17) (dk_at bnames04cX9_homes_48 3) (by decide)
theorem dX9_homes_54 : decode cX9_homes 54 = .ok (.lload_n 2, 1) := dk_32 (c := cX9_homes) (pc := 54) (dk_at bnames04cX9_homes_48 6)
theorem dX9_homes_55 : decode cX9_homes 55 = .ok (.aload_n 0, 1) := dk_42 (c := cX9_homes) (pc := 55) (dk_at bnames04cX9_homes_48 7)
theorem dX9_homes_56 : decode cX9_homes 56 = .ok (.getfield 104, 3) := dk_180 (c := cX9_homes) (pc := 56) (a := 0) (b := 104) (dk_at bnames04cX9_homes_48 8) rfl
theorem dX9_homes_59 : decode cX9_homes 59 = .ok (.iload 6, 2) := dk_21 (c := cX9_homes) (pc := 59) (a := 6) (dk_at bnames04cX9_homes_48 11) rfl
theorem dX9_homes_61 : decode cX9_homes 61 = .ok (.iaload, 1) := dk_46 (c := cX9_homes) (pc := 61) (dk_at bnames04cX9_homes_48 13)
theorem dX9_homes_62 : decode cX9_homes 62 = .ok (.i2l, 1) := dk_133 (c := cX9_homes) (pc := 62) (dk_at bnames04cX9_homes_48 14)
theorem dX9_homes_63 : decode cX9_homes 63 = .ok (.ladd, 1) := dk_97 (c := cX9_homes) (pc := 63) (dk_at bnames04cX9_homes_48 15)
theorem dX9_homes_64 : decode cX9_homes 64 = .ok (.lstore_n 2, 1) := dk_65 (c := cX9_homes) (pc := 64) (dk_at bnames04cX9_homes_48 16)
theorem dX9_homes_65 : decode cX9_homes 65 = .ok (.goto 16, 3) := dk_167 (c := cX9_homes) (pc := 65) (a := 0) (b := 16) (dk_at bnames04cX9_homes_48 17) (by decide)
theorem dX9_homes_68 : decode cX9_homes 68 = .ok (.lload 4, 2) := dk_22 (c := cX9_homes) (pc := 68) (a := 4) (dk_at bnames04cX9_homes_48 20) rfl
theorem dX9_homes_70 : decode cX9_homes 70 = .ok (.aload_n 0, 1) := dk_42 (c := cX9_homes) (pc := 70) (dk_at bnames04cX9_homes_48 22)
theorem dX9_homes_71 : decode cX9_homes 71 = .ok (.getfield 104, 3) := dk_180 (c := cX9_homes) (pc := 71) (a := 0) (b := 104) (dk_at bnames04cX9_homes_48 23) rfl
theorem dX9_homes_74 : decode cX9_homes 74 = .ok (.iload 6, 2) := dk_21 (c := cX9_homes) (pc := 74) (a := 6) (dk_at bnames04cX9_homes_48 26) rfl
theorem dX9_homes_76 : decode cX9_homes 76 = .ok (.iaload, 1) := dk_46 (c := cX9_homes) (pc := 76) (dk_at bnames04cX9_homes_48 28)
theorem dX9_homes_77 : decode cX9_homes 77 = .ok (.i2l, 1) := dk_133 (c := cX9_homes) (pc := 77) (dk_at bnames04cX9_homes_48 29)
theorem dX9_homes_78 : decode cX9_homes 78 = .ok (.ladd, 1) := dk_97 (c := cX9_homes) (pc := 78) (dk_at bnames04cX9_homes_48 30)
theorem dX9_homes_79 : decode cX9_homes 79 = .ok (.lstore 4, 2) := dk_55 (c := cX9_homes) (pc := 79) (a := 4) (dk_at bnames04cX9_homes_48 31) rfl
theorem dX9_homes_81 : decode cX9_homes 81 = .ok (.iinc 6 1, 3) := dk_132 (c := cX9_homes) (pc := 81) (a := 6) (b := 1) (dk_at bnames04cX9_homes_48 33) rfl (by decide)
theorem dX9_homes_84 : decode cX9_homes 84 = .ok (.goto (-51), 3) := dk_167 (c := cX9_homes) (pc := 84) (a := 255) (b := 205) (dk_at bnames04cX9_homes_48 36) (by decide)
theorem dX9_homes_87 : decode cX9_homes 87 = .ok (.aload_n 0, 1) := dk_42 (c := cX9_homes) (pc := 87) (dk_at bnames04cX9_homes_48 39)
theorem dX9_homes_88 : decode cX9_homes 88 = .ok (.invokevirtual 424, 3) := dk_182 (c := cX9_homes) (pc := 88) (a := 1) (b := 168) (dk_at bnames04cX9_homes_48 40) rfl
theorem dX9_homes_91 : decode cX9_homes 91 = .ok (.ifCond .eq 33, 3) := dk_153 (c := cX9_homes) (pc := 91) (a := 0) (b := 33) (dk_at bnames04cX9_homes_48 43) (by decide)
theorem dX9_homes_94 : decode cX9_homes 94 = .ok (.aload_n 0, 1) := dk_42 (c := cX9_homes) (pc := 94) (dk_at bnames04cX9_homes_48 46)
theorem dX9_homes_95 : decode cX9_homes 95 = .ok (.lload_n 2, 1) := dk_32 (c := cX9_homes) (pc := 95) (dk_at bnames04cX9_homes_48 47)
theorem bnames04cX9_homes_96 : ((dk_l cX9_homes).drop 96).take 32 = [42, 180, 1, 125, 105, 22, 4, 42, 180, 1, 122, 105, 101, 42, 180, 1, 122, 42, 180, 1, 125, 105, 182, 1, 160, 167, 0, 6, 20, 1, 152, 173] := by decide +kernel
theorem dX9_homes_96 : decode cX9_homes 96 = .ok (.aload_n 0, 1) := dk_42 (c := cX9_homes) (pc := 96) (dk_at bnames04cX9_homes_96 0)
theorem dX9_homes_97 : decode cX9_homes 97 = .ok (.getfield 381, 3) := dk_180 (c := cX9_homes) (pc := 97) (a := 1) (b := 125) (dk_at bnames04cX9_homes_96 1) rfl
theorem dX9_homes_100 : decode cX9_homes 100 = .ok (.lmul, 1) := dk_105 (c := cX9_homes) (pc := 100) (dk_at bnames04cX9_homes_96 4)
theorem dX9_homes_101 : decode cX9_homes 101 = .ok (.lload 4, 2) := dk_22 (c := cX9_homes) (pc := 101) (a := 4) (dk_at bnames04cX9_homes_96 5) rfl
theorem dX9_homes_103 : decode cX9_homes 103 = .ok (.aload_n 0, 1) := dk_42 (c := cX9_homes) (pc := 103) (dk_at bnames04cX9_homes_96 7)
theorem dX9_homes_104 : decode cX9_homes 104 = .ok (.getfield 378, 3) := dk_180 (c := cX9_homes) (pc := 104) (a := 1) (b := 122) (dk_at bnames04cX9_homes_96 8) rfl
theorem dX9_homes_107 : decode cX9_homes 107 = .ok (.lmul, 1) := dk_105 (c := cX9_homes) (pc := 107) (dk_at bnames04cX9_homes_96 11)
theorem dX9_homes_108 : decode cX9_homes 108 = .ok (.lsub, 1) := dk_101 (c := cX9_homes) (pc := 108) (dk_at bnames04cX9_homes_96 12)
theorem dX9_homes_109 : decode cX9_homes 109 = .ok (.aload_n 0, 1) := dk_42 (c := cX9_homes) (pc := 109) (dk_at bnames04cX9_homes_96 13)
theorem dX9_homes_110 : decode cX9_homes 110 = .ok (.getfield 378, 3) := dk_180 (c := cX9_homes) (pc := 110) (a := 1) (b := 122) (dk_at bnames04cX9_homes_96 14) rfl
theorem dX9_homes_113 : decode cX9_homes 113 = .ok (.aload_n 0, 1) := dk_42 (c := cX9_homes) (pc := 113) (dk_at bnames04cX9_homes_96 17)
theorem dX9_homes_114 : decode cX9_homes 114 = .ok (.getfield 381, 3) := dk_180 (c := cX9_homes) (pc := 114) (a := 1) (b := 125) (dk_at bnames04cX9_homes_96 18) rfl
theorem dX9_homes_117 : decode cX9_homes 117 = .ok (.lmul, 1) := dk_105 (c := cX9_homes) (pc := 117) (dk_at bnames04cX9_homes_96 21)
theorem dX9_homes_118 : decode cX9_homes 118 = .ok (.invokevirtual 416, 3) := dk_182 (c := cX9_homes) (pc := 118) (a := 1) (b := 160) (dk_at bnames04cX9_homes_96 22) rfl
theorem dX9_homes_121 : decode cX9_homes 121 = .ok (.goto 6, 3) := dk_167 (c := cX9_homes) (pc := 121) (a := 0) (b := 6) (dk_at bnames04cX9_homes_96 25) (by decide)
theorem dX9_homes_124 : decode cX9_homes 124 = .ok (.ldc2_w 408, 3) := dk_20 (c := cX9_homes) (pc := 124) (a := 1) (b := 152) (dk_at bnames04cX9_homes_96 28) rfl
theorem dX9_homes_127 : decode cX9_homes 127 = .ok (.lreturn, 1) := dk_173 (c := cX9_homes) (pc := 127) (dk_at bnames04cX9_homes_96 31)
set_option maxRecDepth 20000 in
theorem ggX9_leaked_X9_in : GoodIn wsX9_leaked wsX9_in := goodIn_r _ [16] rfl (by decide +kernel)
set_option maxRecDepth 20000 in
theorem gX9_leaked_X9_in : GoodIn wsX9_leaked (va_wsS RX9 130 yX9_in wsX9_in) := goodIn_app (goodIn_r _ [13, 14, 15] rfl (by decide +kernel)) ggX9_leaked_X9_in
set_option maxRecDepth 20000 in
theorem ggX9_leaked_X9_byOf : GoodIn wsX9_leaked wsX9_byOf := goodIn_r _ [20, 21, 22, 15, 23, 24, 13, 14, 16, 25, 26, 27, 28, 5, 4, 29, 30, 31, 32, 33, 34, 35, 36, 37, 38, 39, 40, 7, 8, 9, 10, 11, 12, 41, 42, 43, 44, 45, 46, 47, 48, 49, 50, 51, 52, 53, 54, 55, 56, 6, 57, 58, 59, 60, 61, 62, 63, 64, 65, 66, 67, 68, 69, 70, 71, 72, 73, 74, 75, 76, 77, 78, 79, 80, 81, 82, 83, 84, 85, 86, 87, 88, 89, 90, 91, 92, 93, 94, 95, 96, 97, 98, 99, 100, 101, 102, 103, 104, 105, 106, 107, 108, 109, 110, 111, 112, 113, 114, 115, 116] rfl (by decide +kernel)
set_option maxRecDepth 20000 in
theorem gX9_leaked_X9_byOf : GoodIn wsX9_leaked (wsV RX9 436 RX9 yX9_byOf wsX9_byOf) := goodIn_app (goodIn_r _ [17, 18, 19, 15] rfl (by decide +kernel)) ggX9_leaked_X9_byOf
theorem bnames04cX9_leaked_0 : ((dk_l cX9_leaked).drop 0).take 52 = [42, 3, 181, 0, 125, 28, 133, 20, 1, 191, 20, 1, 193, 184, 0, 130, 154, 0, 7, 20, 1, 152, 173, 42, 27, 182, 1, 180, 88, 42, 180, 1, 146, 154, 0, 7, 20, 1, 152, 173, 20, 1, 150, 42, 180, 1, 134, 42, 180, 1, 125, 105] := by decide +kernel
theorem dX9_leaked_0 : decode cX9_leaked 0 = .ok (.aload_n 0, 1) := dk_42 (c := cX9_leaked) (pc := 0) (dk_at bnames04cX9_leaked_0 0)
theorem dX9_leaked_1 : decode cX9_leaked 1 = .ok (.iconst 0, 1) := dk_3 (c := cX9_leaked) (pc := 1) (dk_at bnames04cX9_leaked_0 1)
theorem dX9_leaked_2 : decode cX9_leaked 2 = .ok (.putfield 125, 3) := dk_181 (c := cX9_leaked) (pc := 2) (a := 0) (b := 125) (dk_at bnames04cX9_leaked_0 2) rfl
theorem dX9_leaked_5 : decode cX9_leaked 5 = .ok (.iload_n 2, 1) := dk_28 (c := cX9_leaked) (pc := 5) (dk_at bnames04cX9_leaked_0 5)
theorem dX9_leaked_6 : decode cX9_leaked 6 = .ok (.i2l, 1) := dk_133 (c := cX9_leaked) (pc := 6) (dk_at bnames04cX9_leaked_0 6)
theorem dX9_leaked_7 : decode cX9_leaked 7 = .ok (.ldc2_w 447, 3) := dk_20 (c := cX9_leaked) (pc := 7) (a := 1) (b := 191) (dk_at bnames04cX9_leaked_0 7) rfl
theorem dX9_leaked_10 : decode cX9_leaked 10 = .ok (.ldc2_w 449, 3) := dk_20 (c := cX9_leaked) (pc := 10) (a := 1) (b := 193) (dk_at bnames04cX9_leaked_0 10) rfl
theorem dX9_leaked_13 : decode cX9_leaked 13 = .ok (.invokestatic 130, 3) := dk_184 (c := cX9_leaked) (pc := 13) (a := 0) (b := 130) (dk_at bnames04cX9_leaked_0 13) rfl
theorem dX9_leaked_16 : decode cX9_leaked 16 = .ok (.ifCond .ne 7, 3) := dk_154 (c := cX9_leaked) (pc := 16) (a := 0) (b := 7) (dk_at bnames04cX9_leaked_0 16) (by decide)
theorem dX9_leaked_19 : decode cX9_leaked 19 = .ok (.ldc2_w 408, 3) := dk_20 (c := cX9_leaked) (pc := 19) (a := 1) (b := 152) (dk_at bnames04cX9_leaked_0 19) rfl
theorem dX9_leaked_22 : decode cX9_leaked 22 = .ok (.lreturn, 1) := dk_173 (c := cX9_leaked) (pc := 22) (dk_at bnames04cX9_leaked_0 22)
theorem dX9_leaked_23 : decode cX9_leaked 23 = .ok (.aload_n 0, 1) := dk_42 (c := cX9_leaked) (pc := 23) (dk_at bnames04cX9_leaked_0 23)
theorem dX9_leaked_24 : decode cX9_leaked 24 = .ok (.iload_n 1, 1) := dk_27 (c := cX9_leaked) (pc := 24) (dk_at bnames04cX9_leaked_0 24)
theorem dX9_leaked_25 : decode cX9_leaked 25 = .ok (.invokevirtual 436, 3) := dk_182 (c := cX9_leaked) (pc := 25) (a := 1) (b := 180) (dk_at bnames04cX9_leaked_0 25) rfl
theorem dX9_leaked_28 : decode cX9_leaked 28 = .ok (.pop2, 1) := dk_88 (c := cX9_leaked) (pc := 28) (dk_at bnames04cX9_leaked_0 28)
theorem dX9_leaked_29 : decode cX9_leaked 29 = .ok (.aload_n 0, 1) := dk_42 (c := cX9_leaked) (pc := 29) (dk_at bnames04cX9_leaked_0 29)
theorem dX9_leaked_30 : decode cX9_leaked 30 = .ok (.getfield 402, 3) := dk_180 (c := cX9_leaked) (pc := 30) (a := 1) (b := 146) (dk_at bnames04cX9_leaked_0 30) rfl
theorem dX9_leaked_33 : decode cX9_leaked 33 = .ok (.ifCond .ne 7, 3) := dk_154 (c := cX9_leaked) (pc := 33) (a := 0) (b := 7) (dk_at bnames04cX9_leaked_0 33) (by decide)
theorem dX9_leaked_36 : decode cX9_leaked 36 = .ok (.ldc2_w 408, 3) := dk_20 (c := cX9_leaked) (pc := 36) (a := 1) (b := 152) (dk_at bnames04cX9_leaked_0 36) rfl
theorem dX9_leaked_39 : decode cX9_leaked 39 = .ok (.lreturn, 1) := dk_173 (c := cX9_leaked) (pc := 39) (dk_at bnames04cX9_leaked_0 39)
theorem dX9_leaked_40 : decode cX9_leaked 40 = .ok (.ldc2_w 406, 3) := dk_20 (c := cX9_leaked) (pc := 40) (a := 1) (b := 150) (dk_at bnames04cX9_leaked_0 40) rfl
theorem dX9_leaked_43 : decode cX9_leaked 43 = .ok (.aload_n 0, 1) := dk_42 (c := cX9_leaked) (pc := 43) (dk_at bnames04cX9_leaked_0 43)
theorem dX9_leaked_44 : decode cX9_leaked 44 = .ok (.getfield 390, 3) := dk_180 (c := cX9_leaked) (pc := 44) (a := 1) (b := 134) (dk_at bnames04cX9_leaked_0 44) rfl
theorem dX9_leaked_47 : decode cX9_leaked 47 = .ok (.aload_n 0, 1) := dk_42 (c := cX9_leaked) (pc := 47) (dk_at bnames04cX9_leaked_0 47)
theorem bnames04cX9_leaked_48 : ((dk_l cX9_leaked).drop 48).take 49 = [180, 1, 125, 105, 42, 180, 1, 137, 42, 180, 1, 122, 105, 101, 105, 42, 180, 1, 122, 42, 180, 1, 125, 105, 28, 133, 105, 101, 42, 180, 1, 128, 42, 180, 1, 125, 105, 42, 180, 1, 131, 42, 180, 1, 122, 105, 101, 109, 173] := by decide +kernel
theorem dX9_leaked_48 : decode cX9_leaked 48 = .ok (.getfield 381, 3) := dk_180 (c := cX9_leaked) (pc := 48) (a := 1) (b := 125) (dk_at bnames04cX9_leaked_48 0) rfl
theorem dX9_leaked_51 : decode cX9_leaked 51 = .ok (.lmul, 1) := dk_105 (c := cX9_leaked) (pc := 51) (dk_at bnames04cX9_leaked_48 3)
theorem dX9_leaked_52 : decode cX9_leaked 52 = .ok (.aload_n 0, 1) := dk_42 (c := cX9_leaked) (pc := 52) (dk_at bnames04cX9_leaked_48 4)
theorem dX9_leaked_53 : decode cX9_leaked 53 = .ok (.getfield 393, 3) := dk_180 (c := cX9_leaked) (pc := 53) (a := 1) (b := 137) (dk_at bnames04cX9_leaked_48 5) rfl
theorem dX9_leaked_56 : decode cX9_leaked 56 = .ok (.aload_n 0, 1) := dk_42 (c := cX9_leaked) (pc := 56) (dk_at bnames04cX9_leaked_48 8)
theorem dX9_leaked_57 : decode cX9_leaked 57 = .ok (.getfield 378, 3) := dk_180 (c := cX9_leaked) (pc := 57) (a := 1) (b := 122) (dk_at bnames04cX9_leaked_48 9) rfl
theorem dX9_leaked_60 : decode cX9_leaked 60 = .ok (.lmul, 1) := dk_105 (c := cX9_leaked) (pc := 60) (dk_at bnames04cX9_leaked_48 12)
theorem dX9_leaked_61 : decode cX9_leaked 61 = .ok (.lsub, 1) := dk_101 (c := cX9_leaked) (pc := 61) (dk_at bnames04cX9_leaked_48 13)
theorem dX9_leaked_62 : decode cX9_leaked 62 = .ok (.lmul, 1) := dk_105 (c := cX9_leaked) (pc := 62) (dk_at bnames04cX9_leaked_48 14)
theorem dX9_leaked_63 : decode cX9_leaked 63 = .ok (.aload_n 0, 1) := dk_42 (c := cX9_leaked) (pc := 63) (dk_at bnames04cX9_leaked_48 15)
theorem dX9_leaked_64 : decode cX9_leaked 64 = .ok (.getfield 378, 3) := dk_180 (c := cX9_leaked) (pc := 64) (a := 1) (b := 122) (dk_at bnames04cX9_leaked_48 16) rfl
theorem dX9_leaked_67 : decode cX9_leaked 67 = .ok (.aload_n 0, 1) := dk_42 (c := cX9_leaked) (pc := 67) (dk_at bnames04cX9_leaked_48 19)
theorem dX9_leaked_68 : decode cX9_leaked 68 = .ok (.getfield 381, 3) := dk_180 (c := cX9_leaked) (pc := 68) (a := 1) (b := 125) (dk_at bnames04cX9_leaked_48 20) rfl
theorem dX9_leaked_71 : decode cX9_leaked 71 = .ok (.lmul, 1) := dk_105 (c := cX9_leaked) (pc := 71) (dk_at bnames04cX9_leaked_48 23)
theorem dX9_leaked_72 : decode cX9_leaked 72 = .ok (.iload_n 2, 1) := dk_28 (c := cX9_leaked) (pc := 72) (dk_at bnames04cX9_leaked_48 24)
theorem dX9_leaked_73 : decode cX9_leaked 73 = .ok (.i2l, 1) := dk_133 (c := cX9_leaked) (pc := 73) (dk_at bnames04cX9_leaked_48 25)
theorem dX9_leaked_74 : decode cX9_leaked 74 = .ok (.lmul, 1) := dk_105 (c := cX9_leaked) (pc := 74) (dk_at bnames04cX9_leaked_48 26)
theorem dX9_leaked_75 : decode cX9_leaked 75 = .ok (.lsub, 1) := dk_101 (c := cX9_leaked) (pc := 75) (dk_at bnames04cX9_leaked_48 27)
theorem dX9_leaked_76 : decode cX9_leaked 76 = .ok (.aload_n 0, 1) := dk_42 (c := cX9_leaked) (pc := 76) (dk_at bnames04cX9_leaked_48 28)
theorem dX9_leaked_77 : decode cX9_leaked 77 = .ok (.getfield 384, 3) := dk_180 (c := cX9_leaked) (pc := 77) (a := 1) (b := 128) (dk_at bnames04cX9_leaked_48 29) rfl
theorem dX9_leaked_80 : decode cX9_leaked 80 = .ok (.aload_n 0, 1) := dk_42 (c := cX9_leaked) (pc := 80) (dk_at bnames04cX9_leaked_48 32)
theorem dX9_leaked_81 : decode cX9_leaked 81 = .ok (.getfield 381, 3) := dk_180 (c := cX9_leaked) (pc := 81) (a := 1) (b := 125) (dk_at bnames04cX9_leaked_48 33) rfl
theorem dX9_leaked_84 : decode cX9_leaked 84 = .ok (.lmul, 1) := dk_105 (c := cX9_leaked) (pc := 84) (dk_at bnames04cX9_leaked_48 36)
theorem dX9_leaked_85 : decode cX9_leaked 85 = .ok (.aload_n 0, 1) := dk_42 (c := cX9_leaked) (pc := 85) (dk_at bnames04cX9_leaked_48 37)
theorem dX9_leaked_86 : decode cX9_leaked 86 = .ok (.getfield 387, 3) := dk_180 (c := cX9_leaked) (pc := 86) (a := 1) (b := 131) (dk_at bnames04cX9_leaked_48 38) rfl
theorem dX9_leaked_89 : decode cX9_leaked 89 = .ok (.aload_n 0, 1) := dk_42 (c := cX9_leaked) (pc := 89) (dk_at bnames04cX9_leaked_48 41)
theorem dX9_leaked_90 : decode cX9_leaked 90 = .ok (.getfield 378, 3) := dk_180 (c := cX9_leaked) (pc := 90) (a := 1) (b := 122) (dk_at bnames04cX9_leaked_48 42) rfl
theorem dX9_leaked_93 : decode cX9_leaked 93 = .ok (.lmul, 1) := dk_105 (c := cX9_leaked) (pc := 93) (dk_at bnames04cX9_leaked_48 45)
theorem dX9_leaked_94 : decode cX9_leaked 94 = .ok (.lsub, 1) := dk_101 (c := cX9_leaked) (pc := 94) (dk_at bnames04cX9_leaked_48 46)
theorem dX9_leaked_95 : decode cX9_leaked 95 = .ok (.ldiv, 1) := dk_109 (c := cX9_leaked) (pc := 95) (dk_at bnames04cX9_leaked_48 47)
theorem bnames04cX9_leaked_96 : ((dk_l cX9_leaked).drop 96).take 1 = [173] := by decide +kernel
theorem dX9_leaked_96 : decode cX9_leaked 96 = .ok (.lreturn, 1) := dk_173 (c := cX9_leaked) (pc := 96) (dk_at bnames04cX9_leaked_96 0)
set_option maxRecDepth 20000 in
theorem ggX9_strongBy_X9_isPush : GoodIn wsX9_strongBy wsX9_isPush := goodIn_r _ [14, 15, 16, 17, 13, 18] rfl (by decide +kernel)
set_option maxRecDepth 20000 in
theorem gX9_strongBy_X9_isPush : GoodIn wsX9_strongBy (va_wsS RX9 430 yX9_isPush wsX9_isPush) := goodIn_app (goodIn_r _ [11, 12, 13] rfl (by decide +kernel)) ggX9_strongBy_X9_isPush
set_option maxRecDepth 20000 in
theorem ggX9_strongBy_X9_pushes : GoodIn wsX9_strongBy wsX9_pushes := goodIn_r _ [22, 23, 24, 25, 2, 39, 40, 41, 42, 43, 44, 45, 46, 47, 48, 49, 50, 51, 52, 53, 54, 55, 56, 57, 58, 59, 60, 61, 62, 63, 64, 65, 66, 67, 68, 69, 70, 71, 72, 73, 74, 75, 76, 77, 78, 79, 80, 81, 82, 83, 84, 85, 86, 87, 88, 89, 90, 91, 92, 93, 94, 95, 96, 97, 98] rfl (by decide +kernel)
set_option maxRecDepth 20000 in
theorem gX9_strongBy_X9_pushes : GoodIn wsX9_strongBy (wsV RX9 410 RX9 yX9_pushes wsX9_pushes) := goodIn_app (goodIn_r _ [19, 20, 21, 13] rfl (by decide +kernel)) ggX9_strongBy_X9_pushes
set_option maxRecDepth 20000 in
theorem ggX9_strongBy_X9_gathers : GoodIn wsX9_strongBy wsX9_gathers := goodIn_r _ [29, 6, 4, 3, 5, 30, 31, 7, 32, 2, 33, 34, 24, 39, 40, 41, 42, 43, 44, 45, 46, 47, 48, 49, 50, 51, 52, 53, 54, 55, 56, 57, 58, 59, 60, 61, 62, 63, 64, 65, 66, 67, 68, 69, 70, 71, 72, 73, 74, 75, 76, 77, 78, 79, 80, 81, 82, 83, 84, 85, 86, 87, 88, 89, 90, 91, 92, 93, 94, 95, 96, 97, 98] rfl (by decide +kernel)
set_option maxRecDepth 20000 in
theorem gX9_strongBy_X9_gathers : GoodIn wsX9_strongBy (wsV RX9 413 RX9 yX9_gathers wsX9_gathers) := goodIn_app (goodIn_r _ [26, 27, 28, 13] rfl (by decide +kernel)) ggX9_strongBy_X9_gathers
set_option maxRecDepth 20000 in
theorem ggX9_strongBy_X9_areBoth : GoodIn wsX9_strongBy wsX9_areBoth := goodIn_r _ [38, 6, 4, 39, 40, 41, 42, 43, 44, 45, 46, 47, 48, 49, 50, 51, 52, 53, 54, 55, 56, 57, 58, 59, 60, 61, 62, 63, 64, 65, 66, 67, 68, 69, 70, 71, 72, 73, 74, 75, 76, 77, 78, 79, 80, 81, 82, 83, 84, 85, 86, 87, 88, 89, 90, 91, 92, 93, 94, 95, 96, 97, 98] rfl (by decide +kernel)
set_option maxRecDepth 20000 in
theorem gX9_strongBy_X9_areBoth : GoodIn wsX9_strongBy (wsV RX9 424 RX9 yX9_areBoth wsX9_areBoth) := goodIn_app (goodIn_r _ [35, 36, 37, 13] rfl (by decide +kernel)) ggX9_strongBy_X9_areBoth
theorem bnames04cX9_strongBy_0 : ((dk_l cX9_strongBy).drop 0).take 52 = [27, 184, 1, 174, 153, 0, 8, 28, 6, 162, 0, 7, 20, 1, 152, 173, 42, 27, 182, 1, 154, 42, 28, 181, 1, 119, 42, 182, 1, 157, 42, 182, 1, 168, 154, 0, 7, 20, 1, 152, 173, 42, 180, 1, 128, 42, 180, 1, 125, 105, 42, 180] := by decide +kernel
theorem dX9_strongBy_0 : decode cX9_strongBy 0 = .ok (.iload_n 1, 1) := dk_27 (c := cX9_strongBy) (pc := 0) (dk_at bnames04cX9_strongBy_0 0)
theorem dX9_strongBy_1 : decode cX9_strongBy 1 = .ok (.invokestatic 430, 3) := dk_184 (c := cX9_strongBy) (pc := 1) (a := 1) (b := 174) (dk_at bnames04cX9_strongBy_0 1) rfl
theorem dX9_strongBy_4 : decode cX9_strongBy 4 = .ok (.ifCond .eq 8, 3) := dk_153 (c := cX9_strongBy) (pc := 4) (a := 0) (b := 8) (dk_at bnames04cX9_strongBy_0 4) (by decide)
theorem dX9_strongBy_7 : decode cX9_strongBy 7 = .ok (.iload_n 2, 1) := dk_28 (c := cX9_strongBy) (pc := 7) (dk_at bnames04cX9_strongBy_0 7)
theorem dX9_strongBy_8 : decode cX9_strongBy 8 = .ok (.iconst 3, 1) := dk_6 (c := cX9_strongBy) (pc := 8) (dk_at bnames04cX9_strongBy_0 8)
theorem dX9_strongBy_9 : decode cX9_strongBy 9 = .ok (.if_icmp .ge 7, 3) := dk_162 (c := cX9_strongBy) (pc := 9) (a := 0) (b := 7) (dk_at bnames04cX9_strongBy_0 9) (by decide)
theorem dX9_strongBy_12 : decode cX9_strongBy 12 = .ok (.ldc2_w 408, 3) := dk_20 (c := cX9_strongBy) (pc := 12) (a := 1) (b := 152) (dk_at bnames04cX9_strongBy_0 12) rfl
theorem dX9_strongBy_15 : decode cX9_strongBy 15 = .ok (.lreturn, 1) := dk_173 (c := cX9_strongBy) (pc := 15) (dk_at bnames04cX9_strongBy_0 15)
theorem dX9_strongBy_16 : decode cX9_strongBy 16 = .ok (.aload_n 0, 1) := dk_42 (c := cX9_strongBy) (pc := 16) (dk_at bnames04cX9_strongBy_0 16)
theorem dX9_strongBy_17 : decode cX9_strongBy 17 = .ok (.iload_n 1, 1) := dk_27 (c := cX9_strongBy) (pc := 17) (dk_at bnames04cX9_strongBy_0 17)
theorem dX9_strongBy_18 : decode cX9_strongBy 18 = .ok (.invokevirtual 410, 3) := dk_182 (c := cX9_strongBy) (pc := 18) (a := 1) (b := 154) (dk_at bnames04cX9_strongBy_0 18) rfl
theorem dX9_strongBy_21 : decode cX9_strongBy 21 = .ok (.aload_n 0, 1) := dk_42 (c := cX9_strongBy) (pc := 21) (dk_at bnames04cX9_strongBy_0 21)
theorem dX9_strongBy_22 : decode cX9_strongBy 22 = .ok (.iload_n 2, 1) := dk_28 (c := cX9_strongBy) (pc := 22) (dk_at bnames04cX9_strongBy_0 22)
theorem dX9_strongBy_23 : decode cX9_strongBy 23 = .ok (.putfield 375, 3) := dk_181 (c := cX9_strongBy) (pc := 23) (a := 1) (b := 119) (dk_at bnames04cX9_strongBy_0 23) rfl
theorem dX9_strongBy_26 : decode cX9_strongBy 26 = .ok (.aload_n 0, 1) := dk_42 (c := cX9_strongBy) (pc := 26) (dk_at bnames04cX9_strongBy_0 26)
theorem dX9_strongBy_27 : decode cX9_strongBy 27 = .ok (.invokevirtual 413, 3) := dk_182 (c := cX9_strongBy) (pc := 27) (a := 1) (b := 157) (dk_at bnames04cX9_strongBy_0 27) rfl
theorem dX9_strongBy_30 : decode cX9_strongBy 30 = .ok (.aload_n 0, 1) := dk_42 (c := cX9_strongBy) (pc := 30) (dk_at bnames04cX9_strongBy_0 30)
theorem dX9_strongBy_31 : decode cX9_strongBy 31 = .ok (.invokevirtual 424, 3) := dk_182 (c := cX9_strongBy) (pc := 31) (a := 1) (b := 168) (dk_at bnames04cX9_strongBy_0 31) rfl
theorem dX9_strongBy_34 : decode cX9_strongBy 34 = .ok (.ifCond .ne 7, 3) := dk_154 (c := cX9_strongBy) (pc := 34) (a := 0) (b := 7) (dk_at bnames04cX9_strongBy_0 34) (by decide)
theorem dX9_strongBy_37 : decode cX9_strongBy 37 = .ok (.ldc2_w 408, 3) := dk_20 (c := cX9_strongBy) (pc := 37) (a := 1) (b := 152) (dk_at bnames04cX9_strongBy_0 37) rfl
theorem dX9_strongBy_40 : decode cX9_strongBy 40 = .ok (.lreturn, 1) := dk_173 (c := cX9_strongBy) (pc := 40) (dk_at bnames04cX9_strongBy_0 40)
theorem dX9_strongBy_41 : decode cX9_strongBy 41 = .ok (.aload_n 0, 1) := dk_42 (c := cX9_strongBy) (pc := 41) (dk_at bnames04cX9_strongBy_0 41)
theorem dX9_strongBy_42 : decode cX9_strongBy 42 = .ok (.getfield 384, 3) := dk_180 (c := cX9_strongBy) (pc := 42) (a := 1) (b := 128) (dk_at bnames04cX9_strongBy_0 42) rfl
theorem dX9_strongBy_45 : decode cX9_strongBy 45 = .ok (.aload_n 0, 1) := dk_42 (c := cX9_strongBy) (pc := 45) (dk_at bnames04cX9_strongBy_0 45)
theorem dX9_strongBy_46 : decode cX9_strongBy 46 = .ok (.getfield 381, 3) := dk_180 (c := cX9_strongBy) (pc := 46) (a := 1) (b := 125) (dk_at bnames04cX9_strongBy_0 46) rfl
theorem bnames04cX9_strongBy_48 : ((dk_l cX9_strongBy).drop 48).take 52 = [125, 105, 42, 180, 1, 131, 42, 180, 1, 122, 105, 101, 66, 42, 180, 1, 122, 42, 180, 1, 125, 105, 42, 180, 1, 140, 105, 42, 180, 1, 128, 42, 180, 1, 128, 105, 42, 180, 1, 125, 105, 101, 42, 180, 1, 131, 42, 180, 1, 131, 105, 42] := by decide +kernel
theorem dX9_strongBy_49 : decode cX9_strongBy 49 = .ok (.lmul, 1) := dk_105 (c := cX9_strongBy) (pc := 49) (dk_at bnames04cX9_strongBy_48 1)
theorem dX9_strongBy_50 : decode cX9_strongBy 50 = .ok (.aload_n 0, 1) := dk_42 (c := cX9_strongBy) (pc := 50) (dk_at bnames04cX9_strongBy_48 2)
theorem dX9_strongBy_51 : decode cX9_strongBy 51 = .ok (.getfield 387, 3) := dk_180 (c := cX9_strongBy) (pc := 51) (a := 1) (b := 131) (dk_at bnames04cX9_strongBy_48 3) rfl
theorem dX9_strongBy_54 : decode cX9_strongBy 54 = .ok (.aload_n 0, 1) := dk_42 (c := cX9_strongBy) (pc := 54) (dk_at bnames04cX9_strongBy_48 6)
theorem dX9_strongBy_55 : decode cX9_strongBy 55 = .ok (.getfield 378, 3) := dk_180 (c := cX9_strongBy) (pc := 55) (a := 1) (b := 122) (dk_at bnames04cX9_strongBy_48 7) rfl
theorem dX9_strongBy_58 : decode cX9_strongBy 58 = .ok (.lmul, 1) := dk_105 (c := cX9_strongBy) (pc := 58) (dk_at bnames04cX9_strongBy_48 10)
theorem dX9_strongBy_59 : decode cX9_strongBy 59 = .ok (.lsub, 1) := dk_101 (c := cX9_strongBy) (pc := 59) (dk_at bnames04cX9_strongBy_48 11)
theorem dX9_strongBy_60 : decode cX9_strongBy 60 = .ok (.lstore_n 3, 1) := dk_66 (c := cX9_strongBy) (pc := 60) (dk_at bnames04cX9_strongBy_48 12)
theorem dX9_strongBy_61 : decode cX9_strongBy 61 = .ok (.aload_n 0, 1) := dk_42 (c := cX9_strongBy) (pc := 61) (dk_at bnames04cX9_strongBy_48 13)
theorem dX9_strongBy_62 : decode cX9_strongBy 62 = .ok (.getfield 378, 3) := dk_180 (c := cX9_strongBy) (pc := 62) (a := 1) (b := 122) (dk_at bnames04cX9_strongBy_48 14) rfl
theorem dX9_strongBy_65 : decode cX9_strongBy 65 = .ok (.aload_n 0, 1) := dk_42 (c := cX9_strongBy) (pc := 65) (dk_at bnames04cX9_strongBy_48 17)
theorem dX9_strongBy_66 : decode cX9_strongBy 66 = .ok (.getfield 381, 3) := dk_180 (c := cX9_strongBy) (pc := 66) (a := 1) (b := 125) (dk_at bnames04cX9_strongBy_48 18) rfl
theorem dX9_strongBy_69 : decode cX9_strongBy 69 = .ok (.lmul, 1) := dk_105 (c := cX9_strongBy) (pc := 69) (dk_at bnames04cX9_strongBy_48 21)
theorem dX9_strongBy_70 : decode cX9_strongBy 70 = .ok (.aload_n 0, 1) := dk_42 (c := cX9_strongBy) (pc := 70) (dk_at bnames04cX9_strongBy_48 22)
theorem dX9_strongBy_71 : decode cX9_strongBy 71 = .ok (.getfield 396, 3) := dk_180 (c := cX9_strongBy) (pc := 71) (a := 1) (b := 140) (dk_at bnames04cX9_strongBy_48 23) rfl
theorem dX9_strongBy_74 : decode cX9_strongBy 74 = .ok (.lmul, 1) := dk_105 (c := cX9_strongBy) (pc := 74) (dk_at bnames04cX9_strongBy_48 26)
theorem dX9_strongBy_75 : decode cX9_strongBy 75 = .ok (.aload_n 0, 1) := dk_42 (c := cX9_strongBy) (pc := 75) (dk_at bnames04cX9_strongBy_48 27)
theorem dX9_strongBy_76 : decode cX9_strongBy 76 = .ok (.getfield 384, 3) := dk_180 (c := cX9_strongBy) (pc := 76) (a := 1) (b := 128) (dk_at bnames04cX9_strongBy_48 28) rfl
theorem dX9_strongBy_79 : decode cX9_strongBy 79 = .ok (.aload_n 0, 1) := dk_42 (c := cX9_strongBy) (pc := 79) (dk_at bnames04cX9_strongBy_48 31)
theorem dX9_strongBy_80 : decode cX9_strongBy 80 = .ok (.getfield 384, 3) := dk_180 (c := cX9_strongBy) (pc := 80) (a := 1) (b := 128) (dk_at bnames04cX9_strongBy_48 32) rfl
theorem dX9_strongBy_83 : decode cX9_strongBy 83 = .ok (.lmul, 1) := dk_105 (c := cX9_strongBy) (pc := 83) (dk_at bnames04cX9_strongBy_48 35)
theorem dX9_strongBy_84 : decode cX9_strongBy 84 = .ok (.aload_n 0, 1) := dk_42 (c := cX9_strongBy) (pc := 84) (dk_at bnames04cX9_strongBy_48 36)
theorem dX9_strongBy_85 : decode cX9_strongBy 85 = .ok (.getfield 381, 3) := dk_180 (c := cX9_strongBy) (pc := 85) (a := 1) (b := 125) (dk_at bnames04cX9_strongBy_48 37) rfl
theorem dX9_strongBy_88 : decode cX9_strongBy 88 = .ok (.lmul, 1) := dk_105 (c := cX9_strongBy) (pc := 88) (dk_at bnames04cX9_strongBy_48 40)
theorem dX9_strongBy_89 : decode cX9_strongBy 89 = .ok (.lsub, 1) := dk_101 (c := cX9_strongBy) (pc := 89) (dk_at bnames04cX9_strongBy_48 41)
theorem dX9_strongBy_90 : decode cX9_strongBy 90 = .ok (.aload_n 0, 1) := dk_42 (c := cX9_strongBy) (pc := 90) (dk_at bnames04cX9_strongBy_48 42)
theorem dX9_strongBy_91 : decode cX9_strongBy 91 = .ok (.getfield 387, 3) := dk_180 (c := cX9_strongBy) (pc := 91) (a := 1) (b := 131) (dk_at bnames04cX9_strongBy_48 43) rfl
theorem dX9_strongBy_94 : decode cX9_strongBy 94 = .ok (.aload_n 0, 1) := dk_42 (c := cX9_strongBy) (pc := 94) (dk_at bnames04cX9_strongBy_48 46)
theorem dX9_strongBy_95 : decode cX9_strongBy 95 = .ok (.getfield 387, 3) := dk_180 (c := cX9_strongBy) (pc := 95) (a := 1) (b := 131) (dk_at bnames04cX9_strongBy_48 47) rfl
theorem bnames04cX9_strongBy_96 : ((dk_l cX9_strongBy).drop 96).take 52 = [1, 131, 105, 42, 180, 1, 122, 105, 101, 55, 5, 22, 5, 9, 148, 154, 0, 17, 33, 9, 148, 154, 0, 7, 9, 167, 0, 6, 20, 1, 195, 173, 20, 1, 197, 42, 180, 1, 122, 42, 180, 1, 125, 97, 20, 1, 199, 101, 105, 33, 105, 33] := by decide +kernel
theorem dX9_strongBy_98 : decode cX9_strongBy 98 = .ok (.lmul, 1) := dk_105 (c := cX9_strongBy) (pc := 98) (dk_at bnames04cX9_strongBy_96 2)
theorem dX9_strongBy_99 : decode cX9_strongBy 99 = .ok (.aload_n 0, 1) := dk_42 (c := cX9_strongBy) (pc := 99) (dk_at bnames04cX9_strongBy_96 3)
theorem dX9_strongBy_100 : decode cX9_strongBy 100 = .ok (.getfield 378, 3) := dk_180 (c := cX9_strongBy) (pc := 100) (a := 1) (b := 122) (dk_at bnames04cX9_strongBy_96 4) rfl
theorem dX9_strongBy_103 : decode cX9_strongBy 103 = .ok (.lmul, 1) := dk_105 (c := cX9_strongBy) (pc := 103) (dk_at bnames04cX9_strongBy_96 7)
theorem dX9_strongBy_104 : decode cX9_strongBy 104 = .ok (.lsub, 1) := dk_101 (c := cX9_strongBy) (pc := 104) (dk_at bnames04cX9_strongBy_96 8)
theorem dX9_strongBy_105 : decode cX9_strongBy 105 = .ok (.lstore 5, 2) := dk_55 (c := cX9_strongBy) (pc := 105) (a := 5) (dk_at bnames04cX9_strongBy_96 9) rfl
theorem dX9_strongBy_107 : decode cX9_strongBy 107 = .ok (.lload 5, 2) := dk_22 (c := cX9_strongBy) (pc := 107) (a := 5) (dk_at bnames04cX9_strongBy_96 11) rfl
theorem dX9_strongBy_109 : decode cX9_strongBy 109 = .ok (.lconst 0, 1) := dk_9 (c := cX9_strongBy) (pc := 109) (dk_at bnames04cX9_strongBy_96 13)
theorem dX9_strongBy_110 : decode cX9_strongBy 110 = .ok (.lcmp, 1) := dk_148 (c := cX9_strongBy) (pc := 110) (dk_at bnames04cX9_strongBy_96 14)
theorem dX9_strongBy_111 : decode cX9_strongBy 111 = .ok (.ifCond .ne 17, 3) := dk_154 (c := cX9_strongBy) (pc := 111) (a := 0) (b := 17) (dk_at bnames04cX9_strongBy_96 15) (by decide)
theorem dX9_strongBy_114 : decode cX9_strongBy 114 = .ok (.lload_n 3, 1) := dk_33 (c := cX9_strongBy) (pc := 114) (dk_at bnames04cX9_strongBy_96 18)
theorem dX9_strongBy_115 : decode cX9_strongBy 115 = .ok (.lconst 0, 1) := dk_9 (c := cX9_strongBy) (pc := 115) (dk_at bnames04cX9_strongBy_96 19)
theorem dX9_strongBy_116 : decode cX9_strongBy 116 = .ok (.lcmp, 1) := dk_148 (c := cX9_strongBy) (pc := 116) (dk_at bnames04cX9_strongBy_96 20)
theorem dX9_strongBy_117 : decode cX9_strongBy 117 = .ok (.ifCond .ne 7, 3) := dk_154 (c := cX9_strongBy) (pc := 117) (a := 0) (b := 7) (dk_at bnames04cX9_strongBy_96 21) (by decide)
theorem dX9_strongBy_120 : decode cX9_strongBy 120 = .ok (.lconst 0, 1) := dk_9 (c := cX9_strongBy) (pc := 120) (dk_at bnames04cX9_strongBy_96 24)
theorem dX9_strongBy_121 : decode cX9_strongBy 121 = .ok (.goto 6, 3) := dk_167 (c := cX9_strongBy) (pc := 121) (a := 0) (b := 6) (dk_at bnames04cX9_strongBy_96 25) (by decide)
theorem dX9_strongBy_124 : decode cX9_strongBy 124 = .ok (.ldc2_w 451, 3) := dk_20 (c := cX9_strongBy) (pc := 124) (a := 1) (b := 195) (dk_at bnames04cX9_strongBy_96 28) rfl
theorem dX9_strongBy_127 : decode cX9_strongBy 127 = .ok (.lreturn, 1) := dk_173 (c := cX9_strongBy) (pc := 127) (dk_at bnames04cX9_strongBy_96 31)
theorem dX9_strongBy_128 : decode cX9_strongBy 128 = .ok (.ldc2_w 453, 3) := dk_20 (c := cX9_strongBy) (pc := 128) (a := 1) (b := 197) (dk_at bnames04cX9_strongBy_96 32) rfl
theorem dX9_strongBy_131 : decode cX9_strongBy 131 = .ok (.aload_n 0, 1) := dk_42 (c := cX9_strongBy) (pc := 131) (dk_at bnames04cX9_strongBy_96 35)
theorem dX9_strongBy_132 : decode cX9_strongBy 132 = .ok (.getfield 378, 3) := dk_180 (c := cX9_strongBy) (pc := 132) (a := 1) (b := 122) (dk_at bnames04cX9_strongBy_96 36) rfl
theorem dX9_strongBy_135 : decode cX9_strongBy 135 = .ok (.aload_n 0, 1) := dk_42 (c := cX9_strongBy) (pc := 135) (dk_at bnames04cX9_strongBy_96 39)
theorem dX9_strongBy_136 : decode cX9_strongBy 136 = .ok (.getfield 381, 3) := dk_180 (c := cX9_strongBy) (pc := 136) (a := 1) (b := 125) (dk_at bnames04cX9_strongBy_96 40) rfl
theorem dX9_strongBy_139 : decode cX9_strongBy 139 = .ok (.ladd, 1) := dk_97 (c := cX9_strongBy) (pc := 139) (dk_at bnames04cX9_strongBy_96 43)
theorem dX9_strongBy_140 : decode cX9_strongBy 140 = .ok (.ldc2_w 455, 3) := dk_20 (c := cX9_strongBy) (pc := 140) (a := 1) (b := 199) (dk_at bnames04cX9_strongBy_96 44) rfl
theorem dX9_strongBy_143 : decode cX9_strongBy 143 = .ok (.lsub, 1) := dk_101 (c := cX9_strongBy) (pc := 143) (dk_at bnames04cX9_strongBy_96 47)
theorem bnames04cX9_strongBy_144 : ((dk_l cX9_strongBy).drop 144).take 19 = [105, 33, 105, 33, 105, 42, 180, 1, 122, 42, 180, 1, 125, 97, 22, 5, 105, 109, 173] := by decide +kernel
theorem dX9_strongBy_144 : decode cX9_strongBy 144 = .ok (.lmul, 1) := dk_105 (c := cX9_strongBy) (pc := 144) (dk_at bnames04cX9_strongBy_144 0)
theorem dX9_strongBy_145 : decode cX9_strongBy 145 = .ok (.lload_n 3, 1) := dk_33 (c := cX9_strongBy) (pc := 145) (dk_at bnames04cX9_strongBy_144 1)
theorem dX9_strongBy_146 : decode cX9_strongBy 146 = .ok (.lmul, 1) := dk_105 (c := cX9_strongBy) (pc := 146) (dk_at bnames04cX9_strongBy_144 2)
theorem dX9_strongBy_147 : decode cX9_strongBy 147 = .ok (.lload_n 3, 1) := dk_33 (c := cX9_strongBy) (pc := 147) (dk_at bnames04cX9_strongBy_144 3)
theorem dX9_strongBy_148 : decode cX9_strongBy 148 = .ok (.lmul, 1) := dk_105 (c := cX9_strongBy) (pc := 148) (dk_at bnames04cX9_strongBy_144 4)
theorem dX9_strongBy_149 : decode cX9_strongBy 149 = .ok (.aload_n 0, 1) := dk_42 (c := cX9_strongBy) (pc := 149) (dk_at bnames04cX9_strongBy_144 5)
theorem dX9_strongBy_150 : decode cX9_strongBy 150 = .ok (.getfield 378, 3) := dk_180 (c := cX9_strongBy) (pc := 150) (a := 1) (b := 122) (dk_at bnames04cX9_strongBy_144 6) rfl
theorem dX9_strongBy_153 : decode cX9_strongBy 153 = .ok (.aload_n 0, 1) := dk_42 (c := cX9_strongBy) (pc := 153) (dk_at bnames04cX9_strongBy_144 9)
theorem dX9_strongBy_154 : decode cX9_strongBy 154 = .ok (.getfield 381, 3) := dk_180 (c := cX9_strongBy) (pc := 154) (a := 1) (b := 125) (dk_at bnames04cX9_strongBy_144 10) rfl
theorem dX9_strongBy_157 : decode cX9_strongBy 157 = .ok (.ladd, 1) := dk_97 (c := cX9_strongBy) (pc := 157) (dk_at bnames04cX9_strongBy_144 13)
theorem dX9_strongBy_158 : decode cX9_strongBy 158 = .ok (.lload 5, 2) := dk_22 (c := cX9_strongBy) (pc := 158) (a := 5) (dk_at bnames04cX9_strongBy_144 14) rfl
theorem dX9_strongBy_160 : decode cX9_strongBy 160 = .ok (.lmul, 1) := dk_105 (c := cX9_strongBy) (pc := 160) (dk_at bnames04cX9_strongBy_144 16)
theorem dX9_strongBy_161 : decode cX9_strongBy 161 = .ok (.ldiv, 1) := dk_109 (c := cX9_strongBy) (pc := 161) (dk_at bnames04cX9_strongBy_144 17)
theorem dX9_strongBy_162 : decode cX9_strongBy 162 = .ok (.lreturn, 1) := dk_173 (c := cX9_strongBy) (pc := 162) (dk_at bnames04cX9_strongBy_144 18)
set_option maxRecDepth 20000 in
theorem ggX9_strong_X9_strongBy : GoodIn wsX9_strong wsX9_strongBy := goodIn_r _ [7, 8, 9, 10, 11, 12, 13, 14, 15, 16, 17, 18, 19, 6, 20, 21, 22, 23, 24, 25, 26, 27, 28, 2, 29, 30, 31, 32, 33, 34, 35, 36, 37, 38, 39, 40, 41, 42, 43, 44, 45, 46, 47, 48, 49, 50, 51, 52, 53, 54, 55, 56, 57, 58, 59, 60, 61, 62, 63, 64, 65, 66, 67, 68, 69, 70, 71, 72, 73, 74, 75, 76, 77, 78, 79, 80, 81, 82, 83, 84, 85, 86, 87, 88, 89, 90, 91, 92, 93, 94, 95, 96, 97, 98, 99, 100, 101, 102, 103] rfl (by decide +kernel)
set_option maxRecDepth 20000 in
theorem gX9_strong_X9_strongBy : GoodIn wsX9_strong (wsV RX9 457 RX9 yX9_strongBy wsX9_strongBy) := goodIn_app (goodIn_r _ [3, 4, 5, 6] rfl (by decide +kernel)) ggX9_strong_X9_strongBy
theorem bnames04cX9_strong_0 : ((dk_l cX9_strong).drop 0).take 17 = [42, 3, 181, 0, 125, 42, 27, 42, 180, 0, 89, 3, 46, 182, 1, 201, 173] := by decide +kernel
theorem dX9_strong_0 : decode cX9_strong 0 = .ok (.aload_n 0, 1) := dk_42 (c := cX9_strong) (pc := 0) (dk_at bnames04cX9_strong_0 0)
theorem dX9_strong_1 : decode cX9_strong 1 = .ok (.iconst 0, 1) := dk_3 (c := cX9_strong) (pc := 1) (dk_at bnames04cX9_strong_0 1)
theorem dX9_strong_2 : decode cX9_strong 2 = .ok (.putfield 125, 3) := dk_181 (c := cX9_strong) (pc := 2) (a := 0) (b := 125) (dk_at bnames04cX9_strong_0 2) rfl
theorem dX9_strong_5 : decode cX9_strong 5 = .ok (.aload_n 0, 1) := dk_42 (c := cX9_strong) (pc := 5) (dk_at bnames04cX9_strong_0 5)
theorem dX9_strong_6 : decode cX9_strong 6 = .ok (.iload_n 1, 1) := dk_27 (c := cX9_strong) (pc := 6) (dk_at bnames04cX9_strong_0 6)
theorem dX9_strong_7 : decode cX9_strong 7 = .ok (.aload_n 0, 1) := dk_42 (c := cX9_strong) (pc := 7) (dk_at bnames04cX9_strong_0 7)
theorem dX9_strong_8 : decode cX9_strong 8 = .ok (.getfield 89, 3) := dk_180 (c := cX9_strong) (pc := 8) (a := 0) (b := 89) (dk_at bnames04cX9_strong_0 8) rfl
theorem dX9_strong_11 : decode cX9_strong 11 = .ok (.iconst 0, 1) := dk_3 (c := cX9_strong) (pc := 11) (dk_at bnames04cX9_strong_0 11)
theorem dX9_strong_12 : decode cX9_strong 12 = .ok (.iaload, 1) := dk_46 (c := cX9_strong) (pc := 12) (dk_at bnames04cX9_strong_0 12)
theorem dX9_strong_13 : decode cX9_strong 13 = .ok (.invokevirtual 457, 3) := dk_182 (c := cX9_strong) (pc := 13) (a := 1) (b := 201) (dk_at bnames04cX9_strong_0 13) rfl
theorem dX9_strong_16 : decode cX9_strong 16 = .ok (.lreturn, 1) := dk_173 (c := cX9_strong) (pc := 16) (dk_at bnames04cX9_strong_0 16)
set_option maxRecDepth 20000 in
theorem ggX9_strongest_X9_strongBy : GoodIn wsX9_strongest wsX9_strongBy := goodIn_r _ [8, 3, 9, 10, 11, 12, 13, 14, 15, 16, 17, 18, 19, 7, 20, 21, 22, 23, 24, 25, 26, 27, 28, 2, 29, 30, 31, 32, 33, 34, 35, 36, 37, 38, 39, 40, 41, 42, 43, 44, 45, 46, 47, 48, 49, 50, 51, 52, 53, 54, 55, 56, 57, 58, 59, 60, 61, 62, 63, 64, 65, 66, 67, 68, 69, 70, 71, 72, 73, 74, 75, 76, 77, 78, 79, 80, 81, 82, 83, 84, 85, 86, 87, 88, 89, 90, 91, 92, 93, 94, 95, 96, 97, 98, 99, 100, 101, 102, 103] rfl (by decide +kernel)
set_option maxRecDepth 20000 in
theorem gX9_strongest_X9_strongBy : GoodIn wsX9_strongest (wsV RX9 457 RX9 yX9_strongBy wsX9_strongBy) := goodIn_app (goodIn_r _ [4, 5, 6, 7] rfl (by decide +kernel)) ggX9_strongest_X9_strongBy
theorem bnames04cX9_strongest_0 : ((dk_l cX9_strongest).drop 0).take 52 = [42, 3, 181, 0, 125, 2, 60, 9, 65, 4, 54, 4, 21, 4, 16, 12, 163, 0, 57, 42, 4, 21, 4, 4, 100, 120, 42, 180, 0, 89, 3, 46, 182, 1, 201, 55, 5, 22, 5, 20, 1, 152, 148, 153, 0, 24, 27, 2, 159, 0, 13, 22] := by decide +kernel
theorem dX9_strongest_0 : decode cX9_strongest 0 = .ok (.aload_n 0, 1) := dk_42 (c := cX9_strongest) (pc := 0) (dk_at bnames04cX9_strongest_0 0)
theorem dX9_strongest_1 : decode cX9_strongest 1 = .ok (.iconst 0, 1) := dk_3 (c := cX9_strongest) (pc := 1) (dk_at bnames04cX9_strongest_0 1)
theorem dX9_strongest_2 : decode cX9_strongest 2 = .ok (.putfield 125, 3) := dk_181 (c := cX9_strongest) (pc := 2) (a := 0) (b := 125) (dk_at bnames04cX9_strongest_0 2) rfl
theorem dX9_strongest_5 : decode cX9_strongest 5 = .ok (.iconst (-1), 1) := dk_2 (c := cX9_strongest) (pc := 5) (dk_at bnames04cX9_strongest_0 5)
theorem dX9_strongest_6 : decode cX9_strongest 6 = .ok (.istore_n 1, 1) := dk_60 (c := cX9_strongest) (pc := 6) (dk_at bnames04cX9_strongest_0 6)
theorem dX9_strongest_7 : decode cX9_strongest 7 = .ok (.lconst 0, 1) := dk_9 (c := cX9_strongest) (pc := 7) (dk_at bnames04cX9_strongest_0 7)
theorem dX9_strongest_8 : decode cX9_strongest 8 = .ok (.lstore_n 2, 1) := dk_65 (c := cX9_strongest) (pc := 8) (dk_at bnames04cX9_strongest_0 8)
theorem dX9_strongest_9 : decode cX9_strongest 9 = .ok (.iconst 1, 1) := dk_4 (c := cX9_strongest) (pc := 9) (dk_at bnames04cX9_strongest_0 9)
theorem dX9_strongest_10 : decode cX9_strongest 10 = .ok (.istore 4, 2) := dk_54 (c := cX9_strongest) (pc := 10) (a := 4) (dk_at bnames04cX9_strongest_0 10) rfl
theorem dX9_strongest_12 : decode cX9_strongest 12 = .ok (.iload 4, 2) := dk_21 (c := cX9_strongest) (pc := 12) (a := 4) (dk_at bnames04cX9_strongest_0 12) rfl
theorem dX9_strongest_14 : decode cX9_strongest 14 = .ok (.bipush 12, 2) := dk_16 (c := cX9_strongest) (pc := 14) (a := 12) (dk_at bnames04cX9_strongest_0 14) (by decide)
theorem dX9_strongest_16 : decode cX9_strongest 16 = .ok (.if_icmp .gt 57, 3) := dk_163 (c := cX9_strongest) (pc := 16) (a := 0) (b := 57) (dk_at bnames04cX9_strongest_0 16) (by decide)
theorem dX9_strongest_19 : decode cX9_strongest 19 = .ok (.aload_n 0, 1) := dk_42 (c := cX9_strongest) (pc := 19) (dk_at bnames04cX9_strongest_0 19)
theorem dX9_strongest_20 : decode cX9_strongest 20 = .ok (.iconst 1, 1) := dk_4 (c := cX9_strongest) (pc := 20) (dk_at bnames04cX9_strongest_0 20)
theorem dX9_strongest_21 : decode cX9_strongest 21 = .ok (.iload 4, 2) := dk_21 (c := cX9_strongest) (pc := 21) (a := 4) (dk_at bnames04cX9_strongest_0 21) rfl
theorem dX9_strongest_23 : decode cX9_strongest 23 = .ok (.iconst 1, 1) := dk_4 (c := cX9_strongest) (pc := 23) (dk_at bnames04cX9_strongest_0 23)
theorem dX9_strongest_24 : decode cX9_strongest 24 = .ok (.isub, 1) := dk_100 (c := cX9_strongest) (pc := 24) (dk_at bnames04cX9_strongest_0 24)
theorem dX9_strongest_25 : decode cX9_strongest 25 = .ok (.ishl, 1) := dk_120 (c := cX9_strongest) (pc := 25) (dk_at bnames04cX9_strongest_0 25)
theorem dX9_strongest_26 : decode cX9_strongest 26 = .ok (.aload_n 0, 1) := dk_42 (c := cX9_strongest) (pc := 26) (dk_at bnames04cX9_strongest_0 26)
theorem dX9_strongest_27 : decode cX9_strongest 27 = .ok (.getfield 89, 3) := dk_180 (c := cX9_strongest) (pc := 27) (a := 0) (b := 89) (dk_at bnames04cX9_strongest_0 27) rfl
theorem dX9_strongest_30 : decode cX9_strongest 30 = .ok (.iconst 0, 1) := dk_3 (c := cX9_strongest) (pc := 30) (dk_at bnames04cX9_strongest_0 30)
theorem dX9_strongest_31 : decode cX9_strongest 31 = .ok (.iaload, 1) := dk_46 (c := cX9_strongest) (pc := 31) (dk_at bnames04cX9_strongest_0 31)
theorem dX9_strongest_32 : decode cX9_strongest 32 = .ok (.invokevirtual 457, 3) := dk_182 (c := cX9_strongest) (pc := 32) (a := 1) (b := 201) (dk_at bnames04cX9_strongest_0 32) rfl
theorem dX9_strongest_35 : decode cX9_strongest 35 = .ok (.lstore 5, 2) := dk_55 (c := cX9_strongest) (pc := 35) (a := 5) (dk_at bnames04cX9_strongest_0 35) rfl
theorem dX9_strongest_37 : decode cX9_strongest 37 = .ok (.lload 5, 2) := dk_22 (c := cX9_strongest) (pc := 37) (a := 5) (dk_at bnames04cX9_strongest_0 37) rfl
theorem dX9_strongest_39 : decode cX9_strongest 39 = .ok (.ldc2_w 408, 3) := dk_20 (c := cX9_strongest) (pc := 39) (a := 1) (b := 152) (dk_at bnames04cX9_strongest_0 39) rfl
theorem dX9_strongest_42 : decode cX9_strongest 42 = .ok (.lcmp, 1) := dk_148 (c := cX9_strongest) (pc := 42) (dk_at bnames04cX9_strongest_0 42)
theorem dX9_strongest_43 : decode cX9_strongest 43 = .ok (.ifCond .eq 24, 3) := dk_153 (c := cX9_strongest) (pc := 43) (a := 0) (b := 24) (dk_at bnames04cX9_strongest_0 43) (by decide)
theorem dX9_strongest_46 : decode cX9_strongest 46 = .ok (.iload_n 1, 1) := dk_27 (c := cX9_strongest) (pc := 46) (dk_at bnames04cX9_strongest_0 46)
theorem dX9_strongest_47 : decode cX9_strongest 47 = .ok (.iconst (-1), 1) := dk_2 (c := cX9_strongest) (pc := 47) (dk_at bnames04cX9_strongest_0 47)
theorem bnames04cX9_strongest_48 : ((dk_l cX9_strongest).drop 48).take 27 = [159, 0, 13, 22, 5, 32, 148, 157, 0, 6, 167, 0, 9, 21, 4, 60, 22, 5, 65, 132, 4, 1, 167, 255, 198, 27, 172] := by decide +kernel
theorem dX9_strongest_48 : decode cX9_strongest 48 = .ok (.if_icmp .eq 13, 3) := dk_159 (c := cX9_strongest) (pc := 48) (a := 0) (b := 13) (dk_at bnames04cX9_strongest_48 0) (by decide)
theorem dX9_strongest_51 : decode cX9_strongest 51 = .ok (.lload 5, 2) := dk_22 (c := cX9_strongest) (pc := 51) (a := 5) (dk_at bnames04cX9_strongest_48 3) rfl
theorem dX9_strongest_53 : decode cX9_strongest 53 = .ok (.lload_n 2, 1) := dk_32 (c := cX9_strongest) (pc := 53) (dk_at bnames04cX9_strongest_48 5)
theorem dX9_strongest_54 : decode cX9_strongest 54 = .ok (.lcmp, 1) := dk_148 (c := cX9_strongest) (pc := 54) (dk_at bnames04cX9_strongest_48 6)
theorem dX9_strongest_55 : decode cX9_strongest 55 = .ok (.ifCond .gt 6, 3) := dk_157 (c := cX9_strongest) (pc := 55) (a := 0) (b := 6) (dk_at bnames04cX9_strongest_48 7) (by decide)
theorem dX9_strongest_58 : decode cX9_strongest 58 = .ok (.goto 9, 3) := dk_167 (c := cX9_strongest) (pc := 58) (a := 0) (b := 9) (dk_at bnames04cX9_strongest_48 10) (by decide)
theorem dX9_strongest_61 : decode cX9_strongest 61 = .ok (.iload 4, 2) := dk_21 (c := cX9_strongest) (pc := 61) (a := 4) (dk_at bnames04cX9_strongest_48 13) rfl
theorem dX9_strongest_63 : decode cX9_strongest 63 = .ok (.istore_n 1, 1) := dk_60 (c := cX9_strongest) (pc := 63) (dk_at bnames04cX9_strongest_48 15)
theorem dX9_strongest_64 : decode cX9_strongest 64 = .ok (.lload 5, 2) := dk_22 (c := cX9_strongest) (pc := 64) (a := 5) (dk_at bnames04cX9_strongest_48 16) rfl
theorem dX9_strongest_66 : decode cX9_strongest 66 = .ok (.lstore_n 2, 1) := dk_65 (c := cX9_strongest) (pc := 66) (dk_at bnames04cX9_strongest_48 18)
theorem dX9_strongest_67 : decode cX9_strongest 67 = .ok (.iinc 4 1, 3) := dk_132 (c := cX9_strongest) (pc := 67) (a := 4) (b := 1) (dk_at bnames04cX9_strongest_48 19) rfl (by decide)
theorem dX9_strongest_70 : decode cX9_strongest 70 = .ok (.goto (-58), 3) := dk_167 (c := cX9_strongest) (pc := 70) (a := 255) (b := 198) (dk_at bnames04cX9_strongest_48 22) (by decide)
theorem dX9_strongest_73 : decode cX9_strongest 73 = .ok (.iload_n 1, 1) := dk_27 (c := cX9_strongest) (pc := 73) (dk_at bnames04cX9_strongest_48 25)
theorem dX9_strongest_74 : decode cX9_strongest 74 = .ok (.ireturn, 1) := dk_172 (c := cX9_strongest) (pc := 74) (dk_at bnames04cX9_strongest_48 26)
set_option maxRecDepth 20000 in
theorem ggX9_needs_X9_isPush : GoodIn wsX9_needs wsX9_isPush := goodIn_r _ [8, 9, 10, 11, 7, 12] rfl (by decide +kernel)
set_option maxRecDepth 20000 in
theorem gX9_needs_X9_isPush : GoodIn wsX9_needs (va_wsS RX9 430 yX9_isPush wsX9_isPush) := goodIn_app (goodIn_r _ [5, 6, 7] rfl (by decide +kernel)) ggX9_needs_X9_isPush
set_option maxRecDepth 20000 in
theorem ggX9_needs_X9_in : GoodIn wsX9_needs wsX9_in := goodIn_r _ [12] rfl (by decide +kernel)
set_option maxRecDepth 20000 in
theorem gX9_needs_X9_in : GoodIn wsX9_needs (va_wsS RX9 130 yX9_in wsX9_in) := goodIn_app (goodIn_r _ [10, 11, 7] rfl (by decide +kernel)) ggX9_needs_X9_in
set_option maxRecDepth 20000 in
theorem ggX9_needs_X9_strongBy : GoodIn wsX9_needs wsX9_strongBy := goodIn_r _ [16, 4, 17, 18, 19, 20, 21, 22, 23, 24, 25, 5, 6, 7, 8, 9, 10, 11, 12, 26, 27, 28, 29, 3, 30, 31, 32, 33, 34, 35, 36, 37, 38, 39, 40, 41, 42, 43, 44, 45, 46, 47, 48, 49, 50, 51, 52, 53, 54, 55, 56, 57, 58, 59, 60, 61, 62, 63, 64, 65, 66, 67, 68, 69, 70, 71, 72, 73, 74, 75, 76, 77, 78, 79, 80, 81, 82, 83, 84, 85, 86, 87, 88, 89, 90, 91, 92, 93, 94, 95, 96, 97, 98, 99, 100, 101, 102, 103, 104] rfl (by decide +kernel)
set_option maxRecDepth 20000 in
theorem gX9_needs_X9_strongBy : GoodIn wsX9_needs (wsV RX9 457 RX9 yX9_strongBy wsX9_strongBy) := goodIn_app (goodIn_r _ [13, 14, 15, 7] rfl (by decide +kernel)) ggX9_needs_X9_strongBy
theorem bnames04cX9_needs_0 : ((dk_l cX9_needs).drop 0).take 52 = [42, 3, 181, 0, 125, 27, 184, 1, 174, 153, 0, 15, 28, 133, 9, 20, 1, 205, 184, 0, 130, 154, 0, 6, 16, 254, 172, 6, 62, 29, 42, 180, 0, 89, 3, 46, 163, 0, 36, 42, 27, 29, 182, 1, 201, 55, 4, 22, 4, 20, 1, 152] := by decide +kernel
theorem dX9_needs_0 : decode cX9_needs 0 = .ok (.aload_n 0, 1) := dk_42 (c := cX9_needs) (pc := 0) (dk_at bnames04cX9_needs_0 0)
theorem dX9_needs_1 : decode cX9_needs 1 = .ok (.iconst 0, 1) := dk_3 (c := cX9_needs) (pc := 1) (dk_at bnames04cX9_needs_0 1)
theorem dX9_needs_2 : decode cX9_needs 2 = .ok (.putfield 125, 3) := dk_181 (c := cX9_needs) (pc := 2) (a := 0) (b := 125) (dk_at bnames04cX9_needs_0 2) rfl
theorem dX9_needs_5 : decode cX9_needs 5 = .ok (.iload_n 1, 1) := dk_27 (c := cX9_needs) (pc := 5) (dk_at bnames04cX9_needs_0 5)
theorem dX9_needs_6 : decode cX9_needs 6 = .ok (.invokestatic 430, 3) := dk_184 (c := cX9_needs) (pc := 6) (a := 1) (b := 174) (dk_at bnames04cX9_needs_0 6) rfl
theorem dX9_needs_9 : decode cX9_needs 9 = .ok (.ifCond .eq 15, 3) := dk_153 (c := cX9_needs) (pc := 9) (a := 0) (b := 15) (dk_at bnames04cX9_needs_0 9) (by decide)
theorem dX9_needs_12 : decode cX9_needs 12 = .ok (.iload_n 2, 1) := dk_28 (c := cX9_needs) (pc := 12) (dk_at bnames04cX9_needs_0 12)
theorem dX9_needs_13 : decode cX9_needs 13 = .ok (.i2l, 1) := dk_133 (c := cX9_needs) (pc := 13) (dk_at bnames04cX9_needs_0 13)
theorem dX9_needs_14 : decode cX9_needs 14 = .ok (.lconst 0, 1) := dk_9 (c := cX9_needs) (pc := 14) (dk_at bnames04cX9_needs_0 14)
theorem dX9_needs_15 : decode cX9_needs 15 = .ok (.ldc2_w 461, 3) := dk_20 (c := cX9_needs) (pc := 15) (a := 1) (b := 205) (dk_at bnames04cX9_needs_0 15) rfl
theorem dX9_needs_18 : decode cX9_needs 18 = .ok (.invokestatic 130, 3) := dk_184 (c := cX9_needs) (pc := 18) (a := 0) (b := 130) (dk_at bnames04cX9_needs_0 18) rfl
theorem dX9_needs_21 : decode cX9_needs 21 = .ok (.ifCond .ne 6, 3) := dk_154 (c := cX9_needs) (pc := 21) (a := 0) (b := 6) (dk_at bnames04cX9_needs_0 21) (by decide)
theorem dX9_needs_24 : decode cX9_needs 24 = .ok (.bipush (-2), 2) := dk_16 (c := cX9_needs) (pc := 24) (a := 254) (dk_at bnames04cX9_needs_0 24) (by decide)
theorem dX9_needs_26 : decode cX9_needs 26 = .ok (.ireturn, 1) := dk_172 (c := cX9_needs) (pc := 26) (dk_at bnames04cX9_needs_0 26)
theorem dX9_needs_27 : decode cX9_needs 27 = .ok (.iconst 3, 1) := dk_6 (c := cX9_needs) (pc := 27) (dk_at bnames04cX9_needs_0 27)
theorem dX9_needs_28 : decode cX9_needs 28 = .ok (.istore_n 3, 1) := dk_62 (c := cX9_needs) (pc := 28) (dk_at bnames04cX9_needs_0 28)
theorem dX9_needs_29 : decode cX9_needs 29 = .ok (.iload_n 3, 1) := dk_29 (c := cX9_needs) (pc := 29) (dk_at bnames04cX9_needs_0 29)
theorem dX9_needs_30 : decode cX9_needs 30 = .ok (.aload_n 0, 1) := dk_42 (c := cX9_needs) (pc := 30) (dk_at bnames04cX9_needs_0 30)
theorem dX9_needs_31 : decode cX9_needs 31 = .ok (.getfield 89, 3) := dk_180 (c := cX9_needs) (pc := 31) (a := 0) (b := 89) (dk_at bnames04cX9_needs_0 31) rfl
theorem dX9_needs_34 : decode cX9_needs 34 = .ok (.iconst 0, 1) := dk_3 (c := cX9_needs) (pc := 34) (dk_at bnames04cX9_needs_0 34)
theorem dX9_needs_35 : decode cX9_needs 35 = .ok (.iaload, 1) := dk_46 (c := cX9_needs) (pc := 35) (dk_at bnames04cX9_needs_0 35)
theorem dX9_needs_36 : decode cX9_needs 36 = .ok (.if_icmp .gt 36, 3) := dk_163 (c := cX9_needs) (pc := 36) (a := 0) (b := 36) (dk_at bnames04cX9_needs_0 36) (by decide)
theorem dX9_needs_39 : decode cX9_needs 39 = .ok (.aload_n 0, 1) := dk_42 (c := cX9_needs) (pc := 39) (dk_at bnames04cX9_needs_0 39)
theorem dX9_needs_40 : decode cX9_needs 40 = .ok (.iload_n 1, 1) := dk_27 (c := cX9_needs) (pc := 40) (dk_at bnames04cX9_needs_0 40)
theorem dX9_needs_41 : decode cX9_needs 41 = .ok (.iload_n 3, 1) := dk_29 (c := cX9_needs) (pc := 41) (dk_at bnames04cX9_needs_0 41)
theorem dX9_needs_42 : decode cX9_needs 42 = .ok (.invokevirtual 457, 3) := dk_182 (c := cX9_needs) (pc := 42) (a := 1) (b := 201) (dk_at bnames04cX9_needs_0 42) rfl
theorem dX9_needs_45 : decode cX9_needs 45 = .ok (.lstore 4, 2) := dk_55 (c := cX9_needs) (pc := 45) (a := 4) (dk_at bnames04cX9_needs_0 45) rfl
theorem dX9_needs_47 : decode cX9_needs 47 = .ok (.lload 4, 2) := dk_22 (c := cX9_needs) (pc := 47) (a := 4) (dk_at bnames04cX9_needs_0 47) rfl
theorem bnames04cX9_needs_48 : ((dk_l cX9_needs).drop 48).take 26 = [4, 20, 1, 152, 148, 153, 0, 13, 22, 4, 28, 133, 148, 155, 0, 5, 29, 172, 132, 3, 1, 167, 255, 216, 2, 172] := by decide +kernel
theorem dX9_needs_49 : decode cX9_needs 49 = .ok (.ldc2_w 408, 3) := dk_20 (c := cX9_needs) (pc := 49) (a := 1) (b := 152) (dk_at bnames04cX9_needs_48 1) rfl
theorem dX9_needs_52 : decode cX9_needs 52 = .ok (.lcmp, 1) := dk_148 (c := cX9_needs) (pc := 52) (dk_at bnames04cX9_needs_48 4)
theorem dX9_needs_53 : decode cX9_needs 53 = .ok (.ifCond .eq 13, 3) := dk_153 (c := cX9_needs) (pc := 53) (a := 0) (b := 13) (dk_at bnames04cX9_needs_48 5) (by decide)
theorem dX9_needs_56 : decode cX9_needs 56 = .ok (.lload 4, 2) := dk_22 (c := cX9_needs) (pc := 56) (a := 4) (dk_at bnames04cX9_needs_48 8) rfl
theorem dX9_needs_58 : decode cX9_needs 58 = .ok (.iload_n 2, 1) := dk_28 (c := cX9_needs) (pc := 58) (dk_at bnames04cX9_needs_48 10)
theorem dX9_needs_59 : decode cX9_needs 59 = .ok (.i2l, 1) := dk_133 (c := cX9_needs) (pc := 59) (dk_at bnames04cX9_needs_48 11)
theorem dX9_needs_60 : decode cX9_needs 60 = .ok (.lcmp, 1) := dk_148 (c := cX9_needs) (pc := 60) (dk_at bnames04cX9_needs_48 12)
theorem dX9_needs_61 : decode cX9_needs 61 = .ok (.ifCond .lt 5, 3) := dk_155 (c := cX9_needs) (pc := 61) (a := 0) (b := 5) (dk_at bnames04cX9_needs_48 13) (by decide)
theorem dX9_needs_64 : decode cX9_needs 64 = .ok (.iload_n 3, 1) := dk_29 (c := cX9_needs) (pc := 64) (dk_at bnames04cX9_needs_48 16)
theorem dX9_needs_65 : decode cX9_needs 65 = .ok (.ireturn, 1) := dk_172 (c := cX9_needs) (pc := 65) (dk_at bnames04cX9_needs_48 17)
theorem dX9_needs_66 : decode cX9_needs 66 = .ok (.iinc 3 1, 3) := dk_132 (c := cX9_needs) (pc := 66) (a := 3) (b := 1) (dk_at bnames04cX9_needs_48 18) rfl (by decide)
theorem dX9_needs_69 : decode cX9_needs 69 = .ok (.goto (-40), 3) := dk_167 (c := cX9_needs) (pc := 69) (a := 255) (b := 216) (dk_at bnames04cX9_needs_48 21) (by decide)
theorem dX9_needs_72 : decode cX9_needs 72 = .ok (.iconst (-1), 1) := dk_2 (c := cX9_needs) (pc := 72) (dk_at bnames04cX9_needs_48 24)
theorem dX9_needs_73 : decode cX9_needs 73 = .ok (.ireturn, 1) := dk_172 (c := cX9_needs) (pc := 73) (dk_at bnames04cX9_needs_48 25)
theorem bnames04cX9_leaves_0 : ((dk_l cX9_leaves).drop 0).take 52 = [9, 65, 9, 55, 4, 9, 55, 6, 3, 54, 8, 21, 8, 42, 180, 0, 89, 3, 46, 162, 0, 66, 42, 180, 0, 101, 21, 8, 46, 133, 27, 133, 42, 180, 0, 98, 21, 8, 46, 133, 105, 101, 55, 9, 22, 6, 22, 9, 22, 9, 105, 97] := by decide +kernel
theorem dX9_leaves_0 : decode cX9_leaves 0 = .ok (.lconst 0, 1) := dk_9 (c := cX9_leaves) (pc := 0) (dk_at bnames04cX9_leaves_0 0)
theorem dX9_leaves_1 : decode cX9_leaves 1 = .ok (.lstore_n 2, 1) := dk_65 (c := cX9_leaves) (pc := 1) (dk_at bnames04cX9_leaves_0 1)
theorem dX9_leaves_2 : decode cX9_leaves 2 = .ok (.lconst 0, 1) := dk_9 (c := cX9_leaves) (pc := 2) (dk_at bnames04cX9_leaves_0 2)
theorem dX9_leaves_3 : decode cX9_leaves 3 = .ok (.lstore 4, 2) := dk_55 (c := cX9_leaves) (pc := 3) (a := 4) (dk_at bnames04cX9_leaves_0 3) rfl
theorem dX9_leaves_5 : decode cX9_leaves 5 = .ok (.lconst 0, 1) := dk_9 (c := cX9_leaves) (pc := 5) (dk_at bnames04cX9_leaves_0 5)
theorem dX9_leaves_6 : decode cX9_leaves 6 = .ok (.lstore 6, 2) := dk_55 (c := cX9_leaves) (pc := 6) (a := 6) (dk_at bnames04cX9_leaves_0 6) rfl
theorem dX9_leaves_8 : decode cX9_leaves 8 = .ok (.iconst 0, 1) := dk_3 (c := cX9_leaves) (pc := 8) (dk_at bnames04cX9_leaves_0 8)
theorem dX9_leaves_9 : decode cX9_leaves 9 = .ok (.istore 8, 2) := dk_54 (c := cX9_leaves) (pc := 9) (a := 8) (dk_at bnames04cX9_leaves_0 9) rfl
theorem dX9_leaves_11 : decode cX9_leaves 11 = .ok (.iload 8, 2) := dk_21 (c := cX9_leaves) (pc := 11) (a := 8) (dk_at bnames04cX9_leaves_0 11) rfl
theorem dX9_leaves_13 : decode cX9_leaves 13 = .ok (.aload_n 0, 1) := dk_42 (c := cX9_leaves) (pc := 13) (dk_at bnames04cX9_leaves_0 13)
theorem dX9_leaves_14 : decode cX9_leaves 14 = .ok (.getfield 89, 3) := dk_180 (c := cX9_leaves) (pc := 14) (a := 0) (b := 89) (dk_at bnames04cX9_leaves_0 14) rfl
theorem dX9_leaves_17 : decode cX9_leaves 17 = .ok (.iconst 0, 1) := dk_3 (c := cX9_leaves) (pc := 17) (dk_at bnames04cX9_leaves_0 17)
theorem dX9_leaves_18 : decode cX9_leaves 18 = .ok (.iaload, 1) := dk_46 (c := cX9_leaves) (pc := 18) (dk_at bnames04cX9_leaves_0 18)
theorem dX9_leaves_19 : decode cX9_leaves 19 = .ok (.if_icmp .ge 66, 3) := dk_162 (c := cX9_leaves) (pc := 19) (a := 0) (b := 66) (dk_at bnames04cX9_leaves_0 19) (by decide)
theorem dX9_leaves_22 : decode cX9_leaves 22 = .ok (.aload_n 0, 1) := dk_42 (c := cX9_leaves) (pc := 22) (dk_at bnames04cX9_leaves_0 22)
theorem dX9_leaves_23 : decode cX9_leaves 23 = .ok (.getfield 101, 3) := dk_180 (c := cX9_leaves) (pc := 23) (a := 0) (b := 101) (dk_at bnames04cX9_leaves_0 23) rfl
theorem dX9_leaves_26 : decode cX9_leaves 26 = .ok (.iload 8, 2) := dk_21 (c := cX9_leaves) (pc := 26) (a := 8) (dk_at bnames04cX9_leaves_0 26) rfl
theorem dX9_leaves_28 : decode cX9_leaves 28 = .ok (.iaload, 1) := dk_46 (c := cX9_leaves) (pc := 28) (dk_at bnames04cX9_leaves_0 28)
theorem dX9_leaves_29 : decode cX9_leaves 29 = .ok (.i2l, 1) := dk_133 (c := cX9_leaves) (pc := 29) (dk_at bnames04cX9_leaves_0 29)
theorem dX9_leaves_30 : decode cX9_leaves 30 = .ok (.iload_n 1, 1) := dk_27 (c := cX9_leaves) (pc := 30) (dk_at bnames04cX9_leaves_0 30)
theorem dX9_leaves_31 : decode cX9_leaves 31 = .ok (.i2l, 1) := dk_133 (c := cX9_leaves) (pc := 31) (dk_at bnames04cX9_leaves_0 31)
theorem dX9_leaves_32 : decode cX9_leaves 32 = .ok (.aload_n 0, 1) := dk_42 (c := cX9_leaves) (pc := 32) (dk_at bnames04cX9_leaves_0 32)
theorem dX9_leaves_33 : decode cX9_leaves 33 = .ok (.getfield 98, 3) := dk_180 (c := cX9_leaves) (pc := 33) (a := 0) (b := 98) (dk_at bnames04cX9_leaves_0 33) rfl
theorem dX9_leaves_36 : decode cX9_leaves 36 = .ok (.iload 8, 2) := dk_21 (c := cX9_leaves) (pc := 36) (a := 8) (dk_at bnames04cX9_leaves_0 36) rfl
theorem dX9_leaves_38 : decode cX9_leaves 38 = .ok (.iaload, 1) := dk_46 (c := cX9_leaves) (pc := 38) (dk_at bnames04cX9_leaves_0 38)
theorem dX9_leaves_39 : decode cX9_leaves 39 = .ok (.i2l, 1) := dk_133 (c := cX9_leaves) (pc := 39) (dk_at bnames04cX9_leaves_0 39)
theorem dX9_leaves_40 : decode cX9_leaves 40 = .ok (.lmul, 1) := dk_105 (c := cX9_leaves) (pc := 40) (dk_at bnames04cX9_leaves_0 40)
theorem dX9_leaves_41 : decode cX9_leaves 41 = .ok (.lsub, 1) := dk_101 (c := cX9_leaves) (pc := 41) (dk_at bnames04cX9_leaves_0 41)
theorem dX9_leaves_42 : decode cX9_leaves 42 = .ok (.lstore 9, 2) := dk_55 (c := cX9_leaves) (pc := 42) (a := 9) (dk_at bnames04cX9_leaves_0 42) rfl
theorem dX9_leaves_44 : decode cX9_leaves 44 = .ok (.lload 6, 2) := dk_22 (c := cX9_leaves) (pc := 44) (a := 6) (dk_at bnames04cX9_leaves_0 44) rfl
theorem dX9_leaves_46 : decode cX9_leaves 46 = .ok (.lload 9, 2) := dk_22 (c := cX9_leaves) (pc := 46) (a := 9) (dk_at bnames04cX9_leaves_0 46) rfl
theorem bnames04cX9_leaves_48 : ((dk_l cX9_leaves).drop 48).take 52 = [22, 9, 105, 97, 55, 6, 42, 180, 0, 110, 21, 8, 51, 153, 0, 11, 32, 22, 9, 97, 65, 167, 0, 10, 22, 4, 22, 9, 97, 55, 4, 132, 8, 1, 167, 255, 185, 42, 32, 42, 180, 1, 125, 105, 22, 4, 42, 180, 1, 122, 105, 101] := by decide +kernel
theorem dX9_leaves_48 : decode cX9_leaves 48 = .ok (.lload 9, 2) := dk_22 (c := cX9_leaves) (pc := 48) (a := 9) (dk_at bnames04cX9_leaves_48 0) rfl
theorem dX9_leaves_50 : decode cX9_leaves 50 = .ok (.lmul, 1) := dk_105 (c := cX9_leaves) (pc := 50) (dk_at bnames04cX9_leaves_48 2)
theorem dX9_leaves_51 : decode cX9_leaves 51 = .ok (.ladd, 1) := dk_97 (c := cX9_leaves) (pc := 51) (dk_at bnames04cX9_leaves_48 3)
theorem dX9_leaves_52 : decode cX9_leaves 52 = .ok (.lstore 6, 2) := dk_55 (c := cX9_leaves) (pc := 52) (a := 6) (dk_at bnames04cX9_leaves_48 4) rfl
theorem dX9_leaves_54 : decode cX9_leaves 54 = .ok (.aload_n 0, 1) := dk_42 (c := cX9_leaves) (pc := 54) (dk_at bnames04cX9_leaves_48 6)
theorem dX9_leaves_55 : decode cX9_leaves 55 = .ok (.getfield 110, 3) := dk_180 (c := cX9_leaves) (pc := 55) (a := 0) (b := 110) (dk_at bnames04cX9_leaves_48 7) rfl
theorem dX9_leaves_58 : decode cX9_leaves 58 = .ok (.iload 8, 2) := dk_21 (c := cX9_leaves) (pc := 58) (a := 8) (dk_at bnames04cX9_leaves_48 10) rfl
theorem dX9_leaves_60 : decode cX9_leaves 60 = .ok (.baload, 1) := dk_51 (c := cX9_leaves) (pc := 60) (dk_at bnames04cX9_leaves_48 12)
theorem dX9_leaves_61 : decode cX9_leaves 61 = .ok (.ifCond .eq 11, 3) := dk_153 (c := cX9_leaves) (pc := 61) (a := 0) (b := 11) (dk_at bnames04cX9_leaves_48 13) (by decide)
theorem dX9_leaves_64 : decode cX9_leaves 64 = .ok (.lload_n 2, 1) := dk_32 (c := cX9_leaves) (pc := 64) (dk_at bnames04cX9_leaves_48 16)
theorem dX9_leaves_65 : decode cX9_leaves 65 = .ok (.lload 9, 2) := dk_22 (c := cX9_leaves) (pc := 65) (a := 9) (dk_at bnames04cX9_leaves_48 17) rfl
theorem dX9_leaves_67 : decode cX9_leaves 67 = .ok (.ladd, 1) := dk_97 (c := cX9_leaves) (pc := 67) (dk_at bnames04cX9_leaves_48 19)
theorem dX9_leaves_68 : decode cX9_leaves 68 = .ok (.lstore_n 2, 1) := dk_65 (c := cX9_leaves) (pc := 68) (dk_at bnames04cX9_leaves_48 20)
theorem dX9_leaves_69 : decode cX9_leaves 69 = .ok (.goto 10, 3) := dk_167 (c := cX9_leaves) (pc := 69) (a := 0) (b := 10) (dk_at bnames04cX9_leaves_48 21) (by decide)
theorem dX9_leaves_72 : decode cX9_leaves 72 = .ok (.lload 4, 2) := dk_22 (c := cX9_leaves) (pc := 72) (a := 4) (dk_at bnames04cX9_leaves_48 24) rfl
theorem dX9_leaves_74 : decode cX9_leaves 74 = .ok (.lload 9, 2) := dk_22 (c := cX9_leaves) (pc := 74) (a := 9) (dk_at bnames04cX9_leaves_48 26) rfl
theorem dX9_leaves_76 : decode cX9_leaves 76 = .ok (.ladd, 1) := dk_97 (c := cX9_leaves) (pc := 76) (dk_at bnames04cX9_leaves_48 28)
theorem dX9_leaves_77 : decode cX9_leaves 77 = .ok (.lstore 4, 2) := dk_55 (c := cX9_leaves) (pc := 77) (a := 4) (dk_at bnames04cX9_leaves_48 29) rfl
theorem dX9_leaves_79 : decode cX9_leaves 79 = .ok (.iinc 8 1, 3) := dk_132 (c := cX9_leaves) (pc := 79) (a := 8) (b := 1) (dk_at bnames04cX9_leaves_48 31) rfl (by decide)
theorem dX9_leaves_82 : decode cX9_leaves 82 = .ok (.goto (-71), 3) := dk_167 (c := cX9_leaves) (pc := 82) (a := 255) (b := 185) (dk_at bnames04cX9_leaves_48 34) (by decide)
theorem dX9_leaves_85 : decode cX9_leaves 85 = .ok (.aload_n 0, 1) := dk_42 (c := cX9_leaves) (pc := 85) (dk_at bnames04cX9_leaves_48 37)
theorem dX9_leaves_86 : decode cX9_leaves 86 = .ok (.lload_n 2, 1) := dk_32 (c := cX9_leaves) (pc := 86) (dk_at bnames04cX9_leaves_48 38)
theorem dX9_leaves_87 : decode cX9_leaves 87 = .ok (.aload_n 0, 1) := dk_42 (c := cX9_leaves) (pc := 87) (dk_at bnames04cX9_leaves_48 39)
theorem dX9_leaves_88 : decode cX9_leaves 88 = .ok (.getfield 381, 3) := dk_180 (c := cX9_leaves) (pc := 88) (a := 1) (b := 125) (dk_at bnames04cX9_leaves_48 40) rfl
theorem dX9_leaves_91 : decode cX9_leaves 91 = .ok (.lmul, 1) := dk_105 (c := cX9_leaves) (pc := 91) (dk_at bnames04cX9_leaves_48 43)
theorem dX9_leaves_92 : decode cX9_leaves 92 = .ok (.lload 4, 2) := dk_22 (c := cX9_leaves) (pc := 92) (a := 4) (dk_at bnames04cX9_leaves_48 44) rfl
theorem dX9_leaves_94 : decode cX9_leaves 94 = .ok (.aload_n 0, 1) := dk_42 (c := cX9_leaves) (pc := 94) (dk_at bnames04cX9_leaves_48 46)
theorem dX9_leaves_95 : decode cX9_leaves 95 = .ok (.getfield 378, 3) := dk_180 (c := cX9_leaves) (pc := 95) (a := 1) (b := 122) (dk_at bnames04cX9_leaves_48 47) rfl
theorem bnames04cX9_leaves_96 : ((dk_l cX9_leaves).drop 96).take 44 = [1, 122, 105, 101, 181, 1, 207, 42, 42, 180, 1, 122, 42, 180, 1, 125, 105, 22, 6, 105, 32, 32, 105, 42, 180, 1, 125, 105, 101, 22, 4, 22, 4, 105, 42, 180, 1, 122, 105, 101, 181, 1, 210, 177] := by decide +kernel
theorem dX9_leaves_98 : decode cX9_leaves 98 = .ok (.lmul, 1) := dk_105 (c := cX9_leaves) (pc := 98) (dk_at bnames04cX9_leaves_96 2)
theorem dX9_leaves_99 : decode cX9_leaves 99 = .ok (.lsub, 1) := dk_101 (c := cX9_leaves) (pc := 99) (dk_at bnames04cX9_leaves_96 3)
theorem dX9_leaves_100 : decode cX9_leaves 100 = .ok (.putfield 463, 3) := dk_181 (c := cX9_leaves) (pc := 100) (a := 1) (b := 207) (dk_at bnames04cX9_leaves_96 4) rfl
theorem dX9_leaves_103 : decode cX9_leaves 103 = .ok (.aload_n 0, 1) := dk_42 (c := cX9_leaves) (pc := 103) (dk_at bnames04cX9_leaves_96 7)
theorem dX9_leaves_104 : decode cX9_leaves 104 = .ok (.aload_n 0, 1) := dk_42 (c := cX9_leaves) (pc := 104) (dk_at bnames04cX9_leaves_96 8)
theorem dX9_leaves_105 : decode cX9_leaves 105 = .ok (.getfield 378, 3) := dk_180 (c := cX9_leaves) (pc := 105) (a := 1) (b := 122) (dk_at bnames04cX9_leaves_96 9) rfl
theorem dX9_leaves_108 : decode cX9_leaves 108 = .ok (.aload_n 0, 1) := dk_42 (c := cX9_leaves) (pc := 108) (dk_at bnames04cX9_leaves_96 12)
theorem dX9_leaves_109 : decode cX9_leaves 109 = .ok (.getfield 381, 3) := dk_180 (c := cX9_leaves) (pc := 109) (a := 1) (b := 125) (dk_at bnames04cX9_leaves_96 13) rfl
theorem dX9_leaves_112 : decode cX9_leaves 112 = .ok (.lmul, 1) := dk_105 (c := cX9_leaves) (pc := 112) (dk_at bnames04cX9_leaves_96 16)
theorem dX9_leaves_113 : decode cX9_leaves 113 = .ok (.lload 6, 2) := dk_22 (c := cX9_leaves) (pc := 113) (a := 6) (dk_at bnames04cX9_leaves_96 17) rfl
theorem dX9_leaves_115 : decode cX9_leaves 115 = .ok (.lmul, 1) := dk_105 (c := cX9_leaves) (pc := 115) (dk_at bnames04cX9_leaves_96 19)
theorem dX9_leaves_116 : decode cX9_leaves 116 = .ok (.lload_n 2, 1) := dk_32 (c := cX9_leaves) (pc := 116) (dk_at bnames04cX9_leaves_96 20)
theorem dX9_leaves_117 : decode cX9_leaves 117 = .ok (.lload_n 2, 1) := dk_32 (c := cX9_leaves) (pc := 117) (dk_at bnames04cX9_leaves_96 21)
theorem dX9_leaves_118 : decode cX9_leaves 118 = .ok (.lmul, 1) := dk_105 (c := cX9_leaves) (pc := 118) (dk_at bnames04cX9_leaves_96 22)
theorem dX9_leaves_119 : decode cX9_leaves 119 = .ok (.aload_n 0, 1) := dk_42 (c := cX9_leaves) (pc := 119) (dk_at bnames04cX9_leaves_96 23)
theorem dX9_leaves_120 : decode cX9_leaves 120 = .ok (.getfield 381, 3) := dk_180 (c := cX9_leaves) (pc := 120) (a := 1) (b := 125) (dk_at bnames04cX9_leaves_96 24) rfl
theorem dX9_leaves_123 : decode cX9_leaves 123 = .ok (.lmul, 1) := dk_105 (c := cX9_leaves) (pc := 123) (dk_at bnames04cX9_leaves_96 27)
theorem dX9_leaves_124 : decode cX9_leaves 124 = .ok (.lsub, 1) := dk_101 (c := cX9_leaves) (pc := 124) (dk_at bnames04cX9_leaves_96 28)
theorem dX9_leaves_125 : decode cX9_leaves 125 = .ok (.lload 4, 2) := dk_22 (c := cX9_leaves) (pc := 125) (a := 4) (dk_at bnames04cX9_leaves_96 29) rfl
theorem dX9_leaves_127 : decode cX9_leaves 127 = .ok (.lload 4, 2) := dk_22 (c := cX9_leaves) (pc := 127) (a := 4) (dk_at bnames04cX9_leaves_96 31) rfl
theorem dX9_leaves_129 : decode cX9_leaves 129 = .ok (.lmul, 1) := dk_105 (c := cX9_leaves) (pc := 129) (dk_at bnames04cX9_leaves_96 33)
theorem dX9_leaves_130 : decode cX9_leaves 130 = .ok (.aload_n 0, 1) := dk_42 (c := cX9_leaves) (pc := 130) (dk_at bnames04cX9_leaves_96 34)
theorem dX9_leaves_131 : decode cX9_leaves 131 = .ok (.getfield 378, 3) := dk_180 (c := cX9_leaves) (pc := 131) (a := 1) (b := 122) (dk_at bnames04cX9_leaves_96 35) rfl
theorem dX9_leaves_134 : decode cX9_leaves 134 = .ok (.lmul, 1) := dk_105 (c := cX9_leaves) (pc := 134) (dk_at bnames04cX9_leaves_96 38)
theorem dX9_leaves_135 : decode cX9_leaves 135 = .ok (.lsub, 1) := dk_101 (c := cX9_leaves) (pc := 135) (dk_at bnames04cX9_leaves_96 39)
theorem dX9_leaves_136 : decode cX9_leaves 136 = .ok (.putfield 466, 3) := dk_181 (c := cX9_leaves) (pc := 136) (a := 1) (b := 210) (dk_at bnames04cX9_leaves_96 40) rfl
theorem dX9_leaves_139 : decode cX9_leaves 139 = .ok (.return_, 1) := dk_177 (c := cX9_leaves) (pc := 139) (dk_at bnames04cX9_leaves_96 43)
theorem bnames04cX9_bound_0 : ((dk_l cX9_bound).drop 0).take 32 = [27, 133, 42, 180, 1, 122, 42, 180, 1, 125, 97, 105, 42, 180, 1, 210, 105, 42, 180, 1, 122, 42, 180, 1, 125, 97, 20, 1, 199, 101, 109, 173] := by decide +kernel
theorem dX9_bound_0 : decode cX9_bound 0 = .ok (.iload_n 1, 1) := dk_27 (c := cX9_bound) (pc := 0) (dk_at bnames04cX9_bound_0 0)
theorem dX9_bound_1 : decode cX9_bound 1 = .ok (.i2l, 1) := dk_133 (c := cX9_bound) (pc := 1) (dk_at bnames04cX9_bound_0 1)
theorem dX9_bound_2 : decode cX9_bound 2 = .ok (.aload_n 0, 1) := dk_42 (c := cX9_bound) (pc := 2) (dk_at bnames04cX9_bound_0 2)
theorem dX9_bound_3 : decode cX9_bound 3 = .ok (.getfield 378, 3) := dk_180 (c := cX9_bound) (pc := 3) (a := 1) (b := 122) (dk_at bnames04cX9_bound_0 3) rfl
theorem dX9_bound_6 : decode cX9_bound 6 = .ok (.aload_n 0, 1) := dk_42 (c := cX9_bound) (pc := 6) (dk_at bnames04cX9_bound_0 6)
theorem dX9_bound_7 : decode cX9_bound 7 = .ok (.getfield 381, 3) := dk_180 (c := cX9_bound) (pc := 7) (a := 1) (b := 125) (dk_at bnames04cX9_bound_0 7) rfl
theorem dX9_bound_10 : decode cX9_bound 10 = .ok (.ladd, 1) := dk_97 (c := cX9_bound) (pc := 10) (dk_at bnames04cX9_bound_0 10)
theorem dX9_bound_11 : decode cX9_bound 11 = .ok (.lmul, 1) := dk_105 (c := cX9_bound) (pc := 11) (dk_at bnames04cX9_bound_0 11)
theorem dX9_bound_12 : decode cX9_bound 12 = .ok (.aload_n 0, 1) := dk_42 (c := cX9_bound) (pc := 12) (dk_at bnames04cX9_bound_0 12)
theorem dX9_bound_13 : decode cX9_bound 13 = .ok (.getfield 466, 3) := dk_180 (c := cX9_bound) (pc := 13) (a := 1) (b := 210) (dk_at bnames04cX9_bound_0 13) rfl
theorem dX9_bound_16 : decode cX9_bound 16 = .ok (.lmul, 1) := dk_105 (c := cX9_bound) (pc := 16) (dk_at bnames04cX9_bound_0 16)
theorem dX9_bound_17 : decode cX9_bound 17 = .ok (.aload_n 0, 1) := dk_42 (c := cX9_bound) (pc := 17) (dk_at bnames04cX9_bound_0 17)
theorem dX9_bound_18 : decode cX9_bound 18 = .ok (.getfield 378, 3) := dk_180 (c := cX9_bound) (pc := 18) (a := 1) (b := 122) (dk_at bnames04cX9_bound_0 18) rfl
theorem dX9_bound_21 : decode cX9_bound 21 = .ok (.aload_n 0, 1) := dk_42 (c := cX9_bound) (pc := 21) (dk_at bnames04cX9_bound_0 21)
theorem dX9_bound_22 : decode cX9_bound 22 = .ok (.getfield 381, 3) := dk_180 (c := cX9_bound) (pc := 22) (a := 1) (b := 125) (dk_at bnames04cX9_bound_0 22) rfl
theorem dX9_bound_25 : decode cX9_bound 25 = .ok (.ladd, 1) := dk_97 (c := cX9_bound) (pc := 25) (dk_at bnames04cX9_bound_0 25)
theorem dX9_bound_26 : decode cX9_bound 26 = .ok (.ldc2_w 455, 3) := dk_20 (c := cX9_bound) (pc := 26) (a := 1) (b := 199) (dk_at bnames04cX9_bound_0 26) rfl
theorem dX9_bound_29 : decode cX9_bound 29 = .ok (.lsub, 1) := dk_101 (c := cX9_bound) (pc := 29) (dk_at bnames04cX9_bound_0 29)
theorem dX9_bound_30 : decode cX9_bound 30 = .ok (.ldiv, 1) := dk_109 (c := cX9_bound) (pc := 30) (dk_at bnames04cX9_bound_0 30)
theorem dX9_bound_31 : decode cX9_bound 31 = .ok (.lreturn, 1) := dk_173 (c := cX9_bound) (pc := 31) (dk_at bnames04cX9_bound_0 31)
set_option maxRecDepth 20000 in
theorem ggX9_spans_X9_gathers : GoodIn wsX9_spans wsX9_gathers := goodIn_r _ [8, 9, 10, 11, 12, 13, 14, 15, 16, 17, 18, 19, 20, 35, 36, 37, 38, 39, 40, 41, 42, 43, 44, 45, 46, 47, 48, 49, 50, 51, 52, 53, 54, 55, 56, 57, 58, 59, 60, 61, 62, 63, 64, 65, 66, 67, 68, 69, 70, 71, 72, 73, 74, 75, 76, 77, 78, 79, 80, 81, 82, 83, 84, 85, 86, 87, 88, 89, 90, 91, 92, 93, 94] rfl (by decide +kernel)
set_option maxRecDepth 20000 in
theorem gX9_spans_X9_gathers : GoodIn wsX9_spans (wsV RX9 413 RX9 yX9_gathers wsX9_gathers) := goodIn_app (goodIn_r _ [4, 5, 6, 7] rfl (by decide +kernel)) ggX9_spans_X9_gathers
set_option maxRecDepth 20000 in
theorem ggX9_spans_X9_areBoth : GoodIn wsX9_spans wsX9_areBoth := goodIn_r _ [24, 9, 10, 35, 36, 37, 38, 39, 40, 41, 42, 43, 44, 45, 46, 47, 48, 49, 50, 51, 52, 53, 54, 55, 56, 57, 58, 59, 60, 61, 62, 63, 64, 65, 66, 67, 68, 69, 70, 71, 72, 73, 74, 75, 76, 77, 78, 79, 80, 81, 82, 83, 84, 85, 86, 87, 88, 89, 90, 91, 92, 93, 94] rfl (by decide +kernel)
set_option maxRecDepth 20000 in
theorem gX9_spans_X9_areBoth : GoodIn wsX9_spans (wsV RX9 424 RX9 yX9_areBoth wsX9_areBoth) := goodIn_app (goodIn_r _ [21, 22, 23, 7] rfl (by decide +kernel)) ggX9_spans_X9_areBoth
set_option maxRecDepth 20000 in
theorem ggX9_spans_X9_leaves : GoodIn wsX9_spans wsX9_leaves := goodIn_r _ [28, 1, 19, 18, 20, 10, 9, 3, 29, 35, 36, 37, 38, 39, 40, 41, 42, 43, 44, 45, 46, 47, 48, 49, 50, 51, 52, 53, 54, 55, 56, 57, 58, 59, 60, 61, 62, 63, 64, 65, 66, 67, 68, 69, 70, 71, 72, 73, 74, 75, 76, 77, 78, 79, 80, 81, 82, 83, 84, 85, 86, 87, 88, 89, 90, 91, 92, 93, 94] rfl (by decide +kernel)
set_option maxRecDepth 20000 in
theorem gX9_spans_X9_leaves : GoodIn wsX9_spans (wsV RX9 469 RX9 yX9_leaves wsX9_leaves) := goodIn_app (goodIn_r _ [25, 26, 27, 7] rfl (by decide +kernel)) ggX9_spans_X9_leaves
set_option maxRecDepth 20000 in
theorem ggX9_spans_X9_bound : GoodIn wsX9_spans wsX9_bound := goodIn_r _ [33, 9, 10, 29, 34, 35, 36, 37, 38, 39, 40, 41, 42, 43, 44, 45, 46, 47, 48, 49, 50, 51, 52, 53, 54, 55, 56, 57, 58, 59, 60, 61, 62, 63, 64, 65, 66, 67, 68, 69, 70, 71, 72, 73, 74, 75, 76, 77, 78, 79, 80, 81, 82, 83, 84, 85, 86, 87, 88, 89, 90, 91, 92, 93, 94] rfl (by decide +kernel)
set_option maxRecDepth 20000 in
theorem gX9_spans_X9_bound : GoodIn wsX9_spans (wsV RX9 472 RX9 yX9_bound wsX9_bound) := goodIn_app (goodIn_r _ [30, 31, 32, 7] rfl (by decide +kernel)) ggX9_spans_X9_bound
theorem bnames04cX9_spans_0 : ((dk_l cX9_spans).drop 0).take 52 = [42, 182, 1, 157, 42, 182, 1, 168, 153, 0, 13, 42, 180, 0, 89, 3, 46, 6, 162, 0, 5, 3, 172, 16, 157, 61, 28, 16, 99, 163, 0, 46, 42, 28, 182, 1, 213, 42, 180, 0, 122, 16, 99, 28, 96, 42, 180, 1, 207, 42, 180, 1] := by decide +kernel
theorem dX9_spans_0 : decode cX9_spans 0 = .ok (.aload_n 0, 1) := dk_42 (c := cX9_spans) (pc := 0) (dk_at bnames04cX9_spans_0 0)
theorem dX9_spans_1 : decode cX9_spans 1 = .ok (.invokevirtual 413, 3) := dk_182 (c := cX9_spans) (pc := 1) (a := 1) (b := 157) (dk_at bnames04cX9_spans_0 1) rfl
theorem dX9_spans_4 : decode cX9_spans 4 = .ok (.aload_n 0, 1) := dk_42 (c := cX9_spans) (pc := 4) (dk_at bnames04cX9_spans_0 4)
theorem dX9_spans_5 : decode cX9_spans 5 = .ok (.invokevirtual 424, 3) := dk_182 (c := cX9_spans) (pc := 5) (a := 1) (b := 168) (dk_at bnames04cX9_spans_0 5) rfl
theorem dX9_spans_8 : decode cX9_spans 8 = .ok (.ifCond .eq 13, 3) := dk_153 (c := cX9_spans) (pc := 8) (a := 0) (b := 13) (dk_at bnames04cX9_spans_0 8) (by decide)
theorem dX9_spans_11 : decode cX9_spans 11 = .ok (.aload_n 0, 1) := dk_42 (c := cX9_spans) (pc := 11) (dk_at bnames04cX9_spans_0 11)
theorem dX9_spans_12 : decode cX9_spans 12 = .ok (.getfield 89, 3) := dk_180 (c := cX9_spans) (pc := 12) (a := 0) (b := 89) (dk_at bnames04cX9_spans_0 12) rfl
theorem dX9_spans_15 : decode cX9_spans 15 = .ok (.iconst 0, 1) := dk_3 (c := cX9_spans) (pc := 15) (dk_at bnames04cX9_spans_0 15)
theorem dX9_spans_16 : decode cX9_spans 16 = .ok (.iaload, 1) := dk_46 (c := cX9_spans) (pc := 16) (dk_at bnames04cX9_spans_0 16)
theorem dX9_spans_17 : decode cX9_spans 17 = .ok (.iconst 3, 1) := dk_6 (c := cX9_spans) (pc := 17) (dk_at bnames04cX9_spans_0 17)
theorem dX9_spans_18 : decode cX9_spans 18 = .ok (.if_icmp .ge 5, 3) := dk_162 (c := cX9_spans) (pc := 18) (a := 0) (b := 5) (dk_at bnames04cX9_spans_0 18) (by decide)
theorem dX9_spans_21 : decode cX9_spans 21 = .ok (.iconst 0, 1) := dk_3 (c := cX9_spans) (pc := 21) (dk_at bnames04cX9_spans_0 21)
theorem dX9_spans_22 : decode cX9_spans 22 = .ok (.ireturn, 1) := dk_172 (c := cX9_spans) (pc := 22) (dk_at bnames04cX9_spans_0 22)
theorem dX9_spans_23 : decode cX9_spans 23 = .ok (.bipush (-99), 2) := dk_16 (c := cX9_spans) (pc := 23) (a := 157) (dk_at bnames04cX9_spans_0 23) (by decide)
theorem dX9_spans_25 : decode cX9_spans 25 = .ok (.istore_n 2, 1) := dk_61 (c := cX9_spans) (pc := 25) (dk_at bnames04cX9_spans_0 25)
theorem dX9_spans_26 : decode cX9_spans 26 = .ok (.iload_n 2, 1) := dk_28 (c := cX9_spans) (pc := 26) (dk_at bnames04cX9_spans_0 26)
theorem dX9_spans_27 : decode cX9_spans 27 = .ok (.bipush 99, 2) := dk_16 (c := cX9_spans) (pc := 27) (a := 99) (dk_at bnames04cX9_spans_0 27) (by decide)
theorem dX9_spans_29 : decode cX9_spans 29 = .ok (.if_icmp .gt 46, 3) := dk_163 (c := cX9_spans) (pc := 29) (a := 0) (b := 46) (dk_at bnames04cX9_spans_0 29) (by decide)
theorem dX9_spans_32 : decode cX9_spans 32 = .ok (.aload_n 0, 1) := dk_42 (c := cX9_spans) (pc := 32) (dk_at bnames04cX9_spans_0 32)
theorem dX9_spans_33 : decode cX9_spans 33 = .ok (.iload_n 2, 1) := dk_28 (c := cX9_spans) (pc := 33) (dk_at bnames04cX9_spans_0 33)
theorem dX9_spans_34 : decode cX9_spans 34 = .ok (.invokevirtual 469, 3) := dk_182 (c := cX9_spans) (pc := 34) (a := 1) (b := 213) (dk_at bnames04cX9_spans_0 34) rfl
theorem dX9_spans_37 : decode cX9_spans 37 = .ok (.aload_n 0, 1) := dk_42 (c := cX9_spans) (pc := 37) (dk_at bnames04cX9_spans_0 37)
theorem dX9_spans_38 : decode cX9_spans 38 = .ok (.getfield 122, 3) := dk_180 (c := cX9_spans) (pc := 38) (a := 0) (b := 122) (dk_at bnames04cX9_spans_0 38) rfl
theorem dX9_spans_41 : decode cX9_spans 41 = .ok (.bipush 99, 2) := dk_16 (c := cX9_spans) (pc := 41) (a := 99) (dk_at bnames04cX9_spans_0 41) (by decide)
theorem dX9_spans_43 : decode cX9_spans 43 = .ok (.iload_n 2, 1) := dk_28 (c := cX9_spans) (pc := 43) (dk_at bnames04cX9_spans_0 43)
theorem dX9_spans_44 : decode cX9_spans 44 = .ok (.iadd, 1) := dk_96 (c := cX9_spans) (pc := 44) (dk_at bnames04cX9_spans_0 44)
theorem dX9_spans_45 : decode cX9_spans 45 = .ok (.aload_n 0, 1) := dk_42 (c := cX9_spans) (pc := 45) (dk_at bnames04cX9_spans_0 45)
theorem dX9_spans_46 : decode cX9_spans 46 = .ok (.getfield 463, 3) := dk_180 (c := cX9_spans) (pc := 46) (a := 1) (b := 207) (dk_at bnames04cX9_spans_0 46) rfl
theorem bnames04cX9_spans_48 : ((dk_l cX9_spans).drop 48).take 29 = [207, 42, 180, 1, 207, 105, 42, 27, 182, 1, 216, 148, 157, 0, 7, 4, 167, 0, 4, 3, 84, 132, 2, 1, 167, 255, 210, 4, 172] := by decide +kernel
theorem dX9_spans_49 : decode cX9_spans 49 = .ok (.aload_n 0, 1) := dk_42 (c := cX9_spans) (pc := 49) (dk_at bnames04cX9_spans_48 1)
theorem dX9_spans_50 : decode cX9_spans 50 = .ok (.getfield 463, 3) := dk_180 (c := cX9_spans) (pc := 50) (a := 1) (b := 207) (dk_at bnames04cX9_spans_48 2) rfl
theorem dX9_spans_53 : decode cX9_spans 53 = .ok (.lmul, 1) := dk_105 (c := cX9_spans) (pc := 53) (dk_at bnames04cX9_spans_48 5)
theorem dX9_spans_54 : decode cX9_spans 54 = .ok (.aload_n 0, 1) := dk_42 (c := cX9_spans) (pc := 54) (dk_at bnames04cX9_spans_48 6)
theorem dX9_spans_55 : decode cX9_spans 55 = .ok (.iload_n 1, 1) := dk_27 (c := cX9_spans) (pc := 55) (dk_at bnames04cX9_spans_48 7)
theorem dX9_spans_56 : decode cX9_spans 56 = .ok (.invokevirtual 472, 3) := dk_182 (c := cX9_spans) (pc := 56) (a := 1) (b := 216) (dk_at bnames04cX9_spans_48 8) rfl
theorem dX9_spans_59 : decode cX9_spans 59 = .ok (.lcmp, 1) := dk_148 (c := cX9_spans) (pc := 59) (dk_at bnames04cX9_spans_48 11)
theorem dX9_spans_60 : decode cX9_spans 60 = .ok (.ifCond .gt 7, 3) := dk_157 (c := cX9_spans) (pc := 60) (a := 0) (b := 7) (dk_at bnames04cX9_spans_48 12) (by decide)
theorem dX9_spans_63 : decode cX9_spans 63 = .ok (.iconst 1, 1) := dk_4 (c := cX9_spans) (pc := 63) (dk_at bnames04cX9_spans_48 15)
theorem dX9_spans_64 : decode cX9_spans 64 = .ok (.goto 4, 3) := dk_167 (c := cX9_spans) (pc := 64) (a := 0) (b := 4) (dk_at bnames04cX9_spans_48 16) (by decide)
theorem dX9_spans_67 : decode cX9_spans 67 = .ok (.iconst 0, 1) := dk_3 (c := cX9_spans) (pc := 67) (dk_at bnames04cX9_spans_48 19)
theorem dX9_spans_68 : decode cX9_spans 68 = .ok (.bastore, 1) := dk_84 (c := cX9_spans) (pc := 68) (dk_at bnames04cX9_spans_48 20)
theorem dX9_spans_69 : decode cX9_spans 69 = .ok (.iinc 2 1, 3) := dk_132 (c := cX9_spans) (pc := 69) (a := 2) (b := 1) (dk_at bnames04cX9_spans_48 21) rfl (by decide)
theorem dX9_spans_72 : decode cX9_spans 72 = .ok (.goto (-46), 3) := dk_167 (c := cX9_spans) (pc := 72) (a := 255) (b := 210) (dk_at bnames04cX9_spans_48 24) (by decide)
theorem dX9_spans_75 : decode cX9_spans 75 = .ok (.iconst 1, 1) := dk_4 (c := cX9_spans) (pc := 75) (dk_at bnames04cX9_spans_48 27)
theorem dX9_spans_76 : decode cX9_spans 76 = .ok (.ireturn, 1) := dk_172 (c := cX9_spans) (pc := 76) (dk_at bnames04cX9_spans_48 28)
set_option maxRecDepth 20000 in
theorem ggX9_usuals_X9_byMoved : GoodIn wsX9_usuals wsX9_byMoved := goodIn_r _ [12, 13, 14, 15, 16, 17, 18, 19, 20, 21, 11, 22, 23, 24, 25, 26, 27, 28, 29, 30, 31, 32, 33, 34, 35, 36, 1, 3, 37, 38, 39, 40, 41, 55, 56, 57, 58, 59, 60, 61, 62, 63, 64, 65, 66, 67, 68, 69, 70, 71, 72, 73, 74, 75, 76, 77, 78, 79, 80, 81, 82, 83, 84, 85, 86, 87, 88, 89, 90, 91, 92, 93, 94, 95, 96, 97, 98, 99, 100, 101, 102, 103, 104, 105, 106, 107, 108, 109, 110, 111, 112, 113, 114] rfl (by decide +kernel)
set_option maxRecDepth 20000 in
theorem gX9_usuals_X9_byMoved : GoodIn wsX9_usuals (wsV RX9 433 RX9 yX9_byMoved wsX9_byMoved) := goodIn_app (goodIn_r _ [8, 9, 10, 11] rfl (by decide +kernel)) ggX9_usuals_X9_byMoved
set_option maxRecDepth 20000 in
theorem ggX9_usuals_X9_in : GoodIn wsX9_usuals wsX9_in := goodIn_r _ [44] rfl (by decide +kernel)
set_option maxRecDepth 20000 in
theorem gX9_usuals_X9_in : GoodIn wsX9_usuals (va_wsS RX9 130 yX9_in wsX9_in) := goodIn_app (goodIn_r _ [42, 43, 11] rfl (by decide +kernel)) ggX9_usuals_X9_in
set_option maxRecDepth 20000 in
theorem ggX9_usuals_X9_leaves : GoodIn wsX9_usuals wsX9_leaves := goodIn_r _ [48, 2, 27, 26, 28, 14, 16, 7, 49, 55, 56, 57, 58, 59, 60, 61, 62, 63, 64, 65, 66, 67, 68, 69, 70, 71, 72, 73, 74, 75, 76, 77, 78, 79, 80, 81, 82, 83, 84, 85, 86, 87, 88, 89, 90, 91, 92, 93, 94, 95, 96, 97, 98, 99, 100, 101, 102, 103, 104, 105, 106, 107, 108, 109, 110, 111, 112, 113, 114] rfl (by decide +kernel)
set_option maxRecDepth 20000 in
theorem gX9_usuals_X9_leaves : GoodIn wsX9_usuals (wsV RX9 469 RX9 yX9_leaves wsX9_leaves) := goodIn_app (goodIn_r _ [45, 46, 47, 11] rfl (by decide +kernel)) ggX9_usuals_X9_leaves
set_option maxRecDepth 20000 in
theorem ggX9_usuals_X9_bound : GoodIn wsX9_usuals wsX9_bound := goodIn_r _ [53, 16, 14, 49, 54, 55, 56, 57, 58, 59, 60, 61, 62, 63, 64, 65, 66, 67, 68, 69, 70, 71, 72, 73, 74, 75, 76, 77, 78, 79, 80, 81, 82, 83, 84, 85, 86, 87, 88, 89, 90, 91, 92, 93, 94, 95, 96, 97, 98, 99, 100, 101, 102, 103, 104, 105, 106, 107, 108, 109, 110, 111, 112, 113, 114] rfl (by decide +kernel)
set_option maxRecDepth 20000 in
theorem gX9_usuals_X9_bound : GoodIn wsX9_usuals (wsV RX9 472 RX9 yX9_bound wsX9_bound) := goodIn_app (goodIn_r _ [50, 51, 52, 11] rfl (by decide +kernel)) ggX9_usuals_X9_bound
theorem bnames04cX9_usuals_0 : ((dk_l cX9_usuals).drop 0).take 52 = [42, 182, 1, 177, 65, 42, 180, 1, 146, 153, 0, 30, 42, 180, 0, 89, 3, 46, 6, 161, 0, 20, 32, 20, 1, 150, 109, 20, 1, 219, 20, 1, 221, 184, 0, 130, 154, 0, 5, 3, 172, 42, 32, 20, 1, 150, 109, 136, 182, 1, 213, 42] := by decide +kernel
theorem dX9_usuals_0 : decode cX9_usuals 0 = .ok (.aload_n 0, 1) := dk_42 (c := cX9_usuals) (pc := 0) (dk_at bnames04cX9_usuals_0 0)
theorem dX9_usuals_1 : decode cX9_usuals 1 = .ok (.invokevirtual 433, 3) := dk_182 (c := cX9_usuals) (pc := 1) (a := 1) (b := 177) (dk_at bnames04cX9_usuals_0 1) rfl
theorem dX9_usuals_4 : decode cX9_usuals 4 = .ok (.lstore_n 2, 1) := dk_65 (c := cX9_usuals) (pc := 4) (dk_at bnames04cX9_usuals_0 4)
theorem dX9_usuals_5 : decode cX9_usuals 5 = .ok (.aload_n 0, 1) := dk_42 (c := cX9_usuals) (pc := 5) (dk_at bnames04cX9_usuals_0 5)
