theorem bnames03cX9_lawLine_0 : ((dk_l cX9_lawLine).drop 0).take 52 = [42, 180, 0, 37, 16, 24, 42, 180, 0, 34, 7, 46, 96, 42, 20, 0, 207, 7, 16, 9, 182, 0, 209, 79, 42, 180, 0, 40, 16, 24, 42, 180, 0, 34, 7, 46, 96, 42, 20, 0, 212, 16, 10, 16, 20, 182, 0, 209, 79, 42, 180, 0] := by decide +kernel
theorem dX9_lawLine_43 : decode cX9_lawLine 43 = .ok (.bipush 20, 2) := dk_16 (c := cX9_lawLine) (pc := 43) (a := 20) (dk_at bnames03cX9_lawLine_0 43) (by decide)
theorem dX9_lawLine_45 : decode cX9_lawLine 45 = .ok (.invokevirtual 209, 3) := dk_182 (c := cX9_lawLine) (pc := 45) (a := 0) (b := 209) (dk_at bnames03cX9_lawLine_0 45) rfl
theorem bnames03cX9_lawLine_48 : ((dk_l cX9_lawLine).drop 48).take 12 = [79, 42, 180, 0, 34, 7, 92, 46, 4, 96, 79, 177] := by decide +kernel
theorem dX9_lawLine_48 : decode cX9_lawLine 48 = .ok (.iastore, 1) := dk_79 (c := cX9_lawLine) (pc := 48) (dk_at bnames03cX9_lawLine_48 0)
theorem dX9_lawLine_49 : decode cX9_lawLine 49 = .ok (.aload_n 0, 1) := dk_42 (c := cX9_lawLine) (pc := 49) (dk_at bnames03cX9_lawLine_48 1)
theorem dX9_lawLine_50 : decode cX9_lawLine 50 = .ok (.getfield 34, 3) := dk_180 (c := cX9_lawLine) (pc := 50) (a := 0) (b := 34) (dk_at bnames03cX9_lawLine_48 2) rfl
theorem dX9_lawLine_53 : decode cX9_lawLine 53 = .ok (.iconst 4, 1) := dk_7 (c := cX9_lawLine) (pc := 53) (dk_at bnames03cX9_lawLine_48 5)
theorem dX9_lawLine_54 : decode cX9_lawLine 54 = .ok (.dup2, 1) := dk_92 (c := cX9_lawLine) (pc := 54) (dk_at bnames03cX9_lawLine_48 6)
theorem dX9_lawLine_55 : decode cX9_lawLine 55 = .ok (.iaload, 1) := dk_46 (c := cX9_lawLine) (pc := 55) (dk_at bnames03cX9_lawLine_48 7)
theorem dX9_lawLine_56 : decode cX9_lawLine 56 = .ok (.iconst 1, 1) := dk_4 (c := cX9_lawLine) (pc := 56) (dk_at bnames03cX9_lawLine_48 8)
theorem dX9_lawLine_57 : decode cX9_lawLine 57 = .ok (.iadd, 1) := dk_96 (c := cX9_lawLine) (pc := 57) (dk_at bnames03cX9_lawLine_48 9)
theorem dX9_lawLine_58 : decode cX9_lawLine 58 = .ok (.iastore, 1) := dk_79 (c := cX9_lawLine) (pc := 58) (dk_at bnames03cX9_lawLine_48 10)
theorem dX9_lawLine_59 : decode cX9_lawLine 59 = .ok (.return_, 1) := dk_177 (c := cX9_lawLine) (pc := 59) (dk_at bnames03cX9_lawLine_48 11)
set_option maxRecDepth 20000 in
theorem ggX9_sortLine_X9_number_ : GoodIn wsX9_sortLine wsX9_number_ := goodIn_r _ [14, 15, 16, 17, 13, 18, 19, 20, 21, 22, 23, 24, 25, 26, 27, 28, 29, 30, 31, 32, 33, 34, 35, 36, 37, 38, 39, 40, 41, 42, 43, 44, 45, 46, 47, 48, 49, 50, 51, 52, 53, 54, 55, 56, 57, 58, 59, 60, 61, 62, 63, 64, 65, 66, 67, 68, 69, 70, 71, 72, 73, 74, 75, 76, 77, 78, 79, 80, 81, 82, 83, 84, 85, 86, 87, 88, 89, 90, 91, 92, 93, 94, 95, 96, 97, 98, 99, 100, 101, 102, 103, 104, 105, 106, 107, 108, 109, 110, 111, 112, 113, 114, 115, 116, 117, 118, 119] rfl (by decide +kernel)
set_option maxRecDepth 20000 in
theorem gX9_sortLine_X9_number_ : GoodIn wsX9_sortLine (wsV RX9 209 RX9 yX9_number_ wsX9_number_) := goodIn_app (goodIn_r _ [10, 11, 12, 13] rfl (by decide +kernel)) ggX9_sortLine_X9_number_
set_option maxRecDepth 20000 in
theorem ggX9_sortLine_X9_is : GoodIn wsX9_sortLine wsX9_is := goodIn_r _ [26, 27, 28, 29, 60, 61, 62, 63, 64, 65, 66, 67, 68, 69, 70, 71, 72, 73, 74, 75, 76, 77, 78, 79, 80, 81, 82, 83, 84, 85, 86, 87, 88, 89, 90, 91, 92, 93, 94, 95, 96, 97, 98, 99, 100, 101, 102, 103, 104, 105, 106, 107, 108, 109, 110, 111, 112, 113, 114, 115, 116, 117, 118, 119] rfl (by decide +kernel)
set_option maxRecDepth 20000 in
theorem gX9_sortLine_X9_is : GoodIn wsX9_sortLine (wsV RX9 183 RX9 yX9_is wsX9_is) := goodIn_app (goodIn_r _ [23, 24, 25, 13] rfl (by decide +kernel)) ggX9_sortLine_X9_is
theorem bnames03cX9_sortLine_0 : ((dk_l cX9_sortLine).drop 0).take 52 = [16, 32, 42, 180, 0, 43, 7, 46, 96, 60, 42, 180, 0, 46, 27, 42, 20, 0, 214, 4, 16, 99, 182, 0, 209, 79, 42, 180, 0, 49, 27, 42, 20, 0, 216, 3, 16, 99, 182, 0, 209, 79, 42, 180, 0, 52, 27, 42, 20, 0, 218, 3] := by decide +kernel
theorem dX9_sortLine_0 : decode cX9_sortLine 0 = .ok (.bipush 32, 2) := dk_16 (c := cX9_sortLine) (pc := 0) (a := 32) (dk_at bnames03cX9_sortLine_0 0) (by decide)
theorem dX9_sortLine_2 : decode cX9_sortLine 2 = .ok (.aload_n 0, 1) := dk_42 (c := cX9_sortLine) (pc := 2) (dk_at bnames03cX9_sortLine_0 2)
theorem dX9_sortLine_3 : decode cX9_sortLine 3 = .ok (.getfield 43, 3) := dk_180 (c := cX9_sortLine) (pc := 3) (a := 0) (b := 43) (dk_at bnames03cX9_sortLine_0 3) rfl
theorem dX9_sortLine_6 : decode cX9_sortLine 6 = .ok (.iconst 4, 1) := dk_7 (c := cX9_sortLine) (pc := 6) (dk_at bnames03cX9_sortLine_0 6)
theorem dX9_sortLine_7 : decode cX9_sortLine 7 = .ok (.iaload, 1) := dk_46 (c := cX9_sortLine) (pc := 7) (dk_at bnames03cX9_sortLine_0 7)
theorem dX9_sortLine_8 : decode cX9_sortLine 8 = .ok (.iadd, 1) := dk_96 (c := cX9_sortLine) (pc := 8) (dk_at bnames03cX9_sortLine_0 8)
theorem dX9_sortLine_9 : decode cX9_sortLine 9 = .ok (.istore_n 1, 1) := dk_60 (c := cX9_sortLine) (pc := 9) (dk_at bnames03cX9_sortLine_0 9)
theorem dX9_sortLine_10 : decode cX9_sortLine 10 = .ok (.aload_n 0, 1) := dk_42 (c := cX9_sortLine) (pc := 10) (dk_at bnames03cX9_sortLine_0 10)
theorem dX9_sortLine_11 : decode cX9_sortLine 11 = .ok (.getfield 46, 3) := dk_180 (c := cX9_sortLine) (pc := 11) (a := 0) (b := 46) (dk_at bnames03cX9_sortLine_0 11) rfl
theorem dX9_sortLine_14 : decode cX9_sortLine 14 = .ok (.iload_n 1, 1) := dk_27 (c := cX9_sortLine) (pc := 14) (dk_at bnames03cX9_sortLine_0 14)
theorem dX9_sortLine_15 : decode cX9_sortLine 15 = .ok (.aload_n 0, 1) := dk_42 (c := cX9_sortLine) (pc := 15) (dk_at bnames03cX9_sortLine_0 15)
theorem dX9_sortLine_16 : decode cX9_sortLine 16 = .ok (.ldc2_w 214, 3) := dk_20 (c := cX9_sortLine) (pc := 16) (a := 0) (b := 214) (dk_at bnames03cX9_sortLine_0 16) rfl
theorem dX9_sortLine_19 : decode cX9_sortLine 19 = .ok (.iconst 1, 1) := dk_4 (c := cX9_sortLine) (pc := 19) (dk_at bnames03cX9_sortLine_0 19)
theorem dX9_sortLine_20 : decode cX9_sortLine 20 = .ok (.bipush 99, 2) := dk_16 (c := cX9_sortLine) (pc := 20) (a := 99) (dk_at bnames03cX9_sortLine_0 20) (by decide)
theorem dX9_sortLine_22 : decode cX9_sortLine 22 = .ok (.invokevirtual 209, 3) := dk_182 (c := cX9_sortLine) (pc := 22) (a := 0) (b := 209) (dk_at bnames03cX9_sortLine_0 22) rfl
theorem dX9_sortLine_25 : decode cX9_sortLine 25 = .ok (.iastore, 1) := dk_79 (c := cX9_sortLine) (pc := 25) (dk_at bnames03cX9_sortLine_0 25)
theorem dX9_sortLine_26 : decode cX9_sortLine 26 = .ok (.aload_n 0, 1) := dk_42 (c := cX9_sortLine) (pc := 26) (dk_at bnames03cX9_sortLine_0 26)
theorem dX9_sortLine_27 : decode cX9_sortLine 27 = .ok (.getfield 49, 3) := dk_180 (c := cX9_sortLine) (pc := 27) (a := 0) (b := 49) (dk_at bnames03cX9_sortLine_0 27) rfl
theorem dX9_sortLine_30 : decode cX9_sortLine 30 = .ok (.iload_n 1, 1) := dk_27 (c := cX9_sortLine) (pc := 30) (dk_at bnames03cX9_sortLine_0 30)
theorem dX9_sortLine_31 : decode cX9_sortLine 31 = .ok (.aload_n 0, 1) := dk_42 (c := cX9_sortLine) (pc := 31) (dk_at bnames03cX9_sortLine_0 31)
theorem dX9_sortLine_32 : decode cX9_sortLine 32 = .ok (.ldc2_w 216, 3) := dk_20 (c := cX9_sortLine) (pc := 32) (a := 0) (b := 216) (dk_at bnames03cX9_sortLine_0 32) rfl
theorem dX9_sortLine_35 : decode cX9_sortLine 35 = .ok (.iconst 0, 1) := dk_3 (c := cX9_sortLine) (pc := 35) (dk_at bnames03cX9_sortLine_0 35)
theorem dX9_sortLine_36 : decode cX9_sortLine 36 = .ok (.bipush 99, 2) := dk_16 (c := cX9_sortLine) (pc := 36) (a := 99) (dk_at bnames03cX9_sortLine_0 36) (by decide)
theorem dX9_sortLine_38 : decode cX9_sortLine 38 = .ok (.invokevirtual 209, 3) := dk_182 (c := cX9_sortLine) (pc := 38) (a := 0) (b := 209) (dk_at bnames03cX9_sortLine_0 38) rfl
theorem dX9_sortLine_41 : decode cX9_sortLine 41 = .ok (.iastore, 1) := dk_79 (c := cX9_sortLine) (pc := 41) (dk_at bnames03cX9_sortLine_0 41)
theorem dX9_sortLine_42 : decode cX9_sortLine 42 = .ok (.aload_n 0, 1) := dk_42 (c := cX9_sortLine) (pc := 42) (dk_at bnames03cX9_sortLine_0 42)
theorem dX9_sortLine_43 : decode cX9_sortLine 43 = .ok (.getfield 52, 3) := dk_180 (c := cX9_sortLine) (pc := 43) (a := 0) (b := 52) (dk_at bnames03cX9_sortLine_0 43) rfl
theorem dX9_sortLine_46 : decode cX9_sortLine 46 = .ok (.iload_n 1, 1) := dk_27 (c := cX9_sortLine) (pc := 46) (dk_at bnames03cX9_sortLine_0 46)
theorem dX9_sortLine_47 : decode cX9_sortLine 47 = .ok (.aload_n 0, 1) := dk_42 (c := cX9_sortLine) (pc := 47) (dk_at bnames03cX9_sortLine_0 47)
theorem bnames03cX9_sortLine_48 : ((dk_l cX9_sortLine).drop 48).take 52 = [20, 0, 218, 3, 17, 0, 240, 182, 0, 209, 79, 42, 180, 0, 55, 27, 42, 20, 0, 220, 182, 0, 183, 153, 0, 16, 42, 20, 0, 220, 3, 16, 60, 182, 0, 209, 167, 0, 4, 3, 79, 42, 180, 0, 43, 7, 92, 46, 4, 96, 79, 177] := by decide +kernel
theorem dX9_sortLine_48 : decode cX9_sortLine 48 = .ok (.ldc2_w 218, 3) := dk_20 (c := cX9_sortLine) (pc := 48) (a := 0) (b := 218) (dk_at bnames03cX9_sortLine_48 0) rfl
theorem dX9_sortLine_51 : decode cX9_sortLine 51 = .ok (.iconst 0, 1) := dk_3 (c := cX9_sortLine) (pc := 51) (dk_at bnames03cX9_sortLine_48 3)
theorem dX9_sortLine_52 : decode cX9_sortLine 52 = .ok (.sipush 240, 3) := dk_17 (c := cX9_sortLine) (pc := 52) (a := 0) (b := 240) (dk_at bnames03cX9_sortLine_48 4) (by decide)
theorem dX9_sortLine_55 : decode cX9_sortLine 55 = .ok (.invokevirtual 209, 3) := dk_182 (c := cX9_sortLine) (pc := 55) (a := 0) (b := 209) (dk_at bnames03cX9_sortLine_48 7) rfl
theorem dX9_sortLine_58 : decode cX9_sortLine 58 = .ok (.iastore, 1) := dk_79 (c := cX9_sortLine) (pc := 58) (dk_at bnames03cX9_sortLine_48 10)
theorem dX9_sortLine_59 : decode cX9_sortLine 59 = .ok (.aload_n 0, 1) := dk_42 (c := cX9_sortLine) (pc := 59) (dk_at bnames03cX9_sortLine_48 11)
theorem dX9_sortLine_60 : decode cX9_sortLine 60 = .ok (.getfield 55, 3) := dk_180 (c := cX9_sortLine) (pc := 60) (a := 0) (b := 55) (dk_at bnames03cX9_sortLine_48 12) rfl
theorem dX9_sortLine_63 : decode cX9_sortLine 63 = .ok (.iload_n 1, 1) := dk_27 (c := cX9_sortLine) (pc := 63) (dk_at bnames03cX9_sortLine_48 15)
theorem dX9_sortLine_64 : decode cX9_sortLine 64 = .ok (.aload_n 0, 1) := dk_42 (c := cX9_sortLine) (pc := 64) (dk_at bnames03cX9_sortLine_48 16)
theorem dX9_sortLine_65 : decode cX9_sortLine 65 = .ok (.ldc2_w 220, 3) := dk_20 (c := cX9_sortLine) (pc := 65) (a := 0) (b := 220) (dk_at bnames03cX9_sortLine_48 17) rfl
theorem dX9_sortLine_68 : decode cX9_sortLine 68 = .ok (.invokevirtual 183, 3) := dk_182 (c := cX9_sortLine) (pc := 68) (a := 0) (b := 183) (dk_at bnames03cX9_sortLine_48 20) rfl
theorem dX9_sortLine_71 : decode cX9_sortLine 71 = .ok (.ifCond .eq 16, 3) := dk_153 (c := cX9_sortLine) (pc := 71) (a := 0) (b := 16) (dk_at bnames03cX9_sortLine_48 23) (by decide)
theorem dX9_sortLine_74 : decode cX9_sortLine 74 = .ok (.aload_n 0, 1) := dk_42 (c := cX9_sortLine) (pc := 74) (dk_at bnames03cX9_sortLine_48 26)
theorem dX9_sortLine_75 : decode cX9_sortLine 75 = .ok (.ldc2_w 220, 3) := dk_20 (c := cX9_sortLine) (pc := 75) (a := 0) (b := 220) (dk_at bnames03cX9_sortLine_48 27) rfl
theorem dX9_sortLine_78 : decode cX9_sortLine 78 = .ok (.iconst 0, 1) := dk_3 (c := cX9_sortLine) (pc := 78) (dk_at bnames03cX9_sortLine_48 30)
theorem dX9_sortLine_79 : decode cX9_sortLine 79 = .ok (.bipush 60, 2) := dk_16 (c := cX9_sortLine) (pc := 79) (a := 60) (dk_at bnames03cX9_sortLine_48 31) (by decide)
theorem dX9_sortLine_81 : decode cX9_sortLine 81 = .ok (.invokevirtual 209, 3) := dk_182 (c := cX9_sortLine) (pc := 81) (a := 0) (b := 209) (dk_at bnames03cX9_sortLine_48 33) rfl
theorem dX9_sortLine_84 : decode cX9_sortLine 84 = .ok (.goto 4, 3) := dk_167 (c := cX9_sortLine) (pc := 84) (a := 0) (b := 4) (dk_at bnames03cX9_sortLine_48 36) (by decide)
theorem dX9_sortLine_87 : decode cX9_sortLine 87 = .ok (.iconst 0, 1) := dk_3 (c := cX9_sortLine) (pc := 87) (dk_at bnames03cX9_sortLine_48 39)
theorem dX9_sortLine_88 : decode cX9_sortLine 88 = .ok (.iastore, 1) := dk_79 (c := cX9_sortLine) (pc := 88) (dk_at bnames03cX9_sortLine_48 40)
theorem dX9_sortLine_89 : decode cX9_sortLine 89 = .ok (.aload_n 0, 1) := dk_42 (c := cX9_sortLine) (pc := 89) (dk_at bnames03cX9_sortLine_48 41)
theorem dX9_sortLine_90 : decode cX9_sortLine 90 = .ok (.getfield 43, 3) := dk_180 (c := cX9_sortLine) (pc := 90) (a := 0) (b := 43) (dk_at bnames03cX9_sortLine_48 42) rfl
theorem dX9_sortLine_93 : decode cX9_sortLine 93 = .ok (.iconst 4, 1) := dk_7 (c := cX9_sortLine) (pc := 93) (dk_at bnames03cX9_sortLine_48 45)
theorem dX9_sortLine_94 : decode cX9_sortLine 94 = .ok (.dup2, 1) := dk_92 (c := cX9_sortLine) (pc := 94) (dk_at bnames03cX9_sortLine_48 46)
theorem dX9_sortLine_95 : decode cX9_sortLine 95 = .ok (.iaload, 1) := dk_46 (c := cX9_sortLine) (pc := 95) (dk_at bnames03cX9_sortLine_48 47)
theorem bnames03cX9_sortLine_96 : ((dk_l cX9_sortLine).drop 96).take 4 = [4, 96, 79, 177] := by decide +kernel
theorem dX9_sortLine_96 : decode cX9_sortLine 96 = .ok (.iconst 1, 1) := dk_4 (c := cX9_sortLine) (pc := 96) (dk_at bnames03cX9_sortLine_96 0)
theorem dX9_sortLine_97 : decode cX9_sortLine 97 = .ok (.iadd, 1) := dk_96 (c := cX9_sortLine) (pc := 97) (dk_at bnames03cX9_sortLine_96 1)
theorem dX9_sortLine_98 : decode cX9_sortLine 98 = .ok (.iastore, 1) := dk_79 (c := cX9_sortLine) (pc := 98) (dk_at bnames03cX9_sortLine_96 2)
theorem dX9_sortLine_99 : decode cX9_sortLine 99 = .ok (.return_, 1) := dk_177 (c := cX9_sortLine) (pc := 99) (dk_at bnames03cX9_sortLine_96 3)
set_option maxRecDepth 20000 in
theorem ggX9_leakLine_X9_in : GoodIn wsX9_leakLine wsX9_in := goodIn_r _ [10] rfl (by decide +kernel)
set_option maxRecDepth 20000 in
theorem gX9_leakLine_X9_in : GoodIn wsX9_leakLine (va_wsS RX9 130 yX9_in wsX9_in) := goodIn_app (goodIn_r _ [7, 8, 9] rfl (by decide +kernel)) ggX9_leakLine_X9_in
set_option maxRecDepth 20000 in
theorem ggX9_leakLine_X9_fails : GoodIn wsX9_leakLine wsX9_fails := goodIn_r _ [14, 15, 16, 17, 55, 56, 57, 58, 59, 60, 61, 62, 63, 64, 65, 66, 67, 68, 69, 70, 71, 72, 73, 74, 75, 76, 77, 78, 79, 80, 81, 82, 83, 84, 85, 86, 87, 88, 89, 90, 91, 92, 93, 94, 95, 96, 97, 98, 99, 100, 101, 102, 103, 104, 105, 106, 107, 108, 109, 110, 111, 112, 113, 114] rfl (by decide +kernel)
set_option maxRecDepth 20000 in
theorem gX9_leakLine_X9_fails : GoodIn wsX9_leakLine (wsV RX9 193 RX9 yX9_fails wsX9_fails) := goodIn_app (goodIn_r _ [11, 12, 13, 9] rfl (by decide +kernel)) ggX9_leakLine_X9_fails
set_option maxRecDepth 20000 in
theorem ggX9_leakLine_X9_number : GoodIn wsX9_leakLine wsX9_number := goodIn_r _ [21, 15, 1, 2, 11, 12, 13, 9, 14, 16, 17, 7, 8, 10, 22, 23, 24, 25, 26, 27, 28, 29, 30, 31, 32, 33, 34, 35, 36, 37, 38, 55, 56, 57, 58, 59, 60, 61, 62, 63, 64, 65, 66, 67, 68, 69, 70, 71, 72, 73, 74, 75, 76, 77, 78, 79, 80, 81, 82, 83, 84, 85, 86, 87, 88, 89, 90, 91, 92, 93, 94, 95, 96, 97, 98, 99, 100, 101, 102, 103, 104, 105, 106, 107, 108, 109, 110, 111, 112, 113, 114] rfl (by decide +kernel)
set_option maxRecDepth 20000 in
theorem gX9_leakLine_X9_number : GoodIn wsX9_leakLine (wsV RX9 200 RX9 yX9_number wsX9_number) := goodIn_app (goodIn_r _ [18, 19, 20, 9] rfl (by decide +kernel)) ggX9_leakLine_X9_number
set_option maxRecDepth 20000 in
theorem ggX9_leakLine_X9_number_ : GoodIn wsX9_leakLine wsX9_number_ := goodIn_r _ [42, 43, 44, 45, 9, 46, 47, 48, 49, 50, 51, 52, 53, 54, 15, 1, 27, 22, 23, 24, 25, 26, 16, 2, 28, 29, 30, 31, 32, 33, 34, 35, 36, 37, 38, 11, 12, 13, 14, 17, 18, 19, 20, 21, 7, 8, 10, 55, 56, 57, 58, 59, 60, 61, 62, 63, 64, 65, 66, 67, 68, 69, 70, 71, 72, 73, 74, 75, 76, 77, 78, 79, 80, 81, 82, 83, 84, 85, 86, 87, 88, 89, 90, 91, 92, 93, 94, 95, 96, 97, 98, 99, 100, 101, 102, 103, 104, 105, 106, 107, 108, 109, 110, 111, 112, 113, 114] rfl (by decide +kernel)
set_option maxRecDepth 20000 in
theorem gX9_leakLine_X9_number_ : GoodIn wsX9_leakLine (wsV RX9 209 RX9 yX9_number_ wsX9_number_) := goodIn_app (goodIn_r _ [39, 40, 41, 9] rfl (by decide +kernel)) ggX9_leakLine_X9_number_
theorem bnames03cX9_leakLine_0 : ((dk_l cX9_leakLine).drop 0).take 52 = [42, 180, 0, 166, 5, 160, 0, 40, 42, 180, 0, 159, 133, 10, 20, 0, 222, 184, 0, 130, 153, 0, 25, 42, 180, 0, 58, 16, 48, 42, 180, 0, 159, 96, 4, 100, 51, 153, 0, 8, 42, 5, 182, 0, 193, 42, 4, 16, 12, 182, 0, 200] := by decide +kernel
theorem dX9_leakLine_0 : decode cX9_leakLine 0 = .ok (.aload_n 0, 1) := dk_42 (c := cX9_leakLine) (pc := 0) (dk_at bnames03cX9_leakLine_0 0)
theorem dX9_leakLine_1 : decode cX9_leakLine 1 = .ok (.getfield 166, 3) := dk_180 (c := cX9_leakLine) (pc := 1) (a := 0) (b := 166) (dk_at bnames03cX9_leakLine_0 1) rfl
theorem dX9_leakLine_4 : decode cX9_leakLine 4 = .ok (.iconst 2, 1) := dk_5 (c := cX9_leakLine) (pc := 4) (dk_at bnames03cX9_leakLine_0 4)
theorem dX9_leakLine_5 : decode cX9_leakLine 5 = .ok (.if_icmp .ne 40, 3) := dk_160 (c := cX9_leakLine) (pc := 5) (a := 0) (b := 40) (dk_at bnames03cX9_leakLine_0 5) (by decide)
theorem dX9_leakLine_8 : decode cX9_leakLine 8 = .ok (.aload_n 0, 1) := dk_42 (c := cX9_leakLine) (pc := 8) (dk_at bnames03cX9_leakLine_0 8)
theorem dX9_leakLine_9 : decode cX9_leakLine 9 = .ok (.getfield 159, 3) := dk_180 (c := cX9_leakLine) (pc := 9) (a := 0) (b := 159) (dk_at bnames03cX9_leakLine_0 9) rfl
theorem dX9_leakLine_12 : decode cX9_leakLine 12 = .ok (.i2l, 1) := dk_133 (c := cX9_leakLine) (pc := 12) (dk_at bnames03cX9_leakLine_0 12)
theorem dX9_leakLine_13 : decode cX9_leakLine 13 = .ok (.lconst 1, 1) := dk_10 (c := cX9_leakLine) (pc := 13) (dk_at bnames03cX9_leakLine_0 13)
theorem dX9_leakLine_14 : decode cX9_leakLine 14 = .ok (.ldc2_w 222, 3) := dk_20 (c := cX9_leakLine) (pc := 14) (a := 0) (b := 222) (dk_at bnames03cX9_leakLine_0 14) rfl
theorem dX9_leakLine_17 : decode cX9_leakLine 17 = .ok (.invokestatic 130, 3) := dk_184 (c := cX9_leakLine) (pc := 17) (a := 0) (b := 130) (dk_at bnames03cX9_leakLine_0 17) rfl
theorem dX9_leakLine_20 : decode cX9_leakLine 20 = .ok (.ifCond .eq 25, 3) := dk_153 (c := cX9_leakLine) (pc := 20) (a := 0) (b := 25) (dk_at bnames03cX9_leakLine_0 20) (by decide)
theorem dX9_leakLine_23 : decode cX9_leakLine 23 = .ok (.aload_n 0, 1) := dk_42 (c := cX9_leakLine) (pc := 23) (dk_at bnames03cX9_leakLine_0 23)
theorem dX9_leakLine_24 : decode cX9_leakLine 24 = .ok (.getfield 58, 3) := dk_180 (c := cX9_leakLine) (pc := 24) (a := 0) (b := 58) (dk_at bnames03cX9_leakLine_0 24) rfl
theorem dX9_leakLine_27 : decode cX9_leakLine 27 = .ok (.bipush 48, 2) := dk_16 (c := cX9_leakLine) (pc := 27) (a := 48) (dk_at bnames03cX9_leakLine_0 27) (by decide)
theorem dX9_leakLine_29 : decode cX9_leakLine 29 = .ok (.aload_n 0, 1) := dk_42 (c := cX9_leakLine) (pc := 29) (dk_at bnames03cX9_leakLine_0 29)
theorem dX9_leakLine_30 : decode cX9_leakLine 30 = .ok (.getfield 159, 3) := dk_180 (c := cX9_leakLine) (pc := 30) (a := 0) (b := 159) (dk_at bnames03cX9_leakLine_0 30) rfl
theorem dX9_leakLine_33 : decode cX9_leakLine 33 = .ok (.iadd, 1) := dk_96 (c := cX9_leakLine) (pc := 33) (dk_at bnames03cX9_leakLine_0 33)
theorem dX9_leakLine_34 : decode cX9_leakLine 34 = .ok (.iconst 1, 1) := dk_4 (c := cX9_leakLine) (pc := 34) (dk_at bnames03cX9_leakLine_0 34)
theorem dX9_leakLine_35 : decode cX9_leakLine 35 = .ok (.isub, 1) := dk_100 (c := cX9_leakLine) (pc := 35) (dk_at bnames03cX9_leakLine_0 35)
theorem dX9_leakLine_36 : decode cX9_leakLine 36 = .ok (.baload, 1) := dk_51 (c := cX9_leakLine) (pc := 36) (dk_at bnames03cX9_leakLine_0 36)
theorem dX9_leakLine_37 : decode cX9_leakLine 37 = .ok (.ifCond .eq 8, 3) := dk_153 (c := cX9_leakLine) (pc := 37) (a := 0) (b := 8) (dk_at bnames03cX9_leakLine_0 37) (by decide)
theorem dX9_leakLine_40 : decode cX9_leakLine 40 = .ok (.aload_n 0, 1) := dk_42 (c := cX9_leakLine) (pc := 40) (dk_at bnames03cX9_leakLine_0 40)
theorem dX9_leakLine_41 : decode cX9_leakLine 41 = .ok (.iconst 2, 1) := dk_5 (c := cX9_leakLine) (pc := 41) (dk_at bnames03cX9_leakLine_0 41)
theorem dX9_leakLine_42 : decode cX9_leakLine 42 = .ok (.invokevirtual 193, 3) := dk_182 (c := cX9_leakLine) (pc := 42) (a := 0) (b := 193) (dk_at bnames03cX9_leakLine_0 42) rfl
theorem dX9_leakLine_45 : decode cX9_leakLine 45 = .ok (.aload_n 0, 1) := dk_42 (c := cX9_leakLine) (pc := 45) (dk_at bnames03cX9_leakLine_0 45)
theorem dX9_leakLine_46 : decode cX9_leakLine 46 = .ok (.iconst 1, 1) := dk_4 (c := cX9_leakLine) (pc := 46) (dk_at bnames03cX9_leakLine_0 46)
theorem dX9_leakLine_47 : decode cX9_leakLine 47 = .ok (.bipush 12, 2) := dk_16 (c := cX9_leakLine) (pc := 47) (a := 12) (dk_at bnames03cX9_leakLine_0 47) (by decide)
theorem bnames03cX9_leakLine_48 : ((dk_l cX9_leakLine).drop 48).take 39 = [12, 182, 0, 200, 4, 100, 60, 42, 20, 0, 224, 3, 16, 99, 182, 0, 209, 61, 42, 180, 0, 58, 16, 48, 27, 96, 4, 84, 42, 180, 0, 62, 16, 48, 27, 96, 28, 79, 177] := by decide +kernel
theorem dX9_leakLine_49 : decode cX9_leakLine 49 = .ok (.invokevirtual 200, 3) := dk_182 (c := cX9_leakLine) (pc := 49) (a := 0) (b := 200) (dk_at bnames03cX9_leakLine_48 1) rfl
theorem dX9_leakLine_52 : decode cX9_leakLine 52 = .ok (.iconst 1, 1) := dk_4 (c := cX9_leakLine) (pc := 52) (dk_at bnames03cX9_leakLine_48 4)
theorem dX9_leakLine_53 : decode cX9_leakLine 53 = .ok (.isub, 1) := dk_100 (c := cX9_leakLine) (pc := 53) (dk_at bnames03cX9_leakLine_48 5)
theorem dX9_leakLine_54 : decode cX9_leakLine 54 = .ok (.istore_n 1, 1) := dk_60 (c := cX9_leakLine) (pc := 54) (dk_at bnames03cX9_leakLine_48 6)
theorem dX9_leakLine_55 : decode cX9_leakLine 55 = .ok (.aload_n 0, 1) := dk_42 (c := cX9_leakLine) (pc := 55) (dk_at bnames03cX9_leakLine_48 7)
theorem dX9_leakLine_56 : decode cX9_leakLine 56 = .ok (.ldc2_w 224, 3) := dk_20 (c := cX9_leakLine) (pc := 56) (a := 0) (b := 224) (dk_at bnames03cX9_leakLine_48 8) rfl
theorem dX9_leakLine_59 : decode cX9_leakLine 59 = .ok (.iconst 0, 1) := dk_3 (c := cX9_leakLine) (pc := 59) (dk_at bnames03cX9_leakLine_48 11)
theorem dX9_leakLine_60 : decode cX9_leakLine 60 = .ok (.bipush 99, 2) := dk_16 (c := cX9_leakLine) (pc := 60) (a := 99) (dk_at bnames03cX9_leakLine_48 12) (by decide)
theorem dX9_leakLine_62 : decode cX9_leakLine 62 = .ok (.invokevirtual 209, 3) := dk_182 (c := cX9_leakLine) (pc := 62) (a := 0) (b := 209) (dk_at bnames03cX9_leakLine_48 14) rfl
theorem dX9_leakLine_65 : decode cX9_leakLine 65 = .ok (.istore_n 2, 1) := dk_61 (c := cX9_leakLine) (pc := 65) (dk_at bnames03cX9_leakLine_48 17)
theorem dX9_leakLine_66 : decode cX9_leakLine 66 = .ok (.aload_n 0, 1) := dk_42 (c := cX9_leakLine) (pc := 66) (dk_at bnames03cX9_leakLine_48 18)
theorem dX9_leakLine_67 : decode cX9_leakLine 67 = .ok (.getfield 58, 3) := dk_180 (c := cX9_leakLine) (pc := 67) (a := 0) (b := 58) (dk_at bnames03cX9_leakLine_48 19) rfl
theorem dX9_leakLine_70 : decode cX9_leakLine 70 = .ok (.bipush 48, 2) := dk_16 (c := cX9_leakLine) (pc := 70) (a := 48) (dk_at bnames03cX9_leakLine_48 22) (by decide)
theorem dX9_leakLine_72 : decode cX9_leakLine 72 = .ok (.iload_n 1, 1) := dk_27 (c := cX9_leakLine) (pc := 72) (dk_at bnames03cX9_leakLine_48 24)
theorem dX9_leakLine_73 : decode cX9_leakLine 73 = .ok (.iadd, 1) := dk_96 (c := cX9_leakLine) (pc := 73) (dk_at bnames03cX9_leakLine_48 25)
theorem dX9_leakLine_74 : decode cX9_leakLine 74 = .ok (.iconst 1, 1) := dk_4 (c := cX9_leakLine) (pc := 74) (dk_at bnames03cX9_leakLine_48 26)
theorem dX9_leakLine_75 : decode cX9_leakLine 75 = .ok (.bastore, 1) := dk_84 (c := cX9_leakLine) (pc := 75) (dk_at bnames03cX9_leakLine_48 27)
theorem dX9_leakLine_76 : decode cX9_leakLine 76 = .ok (.aload_n 0, 1) := dk_42 (c := cX9_leakLine) (pc := 76) (dk_at bnames03cX9_leakLine_48 28)
theorem dX9_leakLine_77 : decode cX9_leakLine 77 = .ok (.getfield 62, 3) := dk_180 (c := cX9_leakLine) (pc := 77) (a := 0) (b := 62) (dk_at bnames03cX9_leakLine_48 29) rfl
theorem dX9_leakLine_80 : decode cX9_leakLine 80 = .ok (.bipush 48, 2) := dk_16 (c := cX9_leakLine) (pc := 80) (a := 48) (dk_at bnames03cX9_leakLine_48 32) (by decide)
theorem dX9_leakLine_82 : decode cX9_leakLine 82 = .ok (.iload_n 1, 1) := dk_27 (c := cX9_leakLine) (pc := 82) (dk_at bnames03cX9_leakLine_48 34)
theorem dX9_leakLine_83 : decode cX9_leakLine 83 = .ok (.iadd, 1) := dk_96 (c := cX9_leakLine) (pc := 83) (dk_at bnames03cX9_leakLine_48 35)
theorem dX9_leakLine_84 : decode cX9_leakLine 84 = .ok (.iload_n 2, 1) := dk_28 (c := cX9_leakLine) (pc := 84) (dk_at bnames03cX9_leakLine_48 36)
theorem dX9_leakLine_85 : decode cX9_leakLine 85 = .ok (.iastore, 1) := dk_79 (c := cX9_leakLine) (pc := 85) (dk_at bnames03cX9_leakLine_48 37)
theorem dX9_leakLine_86 : decode cX9_leakLine 86 = .ok (.return_, 1) := dk_177 (c := cX9_leakLine) (pc := 86) (dk_at bnames03cX9_leakLine_48 38)
theorem bnames03cX9_emit_0 : ((dk_l cX9_emit).drop 0).take 27 = [42, 180, 0, 80, 17, 5, 0, 42, 180, 0, 77, 7, 46, 96, 27, 79, 42, 180, 0, 77, 7, 92, 46, 4, 96, 79, 177] := by decide +kernel
theorem dX9_emit_0 : decode cX9_emit 0 = .ok (.aload_n 0, 1) := dk_42 (c := cX9_emit) (pc := 0) (dk_at bnames03cX9_emit_0 0)
theorem dX9_emit_1 : decode cX9_emit 1 = .ok (.getfield 80, 3) := dk_180 (c := cX9_emit) (pc := 1) (a := 0) (b := 80) (dk_at bnames03cX9_emit_0 1) rfl
theorem dX9_emit_4 : decode cX9_emit 4 = .ok (.sipush 1280, 3) := dk_17 (c := cX9_emit) (pc := 4) (a := 5) (b := 0) (dk_at bnames03cX9_emit_0 4) (by decide)
theorem dX9_emit_7 : decode cX9_emit 7 = .ok (.aload_n 0, 1) := dk_42 (c := cX9_emit) (pc := 7) (dk_at bnames03cX9_emit_0 7)
theorem dX9_emit_8 : decode cX9_emit 8 = .ok (.getfield 77, 3) := dk_180 (c := cX9_emit) (pc := 8) (a := 0) (b := 77) (dk_at bnames03cX9_emit_0 8) rfl
theorem dX9_emit_11 : decode cX9_emit 11 = .ok (.iconst 4, 1) := dk_7 (c := cX9_emit) (pc := 11) (dk_at bnames03cX9_emit_0 11)
theorem dX9_emit_12 : decode cX9_emit 12 = .ok (.iaload, 1) := dk_46 (c := cX9_emit) (pc := 12) (dk_at bnames03cX9_emit_0 12)
theorem dX9_emit_13 : decode cX9_emit 13 = .ok (.iadd, 1) := dk_96 (c := cX9_emit) (pc := 13) (dk_at bnames03cX9_emit_0 13)
theorem dX9_emit_14 : decode cX9_emit 14 = .ok (.iload_n 1, 1) := dk_27 (c := cX9_emit) (pc := 14) (dk_at bnames03cX9_emit_0 14)
theorem dX9_emit_15 : decode cX9_emit 15 = .ok (.iastore, 1) := dk_79 (c := cX9_emit) (pc := 15) (dk_at bnames03cX9_emit_0 15)
theorem dX9_emit_16 : decode cX9_emit 16 = .ok (.aload_n 0, 1) := dk_42 (c := cX9_emit) (pc := 16) (dk_at bnames03cX9_emit_0 16)
theorem dX9_emit_17 : decode cX9_emit 17 = .ok (.getfield 77, 3) := dk_180 (c := cX9_emit) (pc := 17) (a := 0) (b := 77) (dk_at bnames03cX9_emit_0 17) rfl
theorem dX9_emit_20 : decode cX9_emit 20 = .ok (.iconst 4, 1) := dk_7 (c := cX9_emit) (pc := 20) (dk_at bnames03cX9_emit_0 20)
theorem dX9_emit_21 : decode cX9_emit 21 = .ok (.dup2, 1) := dk_92 (c := cX9_emit) (pc := 21) (dk_at bnames03cX9_emit_0 21)
theorem dX9_emit_22 : decode cX9_emit 22 = .ok (.iaload, 1) := dk_46 (c := cX9_emit) (pc := 22) (dk_at bnames03cX9_emit_0 22)
theorem dX9_emit_23 : decode cX9_emit 23 = .ok (.iconst 1, 1) := dk_4 (c := cX9_emit) (pc := 23) (dk_at bnames03cX9_emit_0 23)
theorem dX9_emit_24 : decode cX9_emit 24 = .ok (.iadd, 1) := dk_96 (c := cX9_emit) (pc := 24) (dk_at bnames03cX9_emit_0 24)
theorem dX9_emit_25 : decode cX9_emit 25 = .ok (.iastore, 1) := dk_79 (c := cX9_emit) (pc := 25) (dk_at bnames03cX9_emit_0 25)
theorem dX9_emit_26 : decode cX9_emit 26 = .ok (.return_, 1) := dk_177 (c := cX9_emit) (pc := 26) (dk_at bnames03cX9_emit_0 26)
set_option maxRecDepth 20000 in
theorem ggX9_part_X9_number : GoodIn wsX9_part wsX9_number := goodIn_r _ [13, 1, 3, 14, 15, 16, 17, 12, 18, 19, 20, 21, 22, 23, 24, 25, 26, 27, 28, 29, 30, 31, 32, 33, 34, 35, 36, 37, 38, 39, 40, 51, 52, 53, 54, 55, 56, 57, 58, 59, 60, 61, 62, 63, 64, 65, 66, 67, 68, 69, 70, 71, 72, 73, 74, 75, 76, 77, 78, 79, 80, 81, 82, 83, 84, 85, 86, 87, 88, 89, 90, 91, 92, 93, 94, 95, 96, 97, 98, 99, 100, 101, 102, 103, 104, 105, 106, 107, 108, 109, 110] rfl (by decide +kernel)
set_option maxRecDepth 20000 in
theorem gX9_part_X9_number : GoodIn wsX9_part (wsV RX9 200 RX9 yX9_number wsX9_number) := goodIn_app (goodIn_r _ [9, 10, 11, 12] rfl (by decide +kernel)) ggX9_part_X9_number
set_option maxRecDepth 20000 in
theorem ggX9_part_X9_emit : GoodIn wsX9_part wsX9_emit := goodIn_r _ [44, 45, 46, 51, 52, 53, 54, 55, 56, 57, 58, 59, 60, 61, 62, 63, 64, 65, 66, 67, 68, 69, 70, 71, 72, 73, 74, 75, 76, 77, 78, 79, 80, 81, 82, 83, 84, 85, 86, 87, 88, 89, 90, 91, 92, 93, 94, 95, 96, 97, 98, 99, 100, 101, 102, 103, 104, 105, 106, 107, 108, 109, 110] rfl (by decide +kernel)
set_option maxRecDepth 20000 in
theorem gX9_part_X9_emit : GoodIn wsX9_part (wsV RX9 226 RX9 yX9_emit wsX9_emit) := goodIn_app (goodIn_r _ [41, 42, 43, 12] rfl (by decide +kernel)) ggX9_part_X9_emit
set_option maxRecDepth 20000 in
theorem ggX9_part_X9_is : GoodIn wsX9_part wsX9_is := goodIn_r _ [50, 1, 3, 29, 51, 52, 53, 54, 55, 56, 57, 58, 59, 60, 61, 62, 63, 64, 65, 66, 67, 68, 69, 70, 71, 72, 73, 74, 75, 76, 77, 78, 79, 80, 81, 82, 83, 84, 85, 86, 87, 88, 89, 90, 91, 92, 93, 94, 95, 96, 97, 98, 99, 100, 101, 102, 103, 104, 105, 106, 107, 108, 109, 110] rfl (by decide +kernel)
set_option maxRecDepth 20000 in
theorem gX9_part_X9_is : GoodIn wsX9_part (wsV RX9 183 RX9 yX9_is wsX9_is) := goodIn_app (goodIn_r _ [47, 48, 49, 12] rfl (by decide +kernel)) ggX9_part_X9_is
set_option maxRecDepth 20000 in
theorem ggX9_part_X9_fails : GoodIn wsX9_part wsX9_fails := goodIn_r _ [18, 1, 19, 20, 51, 52, 53, 54, 55, 56, 57, 58, 59, 60, 61, 62, 63, 64, 65, 66, 67, 68, 69, 70, 71, 72, 73, 74, 75, 76, 77, 78, 79, 80, 81, 82, 83, 84, 85, 86, 87, 88, 89, 90, 91, 92, 93, 94, 95, 96, 97, 98, 99, 100, 101, 102, 103, 104, 105, 106, 107, 108, 109, 110] rfl (by decide +kernel)
set_option maxRecDepth 20000 in
theorem gX9_part_X9_fails : GoodIn wsX9_part (wsV RX9 193 RX9 yX9_fails wsX9_fails) := goodIn_app (goodIn_r _ [15, 16, 17, 12] rfl (by decide +kernel)) ggX9_part_X9_fails
set_option maxRecDepth 20000 in
theorem ggX9_part_X9_next : GoodIn wsX9_part wsX9_next := goodIn_r _ [27, 28, 19, 14, 29, 30, 3, 31, 32, 33, 34, 35, 36, 37, 38, 39, 12, 40, 51, 52, 53, 54, 55, 56, 57, 58, 59, 60, 61, 62, 63, 64, 65, 66, 67, 68, 69, 70, 71, 72, 73, 74, 75, 76, 77, 78, 79, 80, 81, 82, 83, 84, 85, 86, 87, 88, 89, 90, 91, 92, 93, 94, 95, 96, 97, 98, 99, 100, 101, 102, 103, 104, 105, 106, 107, 108, 109, 110] rfl (by decide +kernel)
set_option maxRecDepth 20000 in
theorem gX9_part_X9_next : GoodIn wsX9_part (wsV RX9 187 RX9 yX9_next wsX9_next) := goodIn_app (goodIn_r _ [24, 25, 26, 12] rfl (by decide +kernel)) ggX9_part_X9_next
theorem bnames03cX9_part_0 : ((dk_l cX9_part).drop 0).take 52 = [42, 180, 0, 177, 153, 0, 4, 177, 42, 180, 0, 74, 7, 92, 46, 4, 96, 79, 42, 180, 0, 166, 5, 160, 0, 16, 42, 42, 3, 17, 3, 231, 182, 0, 200, 182, 0, 226, 177, 42, 20, 0, 229, 182, 0, 183, 153, 0, 7, 3, 167, 0] := by decide +kernel
theorem dX9_part_0 : decode cX9_part 0 = .ok (.aload_n 0, 1) := dk_42 (c := cX9_part) (pc := 0) (dk_at bnames03cX9_part_0 0)
theorem dX9_part_1 : decode cX9_part 1 = .ok (.getfield 177, 3) := dk_180 (c := cX9_part) (pc := 1) (a := 0) (b := 177) (dk_at bnames03cX9_part_0 1) rfl
theorem dX9_part_4 : decode cX9_part 4 = .ok (.ifCond .eq 4, 3) := dk_153 (c := cX9_part) (pc := 4) (a := 0) (b := 4) (dk_at bnames03cX9_part_0 4) (by decide)
theorem dX9_part_7 : decode cX9_part 7 = .ok (.return_, 1) := dk_177 (c := cX9_part) (pc := 7) (dk_at bnames03cX9_part_0 7)
theorem dX9_part_8 : decode cX9_part 8 = .ok (.aload_n 0, 1) := dk_42 (c := cX9_part) (pc := 8) (dk_at bnames03cX9_part_0 8)
theorem dX9_part_9 : decode cX9_part 9 = .ok (.getfield 74, 3) := dk_180 (c := cX9_part) (pc := 9) (a := 0) (b := 74) (dk_at bnames03cX9_part_0 9) rfl
theorem dX9_part_12 : decode cX9_part 12 = .ok (.iconst 4, 1) := dk_7 (c := cX9_part) (pc := 12) (dk_at bnames03cX9_part_0 12)
theorem dX9_part_13 : decode cX9_part 13 = .ok (.dup2, 1) := dk_92 (c := cX9_part) (pc := 13) (dk_at bnames03cX9_part_0 13)
theorem dX9_part_14 : decode cX9_part 14 = .ok (.iaload, 1) := dk_46 (c := cX9_part) (pc := 14) (dk_at bnames03cX9_part_0 14)
theorem dX9_part_15 : decode cX9_part 15 = .ok (.iconst 1, 1) := dk_4 (c := cX9_part) (pc := 15) (dk_at bnames03cX9_part_0 15)
theorem dX9_part_16 : decode cX9_part 16 = .ok (.iadd, 1) := dk_96 (c := cX9_part) (pc := 16) (dk_at bnames03cX9_part_0 16)
theorem dX9_part_17 : decode cX9_part 17 = .ok (.iastore, 1) := dk_79 (c := cX9_part) (pc := 17) (dk_at bnames03cX9_part_0 17)
theorem dX9_part_18 : decode cX9_part 18 = .ok (.aload_n 0, 1) := dk_42 (c := cX9_part) (pc := 18) (dk_at bnames03cX9_part_0 18)
theorem dX9_part_19 : decode cX9_part 19 = .ok (.getfield 166, 3) := dk_180 (c := cX9_part) (pc := 19) (a := 0) (b := 166) (dk_at bnames03cX9_part_0 19) rfl
theorem dX9_part_22 : decode cX9_part 22 = .ok (.iconst 2, 1) := dk_5 (c := cX9_part) (pc := 22) (dk_at bnames03cX9_part_0 22)
theorem dX9_part_23 : decode cX9_part 23 = .ok (.if_icmp .ne 16, 3) := dk_160 (c := cX9_part) (pc := 23) (a := 0) (b := 16) (dk_at bnames03cX9_part_0 23) (by decide)
theorem dX9_part_26 : decode cX9_part 26 = .ok (.aload_n 0, 1) := dk_42 (c := cX9_part) (pc := 26) (dk_at bnames03cX9_part_0 26)
theorem dX9_part_27 : decode cX9_part 27 = .ok (.aload_n 0, 1) := dk_42 (c := cX9_part) (pc := 27) (dk_at bnames03cX9_part_0 27)
theorem dX9_part_28 : decode cX9_part 28 = .ok (.iconst 0, 1) := dk_3 (c := cX9_part) (pc := 28) (dk_at bnames03cX9_part_0 28)
theorem dX9_part_29 : decode cX9_part 29 = .ok (.sipush 999, 3) := dk_17 (c := cX9_part) (pc := 29) (a := 3) (b := 231) (dk_at bnames03cX9_part_0 29) (by decide)
theorem dX9_part_32 : decode cX9_part 32 = .ok (.invokevirtual 200, 3) := dk_182 (c := cX9_part) (pc := 32) (a := 0) (b := 200) (dk_at bnames03cX9_part_0 32) rfl
theorem dX9_part_35 : decode cX9_part 35 = .ok (.invokevirtual 226, 3) := dk_182 (c := cX9_part) (pc := 35) (a := 0) (b := 226) (dk_at bnames03cX9_part_0 35) rfl
theorem dX9_part_38 : decode cX9_part 38 = .ok (.return_, 1) := dk_177 (c := cX9_part) (pc := 38) (dk_at bnames03cX9_part_0 38)
theorem dX9_part_39 : decode cX9_part 39 = .ok (.aload_n 0, 1) := dk_42 (c := cX9_part) (pc := 39) (dk_at bnames03cX9_part_0 39)
theorem dX9_part_40 : decode cX9_part 40 = .ok (.ldc2_w 229, 3) := dk_20 (c := cX9_part) (pc := 40) (a := 0) (b := 229) (dk_at bnames03cX9_part_0 40) rfl
theorem dX9_part_43 : decode cX9_part 43 = .ok (.invokevirtual 183, 3) := dk_182 (c := cX9_part) (pc := 43) (a := 0) (b := 183) (dk_at bnames03cX9_part_0 43) rfl
theorem dX9_part_46 : decode cX9_part 46 = .ok (.ifCond .eq 7, 3) := dk_153 (c := cX9_part) (pc := 46) (a := 0) (b := 7) (dk_at bnames03cX9_part_0 46) (by decide)
theorem bnames03cX9_part_48 : ((dk_l cX9_part).drop 48).take 52 = [7, 3, 167, 0, 60, 42, 20, 0, 216, 182, 0, 183, 153, 0, 7, 4, 167, 0, 46, 42, 20, 0, 231, 182, 0, 183, 153, 0, 7, 5, 167, 0, 32, 42, 20, 0, 233, 182, 0, 183, 153, 0, 7, 6, 167, 0, 18, 42, 20, 0, 235, 182] := by decide +kernel
theorem dX9_part_49 : decode cX9_part 49 = .ok (.iconst 0, 1) := dk_3 (c := cX9_part) (pc := 49) (dk_at bnames03cX9_part_48 1)
theorem dX9_part_50 : decode cX9_part 50 = .ok (.goto 60, 3) := dk_167 (c := cX9_part) (pc := 50) (a := 0) (b := 60) (dk_at bnames03cX9_part_48 2) (by decide)
theorem dX9_part_53 : decode cX9_part 53 = .ok (.aload_n 0, 1) := dk_42 (c := cX9_part) (pc := 53) (dk_at bnames03cX9_part_48 5)
theorem dX9_part_54 : decode cX9_part 54 = .ok (.ldc2_w 216, 3) := dk_20 (c := cX9_part) (pc := 54) (a := 0) (b := 216) (dk_at bnames03cX9_part_48 6) rfl
theorem dX9_part_57 : decode cX9_part 57 = .ok (.invokevirtual 183, 3) := dk_182 (c := cX9_part) (pc := 57) (a := 0) (b := 183) (dk_at bnames03cX9_part_48 9) rfl
theorem dX9_part_60 : decode cX9_part 60 = .ok (.ifCond .eq 7, 3) := dk_153 (c := cX9_part) (pc := 60) (a := 0) (b := 7) (dk_at bnames03cX9_part_48 12) (by decide)
theorem dX9_part_63 : decode cX9_part 63 = .ok (.iconst 1, 1) := dk_4 (c := cX9_part) (pc := 63) (dk_at bnames03cX9_part_48 15)
theorem dX9_part_64 : decode cX9_part 64 = .ok (.goto 46, 3) := dk_167 (c := cX9_part) (pc := 64) (a := 0) (b := 46) (dk_at bnames03cX9_part_48 16) (by decide)
theorem dX9_part_67 : decode cX9_part 67 = .ok (.aload_n 0, 1) := dk_42 (c := cX9_part) (pc := 67) (dk_at bnames03cX9_part_48 19)
theorem dX9_part_68 : decode cX9_part 68 = .ok (.ldc2_w 231, 3) := dk_20 (c := cX9_part) (pc := 68) (a := 0) (b := 231) (dk_at bnames03cX9_part_48 20) rfl
theorem dX9_part_71 : decode cX9_part 71 = .ok (.invokevirtual 183, 3) := dk_182 (c := cX9_part) (pc := 71) (a := 0) (b := 183) (dk_at bnames03cX9_part_48 23) rfl
theorem dX9_part_74 : decode cX9_part 74 = .ok (.ifCond .eq 7, 3) := dk_153 (c := cX9_part) (pc := 74) (a := 0) (b := 7) (dk_at bnames03cX9_part_48 26) (by decide)
theorem dX9_part_77 : decode cX9_part 77 = .ok (.iconst 2, 1) := dk_5 (c := cX9_part) (pc := 77) (dk_at bnames03cX9_part_48 29)
theorem dX9_part_78 : decode cX9_part 78 = .ok (.goto 32, 3) := dk_167 (c := cX9_part) (pc := 78) (a := 0) (b := 32) (dk_at bnames03cX9_part_48 30) (by decide)
theorem dX9_part_81 : decode cX9_part 81 = .ok (.aload_n 0, 1) := dk_42 (c := cX9_part) (pc := 81) (dk_at bnames03cX9_part_48 33)
theorem dX9_part_82 : decode cX9_part 82 = .ok (.ldc2_w 233, 3) := dk_20 (c := cX9_part) (pc := 82) (a := 0) (b := 233) (dk_at bnames03cX9_part_48 34) rfl
theorem dX9_part_85 : decode cX9_part 85 = .ok (.invokevirtual 183, 3) := dk_182 (c := cX9_part) (pc := 85) (a := 0) (b := 183) (dk_at bnames03cX9_part_48 37) rfl
theorem dX9_part_88 : decode cX9_part 88 = .ok (.ifCond .eq 7, 3) := dk_153 (c := cX9_part) (pc := 88) (a := 0) (b := 7) (dk_at bnames03cX9_part_48 40) (by decide)
theorem dX9_part_91 : decode cX9_part 91 = .ok (.iconst 3, 1) := dk_6 (c := cX9_part) (pc := 91) (dk_at bnames03cX9_part_48 43)
theorem dX9_part_92 : decode cX9_part 92 = .ok (.goto 18, 3) := dk_167 (c := cX9_part) (pc := 92) (a := 0) (b := 18) (dk_at bnames03cX9_part_48 44) (by decide)
theorem dX9_part_95 : decode cX9_part 95 = .ok (.aload_n 0, 1) := dk_42 (c := cX9_part) (pc := 95) (dk_at bnames03cX9_part_48 47)
theorem bnames03cX9_part_96 : ((dk_l cX9_part).drop 96).take 40 = [20, 0, 235, 182, 0, 183, 153, 0, 7, 7, 167, 0, 4, 2, 60, 27, 2, 160, 0, 9, 42, 4, 182, 0, 193, 177, 42, 182, 0, 187, 42, 17, 3, 232, 27, 96, 182, 0, 226, 177] := by decide +kernel
theorem dX9_part_96 : decode cX9_part 96 = .ok (.ldc2_w 235, 3) := dk_20 (c := cX9_part) (pc := 96) (a := 0) (b := 235) (dk_at bnames03cX9_part_96 0) rfl
theorem dX9_part_99 : decode cX9_part 99 = .ok (.invokevirtual 183, 3) := dk_182 (c := cX9_part) (pc := 99) (a := 0) (b := 183) (dk_at bnames03cX9_part_96 3) rfl
theorem dX9_part_102 : decode cX9_part 102 = .ok (.ifCond .eq 7, 3) := dk_153 (c := cX9_part) (pc := 102) (a := 0) (b := 7) (dk_at bnames03cX9_part_96 6) (by decide)
theorem dX9_part_105 : decode cX9_part 105 = .ok (.iconst 4, 1) := dk_7 (c := cX9_part) (pc := 105) (dk_at bnames03cX9_part_96 9)
theorem dX9_part_106 : decode cX9_part 106 = .ok (.goto 4, 3) := dk_167 (c := cX9_part) (pc := 106) (a := 0) (b := 4) (dk_at bnames03cX9_part_96 10) (by decide)
theorem dX9_part_109 : decode cX9_part 109 = .ok (.iconst (-1), 1) := dk_2 (c := cX9_part) (pc := 109) (dk_at bnames03cX9_part_96 13)
theorem dX9_part_110 : decode cX9_part 110 = .ok (.istore_n 1, 1) := dk_60 (c := cX9_part) (pc := 110) (dk_at bnames03cX9_part_96 14)
theorem dX9_part_111 : decode cX9_part 111 = .ok (.iload_n 1, 1) := dk_27 (c := cX9_part) (pc := 111) (dk_at bnames03cX9_part_96 15)
theorem dX9_part_112 : decode cX9_part 112 = .ok (.iconst (-1), 1) := dk_2 (c := cX9_part) (pc := 112) (dk_at bnames03cX9_part_96 16)
theorem dX9_part_113 : decode cX9_part 113 = .ok (.if_icmp .ne 9, 3) := dk_160 (c := cX9_part) (pc := 113) (a := 0) (b := 9) (dk_at bnames03cX9_part_96 17) (by decide)
theorem dX9_part_116 : decode cX9_part 116 = .ok (.aload_n 0, 1) := dk_42 (c := cX9_part) (pc := 116) (dk_at bnames03cX9_part_96 20)
theorem dX9_part_117 : decode cX9_part 117 = .ok (.iconst 1, 1) := dk_4 (c := cX9_part) (pc := 117) (dk_at bnames03cX9_part_96 21)
theorem dX9_part_118 : decode cX9_part 118 = .ok (.invokevirtual 193, 3) := dk_182 (c := cX9_part) (pc := 118) (a := 0) (b := 193) (dk_at bnames03cX9_part_96 22) rfl
theorem dX9_part_121 : decode cX9_part 121 = .ok (.return_, 1) := dk_177 (c := cX9_part) (pc := 121) (dk_at bnames03cX9_part_96 25)
theorem dX9_part_122 : decode cX9_part 122 = .ok (.aload_n 0, 1) := dk_42 (c := cX9_part) (pc := 122) (dk_at bnames03cX9_part_96 26)
theorem dX9_part_123 : decode cX9_part 123 = .ok (.invokevirtual 187, 3) := dk_182 (c := cX9_part) (pc := 123) (a := 0) (b := 187) (dk_at bnames03cX9_part_96 27) rfl
theorem dX9_part_126 : decode cX9_part 126 = .ok (.aload_n 0, 1) := dk_42 (c := cX9_part) (pc := 126) (dk_at bnames03cX9_part_96 30)
theorem dX9_part_127 : decode cX9_part 127 = .ok (.sipush 1000, 3) := dk_17 (c := cX9_part) (pc := 127) (a := 3) (b := 232) (dk_at bnames03cX9_part_96 31) (by decide)
theorem dX9_part_130 : decode cX9_part 130 = .ok (.iload_n 1, 1) := dk_27 (c := cX9_part) (pc := 130) (dk_at bnames03cX9_part_96 34)
theorem dX9_part_131 : decode cX9_part 131 = .ok (.iadd, 1) := dk_96 (c := cX9_part) (pc := 131) (dk_at bnames03cX9_part_96 35)
theorem dX9_part_132 : decode cX9_part 132 = .ok (.invokevirtual 226, 3) := dk_182 (c := cX9_part) (pc := 132) (a := 0) (b := 226) (dk_at bnames03cX9_part_96 36) rfl
theorem dX9_part_135 : decode cX9_part 135 = .ok (.return_, 1) := dk_177 (c := cX9_part) (pc := 135) (dk_at bnames03cX9_part_96 39)
set_option maxRecDepth 20000 in
theorem ggX9_term_X9_part : GoodIn wsX9_term wsX9_part := goodIn_r _ [7, 8, 9, 10, 11, 12, 13, 14, 15, 16, 17, 18, 6, 19, 20, 21, 22, 23, 24, 25, 26, 27, 28, 29, 30, 31, 32, 33, 34, 35, 36, 37, 38, 39, 40, 41, 42, 43, 44, 45, 46, 47, 48, 49, 50, 51, 52, 53, 54, 55, 56, 57, 58, 59, 60, 61, 62, 63, 64, 65, 66, 67, 68, 69, 70, 71, 72, 73, 74, 75, 76, 77, 78, 79, 80, 81, 82, 83, 84, 85, 86, 87, 88, 89, 90, 91, 92, 93, 94, 95, 96, 97, 98, 99, 100, 101, 102, 103, 104, 105, 106, 107, 108, 109, 110, 111, 112, 113, 114, 115, 116] rfl (by decide +kernel)
set_option maxRecDepth 20000 in
theorem gX9_term_X9_part : GoodIn wsX9_term (wsV RX9 237 RX9 yX9_part wsX9_part) := goodIn_app (goodIn_r _ [3, 4, 5, 6] rfl (by decide +kernel)) ggX9_term_X9_part
set_option maxRecDepth 20000 in
theorem ggX9_term_X9_is : GoodIn wsX9_term wsX9_is := goodIn_r _ [56, 8, 10, 35, 57, 58, 59, 60, 61, 62, 63, 64, 65, 66, 67, 68, 69, 70, 71, 72, 73, 74, 75, 76, 77, 78, 79, 80, 81, 82, 83, 84, 85, 86, 87, 88, 89, 90, 91, 92, 93, 94, 95, 96, 97, 98, 99, 100, 101, 102, 103, 104, 105, 106, 107, 108, 109, 110, 111, 112, 113, 114, 115, 116] rfl (by decide +kernel)
set_option maxRecDepth 20000 in
theorem gX9_term_X9_is : GoodIn wsX9_term (wsV RX9 183 RX9 yX9_is wsX9_is) := goodIn_app (goodIn_r _ [53, 54, 55, 6] rfl (by decide +kernel)) ggX9_term_X9_is
set_option maxRecDepth 20000 in
theorem ggX9_term_X9_next : GoodIn wsX9_term wsX9_next := goodIn_r _ [33, 34, 25, 20, 35, 36, 10, 37, 38, 39, 40, 41, 42, 43, 44, 45, 6, 46, 57, 58, 59, 60, 61, 62, 63, 64, 65, 66, 67, 68, 69, 70, 71, 72, 73, 74, 75, 76, 77, 78, 79, 80, 81, 82, 83, 84, 85, 86, 87, 88, 89, 90, 91, 92, 93, 94, 95, 96, 97, 98, 99, 100, 101, 102, 103, 104, 105, 106, 107, 108, 109, 110, 111, 112, 113, 114, 115, 116] rfl (by decide +kernel)
set_option maxRecDepth 20000 in
theorem gX9_term_X9_next : GoodIn wsX9_term (wsV RX9 187 RX9 yX9_next wsX9_next) := goodIn_app (goodIn_r _ [30, 31, 32, 6] rfl (by decide +kernel)) ggX9_term_X9_next
set_option maxRecDepth 20000 in
theorem ggX9_term_X9_emit : GoodIn wsX9_term wsX9_emit := goodIn_r _ [50, 51, 52, 57, 58, 59, 60, 61, 62, 63, 64, 65, 66, 67, 68, 69, 70, 71, 72, 73, 74, 75, 76, 77, 78, 79, 80, 81, 82, 83, 84, 85, 86, 87, 88, 89, 90, 91, 92, 93, 94, 95, 96, 97, 98, 99, 100, 101, 102, 103, 104, 105, 106, 107, 108, 109, 110, 111, 112, 113, 114, 115, 116] rfl (by decide +kernel)
set_option maxRecDepth 20000 in
theorem gX9_term_X9_emit : GoodIn wsX9_term (wsV RX9 226 RX9 yX9_emit wsX9_emit) := goodIn_app (goodIn_r _ [47, 48, 49, 6] rfl (by decide +kernel)) ggX9_term_X9_emit
theorem bnames03cX9_term_0 : ((dk_l cX9_term).drop 0).take 52 = [42, 182, 0, 237, 42, 20, 0, 240, 182, 0, 183, 154, 0, 13, 42, 20, 0, 242, 182, 0, 183, 153, 0, 37, 42, 20, 0, 240, 182, 0, 183, 153, 0, 8, 16, 253, 167, 0, 5, 16, 252, 60, 42, 182, 0, 187, 42, 182, 0, 237, 42, 27] := by decide +kernel
theorem dX9_term_0 : decode cX9_term 0 = .ok (.aload_n 0, 1) := dk_42 (c := cX9_term) (pc := 0) (dk_at bnames03cX9_term_0 0)
theorem dX9_term_1 : decode cX9_term 1 = .ok (.invokevirtual 237, 3) := dk_182 (c := cX9_term) (pc := 1) (a := 0) (b := 237) (dk_at bnames03cX9_term_0 1) rfl
theorem dX9_term_4 : decode cX9_term 4 = .ok (.aload_n 0, 1) := dk_42 (c := cX9_term) (pc := 4) (dk_at bnames03cX9_term_0 4)
theorem dX9_term_5 : decode cX9_term 5 = .ok (.ldc2_w 240, 3) := dk_20 (c := cX9_term) (pc := 5) (a := 0) (b := 240) (dk_at bnames03cX9_term_0 5) rfl
theorem dX9_term_8 : decode cX9_term 8 = .ok (.invokevirtual 183, 3) := dk_182 (c := cX9_term) (pc := 8) (a := 0) (b := 183) (dk_at bnames03cX9_term_0 8) rfl
theorem dX9_term_11 : decode cX9_term 11 = .ok (.ifCond .ne 13, 3) := dk_154 (c := cX9_term) (pc := 11) (a := 0) (b := 13) (dk_at bnames03cX9_term_0 11) (by decide)
theorem dX9_term_14 : decode cX9_term 14 = .ok (.aload_n 0, 1) := dk_42 (c := cX9_term) (pc := 14) (dk_at bnames03cX9_term_0 14)
theorem dX9_term_15 : decode cX9_term 15 = .ok (.ldc2_w 242, 3) := dk_20 (c := cX9_term) (pc := 15) (a := 0) (b := 242) (dk_at bnames03cX9_term_0 15) rfl
theorem dX9_term_18 : decode cX9_term 18 = .ok (.invokevirtual 183, 3) := dk_182 (c := cX9_term) (pc := 18) (a := 0) (b := 183) (dk_at bnames03cX9_term_0 18) rfl
theorem dX9_term_21 : decode cX9_term 21 = .ok (.ifCond .eq 37, 3) := dk_153 (c := cX9_term) (pc := 21) (a := 0) (b := 37) (dk_at bnames03cX9_term_0 21) (by decide)
theorem dX9_term_24 : decode cX9_term 24 = .ok (.aload_n 0, 1) := dk_42 (c := cX9_term) (pc := 24) (dk_at bnames03cX9_term_0 24)
theorem dX9_term_25 : decode cX9_term 25 = .ok (.ldc2_w 240, 3) := dk_20 (c := cX9_term) (pc := 25) (a := 0) (b := 240) (dk_at bnames03cX9_term_0 25) rfl
theorem dX9_term_28 : decode cX9_term 28 = .ok (.invokevirtual 183, 3) := dk_182 (c := cX9_term) (pc := 28) (a := 0) (b := 183) (dk_at bnames03cX9_term_0 28) rfl
theorem dX9_term_31 : decode cX9_term 31 = .ok (.ifCond .eq 8, 3) := dk_153 (c := cX9_term) (pc := 31) (a := 0) (b := 8) (dk_at bnames03cX9_term_0 31) (by decide)
theorem dX9_term_34 : decode cX9_term 34 = .ok (.bipush (-3), 2) := dk_16 (c := cX9_term) (pc := 34) (a := 253) (dk_at bnames03cX9_term_0 34) (by decide)
theorem dX9_term_36 : decode cX9_term 36 = .ok (.goto 5, 3) := dk_167 (c := cX9_term) (pc := 36) (a := 0) (b := 5) (dk_at bnames03cX9_term_0 36) (by decide)
theorem dX9_term_39 : decode cX9_term 39 = .ok (.bipush (-4), 2) := dk_16 (c := cX9_term) (pc := 39) (a := 252) (dk_at bnames03cX9_term_0 39) (by decide)
theorem dX9_term_41 : decode cX9_term 41 = .ok (.istore_n 1, 1) := dk_60 (c := cX9_term) (pc := 41) (dk_at bnames03cX9_term_0 41)
theorem dX9_term_42 : decode cX9_term 42 = .ok (.aload_n 0, 1) := dk_42 (c := cX9_term) (pc := 42) (dk_at bnames03cX9_term_0 42)
theorem dX9_term_43 : decode cX9_term 43 = .ok (.invokevirtual 187, 3) := dk_182 (c := cX9_term) (pc := 43) (a := 0) (b := 187) (dk_at bnames03cX9_term_0 43) rfl
theorem dX9_term_46 : decode cX9_term 46 = .ok (.aload_n 0, 1) := dk_42 (c := cX9_term) (pc := 46) (dk_at bnames03cX9_term_0 46)
theorem dX9_term_47 : decode cX9_term 47 = .ok (.invokevirtual 237, 3) := dk_182 (c := cX9_term) (pc := 47) (a := 0) (b := 237) (dk_at bnames03cX9_term_0 47) rfl
theorem bnames03cX9_term_48 : ((dk_l cX9_term).drop 48).take 11 = [0, 237, 42, 27, 182, 0, 226, 167, 255, 205, 177] := by decide +kernel
theorem dX9_term_50 : decode cX9_term 50 = .ok (.aload_n 0, 1) := dk_42 (c := cX9_term) (pc := 50) (dk_at bnames03cX9_term_48 2)
theorem dX9_term_51 : decode cX9_term 51 = .ok (.iload_n 1, 1) := dk_27 (c := cX9_term) (pc := 51) (dk_at bnames03cX9_term_48 3)
theorem dX9_term_52 : decode cX9_term 52 = .ok (.invokevirtual 226, 3) := dk_182 (c := cX9_term) (pc := 52) (a := 0) (b := 226) (dk_at bnames03cX9_term_48 4) rfl
theorem dX9_term_55 : decode cX9_term 55 = .ok (.goto (-51), 3) := dk_167 (c := cX9_term) (pc := 55) (a := 255) (b := 205) (dk_at bnames03cX9_term_48 7) (by decide)
theorem dX9_term_58 : decode cX9_term 58 = .ok (.return_, 1) := dk_177 (c := cX9_term) (pc := 58) (dk_at bnames03cX9_term_48 10)
set_option maxRecDepth 20000 in
theorem ggX9_sumTold_X9_term : GoodIn wsX9_sumTold wsX9_term := goodIn_r _ [8, 9, 10, 11, 12, 13, 7, 14, 15, 16, 17, 18, 19, 20, 21, 22, 23, 24, 25, 26, 27, 28, 29, 30, 31, 32, 33, 34, 35, 36, 37, 38, 39, 40, 41, 42, 43, 44, 45, 46, 47, 48, 49, 50, 51, 52, 53, 54, 55, 56, 57, 58, 59, 60, 61, 62, 63, 64, 65, 66, 67, 68, 69, 70, 71, 72, 73, 74, 75, 76, 77, 78, 79, 80, 81, 82, 83, 84, 85, 86, 87, 88, 89, 90, 91, 92, 93, 94, 95, 96, 97, 98, 99, 100, 101, 102, 103, 104, 105, 106, 107, 108, 109, 110, 111, 112, 113, 114, 115, 116, 117, 118, 119, 120, 121, 122, 123] rfl (by decide +kernel)
set_option maxRecDepth 20000 in
theorem gX9_sumTold_X9_term : GoodIn wsX9_sumTold (wsV RX9 244 RX9 yX9_term wsX9_term) := goodIn_app (goodIn_r _ [4, 5, 6, 7] rfl (by decide +kernel)) ggX9_sumTold_X9_term
set_option maxRecDepth 20000 in
theorem ggX9_sumTold_X9_is : GoodIn wsX9_sumTold wsX9_is := goodIn_r _ [63, 15, 17, 42, 64, 65, 66, 67, 68, 69, 70, 71, 72, 73, 74, 75, 76, 77, 78, 79, 80, 81, 82, 83, 84, 85, 86, 87, 88, 89, 90, 91, 92, 93, 94, 95, 96, 97, 98, 99, 100, 101, 102, 103, 104, 105, 106, 107, 108, 109, 110, 111, 112, 113, 114, 115, 116, 117, 118, 119, 120, 121, 122, 123] rfl (by decide +kernel)
set_option maxRecDepth 20000 in
theorem gX9_sumTold_X9_is : GoodIn wsX9_sumTold (wsV RX9 183 RX9 yX9_is wsX9_is) := goodIn_app (goodIn_r _ [60, 61, 62, 7] rfl (by decide +kernel)) ggX9_sumTold_X9_is
set_option maxRecDepth 20000 in
theorem ggX9_sumTold_X9_next : GoodIn wsX9_sumTold wsX9_next := goodIn_r _ [40, 41, 32, 27, 42, 43, 17, 44, 45, 46, 47, 48, 49, 50, 51, 52, 7, 53, 64, 65, 66, 67, 68, 69, 70, 71, 72, 73, 74, 75, 76, 77, 78, 79, 80, 81, 82, 83, 84, 85, 86, 87, 88, 89, 90, 91, 92, 93, 94, 95, 96, 97, 98, 99, 100, 101, 102, 103, 104, 105, 106, 107, 108, 109, 110, 111, 112, 113, 114, 115, 116, 117, 118, 119, 120, 121, 122, 123] rfl (by decide +kernel)
set_option maxRecDepth 20000 in
theorem gX9_sumTold_X9_next : GoodIn wsX9_sumTold (wsV RX9 187 RX9 yX9_next wsX9_next) := goodIn_app (goodIn_r _ [37, 38, 39, 7] rfl (by decide +kernel)) ggX9_sumTold_X9_next
set_option maxRecDepth 20000 in
theorem ggX9_sumTold_X9_emit : GoodIn wsX9_sumTold wsX9_emit := goodIn_r _ [57, 58, 59, 64, 65, 66, 67, 68, 69, 70, 71, 72, 73, 74, 75, 76, 77, 78, 79, 80, 81, 82, 83, 84, 85, 86, 87, 88, 89, 90, 91, 92, 93, 94, 95, 96, 97, 98, 99, 100, 101, 102, 103, 104, 105, 106, 107, 108, 109, 110, 111, 112, 113, 114, 115, 116, 117, 118, 119, 120, 121, 122, 123] rfl (by decide +kernel)
set_option maxRecDepth 20000 in
theorem gX9_sumTold_X9_emit : GoodIn wsX9_sumTold (wsV RX9 226 RX9 yX9_emit wsX9_emit) := goodIn_app (goodIn_r _ [54, 55, 56, 7] rfl (by decide +kernel)) ggX9_sumTold_X9_emit
theorem bnames03cX9_sumTold_0 : ((dk_l cX9_sumTold).drop 0).take 52 = [42, 182, 0, 244, 42, 20, 0, 247, 182, 0, 183, 154, 0, 13, 42, 20, 0, 249, 182, 0, 183, 153, 0, 36, 42, 20, 0, 247, 182, 0, 183, 153, 0, 7, 2, 167, 0, 5, 16, 254, 60, 42, 182, 0, 187, 42, 182, 0, 244, 42, 27, 182] := by decide +kernel
theorem dX9_sumTold_0 : decode cX9_sumTold 0 = .ok (.aload_n 0, 1) := dk_42 (c := cX9_sumTold) (pc := 0) (dk_at bnames03cX9_sumTold_0 0)
theorem dX9_sumTold_1 : decode cX9_sumTold 1 = .ok (.invokevirtual 244, 3) := dk_182 (c := cX9_sumTold) (pc := 1) (a := 0) (b := 244) (dk_at bnames03cX9_sumTold_0 1) rfl
theorem dX9_sumTold_4 : decode cX9_sumTold 4 = .ok (.aload_n 0, 1) := dk_42 (c := cX9_sumTold) (pc := 4) (dk_at bnames03cX9_sumTold_0 4)
theorem dX9_sumTold_5 : decode cX9_sumTold 5 = .ok (.ldc2_w 247, 3) := dk_20 (c := cX9_sumTold) (pc := 5) (a := 0) (b := 247) (dk_at bnames03cX9_sumTold_0 5) rfl
theorem dX9_sumTold_8 : decode cX9_sumTold 8 = .ok (.invokevirtual 183, 3) := dk_182 (c := cX9_sumTold) (pc := 8) (a := 0) (b := 183) (dk_at bnames03cX9_sumTold_0 8) rfl
theorem dX9_sumTold_11 : decode cX9_sumTold 11 = .ok (.ifCond .ne 13, 3) := dk_154 (c := cX9_sumTold) (pc := 11) (a := 0) (b := 13) (dk_at bnames03cX9_sumTold_0 11) (by decide)
theorem dX9_sumTold_14 : decode cX9_sumTold 14 = .ok (.aload_n 0, 1) := dk_42 (c := cX9_sumTold) (pc := 14) (dk_at bnames03cX9_sumTold_0 14)
theorem dX9_sumTold_15 : decode cX9_sumTold 15 = .ok (.ldc2_w 249, 3) := dk_20 (c := cX9_sumTold) (pc := 15) (a := 0) (b := 249) (dk_at bnames03cX9_sumTold_0 15) rfl
theorem dX9_sumTold_18 : decode cX9_sumTold 18 = .ok (.invokevirtual 183, 3) := dk_182 (c := cX9_sumTold) (pc := 18) (a := 0) (b := 183) (dk_at bnames03cX9_sumTold_0 18) rfl
theorem dX9_sumTold_21 : decode cX9_sumTold 21 = .ok (.ifCond .eq 36, 3) := dk_153 (c := cX9_sumTold) (pc := 21) (a := 0) (b := 36) (dk_at bnames03cX9_sumTold_0 21) (by decide)
theorem dX9_sumTold_24 : decode cX9_sumTold 24 = .ok (.aload_n 0, 1) := dk_42 (c := cX9_sumTold) (pc := 24) (dk_at bnames03cX9_sumTold_0 24)
theorem dX9_sumTold_25 : decode cX9_sumTold 25 = .ok (.ldc2_w 247, 3) := dk_20 (c := cX9_sumTold) (pc := 25) (a := 0) (b := 247) (dk_at bnames03cX9_sumTold_0 25) rfl
theorem dX9_sumTold_28 : decode cX9_sumTold 28 = .ok (.invokevirtual 183, 3) := dk_182 (c := cX9_sumTold) (pc := 28) (a := 0) (b := 183) (dk_at bnames03cX9_sumTold_0 28) rfl
theorem dX9_sumTold_31 : decode cX9_sumTold 31 = .ok (.ifCond .eq 7, 3) := dk_153 (c := cX9_sumTold) (pc := 31) (a := 0) (b := 7) (dk_at bnames03cX9_sumTold_0 31) (by decide)
theorem dX9_sumTold_34 : decode cX9_sumTold 34 = .ok (.iconst (-1), 1) := dk_2 (c := cX9_sumTold) (pc := 34) (dk_at bnames03cX9_sumTold_0 34)
theorem dX9_sumTold_35 : decode cX9_sumTold 35 = .ok (.goto 5, 3) := dk_167 (c := cX9_sumTold) (pc := 35) (a := 0) (b := 5) (dk_at bnames03cX9_sumTold_0 35) (by decide)
theorem dX9_sumTold_38 : decode cX9_sumTold 38 = .ok (.bipush (-2), 2) := dk_16 (c := cX9_sumTold) (pc := 38) (a := 254) (dk_at bnames03cX9_sumTold_0 38) (by decide)
theorem dX9_sumTold_40 : decode cX9_sumTold 40 = .ok (.istore_n 1, 1) := dk_60 (c := cX9_sumTold) (pc := 40) (dk_at bnames03cX9_sumTold_0 40)
theorem dX9_sumTold_41 : decode cX9_sumTold 41 = .ok (.aload_n 0, 1) := dk_42 (c := cX9_sumTold) (pc := 41) (dk_at bnames03cX9_sumTold_0 41)
theorem dX9_sumTold_42 : decode cX9_sumTold 42 = .ok (.invokevirtual 187, 3) := dk_182 (c := cX9_sumTold) (pc := 42) (a := 0) (b := 187) (dk_at bnames03cX9_sumTold_0 42) rfl
theorem dX9_sumTold_45 : decode cX9_sumTold 45 = .ok (.aload_n 0, 1) := dk_42 (c := cX9_sumTold) (pc := 45) (dk_at bnames03cX9_sumTold_0 45)
theorem dX9_sumTold_46 : decode cX9_sumTold 46 = .ok (.invokevirtual 244, 3) := dk_182 (c := cX9_sumTold) (pc := 46) (a := 0) (b := 244) (dk_at bnames03cX9_sumTold_0 46) rfl
theorem bnames03cX9_sumTold_48 : ((dk_l cX9_sumTold).drop 48).take 17 = [244, 42, 27, 182, 0, 226, 167, 255, 206, 42, 180, 0, 65, 7, 4, 84, 177] := by decide +kernel
theorem dX9_sumTold_49 : decode cX9_sumTold 49 = .ok (.aload_n 0, 1) := dk_42 (c := cX9_sumTold) (pc := 49) (dk_at bnames03cX9_sumTold_48 1)
theorem dX9_sumTold_50 : decode cX9_sumTold 50 = .ok (.iload_n 1, 1) := dk_27 (c := cX9_sumTold) (pc := 50) (dk_at bnames03cX9_sumTold_48 2)
theorem dX9_sumTold_51 : decode cX9_sumTold 51 = .ok (.invokevirtual 226, 3) := dk_182 (c := cX9_sumTold) (pc := 51) (a := 0) (b := 226) (dk_at bnames03cX9_sumTold_48 3) rfl
theorem dX9_sumTold_54 : decode cX9_sumTold 54 = .ok (.goto (-50), 3) := dk_167 (c := cX9_sumTold) (pc := 54) (a := 255) (b := 206) (dk_at bnames03cX9_sumTold_48 6) (by decide)
theorem dX9_sumTold_57 : decode cX9_sumTold 57 = .ok (.aload_n 0, 1) := dk_42 (c := cX9_sumTold) (pc := 57) (dk_at bnames03cX9_sumTold_48 9)
theorem dX9_sumTold_58 : decode cX9_sumTold 58 = .ok (.getfield 65, 3) := dk_180 (c := cX9_sumTold) (pc := 58) (a := 0) (b := 65) (dk_at bnames03cX9_sumTold_48 10) rfl
theorem dX9_sumTold_61 : decode cX9_sumTold 61 = .ok (.iconst 4, 1) := dk_7 (c := cX9_sumTold) (pc := 61) (dk_at bnames03cX9_sumTold_48 13)
theorem dX9_sumTold_62 : decode cX9_sumTold 62 = .ok (.iconst 1, 1) := dk_4 (c := cX9_sumTold) (pc := 62) (dk_at bnames03cX9_sumTold_48 14)
theorem dX9_sumTold_63 : decode cX9_sumTold 63 = .ok (.bastore, 1) := dk_84 (c := cX9_sumTold) (pc := 63) (dk_at bnames03cX9_sumTold_48 15)
theorem dX9_sumTold_64 : decode cX9_sumTold 64 = .ok (.return_, 1) := dk_177 (c := cX9_sumTold) (pc := 64) (dk_at bnames03cX9_sumTold_48 16)
set_option maxRecDepth 20000 in
theorem ggX9_line_X9_is : GoodIn wsX9_line wsX9_is := goodIn_r _ [16, 3, 17, 18, 116, 117, 118, 119, 120, 121, 122, 123, 124, 125, 126, 127, 128, 129, 130, 131, 132, 133, 134, 135, 136, 137, 138, 139, 140, 141, 142, 143, 144, 145, 146, 147, 148, 149, 150, 151, 152, 153, 154, 155, 156, 157, 158, 159, 160, 161, 162, 163, 164, 165, 166, 167, 168, 169, 170, 171, 172, 173, 174, 175] rfl (by decide +kernel)
set_option maxRecDepth 20000 in
theorem gX9_line_X9_is : GoodIn wsX9_line (wsV RX9 183 RX9 yX9_is wsX9_is) := goodIn_app (goodIn_r _ [12, 13, 14, 15] rfl (by decide +kernel)) ggX9_line_X9_is
set_option maxRecDepth 20000 in
theorem ggX9_line_X9_fails : GoodIn wsX9_line wsX9_fails := goodIn_r _ [22, 3, 23, 24, 116, 117, 118, 119, 120, 121, 122, 123, 124, 125, 126, 127, 128, 129, 130, 131, 132, 133, 134, 135, 136, 137, 138, 139, 140, 141, 142, 143, 144, 145, 146, 147, 148, 149, 150, 151, 152, 153, 154, 155, 156, 157, 158, 159, 160, 161, 162, 163, 164, 165, 166, 167, 168, 169, 170, 171, 172, 173, 174, 175] rfl (by decide +kernel)
set_option maxRecDepth 20000 in
theorem gX9_line_X9_fails : GoodIn wsX9_line (wsV RX9 193 RX9 yX9_fails wsX9_fails) := goodIn_app (goodIn_r _ [19, 20, 21, 15] rfl (by decide +kernel)) ggX9_line_X9_fails
set_option maxRecDepth 20000 in
theorem ggX9_line_X9_next : GoodIn wsX9_line wsX9_next := goodIn_r _ [28, 29, 23, 30, 18, 31, 17, 32, 33, 34, 35, 36, 37, 38, 39, 40, 15, 41, 116, 117, 118, 119, 120, 121, 122, 123, 124, 125, 126, 127, 128, 129, 130, 131, 132, 133, 134, 135, 136, 137, 138, 139, 140, 141, 142, 143, 144, 145, 146, 147, 148, 149, 150, 151, 152, 153, 154, 155, 156, 157, 158, 159, 160, 161, 162, 163, 164, 165, 166, 167, 168, 169, 170, 171, 172, 173, 174, 175] rfl (by decide +kernel)
set_option maxRecDepth 20000 in
theorem gX9_line_X9_next : GoodIn wsX9_line (wsV RX9 187 RX9 yX9_next wsX9_next) := goodIn_app (goodIn_r _ [25, 26, 27, 15] rfl (by decide +kernel)) ggX9_line_X9_next
set_option maxRecDepth 20000 in
theorem ggX9_line_X9_lawLine : GoodIn wsX9_line wsX9_lawLine := goodIn_r _ [45, 46, 2, 47, 48, 49, 50, 51, 52, 15, 53, 54, 55, 56, 57, 58, 59, 60, 61, 12, 13, 14, 16, 3, 17, 18, 25, 26, 27, 28, 29, 23, 30, 31, 32, 33, 34, 35, 36, 37, 38, 39, 40, 41, 19, 20, 21, 22, 24, 62, 63, 64, 65, 66, 67, 68, 116, 117, 118, 119, 120, 121, 122, 123, 124, 125, 126, 127, 128, 129, 130, 131, 132, 133, 134, 135, 136, 137, 138, 139, 140, 141, 142, 143, 144, 145, 146, 147, 148, 149, 150, 151, 152, 153, 154, 155, 156, 157, 158, 159, 160, 161, 162, 163, 164, 165, 166, 167, 168, 169, 170, 171, 172, 173, 174, 175] rfl (by decide +kernel)
set_option maxRecDepth 20000 in
theorem gX9_line_X9_lawLine : GoodIn wsX9_line (wsV RX9 253 RX9 yX9_lawLine wsX9_lawLine) := goodIn_app (goodIn_r _ [42, 43, 44, 15] rfl (by decide +kernel)) ggX9_line_X9_lawLine
set_option maxRecDepth 20000 in
theorem ggX9_line_X9_sortLine : GoodIn wsX9_line wsX9_sortLine := goodIn_r _ [72, 5, 73, 74, 75, 76, 77, 78, 79, 80, 50, 51, 52, 15, 53, 54, 55, 56, 57, 58, 59, 60, 61, 12, 13, 14, 16, 3, 17, 18, 25, 26, 27, 28, 29, 23, 30, 31, 32, 33, 34, 35, 36, 37, 38, 39, 40, 41, 19, 20, 21, 22, 24, 62, 63, 64, 65, 66, 67, 68, 116, 117, 118, 119, 120, 121, 122, 123, 124, 125, 126, 127, 128, 129, 130, 131, 132, 133, 134, 135, 136, 137, 138, 139, 140, 141, 142, 143, 144, 145, 146, 147, 148, 149, 150, 151, 152, 153, 154, 155, 156, 157, 158, 159, 160, 161, 162, 163, 164, 165, 166, 167, 168, 169, 170, 171, 172, 173, 174, 175] rfl (by decide +kernel)
set_option maxRecDepth 20000 in
theorem gX9_line_X9_sortLine : GoodIn wsX9_line (wsV RX9 258 RX9 yX9_sortLine wsX9_sortLine) := goodIn_app (goodIn_r _ [69, 70, 71, 15] rfl (by decide +kernel)) ggX9_line_X9_sortLine
set_option maxRecDepth 20000 in
theorem ggX9_line_X9_takes : GoodIn wsX9_line wsX9_takes := goodIn_r _ [61, 12, 13, 14, 15, 16, 3, 17, 18, 25, 26, 27, 28, 29, 23, 30, 31, 32, 33, 34, 35, 36, 37, 38, 39, 40, 41, 116, 117, 118, 119, 120, 121, 122, 123, 124, 125, 126, 127, 128, 129, 130, 131, 132, 133, 134, 135, 136, 137, 138, 139, 140, 141, 142, 143, 144, 145, 146, 147, 148, 149, 150, 151, 152, 153, 154, 155, 156, 157, 158, 159, 160, 161, 162, 163, 164, 165, 166, 167, 168, 169, 170, 171, 172, 173, 174, 175] rfl (by decide +kernel)
set_option maxRecDepth 20000 in
theorem gX9_line_X9_takes : GoodIn wsX9_line (wsV RX9 190 RX9 yX9_takes wsX9_takes) := goodIn_app (goodIn_r _ [58, 59, 60, 15] rfl (by decide +kernel)) ggX9_line_X9_takes
set_option maxRecDepth 20000 in
theorem ggX9_line_X9_leakLine : GoodIn wsX9_line wsX9_leakLine := goodIn_r _ [84, 17, 30, 85, 86, 87, 88, 66, 67, 15, 68, 19, 20, 21, 22, 3, 23, 24, 62, 63, 64, 65, 25, 26, 27, 28, 29, 18, 31, 32, 33, 34, 35, 36, 37, 38, 39, 40, 41, 50, 51, 52, 53, 54, 55, 56, 57, 58, 59, 60, 61, 12, 13, 14, 16, 116, 117, 118, 119, 120, 121, 122, 123, 124, 125, 126, 127, 128, 129, 130, 131, 132, 133, 134, 135, 136, 137, 138, 139, 140, 141, 142, 143, 144, 145, 146, 147, 148, 149, 150, 151, 152, 153, 154, 155, 156, 157, 158, 159, 160, 161, 162, 163, 164, 165, 166, 167, 168, 169, 170, 171, 172, 173, 174, 175] rfl (by decide +kernel)
set_option maxRecDepth 20000 in
theorem gX9_line_X9_leakLine : GoodIn wsX9_line (wsV RX9 263 RX9 yX9_leakLine wsX9_leakLine) := goodIn_app (goodIn_r _ [81, 82, 83, 15] rfl (by decide +kernel)) ggX9_line_X9_leakLine
set_option maxRecDepth 20000 in
theorem ggX9_line_X9_sumTold : GoodIn wsX9_line wsX9_sumTold := goodIn_r _ [92, 93, 94, 8, 95, 96, 97, 15, 98, 99, 100, 101, 102, 103, 104, 3, 105, 17, 106, 76, 107, 108, 109, 62, 63, 64, 65, 30, 19, 20, 21, 22, 23, 24, 66, 67, 68, 25, 26, 27, 28, 29, 18, 31, 32, 33, 34, 35, 36, 37, 38, 39, 40, 41, 110, 111, 112, 113, 114, 115, 12, 13, 14, 16, 116, 117, 118, 119, 120, 121, 122, 123, 124, 125, 126, 127, 128, 129, 130, 131, 132, 133, 134, 135, 136, 137, 138, 139, 140, 141, 142, 143, 144, 145, 146, 147, 148, 149, 150, 151, 152, 153, 154, 155, 156, 157, 158, 159, 160, 161, 162, 163, 164, 165, 166, 167, 168, 169, 170, 171, 172, 173, 174, 175] rfl (by decide +kernel)
set_option maxRecDepth 20000 in
theorem gX9_line_X9_sumTold : GoodIn wsX9_line (wsV RX9 268 RX9 yX9_sumTold wsX9_sumTold) := goodIn_app (goodIn_r _ [89, 90, 91, 15] rfl (by decide +kernel)) ggX9_line_X9_sumTold
set_option maxRecDepth 20000 in
theorem ggX9_line_X9_number : GoodIn wsX9_line wsX9_number := goodIn_r _ [65, 3, 17, 30, 19, 20, 21, 15, 22, 23, 24, 66, 67, 68, 25, 26, 27, 28, 29, 18, 31, 32, 33, 34, 35, 36, 37, 38, 39, 40, 41, 116, 117, 118, 119, 120, 121, 122, 123, 124, 125, 126, 127, 128, 129, 130, 131, 132, 133, 134, 135, 136, 137, 138, 139, 140, 141, 142, 143, 144, 145, 146, 147, 148, 149, 150, 151, 152, 153, 154, 155, 156, 157, 158, 159, 160, 161, 162, 163, 164, 165, 166, 167, 168, 169, 170, 171, 172, 173, 174, 175] rfl (by decide +kernel)
set_option maxRecDepth 20000 in
theorem gX9_line_X9_number : GoodIn wsX9_line (wsV RX9 200 RX9 yX9_number wsX9_number) := goodIn_app (goodIn_r _ [62, 63, 64, 15] rfl (by decide +kernel)) ggX9_line_X9_number
theorem bnames03cX9_line_0 : ((dk_l cX9_line).drop 0).take 52 = [42, 20, 0, 251, 182, 0, 183, 153, 0, 44, 42, 180, 0, 34, 7, 46, 16, 6, 160, 0, 8, 42, 6, 182, 0, 193, 42, 180, 0, 177, 154, 0, 7, 42, 182, 0, 187, 42, 180, 0, 177, 154, 0, 191, 42, 182, 0, 253, 167, 0, 184, 42] := by decide +kernel
theorem dX9_line_0 : decode cX9_line 0 = .ok (.aload_n 0, 1) := dk_42 (c := cX9_line) (pc := 0) (dk_at bnames03cX9_line_0 0)
theorem dX9_line_1 : decode cX9_line 1 = .ok (.ldc2_w 251, 3) := dk_20 (c := cX9_line) (pc := 1) (a := 0) (b := 251) (dk_at bnames03cX9_line_0 1) rfl
theorem dX9_line_4 : decode cX9_line 4 = .ok (.invokevirtual 183, 3) := dk_182 (c := cX9_line) (pc := 4) (a := 0) (b := 183) (dk_at bnames03cX9_line_0 4) rfl
theorem dX9_line_7 : decode cX9_line 7 = .ok (.ifCond .eq 44, 3) := dk_153 (c := cX9_line) (pc := 7) (a := 0) (b := 44) (dk_at bnames03cX9_line_0 7) (by decide)
theorem dX9_line_10 : decode cX9_line 10 = .ok (.aload_n 0, 1) := dk_42 (c := cX9_line) (pc := 10) (dk_at bnames03cX9_line_0 10)
theorem dX9_line_11 : decode cX9_line 11 = .ok (.getfield 34, 3) := dk_180 (c := cX9_line) (pc := 11) (a := 0) (b := 34) (dk_at bnames03cX9_line_0 11) rfl
theorem dX9_line_14 : decode cX9_line 14 = .ok (.iconst 4, 1) := dk_7 (c := cX9_line) (pc := 14) (dk_at bnames03cX9_line_0 14)
theorem dX9_line_15 : decode cX9_line 15 = .ok (.iaload, 1) := dk_46 (c := cX9_line) (pc := 15) (dk_at bnames03cX9_line_0 15)
theorem dX9_line_16 : decode cX9_line 16 = .ok (.bipush 6, 2) := dk_16 (c := cX9_line) (pc := 16) (a := 6) (dk_at bnames03cX9_line_0 16) (by decide)
theorem dX9_line_18 : decode cX9_line 18 = .ok (.if_icmp .ne 8, 3) := dk_160 (c := cX9_line) (pc := 18) (a := 0) (b := 8) (dk_at bnames03cX9_line_0 18) (by decide)
theorem dX9_line_21 : decode cX9_line 21 = .ok (.aload_n 0, 1) := dk_42 (c := cX9_line) (pc := 21) (dk_at bnames03cX9_line_0 21)
theorem dX9_line_22 : decode cX9_line 22 = .ok (.iconst 3, 1) := dk_6 (c := cX9_line) (pc := 22) (dk_at bnames03cX9_line_0 22)
theorem dX9_line_23 : decode cX9_line 23 = .ok (.invokevirtual 193, 3) := dk_182 (c := cX9_line) (pc := 23) (a := 0) (b := 193) (dk_at bnames03cX9_line_0 23) rfl
theorem dX9_line_26 : decode cX9_line 26 = .ok (.aload_n 0, 1) := dk_42 (c := cX9_line) (pc := 26) (dk_at bnames03cX9_line_0 26)
theorem dX9_line_27 : decode cX9_line 27 = .ok (.getfield 177, 3) := dk_180 (c := cX9_line) (pc := 27) (a := 0) (b := 177) (dk_at bnames03cX9_line_0 27) rfl
theorem dX9_line_30 : decode cX9_line 30 = .ok (.ifCond .ne 7, 3) := dk_154 (c := cX9_line) (pc := 30) (a := 0) (b := 7) (dk_at bnames03cX9_line_0 30) (by decide)
theorem dX9_line_33 : decode cX9_line 33 = .ok (.aload_n 0, 1) := dk_42 (c := cX9_line) (pc := 33) (dk_at bnames03cX9_line_0 33)
theorem dX9_line_34 : decode cX9_line 34 = .ok (.invokevirtual 187, 3) := dk_182 (c := cX9_line) (pc := 34) (a := 0) (b := 187) (dk_at bnames03cX9_line_0 34) rfl
theorem dX9_line_37 : decode cX9_line 37 = .ok (.aload_n 0, 1) := dk_42 (c := cX9_line) (pc := 37) (dk_at bnames03cX9_line_0 37)
theorem dX9_line_38 : decode cX9_line 38 = .ok (.getfield 177, 3) := dk_180 (c := cX9_line) (pc := 38) (a := 0) (b := 177) (dk_at bnames03cX9_line_0 38) rfl
theorem dX9_line_41 : decode cX9_line 41 = .ok (.ifCond .ne 191, 3) := dk_154 (c := cX9_line) (pc := 41) (a := 0) (b := 191) (dk_at bnames03cX9_line_0 41) (by decide)
theorem dX9_line_44 : decode cX9_line 44 = .ok (.aload_n 0, 1) := dk_42 (c := cX9_line) (pc := 44) (dk_at bnames03cX9_line_0 44)
theorem dX9_line_45 : decode cX9_line 45 = .ok (.invokevirtual 253, 3) := dk_182 (c := cX9_line) (pc := 45) (a := 0) (b := 253) (dk_at bnames03cX9_line_0 45) rfl
theorem bnames03cX9_line_48 : ((dk_l cX9_line).drop 48).take 52 = [167, 0, 184, 42, 20, 1, 0, 182, 0, 183, 153, 0, 44, 42, 180, 0, 43, 7, 46, 16, 8, 160, 0, 8, 42, 6, 182, 0, 193, 42, 180, 0, 177, 154, 0, 7, 42, 182, 0, 187, 42, 180, 0, 177, 154, 0, 140, 42, 182, 1, 2, 167] := by decide +kernel
theorem dX9_line_48 : decode cX9_line 48 = .ok (.goto 184, 3) := dk_167 (c := cX9_line) (pc := 48) (a := 0) (b := 184) (dk_at bnames03cX9_line_48 0) (by decide)
theorem dX9_line_51 : decode cX9_line 51 = .ok (.aload_n 0, 1) := dk_42 (c := cX9_line) (pc := 51) (dk_at bnames03cX9_line_48 3)
theorem dX9_line_52 : decode cX9_line 52 = .ok (.ldc2_w 256, 3) := dk_20 (c := cX9_line) (pc := 52) (a := 1) (b := 0) (dk_at bnames03cX9_line_48 4) rfl
theorem dX9_line_55 : decode cX9_line 55 = .ok (.invokevirtual 183, 3) := dk_182 (c := cX9_line) (pc := 55) (a := 0) (b := 183) (dk_at bnames03cX9_line_48 7) rfl
theorem dX9_line_58 : decode cX9_line 58 = .ok (.ifCond .eq 44, 3) := dk_153 (c := cX9_line) (pc := 58) (a := 0) (b := 44) (dk_at bnames03cX9_line_48 10) (by decide)
theorem dX9_line_61 : decode cX9_line 61 = .ok (.aload_n 0, 1) := dk_42 (c := cX9_line) (pc := 61) (dk_at bnames03cX9_line_48 13)
theorem dX9_line_62 : decode cX9_line 62 = .ok (.getfield 43, 3) := dk_180 (c := cX9_line) (pc := 62) (a := 0) (b := 43) (dk_at bnames03cX9_line_48 14) rfl
theorem dX9_line_65 : decode cX9_line 65 = .ok (.iconst 4, 1) := dk_7 (c := cX9_line) (pc := 65) (dk_at bnames03cX9_line_48 17)
theorem dX9_line_66 : decode cX9_line 66 = .ok (.iaload, 1) := dk_46 (c := cX9_line) (pc := 66) (dk_at bnames03cX9_line_48 18)
theorem dX9_line_67 : decode cX9_line 67 = .ok (.bipush 8, 2) := dk_16 (c := cX9_line) (pc := 67) (a := 8) (dk_at bnames03cX9_line_48 19) (by decide)
theorem dX9_line_69 : decode cX9_line 69 = .ok (.if_icmp .ne 8, 3) := dk_160 (c := cX9_line) (pc := 69) (a := 0) (b := 8) (dk_at bnames03cX9_line_48 21) (by decide)
theorem dX9_line_72 : decode cX9_line 72 = .ok (.aload_n 0, 1) := dk_42 (c := cX9_line) (pc := 72) (dk_at bnames03cX9_line_48 24)
theorem dX9_line_73 : decode cX9_line 73 = .ok (.iconst 3, 1) := dk_6 (c := cX9_line) (pc := 73) (dk_at bnames03cX9_line_48 25)
theorem dX9_line_74 : decode cX9_line 74 = .ok (.invokevirtual 193, 3) := dk_182 (c := cX9_line) (pc := 74) (a := 0) (b := 193) (dk_at bnames03cX9_line_48 26) rfl
theorem dX9_line_77 : decode cX9_line 77 = .ok (.aload_n 0, 1) := dk_42 (c := cX9_line) (pc := 77) (dk_at bnames03cX9_line_48 29)
theorem dX9_line_78 : decode cX9_line 78 = .ok (.getfield 177, 3) := dk_180 (c := cX9_line) (pc := 78) (a := 0) (b := 177) (dk_at bnames03cX9_line_48 30) rfl
theorem dX9_line_81 : decode cX9_line 81 = .ok (.ifCond .ne 7, 3) := dk_154 (c := cX9_line) (pc := 81) (a := 0) (b := 7) (dk_at bnames03cX9_line_48 33) (by decide)
theorem dX9_line_84 : decode cX9_line 84 = .ok (.aload_n 0, 1) := dk_42 (c := cX9_line) (pc := 84) (dk_at bnames03cX9_line_48 36)
theorem dX9_line_85 : decode cX9_line 85 = .ok (.invokevirtual 187, 3) := dk_182 (c := cX9_line) (pc := 85) (a := 0) (b := 187) (dk_at bnames03cX9_line_48 37) rfl
theorem dX9_line_88 : decode cX9_line 88 = .ok (.aload_n 0, 1) := dk_42 (c := cX9_line) (pc := 88) (dk_at bnames03cX9_line_48 40)
theorem dX9_line_89 : decode cX9_line 89 = .ok (.getfield 177, 3) := dk_180 (c := cX9_line) (pc := 89) (a := 0) (b := 177) (dk_at bnames03cX9_line_48 41) rfl
theorem dX9_line_92 : decode cX9_line 92 = .ok (.ifCond .ne 140, 3) := dk_154 (c := cX9_line) (pc := 92) (a := 0) (b := 140) (dk_at bnames03cX9_line_48 44) (by decide)
theorem dX9_line_95 : decode cX9_line 95 = .ok (.aload_n 0, 1) := dk_42 (c := cX9_line) (pc := 95) (dk_at bnames03cX9_line_48 47)
theorem bnames03cX9_line_96 : ((dk_l cX9_line).drop 96).take 52 = [182, 1, 2, 167, 0, 133, 42, 20, 1, 5, 182, 0, 190, 153, 0, 10, 42, 182, 1, 7, 167, 0, 116, 42, 20, 1, 10, 182, 0, 183, 153, 0, 42, 42, 180, 0, 65, 7, 51, 153, 0, 8, 42, 5, 182, 0, 193, 42, 180, 0, 177, 154] := by decide +kernel
theorem dX9_line_96 : decode cX9_line 96 = .ok (.invokevirtual 258, 3) := dk_182 (c := cX9_line) (pc := 96) (a := 1) (b := 2) (dk_at bnames03cX9_line_96 0) rfl
theorem dX9_line_99 : decode cX9_line 99 = .ok (.goto 133, 3) := dk_167 (c := cX9_line) (pc := 99) (a := 0) (b := 133) (dk_at bnames03cX9_line_96 3) (by decide)
theorem dX9_line_102 : decode cX9_line 102 = .ok (.aload_n 0, 1) := dk_42 (c := cX9_line) (pc := 102) (dk_at bnames03cX9_line_96 6)
theorem dX9_line_103 : decode cX9_line 103 = .ok (.ldc2_w 261, 3) := dk_20 (c := cX9_line) (pc := 103) (a := 1) (b := 5) (dk_at bnames03cX9_line_96 7) rfl
theorem dX9_line_106 : decode cX9_line 106 = .ok (.invokevirtual 190, 3) := dk_182 (c := cX9_line) (pc := 106) (a := 0) (b := 190) (dk_at bnames03cX9_line_96 10) rfl
theorem dX9_line_109 : decode cX9_line 109 = .ok (.ifCond .eq 10, 3) := dk_153 (c := cX9_line) (pc := 109) (a := 0) (b := 10) (dk_at bnames03cX9_line_96 13) (by decide)
theorem dX9_line_112 : decode cX9_line 112 = .ok (.aload_n 0, 1) := dk_42 (c := cX9_line) (pc := 112) (dk_at bnames03cX9_line_96 16)
theorem dX9_line_113 : decode cX9_line 113 = .ok (.invokevirtual 263, 3) := dk_182 (c := cX9_line) (pc := 113) (a := 1) (b := 7) (dk_at bnames03cX9_line_96 17) rfl
theorem dX9_line_116 : decode cX9_line 116 = .ok (.goto 116, 3) := dk_167 (c := cX9_line) (pc := 116) (a := 0) (b := 116) (dk_at bnames03cX9_line_96 20) (by decide)
theorem dX9_line_119 : decode cX9_line 119 = .ok (.aload_n 0, 1) := dk_42 (c := cX9_line) (pc := 119) (dk_at bnames03cX9_line_96 23)
theorem dX9_line_120 : decode cX9_line 120 = .ok (.ldc2_w 266, 3) := dk_20 (c := cX9_line) (pc := 120) (a := 1) (b := 10) (dk_at bnames03cX9_line_96 24) rfl
theorem dX9_line_123 : decode cX9_line 123 = .ok (.invokevirtual 183, 3) := dk_182 (c := cX9_line) (pc := 123) (a := 0) (b := 183) (dk_at bnames03cX9_line_96 27) rfl
theorem dX9_line_126 : decode cX9_line 126 = .ok (.ifCond .eq 42, 3) := dk_153 (c := cX9_line) (pc := 126) (a := 0) (b := 42) (dk_at bnames03cX9_line_96 30) (by decide)
theorem dX9_line_129 : decode cX9_line 129 = .ok (.aload_n 0, 1) := dk_42 (c := cX9_line) (pc := 129) (dk_at bnames03cX9_line_96 33)
theorem dX9_line_130 : decode cX9_line 130 = .ok (.getfield 65, 3) := dk_180 (c := cX9_line) (pc := 130) (a := 0) (b := 65) (dk_at bnames03cX9_line_96 34) rfl
theorem dX9_line_133 : decode cX9_line 133 = .ok (.iconst 4, 1) := dk_7 (c := cX9_line) (pc := 133) (dk_at bnames03cX9_line_96 37)
theorem dX9_line_134 : decode cX9_line 134 = .ok (.baload, 1) := dk_51 (c := cX9_line) (pc := 134) (dk_at bnames03cX9_line_96 38)
theorem dX9_line_135 : decode cX9_line 135 = .ok (.ifCond .eq 8, 3) := dk_153 (c := cX9_line) (pc := 135) (a := 0) (b := 8) (dk_at bnames03cX9_line_96 39) (by decide)
theorem dX9_line_138 : decode cX9_line 138 = .ok (.aload_n 0, 1) := dk_42 (c := cX9_line) (pc := 138) (dk_at bnames03cX9_line_96 42)
theorem dX9_line_139 : decode cX9_line 139 = .ok (.iconst 2, 1) := dk_5 (c := cX9_line) (pc := 139) (dk_at bnames03cX9_line_96 43)
theorem dX9_line_140 : decode cX9_line 140 = .ok (.invokevirtual 193, 3) := dk_182 (c := cX9_line) (pc := 140) (a := 0) (b := 193) (dk_at bnames03cX9_line_96 44) rfl
theorem dX9_line_143 : decode cX9_line 143 = .ok (.aload_n 0, 1) := dk_42 (c := cX9_line) (pc := 143) (dk_at bnames03cX9_line_96 47)
theorem bnames03cX9_line_144 : ((dk_l cX9_line).drop 144).take 52 = [180, 0, 177, 154, 0, 7, 42, 182, 0, 187, 42, 180, 0, 177, 154, 0, 74, 42, 182, 1, 12, 167, 0, 67, 42, 20, 1, 15, 182, 0, 183, 153, 0, 52, 42, 180, 0, 68, 7, 51, 153, 0, 8, 42, 5, 182, 0, 193, 42, 180, 0, 177] := by decide +kernel
theorem dX9_line_144 : decode cX9_line 144 = .ok (.getfield 177, 3) := dk_180 (c := cX9_line) (pc := 144) (a := 0) (b := 177) (dk_at bnames03cX9_line_144 0) rfl
theorem dX9_line_147 : decode cX9_line 147 = .ok (.ifCond .ne 7, 3) := dk_154 (c := cX9_line) (pc := 147) (a := 0) (b := 7) (dk_at bnames03cX9_line_144 3) (by decide)
theorem dX9_line_150 : decode cX9_line 150 = .ok (.aload_n 0, 1) := dk_42 (c := cX9_line) (pc := 150) (dk_at bnames03cX9_line_144 6)
theorem dX9_line_151 : decode cX9_line 151 = .ok (.invokevirtual 187, 3) := dk_182 (c := cX9_line) (pc := 151) (a := 0) (b := 187) (dk_at bnames03cX9_line_144 7) rfl
theorem dX9_line_154 : decode cX9_line 154 = .ok (.aload_n 0, 1) := dk_42 (c := cX9_line) (pc := 154) (dk_at bnames03cX9_line_144 10)
theorem dX9_line_155 : decode cX9_line 155 = .ok (.getfield 177, 3) := dk_180 (c := cX9_line) (pc := 155) (a := 0) (b := 177) (dk_at bnames03cX9_line_144 11) rfl
theorem dX9_line_158 : decode cX9_line 158 = .ok (.ifCond .ne 74, 3) := dk_154 (c := cX9_line) (pc := 158) (a := 0) (b := 74) (dk_at bnames03cX9_line_144 14) (by decide)
theorem dX9_line_161 : decode cX9_line 161 = .ok (.aload_n 0, 1) := dk_42 (c := cX9_line) (pc := 161) (dk_at bnames03cX9_line_144 17)
theorem dX9_line_162 : decode cX9_line 162 = .ok (.invokevirtual 268, 3) := dk_182 (c := cX9_line) (pc := 162) (a := 1) (b := 12) (dk_at bnames03cX9_line_144 18) rfl
theorem dX9_line_165 : decode cX9_line 165 = .ok (.goto 67, 3) := dk_167 (c := cX9_line) (pc := 165) (a := 0) (b := 67) (dk_at bnames03cX9_line_144 21) (by decide)
theorem dX9_line_168 : decode cX9_line 168 = .ok (.aload_n 0, 1) := dk_42 (c := cX9_line) (pc := 168) (dk_at bnames03cX9_line_144 24)
theorem dX9_line_169 : decode cX9_line 169 = .ok (.ldc2_w 271, 3) := dk_20 (c := cX9_line) (pc := 169) (a := 1) (b := 15) (dk_at bnames03cX9_line_144 25) rfl
theorem dX9_line_172 : decode cX9_line 172 = .ok (.invokevirtual 183, 3) := dk_182 (c := cX9_line) (pc := 172) (a := 0) (b := 183) (dk_at bnames03cX9_line_144 28) rfl
theorem dX9_line_175 : decode cX9_line 175 = .ok (.ifCond .eq 52, 3) := dk_153 (c := cX9_line) (pc := 175) (a := 0) (b := 52) (dk_at bnames03cX9_line_144 31) (by decide)
theorem dX9_line_178 : decode cX9_line 178 = .ok (.aload_n 0, 1) := dk_42 (c := cX9_line) (pc := 178) (dk_at bnames03cX9_line_144 34)
theorem dX9_line_179 : decode cX9_line 179 = .ok (.getfield 68, 3) := dk_180 (c := cX9_line) (pc := 179) (a := 0) (b := 68) (dk_at bnames03cX9_line_144 35) rfl
theorem dX9_line_182 : decode cX9_line 182 = .ok (.iconst 4, 1) := dk_7 (c := cX9_line) (pc := 182) (dk_at bnames03cX9_line_144 38)
theorem dX9_line_183 : decode cX9_line 183 = .ok (.baload, 1) := dk_51 (c := cX9_line) (pc := 183) (dk_at bnames03cX9_line_144 39)
theorem dX9_line_184 : decode cX9_line 184 = .ok (.ifCond .eq 8, 3) := dk_153 (c := cX9_line) (pc := 184) (a := 0) (b := 8) (dk_at bnames03cX9_line_144 40) (by decide)
theorem dX9_line_187 : decode cX9_line 187 = .ok (.aload_n 0, 1) := dk_42 (c := cX9_line) (pc := 187) (dk_at bnames03cX9_line_144 43)
theorem dX9_line_188 : decode cX9_line 188 = .ok (.iconst 2, 1) := dk_5 (c := cX9_line) (pc := 188) (dk_at bnames03cX9_line_144 44)
theorem dX9_line_189 : decode cX9_line 189 = .ok (.invokevirtual 193, 3) := dk_182 (c := cX9_line) (pc := 189) (a := 0) (b := 193) (dk_at bnames03cX9_line_144 45) rfl
theorem bnames03cX9_line_192 : ((dk_l cX9_line).drop 192).take 41 = [42, 180, 0, 177, 154, 0, 7, 42, 182, 0, 187, 42, 180, 0, 71, 7, 42, 3, 17, 3, 231, 182, 0, 200, 79, 42, 180, 0, 68, 7, 4, 84, 167, 0, 8, 42, 4, 182, 0, 193, 177] := by decide +kernel
theorem dX9_line_192 : decode cX9_line 192 = .ok (.aload_n 0, 1) := dk_42 (c := cX9_line) (pc := 192) (dk_at bnames03cX9_line_192 0)
theorem dX9_line_193 : decode cX9_line 193 = .ok (.getfield 177, 3) := dk_180 (c := cX9_line) (pc := 193) (a := 0) (b := 177) (dk_at bnames03cX9_line_192 1) rfl
theorem dX9_line_196 : decode cX9_line 196 = .ok (.ifCond .ne 7, 3) := dk_154 (c := cX9_line) (pc := 196) (a := 0) (b := 7) (dk_at bnames03cX9_line_192 4) (by decide)
theorem dX9_line_199 : decode cX9_line 199 = .ok (.aload_n 0, 1) := dk_42 (c := cX9_line) (pc := 199) (dk_at bnames03cX9_line_192 7)
theorem dX9_line_200 : decode cX9_line 200 = .ok (.invokevirtual 187, 3) := dk_182 (c := cX9_line) (pc := 200) (a := 0) (b := 187) (dk_at bnames03cX9_line_192 8) rfl
theorem dX9_line_203 : decode cX9_line 203 = .ok (.aload_n 0, 1) := dk_42 (c := cX9_line) (pc := 203) (dk_at bnames03cX9_line_192 11)
theorem dX9_line_204 : decode cX9_line 204 = .ok (.getfield 71, 3) := dk_180 (c := cX9_line) (pc := 204) (a := 0) (b := 71) (dk_at bnames03cX9_line_192 12) rfl
theorem dX9_line_207 : decode cX9_line 207 = .ok (.iconst 4, 1) := dk_7 (c := cX9_line) (pc := 207) (dk_at bnames03cX9_line_192 15)
theorem dX9_line_208 : decode cX9_line 208 = .ok (.aload_n 0, 1) := dk_42 (c := cX9_line) (pc := 208) (dk_at bnames03cX9_line_192 16)
theorem dX9_line_209 : decode cX9_line 209 = .ok (.iconst 0, 1) := dk_3 (c := cX9_line) (pc := 209) (dk_at bnames03cX9_line_192 17)
theorem dX9_line_210 : decode cX9_line 210 = .ok (.sipush 999, 3) := dk_17 (c := cX9_line) (pc := 210) (a := 3) (b := 231) (dk_at bnames03cX9_line_192 18) (by decide)
theorem dX9_line_213 : decode cX9_line 213 = .ok (.invokevirtual 200, 3) := dk_182 (c := cX9_line) (pc := 213) (a := 0) (b := 200) (dk_at bnames03cX9_line_192 21) rfl
theorem dX9_line_216 : decode cX9_line 216 = .ok (.iastore, 1) := dk_79 (c := cX9_line) (pc := 216) (dk_at bnames03cX9_line_192 24)
theorem dX9_line_217 : decode cX9_line 217 = .ok (.aload_n 0, 1) := dk_42 (c := cX9_line) (pc := 217) (dk_at bnames03cX9_line_192 25)
theorem dX9_line_218 : decode cX9_line 218 = .ok (.getfield 68, 3) := dk_180 (c := cX9_line) (pc := 218) (a := 0) (b := 68) (dk_at bnames03cX9_line_192 26) rfl
theorem dX9_line_221 : decode cX9_line 221 = .ok (.iconst 4, 1) := dk_7 (c := cX9_line) (pc := 221) (dk_at bnames03cX9_line_192 29)
theorem dX9_line_222 : decode cX9_line 222 = .ok (.iconst 1, 1) := dk_4 (c := cX9_line) (pc := 222) (dk_at bnames03cX9_line_192 30)
theorem dX9_line_223 : decode cX9_line 223 = .ok (.bastore, 1) := dk_84 (c := cX9_line) (pc := 223) (dk_at bnames03cX9_line_192 31)
theorem dX9_line_224 : decode cX9_line 224 = .ok (.goto 8, 3) := dk_167 (c := cX9_line) (pc := 224) (a := 0) (b := 8) (dk_at bnames03cX9_line_192 32) (by decide)
theorem dX9_line_227 : decode cX9_line 227 = .ok (.aload_n 0, 1) := dk_42 (c := cX9_line) (pc := 227) (dk_at bnames03cX9_line_192 35)
theorem dX9_line_228 : decode cX9_line 228 = .ok (.iconst 1, 1) := dk_4 (c := cX9_line) (pc := 228) (dk_at bnames03cX9_line_192 36)
theorem dX9_line_229 : decode cX9_line 229 = .ok (.invokevirtual 193, 3) := dk_182 (c := cX9_line) (pc := 229) (a := 0) (b := 193) (dk_at bnames03cX9_line_192 37) rfl
theorem dX9_line_232 : decode cX9_line 232 = .ok (.return_, 1) := dk_177 (c := cX9_line) (pc := 232) (dk_at bnames03cX9_line_192 40)
set_option maxRecDepth 20000 in
theorem ggX9_land_X9_begins : GoodIn wsX9_land wsX9_begins := goodIn_r _ [18, 13, 19, 20, 21, 22, 23, 17, 24, 25, 26, 27, 28, 12, 29, 30, 31, 32, 33, 34, 35, 36, 37, 38, 144, 145, 146, 147, 148, 149, 150, 151, 152, 153, 154, 155, 156, 157, 158, 159, 160, 161, 162, 163, 164, 165, 166, 167, 168, 169, 170, 171, 172, 173, 174, 175, 176, 177, 178, 179, 180, 181, 182, 183, 184, 185, 186, 187, 188, 189, 190, 191, 192, 193, 194, 195, 196, 197, 198, 199, 200, 201, 202, 203] rfl (by decide +kernel)
set_option maxRecDepth 20000 in
theorem gX9_land_X9_begins : GoodIn wsX9_land (wsV RX9 273 RX9 yX9_begins wsX9_begins) := goodIn_app (goodIn_r _ [14, 15, 16, 17] rfl (by decide +kernel)) ggX9_land_X9_begins
set_option maxRecDepth 20000 in
theorem ggX9_land_X9_isGood : GoodIn wsX9_land wsX9_isGood := goodIn_r _ [42, 13, 144, 145, 146, 147, 148, 149, 150, 151, 152, 153, 154, 155, 156, 157, 158, 159, 160, 161, 162, 163, 164, 165, 166, 167, 168, 169, 170, 171, 172, 173, 174, 175, 176, 177, 178, 179, 180, 181, 182, 183, 184, 185, 186, 187, 188, 189, 190, 191, 192, 193, 194, 195, 196, 197, 198, 199, 200, 201, 202, 203] rfl (by decide +kernel)
set_option maxRecDepth 20000 in
theorem gX9_land_X9_isGood : GoodIn wsX9_land (wsV RX9 276 RX9 yX9_isGood wsX9_isGood) := goodIn_app (goodIn_r _ [39, 40, 41, 17] rfl (by decide +kernel)) ggX9_land_X9_isGood
set_option maxRecDepth 20000 in
theorem ggX9_land_X9_line : GoodIn wsX9_land wsX9_line := goodIn_r _ [46, 47, 3, 13, 48, 4, 49, 50, 8, 51, 9, 7, 52, 53, 54, 17, 55, 12, 27, 56, 57, 58, 59, 25, 19, 21, 22, 23, 24, 20, 26, 28, 29, 30, 31, 32, 33, 34, 35, 36, 37, 38, 60, 61, 62, 63, 64, 65, 66, 67, 68, 69, 70, 71, 72, 73, 74, 75, 76, 77, 78, 79, 80, 81, 82, 83, 84, 85, 86, 87, 88, 89, 90, 91, 92, 93, 94, 95, 96, 97, 98, 99, 100, 101, 102, 103, 10, 104, 11, 105, 106, 107, 108, 109, 110, 111, 112, 113, 114, 115, 116, 117, 118, 119, 120, 5, 121, 122, 123, 124, 125, 126, 127, 128, 129, 6, 144, 145, 146, 147, 148, 149, 150, 151, 152, 153, 154, 155, 156, 157, 158, 159, 160, 161, 162, 163, 164, 165, 166, 167, 168, 169, 170, 171, 172, 173, 174, 175, 176, 177, 178, 179, 180, 181, 182, 183, 184, 185, 186, 187, 188, 189, 190, 191, 192, 193, 194, 195, 196, 197, 198, 199, 200, 201, 202, 203] rfl (by decide +kernel)
set_option maxRecDepth 20000 in
theorem gX9_land_X9_line : GoodIn wsX9_land (wsV RX9 280 RX9 yX9_line wsX9_line) := goodIn_app (goodIn_r _ [43, 44, 45, 17] rfl (by decide +kernel)) ggX9_land_X9_line
set_option maxRecDepth 20000 in
theorem ggX9_land_X9_ends : GoodIn wsX9_land wsX9_ends := goodIn_r _ [133, 12, 13, 56, 57, 58, 17, 59, 25, 19, 21, 22, 23, 24, 20, 26, 27, 28, 29, 30, 31, 32, 33, 34, 35, 36, 37, 38, 144, 145, 146, 147, 148, 149, 150, 151, 152, 153, 154, 155, 156, 157, 158, 159, 160, 161, 162, 163, 164, 165, 166, 167, 168, 169, 170, 171, 172, 173, 174, 175, 176, 177, 178, 179, 180, 181, 182, 183, 184, 185, 186, 187, 188, 189, 190, 191, 192, 193, 194, 195, 196, 197, 198, 199, 200, 201, 202, 203] rfl (by decide +kernel)
set_option maxRecDepth 20000 in
theorem gX9_land_X9_ends : GoodIn wsX9_land (wsV RX9 283 RX9 yX9_ends wsX9_ends) := goodIn_app (goodIn_r _ [130, 131, 132, 17] rfl (by decide +kernel)) ggX9_land_X9_ends
set_option maxRecDepth 20000 in
theorem ggX9_land_X9_isOver : GoodIn wsX9_land wsX9_isOver := goodIn_r _ [137, 28, 13, 138, 19, 139, 144, 145, 146, 147, 148, 149, 150, 151, 152, 153, 154, 155, 156, 157, 158, 159, 160, 161, 162, 163, 164, 165, 166, 167, 168, 169, 170, 171, 172, 173, 174, 175, 176, 177, 178, 179, 180, 181, 182, 183, 184, 185, 186, 187, 188, 189, 190, 191, 192, 193, 194, 195, 196, 197, 198, 199, 200, 201, 202, 203] rfl (by decide +kernel)
set_option maxRecDepth 20000 in
theorem gX9_land_X9_isOver : GoodIn wsX9_land (wsV RX9 286 RX9 yX9_isOver wsX9_isOver) := goodIn_app (goodIn_r _ [134, 135, 136, 17] rfl (by decide +kernel)) ggX9_land_X9_isOver
set_option maxRecDepth 20000 in
theorem ggX9_land_X9_copyLand : GoodIn wsX9_land wsX9_copyLand := goodIn_r _ [143, 2, 3, 4, 5, 6, 7, 8, 64, 66, 91, 93, 95, 97, 11, 129, 144, 145, 146, 147, 148, 149, 150, 151, 152, 153, 154, 155, 156, 157, 158, 159, 160, 161, 162, 163, 164, 165, 166, 167, 168, 169, 170, 171, 172, 173, 174, 175, 176, 177, 178, 179, 180, 181, 182, 183, 184, 185, 186, 187, 188, 189, 190, 191, 192, 193, 194, 195, 196, 197, 198, 199, 200, 201, 202, 203] rfl (by decide +kernel)
set_option maxRecDepth 20000 in
theorem gX9_land_X9_copyLand : GoodIn wsX9_land (wsV RX9 289 RX9 yX9_copyLand wsX9_copyLand) := goodIn_app (goodIn_r _ [140, 141, 142, 17] rfl (by decide +kernel)) ggX9_land_X9_copyLand
theorem bnames03cX9_land_0 : ((dk_l cX9_land).drop 0).take 52 = [42, 3, 181, 0, 125, 42, 180, 0, 31, 7, 3, 79, 42, 180, 0, 34, 7, 3, 79, 42, 180, 0, 43, 7, 3, 79, 42, 180, 0, 74, 7, 3, 79, 42, 180, 0, 77, 7, 3, 79, 42, 180, 0, 71, 7, 3, 79, 42, 180, 0, 65, 7] := by decide +kernel
theorem dX9_land_0 : decode cX9_land 0 = .ok (.aload_n 0, 1) := dk_42 (c := cX9_land) (pc := 0) (dk_at bnames03cX9_land_0 0)
theorem dX9_land_1 : decode cX9_land 1 = .ok (.iconst 0, 1) := dk_3 (c := cX9_land) (pc := 1) (dk_at bnames03cX9_land_0 1)
theorem dX9_land_2 : decode cX9_land 2 = .ok (.putfield 125, 3) := dk_181 (c := cX9_land) (pc := 2) (a := 0) (b := 125) (dk_at bnames03cX9_land_0 2) rfl
theorem dX9_land_5 : decode cX9_land 5 = .ok (.aload_n 0, 1) := dk_42 (c := cX9_land) (pc := 5) (dk_at bnames03cX9_land_0 5)
theorem dX9_land_6 : decode cX9_land 6 = .ok (.getfield 31, 3) := dk_180 (c := cX9_land) (pc := 6) (a := 0) (b := 31) (dk_at bnames03cX9_land_0 6) rfl
theorem dX9_land_9 : decode cX9_land 9 = .ok (.iconst 4, 1) := dk_7 (c := cX9_land) (pc := 9) (dk_at bnames03cX9_land_0 9)
theorem dX9_land_10 : decode cX9_land 10 = .ok (.iconst 0, 1) := dk_3 (c := cX9_land) (pc := 10) (dk_at bnames03cX9_land_0 10)
theorem dX9_land_11 : decode cX9_land 11 = .ok (.iastore, 1) := dk_79 (c := cX9_land) (pc := 11) (dk_at bnames03cX9_land_0 11)
theorem dX9_land_12 : decode cX9_land 12 = .ok (.aload_n 0, 1) := dk_42 (c := cX9_land) (pc := 12) (dk_at bnames03cX9_land_0 12)
theorem dX9_land_13 : decode cX9_land 13 = .ok (.getfield 34, 3) := dk_180 (c := cX9_land) (pc := 13) (a := 0) (b := 34) (dk_at bnames03cX9_land_0 13) rfl
theorem dX9_land_16 : decode cX9_land 16 = .ok (.iconst 4, 1) := dk_7 (c := cX9_land) (pc := 16) (dk_at bnames03cX9_land_0 16)
theorem dX9_land_17 : decode cX9_land 17 = .ok (.iconst 0, 1) := dk_3 (c := cX9_land) (pc := 17) (dk_at bnames03cX9_land_0 17)
theorem dX9_land_18 : decode cX9_land 18 = .ok (.iastore, 1) := dk_79 (c := cX9_land) (pc := 18) (dk_at bnames03cX9_land_0 18)
theorem dX9_land_19 : decode cX9_land 19 = .ok (.aload_n 0, 1) := dk_42 (c := cX9_land) (pc := 19) (dk_at bnames03cX9_land_0 19)
theorem dX9_land_20 : decode cX9_land 20 = .ok (.getfield 43, 3) := dk_180 (c := cX9_land) (pc := 20) (a := 0) (b := 43) (dk_at bnames03cX9_land_0 20) rfl
theorem dX9_land_23 : decode cX9_land 23 = .ok (.iconst 4, 1) := dk_7 (c := cX9_land) (pc := 23) (dk_at bnames03cX9_land_0 23)
theorem dX9_land_24 : decode cX9_land 24 = .ok (.iconst 0, 1) := dk_3 (c := cX9_land) (pc := 24) (dk_at bnames03cX9_land_0 24)
theorem dX9_land_25 : decode cX9_land 25 = .ok (.iastore, 1) := dk_79 (c := cX9_land) (pc := 25) (dk_at bnames03cX9_land_0 25)
theorem dX9_land_26 : decode cX9_land 26 = .ok (.aload_n 0, 1) := dk_42 (c := cX9_land) (pc := 26) (dk_at bnames03cX9_land_0 26)
theorem dX9_land_27 : decode cX9_land 27 = .ok (.getfield 74, 3) := dk_180 (c := cX9_land) (pc := 27) (a := 0) (b := 74) (dk_at bnames03cX9_land_0 27) rfl
theorem dX9_land_30 : decode cX9_land 30 = .ok (.iconst 4, 1) := dk_7 (c := cX9_land) (pc := 30) (dk_at bnames03cX9_land_0 30)
theorem dX9_land_31 : decode cX9_land 31 = .ok (.iconst 0, 1) := dk_3 (c := cX9_land) (pc := 31) (dk_at bnames03cX9_land_0 31)
theorem dX9_land_32 : decode cX9_land 32 = .ok (.iastore, 1) := dk_79 (c := cX9_land) (pc := 32) (dk_at bnames03cX9_land_0 32)
theorem dX9_land_33 : decode cX9_land 33 = .ok (.aload_n 0, 1) := dk_42 (c := cX9_land) (pc := 33) (dk_at bnames03cX9_land_0 33)
theorem dX9_land_34 : decode cX9_land 34 = .ok (.getfield 77, 3) := dk_180 (c := cX9_land) (pc := 34) (a := 0) (b := 77) (dk_at bnames03cX9_land_0 34) rfl
theorem dX9_land_37 : decode cX9_land 37 = .ok (.iconst 4, 1) := dk_7 (c := cX9_land) (pc := 37) (dk_at bnames03cX9_land_0 37)
theorem dX9_land_38 : decode cX9_land 38 = .ok (.iconst 0, 1) := dk_3 (c := cX9_land) (pc := 38) (dk_at bnames03cX9_land_0 38)
theorem dX9_land_39 : decode cX9_land 39 = .ok (.iastore, 1) := dk_79 (c := cX9_land) (pc := 39) (dk_at bnames03cX9_land_0 39)
theorem dX9_land_40 : decode cX9_land 40 = .ok (.aload_n 0, 1) := dk_42 (c := cX9_land) (pc := 40) (dk_at bnames03cX9_land_0 40)
theorem dX9_land_41 : decode cX9_land 41 = .ok (.getfield 71, 3) := dk_180 (c := cX9_land) (pc := 41) (a := 0) (b := 71) (dk_at bnames03cX9_land_0 41) rfl
theorem dX9_land_44 : decode cX9_land 44 = .ok (.iconst 4, 1) := dk_7 (c := cX9_land) (pc := 44) (dk_at bnames03cX9_land_0 44)
theorem dX9_land_45 : decode cX9_land 45 = .ok (.iconst 0, 1) := dk_3 (c := cX9_land) (pc := 45) (dk_at bnames03cX9_land_0 45)
theorem dX9_land_46 : decode cX9_land 46 = .ok (.iastore, 1) := dk_79 (c := cX9_land) (pc := 46) (dk_at bnames03cX9_land_0 46)
theorem dX9_land_47 : decode cX9_land 47 = .ok (.aload_n 0, 1) := dk_42 (c := cX9_land) (pc := 47) (dk_at bnames03cX9_land_0 47)
theorem bnames03cX9_land_48 : ((dk_l cX9_land).drop 48).take 52 = [180, 0, 65, 7, 3, 84, 42, 180, 0, 68, 7, 3, 84, 3, 60, 27, 16, 12, 162, 0, 29, 42, 180, 0, 58, 16, 48, 27, 96, 3, 84, 42, 180, 0, 62, 16, 48, 27, 96, 3, 79, 132, 1, 1, 167, 255, 227, 42, 182, 1, 17, 42] := by decide +kernel
theorem dX9_land_48 : decode cX9_land 48 = .ok (.getfield 65, 3) := dk_180 (c := cX9_land) (pc := 48) (a := 0) (b := 65) (dk_at bnames03cX9_land_48 0) rfl
theorem dX9_land_51 : decode cX9_land 51 = .ok (.iconst 4, 1) := dk_7 (c := cX9_land) (pc := 51) (dk_at bnames03cX9_land_48 3)
theorem dX9_land_52 : decode cX9_land 52 = .ok (.iconst 0, 1) := dk_3 (c := cX9_land) (pc := 52) (dk_at bnames03cX9_land_48 4)
theorem dX9_land_53 : decode cX9_land 53 = .ok (.bastore, 1) := dk_84 (c := cX9_land) (pc := 53) (dk_at bnames03cX9_land_48 5)
theorem dX9_land_54 : decode cX9_land 54 = .ok (.aload_n 0, 1) := dk_42 (c := cX9_land) (pc := 54) (dk_at bnames03cX9_land_48 6)
theorem dX9_land_55 : decode cX9_land 55 = .ok (.getfield 68, 3) := dk_180 (c := cX9_land) (pc := 55) (a := 0) (b := 68) (dk_at bnames03cX9_land_48 7) rfl
theorem dX9_land_58 : decode cX9_land 58 = .ok (.iconst 4, 1) := dk_7 (c := cX9_land) (pc := 58) (dk_at bnames03cX9_land_48 10)
theorem dX9_land_59 : decode cX9_land 59 = .ok (.iconst 0, 1) := dk_3 (c := cX9_land) (pc := 59) (dk_at bnames03cX9_land_48 11)
theorem dX9_land_60 : decode cX9_land 60 = .ok (.bastore, 1) := dk_84 (c := cX9_land) (pc := 60) (dk_at bnames03cX9_land_48 12)
theorem dX9_land_61 : decode cX9_land 61 = .ok (.iconst 0, 1) := dk_3 (c := cX9_land) (pc := 61) (dk_at bnames03cX9_land_48 13)
theorem dX9_land_62 : decode cX9_land 62 = .ok (.istore_n 1, 1) := dk_60 (c := cX9_land) (pc := 62) (dk_at bnames03cX9_land_48 14)
theorem dX9_land_63 : decode cX9_land 63 = .ok (.iload_n 1, 1) := dk_27 (c := cX9_land) (pc := 63) (dk_at bnames03cX9_land_48 15)
theorem dX9_land_64 : decode cX9_land 64 = .ok (.bipush 12, 2) := dk_16 (c := cX9_land) (pc := 64) (a := 12) (dk_at bnames03cX9_land_48 16) (by decide)
theorem dX9_land_66 : decode cX9_land 66 = .ok (.if_icmp .ge 29, 3) := dk_162 (c := cX9_land) (pc := 66) (a := 0) (b := 29) (dk_at bnames03cX9_land_48 18) (by decide)
theorem dX9_land_69 : decode cX9_land 69 = .ok (.aload_n 0, 1) := dk_42 (c := cX9_land) (pc := 69) (dk_at bnames03cX9_land_48 21)
theorem dX9_land_70 : decode cX9_land 70 = .ok (.getfield 58, 3) := dk_180 (c := cX9_land) (pc := 70) (a := 0) (b := 58) (dk_at bnames03cX9_land_48 22) rfl
theorem dX9_land_73 : decode cX9_land 73 = .ok (.bipush 48, 2) := dk_16 (c := cX9_land) (pc := 73) (a := 48) (dk_at bnames03cX9_land_48 25) (by decide)
theorem dX9_land_75 : decode cX9_land 75 = .ok (.iload_n 1, 1) := dk_27 (c := cX9_land) (pc := 75) (dk_at bnames03cX9_land_48 27)
theorem dX9_land_76 : decode cX9_land 76 = .ok (.iadd, 1) := dk_96 (c := cX9_land) (pc := 76) (dk_at bnames03cX9_land_48 28)
theorem dX9_land_77 : decode cX9_land 77 = .ok (.iconst 0, 1) := dk_3 (c := cX9_land) (pc := 77) (dk_at bnames03cX9_land_48 29)
theorem dX9_land_78 : decode cX9_land 78 = .ok (.bastore, 1) := dk_84 (c := cX9_land) (pc := 78) (dk_at bnames03cX9_land_48 30)
theorem dX9_land_79 : decode cX9_land 79 = .ok (.aload_n 0, 1) := dk_42 (c := cX9_land) (pc := 79) (dk_at bnames03cX9_land_48 31)
theorem dX9_land_80 : decode cX9_land 80 = .ok (.getfield 62, 3) := dk_180 (c := cX9_land) (pc := 80) (a := 0) (b := 62) (dk_at bnames03cX9_land_48 32) rfl
theorem dX9_land_83 : decode cX9_land 83 = .ok (.bipush 48, 2) := dk_16 (c := cX9_land) (pc := 83) (a := 48) (dk_at bnames03cX9_land_48 35) (by decide)
theorem dX9_land_85 : decode cX9_land 85 = .ok (.iload_n 1, 1) := dk_27 (c := cX9_land) (pc := 85) (dk_at bnames03cX9_land_48 37)
theorem dX9_land_86 : decode cX9_land 86 = .ok (.iadd, 1) := dk_96 (c := cX9_land) (pc := 86) (dk_at bnames03cX9_land_48 38)
theorem dX9_land_87 : decode cX9_land 87 = .ok (.iconst 0, 1) := dk_3 (c := cX9_land) (pc := 87) (dk_at bnames03cX9_land_48 39)
theorem dX9_land_88 : decode cX9_land 88 = .ok (.iastore, 1) := dk_79 (c := cX9_land) (pc := 88) (dk_at bnames03cX9_land_48 40)
theorem dX9_land_89 : decode cX9_land 89 = .ok (.iinc 1 1, 3) := dk_132 (c := cX9_land) (pc := 89) (a := 1) (b := 1) (dk_at bnames03cX9_land_48 41) rfl (by decide)
theorem dX9_land_92 : decode cX9_land 92 = .ok (.goto (-29), 3) := dk_167 (c := cX9_land) (pc := 92) (a := 255) (b := 227) (dk_at bnames03cX9_land_48 44) (by decide)
theorem dX9_land_95 : decode cX9_land 95 = .ok (.aload_n 0, 1) := dk_42 (c := cX9_land) (pc := 95) (dk_at bnames03cX9_land_48 47)
theorem bnames03cX9_land_96 : ((dk_l cX9_land).drop 96).take 52 = [182, 1, 17, 42, 182, 1, 20, 153, 0, 38, 42, 180, 0, 166, 153, 0, 31, 42, 182, 1, 24, 42, 182, 1, 20, 153, 0, 7, 42, 182, 1, 27, 42, 180, 0, 31, 7, 92, 46, 4, 96, 79, 167, 255, 217, 42, 182, 1, 30, 42, 180, 0] := by decide +kernel
theorem dX9_land_96 : decode cX9_land 96 = .ok (.invokevirtual 273, 3) := dk_182 (c := cX9_land) (pc := 96) (a := 1) (b := 17) (dk_at bnames03cX9_land_96 0) rfl
theorem dX9_land_99 : decode cX9_land 99 = .ok (.aload_n 0, 1) := dk_42 (c := cX9_land) (pc := 99) (dk_at bnames03cX9_land_96 3)
theorem dX9_land_100 : decode cX9_land 100 = .ok (.invokevirtual 276, 3) := dk_182 (c := cX9_land) (pc := 100) (a := 1) (b := 20) (dk_at bnames03cX9_land_96 4) rfl
theorem dX9_land_103 : decode cX9_land 103 = .ok (.ifCond .eq 38, 3) := dk_153 (c := cX9_land) (pc := 103) (a := 0) (b := 38) (dk_at bnames03cX9_land_96 7) (by decide)
theorem dX9_land_106 : decode cX9_land 106 = .ok (.aload_n 0, 1) := dk_42 (c := cX9_land) (pc := 106) (dk_at bnames03cX9_land_96 10)
theorem dX9_land_107 : decode cX9_land 107 = .ok (.getfield 166, 3) := dk_180 (c := cX9_land) (pc := 107) (a := 0) (b := 166) (dk_at bnames03cX9_land_96 11) rfl
theorem dX9_land_110 : decode cX9_land 110 = .ok (.ifCond .eq 31, 3) := dk_153 (c := cX9_land) (pc := 110) (a := 0) (b := 31) (dk_at bnames03cX9_land_96 14) (by decide)
theorem dX9_land_113 : decode cX9_land 113 = .ok (.aload_n 0, 1) := dk_42 (c := cX9_land) (pc := 113) (dk_at bnames03cX9_land_96 17)
theorem dX9_land_114 : decode cX9_land 114 = .ok (.invokevirtual 280, 3) := dk_182 (c := cX9_land) (pc := 114) (a := 1) (b := 24) (dk_at bnames03cX9_land_96 18) rfl
theorem dX9_land_117 : decode cX9_land 117 = .ok (.aload_n 0, 1) := dk_42 (c := cX9_land) (pc := 117) (dk_at bnames03cX9_land_96 21)
theorem dX9_land_118 : decode cX9_land 118 = .ok (.invokevirtual 276, 3) := dk_182 (c := cX9_land) (pc := 118) (a := 1) (b := 20) (dk_at bnames03cX9_land_96 22) rfl
theorem dX9_land_121 : decode cX9_land 121 = .ok (.ifCond .eq 7, 3) := dk_153 (c := cX9_land) (pc := 121) (a := 0) (b := 7) (dk_at bnames03cX9_land_96 25) (by decide)
theorem dX9_land_124 : decode cX9_land 124 = .ok (.aload_n 0, 1) := dk_42 (c := cX9_land) (pc := 124) (dk_at bnames03cX9_land_96 28)
theorem dX9_land_125 : decode cX9_land 125 = .ok (.invokevirtual 283, 3) := dk_182 (c := cX9_land) (pc := 125) (a := 1) (b := 27) (dk_at bnames03cX9_land_96 29) rfl
theorem dX9_land_128 : decode cX9_land 128 = .ok (.aload_n 0, 1) := dk_42 (c := cX9_land) (pc := 128) (dk_at bnames03cX9_land_96 32)
theorem dX9_land_129 : decode cX9_land 129 = .ok (.getfield 31, 3) := dk_180 (c := cX9_land) (pc := 129) (a := 0) (b := 31) (dk_at bnames03cX9_land_96 33) rfl
theorem dX9_land_132 : decode cX9_land 132 = .ok (.iconst 4, 1) := dk_7 (c := cX9_land) (pc := 132) (dk_at bnames03cX9_land_96 36)
theorem dX9_land_133 : decode cX9_land 133 = .ok (.dup2, 1) := dk_92 (c := cX9_land) (pc := 133) (dk_at bnames03cX9_land_96 37)
theorem dX9_land_134 : decode cX9_land 134 = .ok (.iaload, 1) := dk_46 (c := cX9_land) (pc := 134) (dk_at bnames03cX9_land_96 38)
theorem dX9_land_135 : decode cX9_land 135 = .ok (.iconst 1, 1) := dk_4 (c := cX9_land) (pc := 135) (dk_at bnames03cX9_land_96 39)
theorem dX9_land_136 : decode cX9_land 136 = .ok (.iadd, 1) := dk_96 (c := cX9_land) (pc := 136) (dk_at bnames03cX9_land_96 40)
theorem dX9_land_137 : decode cX9_land 137 = .ok (.iastore, 1) := dk_79 (c := cX9_land) (pc := 137) (dk_at bnames03cX9_land_96 41)
theorem dX9_land_138 : decode cX9_land 138 = .ok (.goto (-39), 3) := dk_167 (c := cX9_land) (pc := 138) (a := 255) (b := 217) (dk_at bnames03cX9_land_96 42) (by decide)
theorem dX9_land_141 : decode cX9_land 141 = .ok (.aload_n 0, 1) := dk_42 (c := cX9_land) (pc := 141) (dk_at bnames03cX9_land_96 45)
theorem dX9_land_142 : decode cX9_land 142 = .ok (.invokevirtual 286, 3) := dk_182 (c := cX9_land) (pc := 142) (a := 1) (b := 30) (dk_at bnames03cX9_land_96 46) rfl
theorem bnames03cX9_land_144 : ((dk_l cX9_land).drop 144).take 24 = [30, 42, 180, 0, 177, 153, 0, 6, 16, 252, 172, 42, 7, 3, 182, 1, 33, 42, 180, 0, 31, 3, 46, 172] := by decide +kernel
theorem dX9_land_145 : decode cX9_land 145 = .ok (.aload_n 0, 1) := dk_42 (c := cX9_land) (pc := 145) (dk_at bnames03cX9_land_144 1)
theorem dX9_land_146 : decode cX9_land 146 = .ok (.getfield 177, 3) := dk_180 (c := cX9_land) (pc := 146) (a := 0) (b := 177) (dk_at bnames03cX9_land_144 2) rfl
theorem dX9_land_149 : decode cX9_land 149 = .ok (.ifCond .eq 6, 3) := dk_153 (c := cX9_land) (pc := 149) (a := 0) (b := 6) (dk_at bnames03cX9_land_144 5) (by decide)
theorem dX9_land_152 : decode cX9_land 152 = .ok (.bipush (-4), 2) := dk_16 (c := cX9_land) (pc := 152) (a := 252) (dk_at bnames03cX9_land_144 8) (by decide)
theorem dX9_land_154 : decode cX9_land 154 = .ok (.ireturn, 1) := dk_172 (c := cX9_land) (pc := 154) (dk_at bnames03cX9_land_144 10)
theorem dX9_land_155 : decode cX9_land 155 = .ok (.aload_n 0, 1) := dk_42 (c := cX9_land) (pc := 155) (dk_at bnames03cX9_land_144 11)
theorem dX9_land_156 : decode cX9_land 156 = .ok (.iconst 4, 1) := dk_7 (c := cX9_land) (pc := 156) (dk_at bnames03cX9_land_144 12)
theorem dX9_land_157 : decode cX9_land 157 = .ok (.iconst 0, 1) := dk_3 (c := cX9_land) (pc := 157) (dk_at bnames03cX9_land_144 13)
theorem dX9_land_158 : decode cX9_land 158 = .ok (.invokevirtual 289, 3) := dk_182 (c := cX9_land) (pc := 158) (a := 1) (b := 33) (dk_at bnames03cX9_land_144 14) rfl
theorem dX9_land_161 : decode cX9_land 161 = .ok (.aload_n 0, 1) := dk_42 (c := cX9_land) (pc := 161) (dk_at bnames03cX9_land_144 17)
theorem dX9_land_162 : decode cX9_land 162 = .ok (.getfield 31, 3) := dk_180 (c := cX9_land) (pc := 162) (a := 0) (b := 31) (dk_at bnames03cX9_land_144 18) rfl
theorem dX9_land_165 : decode cX9_land 165 = .ok (.iconst 0, 1) := dk_3 (c := cX9_land) (pc := 165) (dk_at bnames03cX9_land_144 21)
theorem dX9_land_166 : decode cX9_land 166 = .ok (.iaload, 1) := dk_46 (c := cX9_land) (pc := 166) (dk_at bnames03cX9_land_144 22)
theorem dX9_land_167 : decode cX9_land 167 = .ok (.ireturn, 1) := dk_172 (c := cX9_land) (pc := 167) (dk_at bnames03cX9_land_144 23)
theorem bnames03cX9_copyLand_0 : ((dk_l cX9_copyLand).drop 0).take 52 = [42, 180, 0, 31, 28, 42, 180, 0, 31, 27, 46, 79, 42, 180, 0, 34, 28, 42, 180, 0, 34, 27, 46, 79, 42, 180, 0, 43, 28, 42, 180, 0, 43, 27, 46, 79, 42, 180, 0, 74, 28, 42, 180, 0, 74, 27, 46, 79, 42, 180, 0, 77] := by decide +kernel
theorem dX9_copyLand_0 : decode cX9_copyLand 0 = .ok (.aload_n 0, 1) := dk_42 (c := cX9_copyLand) (pc := 0) (dk_at bnames03cX9_copyLand_0 0)
theorem dX9_copyLand_1 : decode cX9_copyLand 1 = .ok (.getfield 31, 3) := dk_180 (c := cX9_copyLand) (pc := 1) (a := 0) (b := 31) (dk_at bnames03cX9_copyLand_0 1) rfl
theorem dX9_copyLand_4 : decode cX9_copyLand 4 = .ok (.iload_n 2, 1) := dk_28 (c := cX9_copyLand) (pc := 4) (dk_at bnames03cX9_copyLand_0 4)
theorem dX9_copyLand_5 : decode cX9_copyLand 5 = .ok (.aload_n 0, 1) := dk_42 (c := cX9_copyLand) (pc := 5) (dk_at bnames03cX9_copyLand_0 5)
theorem dX9_copyLand_6 : decode cX9_copyLand 6 = .ok (.getfield 31, 3) := dk_180 (c := cX9_copyLand) (pc := 6) (a := 0) (b := 31) (dk_at bnames03cX9_copyLand_0 6) rfl
theorem dX9_copyLand_9 : decode cX9_copyLand 9 = .ok (.iload_n 1, 1) := dk_27 (c := cX9_copyLand) (pc := 9) (dk_at bnames03cX9_copyLand_0 9)
theorem dX9_copyLand_10 : decode cX9_copyLand 10 = .ok (.iaload, 1) := dk_46 (c := cX9_copyLand) (pc := 10) (dk_at bnames03cX9_copyLand_0 10)
theorem dX9_copyLand_11 : decode cX9_copyLand 11 = .ok (.iastore, 1) := dk_79 (c := cX9_copyLand) (pc := 11) (dk_at bnames03cX9_copyLand_0 11)
theorem dX9_copyLand_12 : decode cX9_copyLand 12 = .ok (.aload_n 0, 1) := dk_42 (c := cX9_copyLand) (pc := 12) (dk_at bnames03cX9_copyLand_0 12)
theorem dX9_copyLand_13 : decode cX9_copyLand 13 = .ok (.getfield 34, 3) := dk_180 (c := cX9_copyLand) (pc := 13) (a := 0) (b := 34) (dk_at bnames03cX9_copyLand_0 13) rfl
theorem dX9_copyLand_16 : decode cX9_copyLand 16 = .ok (.iload_n 2, 1) := dk_28 (c := cX9_copyLand) (pc := 16) (dk_at bnames03cX9_copyLand_0 16)
theorem dX9_copyLand_17 : decode cX9_copyLand 17 = .ok (.aload_n 0, 1) := dk_42 (c := cX9_copyLand) (pc := 17) (dk_at bnames03cX9_copyLand_0 17)
theorem dX9_copyLand_18 : decode cX9_copyLand 18 = .ok (.getfield 34, 3) := dk_180 (c := cX9_copyLand) (pc := 18) (a := 0) (b := 34) (dk_at bnames03cX9_copyLand_0 18) rfl
theorem dX9_copyLand_21 : decode cX9_copyLand 21 = .ok (.iload_n 1, 1) := dk_27 (c := cX9_copyLand) (pc := 21) (dk_at bnames03cX9_copyLand_0 21)
theorem dX9_copyLand_22 : decode cX9_copyLand 22 = .ok (.iaload, 1) := dk_46 (c := cX9_copyLand) (pc := 22) (dk_at bnames03cX9_copyLand_0 22)
theorem dX9_copyLand_23 : decode cX9_copyLand 23 = .ok (.iastore, 1) := dk_79 (c := cX9_copyLand) (pc := 23) (dk_at bnames03cX9_copyLand_0 23)
theorem dX9_copyLand_24 : decode cX9_copyLand 24 = .ok (.aload_n 0, 1) := dk_42 (c := cX9_copyLand) (pc := 24) (dk_at bnames03cX9_copyLand_0 24)
theorem dX9_copyLand_25 : decode cX9_copyLand 25 = .ok (.getfield 43, 3) := dk_180 (c := cX9_copyLand) (pc := 25) (a := 0) (b := 43) (dk_at bnames03cX9_copyLand_0 25) rfl
theorem dX9_copyLand_28 : decode cX9_copyLand 28 = .ok (.iload_n 2, 1) := dk_28 (c := cX9_copyLand) (pc := 28) (dk_at bnames03cX9_copyLand_0 28)
theorem dX9_copyLand_29 : decode cX9_copyLand 29 = .ok (.aload_n 0, 1) := dk_42 (c := cX9_copyLand) (pc := 29) (dk_at bnames03cX9_copyLand_0 29)
theorem dX9_copyLand_30 : decode cX9_copyLand 30 = .ok (.getfield 43, 3) := dk_180 (c := cX9_copyLand) (pc := 30) (a := 0) (b := 43) (dk_at bnames03cX9_copyLand_0 30) rfl
theorem dX9_copyLand_33 : decode cX9_copyLand 33 = .ok (.iload_n 1, 1) := dk_27 (c := cX9_copyLand) (pc := 33) (dk_at bnames03cX9_copyLand_0 33)
theorem dX9_copyLand_34 : decode cX9_copyLand 34 = .ok (.iaload, 1) := dk_46 (c := cX9_copyLand) (pc := 34) (dk_at bnames03cX9_copyLand_0 34)
theorem dX9_copyLand_35 : decode cX9_copyLand 35 = .ok (.iastore, 1) := dk_79 (c := cX9_copyLand) (pc := 35) (dk_at bnames03cX9_copyLand_0 35)
theorem dX9_copyLand_36 : decode cX9_copyLand 36 = .ok (.aload_n 0, 1) := dk_42 (c := cX9_copyLand) (pc := 36) (dk_at bnames03cX9_copyLand_0 36)
theorem dX9_copyLand_37 : decode cX9_copyLand 37 = .ok (.getfield 74, 3) := dk_180 (c := cX9_copyLand) (pc := 37) (a := 0) (b := 74) (dk_at bnames03cX9_copyLand_0 37) rfl
theorem dX9_copyLand_40 : decode cX9_copyLand 40 = .ok (.iload_n 2, 1) := dk_28 (c := cX9_copyLand) (pc := 40) (dk_at bnames03cX9_copyLand_0 40)
theorem dX9_copyLand_41 : decode cX9_copyLand 41 = .ok (.aload_n 0, 1) := dk_42 (c := cX9_copyLand) (pc := 41) (dk_at bnames03cX9_copyLand_0 41)
theorem dX9_copyLand_42 : decode cX9_copyLand 42 = .ok (.getfield 74, 3) := dk_180 (c := cX9_copyLand) (pc := 42) (a := 0) (b := 74) (dk_at bnames03cX9_copyLand_0 42) rfl
theorem dX9_copyLand_45 : decode cX9_copyLand 45 = .ok (.iload_n 1, 1) := dk_27 (c := cX9_copyLand) (pc := 45) (dk_at bnames03cX9_copyLand_0 45)
theorem dX9_copyLand_46 : decode cX9_copyLand 46 = .ok (.iaload, 1) := dk_46 (c := cX9_copyLand) (pc := 46) (dk_at bnames03cX9_copyLand_0 46)
theorem dX9_copyLand_47 : decode cX9_copyLand 47 = .ok (.iastore, 1) := dk_79 (c := cX9_copyLand) (pc := 47) (dk_at bnames03cX9_copyLand_0 47)
theorem bnames03cX9_copyLand_48 : ((dk_l cX9_copyLand).drop 48).take 52 = [42, 180, 0, 77, 28, 42, 180, 0, 77, 27, 46, 79, 42, 180, 0, 71, 28, 42, 180, 0, 71, 27, 46, 79, 42, 180, 0, 65, 28, 42, 180, 0, 65, 27, 51, 84, 3, 62, 29, 16, 6, 162, 0, 53, 42, 180, 0, 37, 16, 6, 28, 104] := by decide +kernel
theorem dX9_copyLand_48 : decode cX9_copyLand 48 = .ok (.aload_n 0, 1) := dk_42 (c := cX9_copyLand) (pc := 48) (dk_at bnames03cX9_copyLand_48 0)
theorem dX9_copyLand_49 : decode cX9_copyLand 49 = .ok (.getfield 77, 3) := dk_180 (c := cX9_copyLand) (pc := 49) (a := 0) (b := 77) (dk_at bnames03cX9_copyLand_48 1) rfl
theorem dX9_copyLand_52 : decode cX9_copyLand 52 = .ok (.iload_n 2, 1) := dk_28 (c := cX9_copyLand) (pc := 52) (dk_at bnames03cX9_copyLand_48 4)
theorem dX9_copyLand_53 : decode cX9_copyLand 53 = .ok (.aload_n 0, 1) := dk_42 (c := cX9_copyLand) (pc := 53) (dk_at bnames03cX9_copyLand_48 5)
theorem dX9_copyLand_54 : decode cX9_copyLand 54 = .ok (.getfield 77, 3) := dk_180 (c := cX9_copyLand) (pc := 54) (a := 0) (b := 77) (dk_at bnames03cX9_copyLand_48 6) rfl
theorem dX9_copyLand_57 : decode cX9_copyLand 57 = .ok (.iload_n 1, 1) := dk_27 (c := cX9_copyLand) (pc := 57) (dk_at bnames03cX9_copyLand_48 9)
theorem dX9_copyLand_58 : decode cX9_copyLand 58 = .ok (.iaload, 1) := dk_46 (c := cX9_copyLand) (pc := 58) (dk_at bnames03cX9_copyLand_48 10)
theorem dX9_copyLand_59 : decode cX9_copyLand 59 = .ok (.iastore, 1) := dk_79 (c := cX9_copyLand) (pc := 59) (dk_at bnames03cX9_copyLand_48 11)
theorem dX9_copyLand_60 : decode cX9_copyLand 60 = .ok (.aload_n 0, 1) := dk_42 (c := cX9_copyLand) (pc := 60) (dk_at bnames03cX9_copyLand_48 12)
theorem dX9_copyLand_61 : decode cX9_copyLand 61 = .ok (.getfield 71, 3) := dk_180 (c := cX9_copyLand) (pc := 61) (a := 0) (b := 71) (dk_at bnames03cX9_copyLand_48 13) rfl
theorem dX9_copyLand_64 : decode cX9_copyLand 64 = .ok (.iload_n 2, 1) := dk_28 (c := cX9_copyLand) (pc := 64) (dk_at bnames03cX9_copyLand_48 16)
theorem dX9_copyLand_65 : decode cX9_copyLand 65 = .ok (.aload_n 0, 1) := dk_42 (c := cX9_copyLand) (pc := 65) (dk_at bnames03cX9_copyLand_48 17)
theorem dX9_copyLand_66 : decode cX9_copyLand 66 = .ok (.getfield 71, 3) := dk_180 (c := cX9_copyLand) (pc := 66) (a := 0) (b := 71) (dk_at bnames03cX9_copyLand_48 18) rfl
theorem dX9_copyLand_69 : decode cX9_copyLand 69 = .ok (.iload_n 1, 1) := dk_27 (c := cX9_copyLand) (pc := 69) (dk_at bnames03cX9_copyLand_48 21)
theorem dX9_copyLand_70 : decode cX9_copyLand 70 = .ok (.iaload, 1) := dk_46 (c := cX9_copyLand) (pc := 70) (dk_at bnames03cX9_copyLand_48 22)
theorem dX9_copyLand_71 : decode cX9_copyLand 71 = .ok (.iastore, 1) := dk_79 (c := cX9_copyLand) (pc := 71) (dk_at bnames03cX9_copyLand_48 23)
theorem dX9_copyLand_72 : decode cX9_copyLand 72 = .ok (.aload_n 0, 1) := dk_42 (c := cX9_copyLand) (pc := 72) (dk_at bnames03cX9_copyLand_48 24)
theorem dX9_copyLand_73 : decode cX9_copyLand 73 = .ok (.getfield 65, 3) := dk_180 (c := cX9_copyLand) (pc := 73) (a := 0) (b := 65) (dk_at bnames03cX9_copyLand_48 25) rfl
theorem dX9_copyLand_76 : decode cX9_copyLand 76 = .ok (.iload_n 2, 1) := dk_28 (c := cX9_copyLand) (pc := 76) (dk_at bnames03cX9_copyLand_48 28)
theorem dX9_copyLand_77 : decode cX9_copyLand 77 = .ok (.aload_n 0, 1) := dk_42 (c := cX9_copyLand) (pc := 77) (dk_at bnames03cX9_copyLand_48 29)
theorem dX9_copyLand_78 : decode cX9_copyLand 78 = .ok (.getfield 65, 3) := dk_180 (c := cX9_copyLand) (pc := 78) (a := 0) (b := 65) (dk_at bnames03cX9_copyLand_48 30) rfl
theorem dX9_copyLand_81 : decode cX9_copyLand 81 = .ok (.iload_n 1, 1) := dk_27 (c := cX9_copyLand) (pc := 81) (dk_at bnames03cX9_copyLand_48 33)
theorem dX9_copyLand_82 : decode cX9_copyLand 82 = .ok (.baload, 1) := dk_51 (c := cX9_copyLand) (pc := 82) (dk_at bnames03cX9_copyLand_48 34)
theorem dX9_copyLand_83 : decode cX9_copyLand 83 = .ok (.bastore, 1) := dk_84 (c := cX9_copyLand) (pc := 83) (dk_at bnames03cX9_copyLand_48 35)
theorem dX9_copyLand_84 : decode cX9_copyLand 84 = .ok (.iconst 0, 1) := dk_3 (c := cX9_copyLand) (pc := 84) (dk_at bnames03cX9_copyLand_48 36)
theorem dX9_copyLand_85 : decode cX9_copyLand 85 = .ok (.istore_n 3, 1) := dk_62 (c := cX9_copyLand) (pc := 85) (dk_at bnames03cX9_copyLand_48 37)
theorem dX9_copyLand_86 : decode cX9_copyLand 86 = .ok (.iload_n 3, 1) := dk_29 (c := cX9_copyLand) (pc := 86) (dk_at bnames03cX9_copyLand_48 38)
theorem dX9_copyLand_87 : decode cX9_copyLand 87 = .ok (.bipush 6, 2) := dk_16 (c := cX9_copyLand) (pc := 87) (a := 6) (dk_at bnames03cX9_copyLand_48 39) (by decide)
theorem dX9_copyLand_89 : decode cX9_copyLand 89 = .ok (.if_icmp .ge 53, 3) := dk_162 (c := cX9_copyLand) (pc := 89) (a := 0) (b := 53) (dk_at bnames03cX9_copyLand_48 41) (by decide)
theorem dX9_copyLand_92 : decode cX9_copyLand 92 = .ok (.aload_n 0, 1) := dk_42 (c := cX9_copyLand) (pc := 92) (dk_at bnames03cX9_copyLand_48 44)
theorem dX9_copyLand_93 : decode cX9_copyLand 93 = .ok (.getfield 37, 3) := dk_180 (c := cX9_copyLand) (pc := 93) (a := 0) (b := 37) (dk_at bnames03cX9_copyLand_48 45) rfl
theorem bnames03cX9_copyLand_96 : ((dk_l cX9_copyLand).drop 96).take 52 = [16, 6, 28, 104, 29, 96, 42, 180, 0, 37, 16, 6, 27, 104, 29, 96, 46, 79, 42, 180, 0, 40, 16, 6, 28, 104, 29, 96, 42, 180, 0, 40, 16, 6, 27, 104, 29, 96, 46, 79, 132, 3, 1, 167, 255, 203, 3, 62, 29, 16, 8, 162] := by decide +kernel
theorem dX9_copyLand_96 : decode cX9_copyLand 96 = .ok (.bipush 6, 2) := dk_16 (c := cX9_copyLand) (pc := 96) (a := 6) (dk_at bnames03cX9_copyLand_96 0) (by decide)
theorem dX9_copyLand_98 : decode cX9_copyLand 98 = .ok (.iload_n 2, 1) := dk_28 (c := cX9_copyLand) (pc := 98) (dk_at bnames03cX9_copyLand_96 2)
theorem dX9_copyLand_99 : decode cX9_copyLand 99 = .ok (.imul, 1) := dk_104 (c := cX9_copyLand) (pc := 99) (dk_at bnames03cX9_copyLand_96 3)
theorem dX9_copyLand_100 : decode cX9_copyLand 100 = .ok (.iload_n 3, 1) := dk_29 (c := cX9_copyLand) (pc := 100) (dk_at bnames03cX9_copyLand_96 4)
theorem dX9_copyLand_101 : decode cX9_copyLand 101 = .ok (.iadd, 1) := dk_96 (c := cX9_copyLand) (pc := 101) (dk_at bnames03cX9_copyLand_96 5)
theorem dX9_copyLand_102 : decode cX9_copyLand 102 = .ok (.aload_n 0, 1) := dk_42 (c := cX9_copyLand) (pc := 102) (dk_at bnames03cX9_copyLand_96 6)
theorem dX9_copyLand_103 : decode cX9_copyLand 103 = .ok (.getfield 37, 3) := dk_180 (c := cX9_copyLand) (pc := 103) (a := 0) (b := 37) (dk_at bnames03cX9_copyLand_96 7) rfl
theorem dX9_copyLand_106 : decode cX9_copyLand 106 = .ok (.bipush 6, 2) := dk_16 (c := cX9_copyLand) (pc := 106) (a := 6) (dk_at bnames03cX9_copyLand_96 10) (by decide)
theorem dX9_copyLand_108 : decode cX9_copyLand 108 = .ok (.iload_n 1, 1) := dk_27 (c := cX9_copyLand) (pc := 108) (dk_at bnames03cX9_copyLand_96 12)
theorem dX9_copyLand_109 : decode cX9_copyLand 109 = .ok (.imul, 1) := dk_104 (c := cX9_copyLand) (pc := 109) (dk_at bnames03cX9_copyLand_96 13)
theorem dX9_copyLand_110 : decode cX9_copyLand 110 = .ok (.iload_n 3, 1) := dk_29 (c := cX9_copyLand) (pc := 110) (dk_at bnames03cX9_copyLand_96 14)
theorem dX9_copyLand_111 : decode cX9_copyLand 111 = .ok (.iadd, 1) := dk_96 (c := cX9_copyLand) (pc := 111) (dk_at bnames03cX9_copyLand_96 15)
theorem dX9_copyLand_112 : decode cX9_copyLand 112 = .ok (.iaload, 1) := dk_46 (c := cX9_copyLand) (pc := 112) (dk_at bnames03cX9_copyLand_96 16)
theorem dX9_copyLand_113 : decode cX9_copyLand 113 = .ok (.iastore, 1) := dk_79 (c := cX9_copyLand) (pc := 113) (dk_at bnames03cX9_copyLand_96 17)
theorem dX9_copyLand_114 : decode cX9_copyLand 114 = .ok (.aload_n 0, 1) := dk_42 (c := cX9_copyLand) (pc := 114) (dk_at bnames03cX9_copyLand_96 18)
theorem dX9_copyLand_115 : decode cX9_copyLand 115 = .ok (.getfield 40, 3) := dk_180 (c := cX9_copyLand) (pc := 115) (a := 0) (b := 40) (dk_at bnames03cX9_copyLand_96 19) rfl
theorem dX9_copyLand_118 : decode cX9_copyLand 118 = .ok (.bipush 6, 2) := dk_16 (c := cX9_copyLand) (pc := 118) (a := 6) (dk_at bnames03cX9_copyLand_96 22) (by decide)
theorem dX9_copyLand_120 : decode cX9_copyLand 120 = .ok (.iload_n 2, 1) := dk_28 (c := cX9_copyLand) (pc := 120) (dk_at bnames03cX9_copyLand_96 24)
theorem dX9_copyLand_121 : decode cX9_copyLand 121 = .ok (.imul, 1) := dk_104 (c := cX9_copyLand) (pc := 121) (dk_at bnames03cX9_copyLand_96 25)
theorem dX9_copyLand_122 : decode cX9_copyLand 122 = .ok (.iload_n 3, 1) := dk_29 (c := cX9_copyLand) (pc := 122) (dk_at bnames03cX9_copyLand_96 26)
theorem dX9_copyLand_123 : decode cX9_copyLand 123 = .ok (.iadd, 1) := dk_96 (c := cX9_copyLand) (pc := 123) (dk_at bnames03cX9_copyLand_96 27)
theorem dX9_copyLand_124 : decode cX9_copyLand 124 = .ok (.aload_n 0, 1) := dk_42 (c := cX9_copyLand) (pc := 124) (dk_at bnames03cX9_copyLand_96 28)
theorem dX9_copyLand_125 : decode cX9_copyLand 125 = .ok (.getfield 40, 3) := dk_180 (c := cX9_copyLand) (pc := 125) (a := 0) (b := 40) (dk_at bnames03cX9_copyLand_96 29) rfl
theorem dX9_copyLand_128 : decode cX9_copyLand 128 = .ok (.bipush 6, 2) := dk_16 (c := cX9_copyLand) (pc := 128) (a := 6) (dk_at bnames03cX9_copyLand_96 32) (by decide)
theorem dX9_copyLand_130 : decode cX9_copyLand 130 = .ok (.iload_n 1, 1) := dk_27 (c := cX9_copyLand) (pc := 130) (dk_at bnames03cX9_copyLand_96 34)
theorem dX9_copyLand_131 : decode cX9_copyLand 131 = .ok (.imul, 1) := dk_104 (c := cX9_copyLand) (pc := 131) (dk_at bnames03cX9_copyLand_96 35)
theorem dX9_copyLand_132 : decode cX9_copyLand 132 = .ok (.iload_n 3, 1) := dk_29 (c := cX9_copyLand) (pc := 132) (dk_at bnames03cX9_copyLand_96 36)
theorem dX9_copyLand_133 : decode cX9_copyLand 133 = .ok (.iadd, 1) := dk_96 (c := cX9_copyLand) (pc := 133) (dk_at bnames03cX9_copyLand_96 37)
theorem dX9_copyLand_134 : decode cX9_copyLand 134 = .ok (.iaload, 1) := dk_46 (c := cX9_copyLand) (pc := 134) (dk_at bnames03cX9_copyLand_96 38)
theorem dX9_copyLand_135 : decode cX9_copyLand 135 = .ok (.iastore, 1) := dk_79 (c := cX9_copyLand) (pc := 135) (dk_at bnames03cX9_copyLand_96 39)
theorem dX9_copyLand_136 : decode cX9_copyLand 136 = .ok (.iinc 3 1, 3) := dk_132 (c := cX9_copyLand) (pc := 136) (a := 3) (b := 1) (dk_at bnames03cX9_copyLand_96 40) rfl (by decide)
theorem dX9_copyLand_139 : decode cX9_copyLand 139 = .ok (.goto (-53), 3) := dk_167 (c := cX9_copyLand) (pc := 139) (a := 255) (b := 203) (dk_at bnames03cX9_copyLand_96 43) (by decide)
theorem dX9_copyLand_142 : decode cX9_copyLand 142 = .ok (.iconst 0, 1) := dk_3 (c := cX9_copyLand) (pc := 142) (dk_at bnames03cX9_copyLand_96 46)
theorem dX9_copyLand_143 : decode cX9_copyLand 143 = .ok (.istore_n 3, 1) := dk_62 (c := cX9_copyLand) (pc := 143) (dk_at bnames03cX9_copyLand_96 47)
theorem bnames03cX9_copyLand_144 : ((dk_l cX9_copyLand).drop 144).take 52 = [29, 16, 8, 162, 0, 97, 42, 180, 0, 46, 16, 8, 28, 104, 29, 96, 42, 180, 0, 46, 16, 8, 27, 104, 29, 96, 46, 79, 42, 180, 0, 49, 16, 8, 28, 104, 29, 96, 42, 180, 0, 49, 16, 8, 27, 104, 29, 96, 46, 79, 42, 180] := by decide +kernel
theorem dX9_copyLand_144 : decode cX9_copyLand 144 = .ok (.iload_n 3, 1) := dk_29 (c := cX9_copyLand) (pc := 144) (dk_at bnames03cX9_copyLand_144 0)
theorem dX9_copyLand_145 : decode cX9_copyLand 145 = .ok (.bipush 8, 2) := dk_16 (c := cX9_copyLand) (pc := 145) (a := 8) (dk_at bnames03cX9_copyLand_144 1) (by decide)
theorem dX9_copyLand_147 : decode cX9_copyLand 147 = .ok (.if_icmp .ge 97, 3) := dk_162 (c := cX9_copyLand) (pc := 147) (a := 0) (b := 97) (dk_at bnames03cX9_copyLand_144 3) (by decide)
theorem dX9_copyLand_150 : decode cX9_copyLand 150 = .ok (.aload_n 0, 1) := dk_42 (c := cX9_copyLand) (pc := 150) (dk_at bnames03cX9_copyLand_144 6)
theorem dX9_copyLand_151 : decode cX9_copyLand 151 = .ok (.getfield 46, 3) := dk_180 (c := cX9_copyLand) (pc := 151) (a := 0) (b := 46) (dk_at bnames03cX9_copyLand_144 7) rfl
theorem dX9_copyLand_154 : decode cX9_copyLand 154 = .ok (.bipush 8, 2) := dk_16 (c := cX9_copyLand) (pc := 154) (a := 8) (dk_at bnames03cX9_copyLand_144 10) (by decide)
theorem dX9_copyLand_156 : decode cX9_copyLand 156 = .ok (.iload_n 2, 1) := dk_28 (c := cX9_copyLand) (pc := 156) (dk_at bnames03cX9_copyLand_144 12)
theorem dX9_copyLand_157 : decode cX9_copyLand 157 = .ok (.imul, 1) := dk_104 (c := cX9_copyLand) (pc := 157) (dk_at bnames03cX9_copyLand_144 13)
theorem dX9_copyLand_158 : decode cX9_copyLand 158 = .ok (.iload_n 3, 1) := dk_29 (c := cX9_copyLand) (pc := 158) (dk_at bnames03cX9_copyLand_144 14)
theorem dX9_copyLand_159 : decode cX9_copyLand 159 = .ok (.iadd, 1) := dk_96 (c := cX9_copyLand) (pc := 159) (dk_at bnames03cX9_copyLand_144 15)
theorem dX9_copyLand_160 : decode cX9_copyLand 160 = .ok (.aload_n 0, 1) := dk_42 (c := cX9_copyLand) (pc := 160) (dk_at bnames03cX9_copyLand_144 16)
theorem dX9_copyLand_161 : decode cX9_copyLand 161 = .ok (.getfield 46, 3) := dk_180 (c := cX9_copyLand) (pc := 161) (a := 0) (b := 46) (dk_at bnames03cX9_copyLand_144 17) rfl
theorem dX9_copyLand_164 : decode cX9_copyLand 164 = .ok (.bipush 8, 2) := dk_16 (c := cX9_copyLand) (pc := 164) (a := 8) (dk_at bnames03cX9_copyLand_144 20) (by decide)
theorem dX9_copyLand_166 : decode cX9_copyLand 166 = .ok (.iload_n 1, 1) := dk_27 (c := cX9_copyLand) (pc := 166) (dk_at bnames03cX9_copyLand_144 22)
theorem dX9_copyLand_167 : decode cX9_copyLand 167 = .ok (.imul, 1) := dk_104 (c := cX9_copyLand) (pc := 167) (dk_at bnames03cX9_copyLand_144 23)
theorem dX9_copyLand_168 : decode cX9_copyLand 168 = .ok (.iload_n 3, 1) := dk_29 (c := cX9_copyLand) (pc := 168) (dk_at bnames03cX9_copyLand_144 24)
theorem dX9_copyLand_169 : decode cX9_copyLand 169 = .ok (.iadd, 1) := dk_96 (c := cX9_copyLand) (pc := 169) (dk_at bnames03cX9_copyLand_144 25)
theorem dX9_copyLand_170 : decode cX9_copyLand 170 = .ok (.iaload, 1) := dk_46 (c := cX9_copyLand) (pc := 170) (dk_at bnames03cX9_copyLand_144 26)
theorem dX9_copyLand_171 : decode cX9_copyLand 171 = .ok (.iastore, 1) := dk_79 (c := cX9_copyLand) (pc := 171) (dk_at bnames03cX9_copyLand_144 27)
theorem dX9_copyLand_172 : decode cX9_copyLand 172 = .ok (.aload_n 0, 1) := dk_42 (c := cX9_copyLand) (pc := 172) (dk_at bnames03cX9_copyLand_144 28)
theorem dX9_copyLand_173 : decode cX9_copyLand 173 = .ok (.getfield 49, 3) := dk_180 (c := cX9_copyLand) (pc := 173) (a := 0) (b := 49) (dk_at bnames03cX9_copyLand_144 29) rfl
theorem dX9_copyLand_176 : decode cX9_copyLand 176 = .ok (.bipush 8, 2) := dk_16 (c := cX9_copyLand) (pc := 176) (a := 8) (dk_at bnames03cX9_copyLand_144 32) (by decide)
theorem dX9_copyLand_178 : decode cX9_copyLand 178 = .ok (.iload_n 2, 1) := dk_28 (c := cX9_copyLand) (pc := 178) (dk_at bnames03cX9_copyLand_144 34)
theorem dX9_copyLand_179 : decode cX9_copyLand 179 = .ok (.imul, 1) := dk_104 (c := cX9_copyLand) (pc := 179) (dk_at bnames03cX9_copyLand_144 35)
theorem dX9_copyLand_180 : decode cX9_copyLand 180 = .ok (.iload_n 3, 1) := dk_29 (c := cX9_copyLand) (pc := 180) (dk_at bnames03cX9_copyLand_144 36)
theorem dX9_copyLand_181 : decode cX9_copyLand 181 = .ok (.iadd, 1) := dk_96 (c := cX9_copyLand) (pc := 181) (dk_at bnames03cX9_copyLand_144 37)
theorem dX9_copyLand_182 : decode cX9_copyLand 182 = .ok (.aload_n 0, 1) := dk_42 (c := cX9_copyLand) (pc := 182) (dk_at bnames03cX9_copyLand_144 38)
theorem dX9_copyLand_183 : decode cX9_copyLand 183 = .ok (.getfield 49, 3) := dk_180 (c := cX9_copyLand) (pc := 183) (a := 0) (b := 49) (dk_at bnames03cX9_copyLand_144 39) rfl
theorem dX9_copyLand_186 : decode cX9_copyLand 186 = .ok (.bipush 8, 2) := dk_16 (c := cX9_copyLand) (pc := 186) (a := 8) (dk_at bnames03cX9_copyLand_144 42) (by decide)
theorem dX9_copyLand_188 : decode cX9_copyLand 188 = .ok (.iload_n 1, 1) := dk_27 (c := cX9_copyLand) (pc := 188) (dk_at bnames03cX9_copyLand_144 44)
theorem dX9_copyLand_189 : decode cX9_copyLand 189 = .ok (.imul, 1) := dk_104 (c := cX9_copyLand) (pc := 189) (dk_at bnames03cX9_copyLand_144 45)
theorem dX9_copyLand_190 : decode cX9_copyLand 190 = .ok (.iload_n 3, 1) := dk_29 (c := cX9_copyLand) (pc := 190) (dk_at bnames03cX9_copyLand_144 46)
theorem dX9_copyLand_191 : decode cX9_copyLand 191 = .ok (.iadd, 1) := dk_96 (c := cX9_copyLand) (pc := 191) (dk_at bnames03cX9_copyLand_144 47)
theorem bnames03cX9_copyLand_192 : ((dk_l cX9_copyLand).drop 192).take 52 = [46, 79, 42, 180, 0, 52, 16, 8, 28, 104, 29, 96, 42, 180, 0, 52, 16, 8, 27, 104, 29, 96, 46, 79, 42, 180, 0, 55, 16, 8, 28, 104, 29, 96, 42, 180, 0, 55, 16, 8, 27, 104, 29, 96, 46, 79, 132, 3, 1, 167, 255, 159] := by decide +kernel
theorem dX9_copyLand_192 : decode cX9_copyLand 192 = .ok (.iaload, 1) := dk_46 (c := cX9_copyLand) (pc := 192) (dk_at bnames03cX9_copyLand_192 0)
theorem dX9_copyLand_193 : decode cX9_copyLand 193 = .ok (.iastore, 1) := dk_79 (c := cX9_copyLand) (pc := 193) (dk_at bnames03cX9_copyLand_192 1)
theorem dX9_copyLand_194 : decode cX9_copyLand 194 = .ok (.aload_n 0, 1) := dk_42 (c := cX9_copyLand) (pc := 194) (dk_at bnames03cX9_copyLand_192 2)
theorem dX9_copyLand_195 : decode cX9_copyLand 195 = .ok (.getfield 52, 3) := dk_180 (c := cX9_copyLand) (pc := 195) (a := 0) (b := 52) (dk_at bnames03cX9_copyLand_192 3) rfl
theorem dX9_copyLand_198 : decode cX9_copyLand 198 = .ok (.bipush 8, 2) := dk_16 (c := cX9_copyLand) (pc := 198) (a := 8) (dk_at bnames03cX9_copyLand_192 6) (by decide)
theorem dX9_copyLand_200 : decode cX9_copyLand 200 = .ok (.iload_n 2, 1) := dk_28 (c := cX9_copyLand) (pc := 200) (dk_at bnames03cX9_copyLand_192 8)
theorem dX9_copyLand_201 : decode cX9_copyLand 201 = .ok (.imul, 1) := dk_104 (c := cX9_copyLand) (pc := 201) (dk_at bnames03cX9_copyLand_192 9)
theorem dX9_copyLand_202 : decode cX9_copyLand 202 = .ok (.iload_n 3, 1) := dk_29 (c := cX9_copyLand) (pc := 202) (dk_at bnames03cX9_copyLand_192 10)
theorem dX9_copyLand_203 : decode cX9_copyLand 203 = .ok (.iadd, 1) := dk_96 (c := cX9_copyLand) (pc := 203) (dk_at bnames03cX9_copyLand_192 11)
theorem dX9_copyLand_204 : decode cX9_copyLand 204 = .ok (.aload_n 0, 1) := dk_42 (c := cX9_copyLand) (pc := 204) (dk_at bnames03cX9_copyLand_192 12)
theorem dX9_copyLand_205 : decode cX9_copyLand 205 = .ok (.getfield 52, 3) := dk_180 (c := cX9_copyLand) (pc := 205) (a := 0) (b := 52) (dk_at bnames03cX9_copyLand_192 13) rfl
theorem dX9_copyLand_208 : decode cX9_copyLand 208 = .ok (.bipush 8, 2) := dk_16 (c := cX9_copyLand) (pc := 208) (a := 8) (dk_at bnames03cX9_copyLand_192 16) (by decide)
theorem dX9_copyLand_210 : decode cX9_copyLand 210 = .ok (.iload_n 1, 1) := dk_27 (c := cX9_copyLand) (pc := 210) (dk_at bnames03cX9_copyLand_192 18)
theorem dX9_copyLand_211 : decode cX9_copyLand 211 = .ok (.imul, 1) := dk_104 (c := cX9_copyLand) (pc := 211) (dk_at bnames03cX9_copyLand_192 19)
theorem dX9_copyLand_212 : decode cX9_copyLand 212 = .ok (.iload_n 3, 1) := dk_29 (c := cX9_copyLand) (pc := 212) (dk_at bnames03cX9_copyLand_192 20)
theorem dX9_copyLand_213 : decode cX9_copyLand 213 = .ok (.iadd, 1) := dk_96 (c := cX9_copyLand) (pc := 213) (dk_at bnames03cX9_copyLand_192 21)
theorem dX9_copyLand_214 : decode cX9_copyLand 214 = .ok (.iaload, 1) := dk_46 (c := cX9_copyLand) (pc := 214) (dk_at bnames03cX9_copyLand_192 22)
theorem dX9_copyLand_215 : decode cX9_copyLand 215 = .ok (.iastore, 1) := dk_79 (c := cX9_copyLand) (pc := 215) (dk_at bnames03cX9_copyLand_192 23)
theorem dX9_copyLand_216 : decode cX9_copyLand 216 = .ok (.aload_n 0, 1) := dk_42 (c := cX9_copyLand) (pc := 216) (dk_at bnames03cX9_copyLand_192 24)
theorem dX9_copyLand_217 : decode cX9_copyLand 217 = .ok (.getfield 55, 3) := dk_180 (c := cX9_copyLand) (pc := 217) (a := 0) (b := 55) (dk_at bnames03cX9_copyLand_192 25) rfl
theorem dX9_copyLand_220 : decode cX9_copyLand 220 = .ok (.bipush 8, 2) := dk_16 (c := cX9_copyLand) (pc := 220) (a := 8) (dk_at bnames03cX9_copyLand_192 28) (by decide)
theorem dX9_copyLand_222 : decode cX9_copyLand 222 = .ok (.iload_n 2, 1) := dk_28 (c := cX9_copyLand) (pc := 222) (dk_at bnames03cX9_copyLand_192 30)
theorem dX9_copyLand_223 : decode cX9_copyLand 223 = .ok (.imul, 1) := dk_104 (c := cX9_copyLand) (pc := 223) (dk_at bnames03cX9_copyLand_192 31)
theorem dX9_copyLand_224 : decode cX9_copyLand 224 = .ok (.iload_n 3, 1) := dk_29 (c := cX9_copyLand) (pc := 224) (dk_at bnames03cX9_copyLand_192 32)
theorem dX9_copyLand_225 : decode cX9_copyLand 225 = .ok (.iadd, 1) := dk_96 (c := cX9_copyLand) (pc := 225) (dk_at bnames03cX9_copyLand_192 33)
theorem dX9_copyLand_226 : decode cX9_copyLand 226 = .ok (.aload_n 0, 1) := dk_42 (c := cX9_copyLand) (pc := 226) (dk_at bnames03cX9_copyLand_192 34)
theorem dX9_copyLand_227 : decode cX9_copyLand 227 = .ok (.getfield 55, 3) := dk_180 (c := cX9_copyLand) (pc := 227) (a := 0) (b := 55) (dk_at bnames03cX9_copyLand_192 35) rfl
theorem dX9_copyLand_230 : decode cX9_copyLand 230 = .ok (.bipush 8, 2) := dk_16 (c := cX9_copyLand) (pc := 230) (a := 8) (dk_at bnames03cX9_copyLand_192 38) (by decide)
theorem dX9_copyLand_232 : decode cX9_copyLand 232 = .ok (.iload_n 1, 1) := dk_27 (c := cX9_copyLand) (pc := 232) (dk_at bnames03cX9_copyLand_192 40)
theorem dX9_copyLand_233 : decode cX9_copyLand 233 = .ok (.imul, 1) := dk_104 (c := cX9_copyLand) (pc := 233) (dk_at bnames03cX9_copyLand_192 41)
theorem dX9_copyLand_234 : decode cX9_copyLand 234 = .ok (.iload_n 3, 1) := dk_29 (c := cX9_copyLand) (pc := 234) (dk_at bnames03cX9_copyLand_192 42)
theorem dX9_copyLand_235 : decode cX9_copyLand 235 = .ok (.iadd, 1) := dk_96 (c := cX9_copyLand) (pc := 235) (dk_at bnames03cX9_copyLand_192 43)
theorem dX9_copyLand_236 : decode cX9_copyLand 236 = .ok (.iaload, 1) := dk_46 (c := cX9_copyLand) (pc := 236) (dk_at bnames03cX9_copyLand_192 44)
theorem dX9_copyLand_237 : decode cX9_copyLand 237 = .ok (.iastore, 1) := dk_79 (c := cX9_copyLand) (pc := 237) (dk_at bnames03cX9_copyLand_192 45)
theorem dX9_copyLand_238 : decode cX9_copyLand 238 = .ok (.iinc 3 1, 3) := dk_132 (c := cX9_copyLand) (pc := 238) (a := 3) (b := 1) (dk_at bnames03cX9_copyLand_192 46) rfl (by decide)
theorem bnames03cX9_copyLand_240 : ((dk_l cX9_copyLand).drop 240).take 52 = [1, 167, 255, 159, 3, 62, 29, 16, 12, 162, 0, 31, 42, 180, 0, 62, 16, 12, 28, 104, 29, 96, 42, 180, 0, 62, 16, 12, 27, 104, 29, 96, 46, 79, 132, 3, 1, 167, 255, 225, 3, 62, 29, 42, 180, 0, 77, 27, 46, 162, 0, 33] := by decide +kernel
theorem dX9_copyLand_241 : decode cX9_copyLand 241 = .ok (.goto (-97), 3) := dk_167 (c := cX9_copyLand) (pc := 241) (a := 255) (b := 159) (dk_at bnames03cX9_copyLand_240 1) (by decide)
theorem dX9_copyLand_244 : decode cX9_copyLand 244 = .ok (.iconst 0, 1) := dk_3 (c := cX9_copyLand) (pc := 244) (dk_at bnames03cX9_copyLand_240 4)
theorem dX9_copyLand_245 : decode cX9_copyLand 245 = .ok (.istore_n 3, 1) := dk_62 (c := cX9_copyLand) (pc := 245) (dk_at bnames03cX9_copyLand_240 5)
theorem dX9_copyLand_246 : decode cX9_copyLand 246 = .ok (.iload_n 3, 1) := dk_29 (c := cX9_copyLand) (pc := 246) (dk_at bnames03cX9_copyLand_240 6)
theorem dX9_copyLand_247 : decode cX9_copyLand 247 = .ok (.bipush 12, 2) := dk_16 (c := cX9_copyLand) (pc := 247) (a := 12) (dk_at bnames03cX9_copyLand_240 7) (by decide)
theorem dX9_copyLand_249 : decode cX9_copyLand 249 = .ok (.if_icmp .ge 31, 3) := dk_162 (c := cX9_copyLand) (pc := 249) (a := 0) (b := 31) (dk_at bnames03cX9_copyLand_240 9) (by decide)
theorem dX9_copyLand_252 : decode cX9_copyLand 252 = .ok (.aload_n 0, 1) := dk_42 (c := cX9_copyLand) (pc := 252) (dk_at bnames03cX9_copyLand_240 12)
theorem dX9_copyLand_253 : decode cX9_copyLand 253 = .ok (.getfield 62, 3) := dk_180 (c := cX9_copyLand) (pc := 253) (a := 0) (b := 62) (dk_at bnames03cX9_copyLand_240 13) rfl
theorem dX9_copyLand_256 : decode cX9_copyLand 256 = .ok (.bipush 12, 2) := dk_16 (c := cX9_copyLand) (pc := 256) (a := 12) (dk_at bnames03cX9_copyLand_240 16) (by decide)
theorem dX9_copyLand_258 : decode cX9_copyLand 258 = .ok (.iload_n 2, 1) := dk_28 (c := cX9_copyLand) (pc := 258) (dk_at bnames03cX9_copyLand_240 18)
theorem dX9_copyLand_259 : decode cX9_copyLand 259 = .ok (.imul, 1) := dk_104 (c := cX9_copyLand) (pc := 259) (dk_at bnames03cX9_copyLand_240 19)
theorem dX9_copyLand_260 : decode cX9_copyLand 260 = .ok (.iload_n 3, 1) := dk_29 (c := cX9_copyLand) (pc := 260) (dk_at bnames03cX9_copyLand_240 20)
theorem dX9_copyLand_261 : decode cX9_copyLand 261 = .ok (.iadd, 1) := dk_96 (c := cX9_copyLand) (pc := 261) (dk_at bnames03cX9_copyLand_240 21)
theorem dX9_copyLand_262 : decode cX9_copyLand 262 = .ok (.aload_n 0, 1) := dk_42 (c := cX9_copyLand) (pc := 262) (dk_at bnames03cX9_copyLand_240 22)
theorem dX9_copyLand_263 : decode cX9_copyLand 263 = .ok (.getfield 62, 3) := dk_180 (c := cX9_copyLand) (pc := 263) (a := 0) (b := 62) (dk_at bnames03cX9_copyLand_240 23) rfl
theorem dX9_copyLand_266 : decode cX9_copyLand 266 = .ok (.bipush 12, 2) := dk_16 (c := cX9_copyLand) (pc := 266) (a := 12) (dk_at bnames03cX9_copyLand_240 26) (by decide)
theorem dX9_copyLand_268 : decode cX9_copyLand 268 = .ok (.iload_n 1, 1) := dk_27 (c := cX9_copyLand) (pc := 268) (dk_at bnames03cX9_copyLand_240 28)
theorem dX9_copyLand_269 : decode cX9_copyLand 269 = .ok (.imul, 1) := dk_104 (c := cX9_copyLand) (pc := 269) (dk_at bnames03cX9_copyLand_240 29)
theorem dX9_copyLand_270 : decode cX9_copyLand 270 = .ok (.iload_n 3, 1) := dk_29 (c := cX9_copyLand) (pc := 270) (dk_at bnames03cX9_copyLand_240 30)
theorem dX9_copyLand_271 : decode cX9_copyLand 271 = .ok (.iadd, 1) := dk_96 (c := cX9_copyLand) (pc := 271) (dk_at bnames03cX9_copyLand_240 31)
theorem dX9_copyLand_272 : decode cX9_copyLand 272 = .ok (.iaload, 1) := dk_46 (c := cX9_copyLand) (pc := 272) (dk_at bnames03cX9_copyLand_240 32)
theorem dX9_copyLand_273 : decode cX9_copyLand 273 = .ok (.iastore, 1) := dk_79 (c := cX9_copyLand) (pc := 273) (dk_at bnames03cX9_copyLand_240 33)
theorem dX9_copyLand_274 : decode cX9_copyLand 274 = .ok (.iinc 3 1, 3) := dk_132 (c := cX9_copyLand) (pc := 274) (a := 3) (b := 1) (dk_at bnames03cX9_copyLand_240 34) rfl (by decide)
theorem dX9_copyLand_277 : decode cX9_copyLand 277 = .ok (.goto (-31), 3) := dk_167 (c := cX9_copyLand) (pc := 277) (a := 255) (b := 225) (dk_at bnames03cX9_copyLand_240 37) (by decide)
theorem dX9_copyLand_280 : decode cX9_copyLand 280 = .ok (.iconst 0, 1) := dk_3 (c := cX9_copyLand) (pc := 280) (dk_at bnames03cX9_copyLand_240 40)
theorem dX9_copyLand_281 : decode cX9_copyLand 281 = .ok (.istore_n 3, 1) := dk_62 (c := cX9_copyLand) (pc := 281) (dk_at bnames03cX9_copyLand_240 41)
theorem dX9_copyLand_282 : decode cX9_copyLand 282 = .ok (.iload_n 3, 1) := dk_29 (c := cX9_copyLand) (pc := 282) (dk_at bnames03cX9_copyLand_240 42)
theorem dX9_copyLand_283 : decode cX9_copyLand 283 = .ok (.aload_n 0, 1) := dk_42 (c := cX9_copyLand) (pc := 283) (dk_at bnames03cX9_copyLand_240 43)
theorem dX9_copyLand_284 : decode cX9_copyLand 284 = .ok (.getfield 77, 3) := dk_180 (c := cX9_copyLand) (pc := 284) (a := 0) (b := 77) (dk_at bnames03cX9_copyLand_240 44) rfl
theorem dX9_copyLand_287 : decode cX9_copyLand 287 = .ok (.iload_n 1, 1) := dk_27 (c := cX9_copyLand) (pc := 287) (dk_at bnames03cX9_copyLand_240 47)
theorem bnames03cX9_copyLand_288 : ((dk_l cX9_copyLand).drop 288).take 35 = [46, 162, 0, 33, 42, 180, 0, 80, 17, 1, 64, 28, 104, 29, 96, 42, 180, 0, 80, 17, 1, 64, 27, 104, 29, 96, 46, 79, 132, 3, 1, 167, 255, 219, 177] := by decide +kernel
theorem dX9_copyLand_288 : decode cX9_copyLand 288 = .ok (.iaload, 1) := dk_46 (c := cX9_copyLand) (pc := 288) (dk_at bnames03cX9_copyLand_288 0)
theorem dX9_copyLand_289 : decode cX9_copyLand 289 = .ok (.if_icmp .ge 33, 3) := dk_162 (c := cX9_copyLand) (pc := 289) (a := 0) (b := 33) (dk_at bnames03cX9_copyLand_288 1) (by decide)
theorem dX9_copyLand_292 : decode cX9_copyLand 292 = .ok (.aload_n 0, 1) := dk_42 (c := cX9_copyLand) (pc := 292) (dk_at bnames03cX9_copyLand_288 4)
theorem dX9_copyLand_293 : decode cX9_copyLand 293 = .ok (.getfield 80, 3) := dk_180 (c := cX9_copyLand) (pc := 293) (a := 0) (b := 80) (dk_at bnames03cX9_copyLand_288 5) rfl
theorem dX9_copyLand_296 : decode cX9_copyLand 296 = .ok (.sipush 320, 3) := dk_17 (c := cX9_copyLand) (pc := 296) (a := 1) (b := 64) (dk_at bnames03cX9_copyLand_288 8) (by decide)
theorem dX9_copyLand_299 : decode cX9_copyLand 299 = .ok (.iload_n 2, 1) := dk_28 (c := cX9_copyLand) (pc := 299) (dk_at bnames03cX9_copyLand_288 11)
theorem dX9_copyLand_300 : decode cX9_copyLand 300 = .ok (.imul, 1) := dk_104 (c := cX9_copyLand) (pc := 300) (dk_at bnames03cX9_copyLand_288 12)
theorem dX9_copyLand_301 : decode cX9_copyLand 301 = .ok (.iload_n 3, 1) := dk_29 (c := cX9_copyLand) (pc := 301) (dk_at bnames03cX9_copyLand_288 13)
theorem dX9_copyLand_302 : decode cX9_copyLand 302 = .ok (.iadd, 1) := dk_96 (c := cX9_copyLand) (pc := 302) (dk_at bnames03cX9_copyLand_288 14)
theorem dX9_copyLand_303 : decode cX9_copyLand 303 = .ok (.aload_n 0, 1) := dk_42 (c := cX9_copyLand) (pc := 303) (dk_at bnames03cX9_copyLand_288 15)
theorem dX9_copyLand_304 : decode cX9_copyLand 304 = .ok (.getfield 80, 3) := dk_180 (c := cX9_copyLand) (pc := 304) (a := 0) (b := 80) (dk_at bnames03cX9_copyLand_288 16) rfl
theorem dX9_copyLand_307 : decode cX9_copyLand 307 = .ok (.sipush 320, 3) := dk_17 (c := cX9_copyLand) (pc := 307) (a := 1) (b := 64) (dk_at bnames03cX9_copyLand_288 19) (by decide)
theorem dX9_copyLand_310 : decode cX9_copyLand 310 = .ok (.iload_n 1, 1) := dk_27 (c := cX9_copyLand) (pc := 310) (dk_at bnames03cX9_copyLand_288 22)
theorem dX9_copyLand_311 : decode cX9_copyLand 311 = .ok (.imul, 1) := dk_104 (c := cX9_copyLand) (pc := 311) (dk_at bnames03cX9_copyLand_288 23)
theorem dX9_copyLand_312 : decode cX9_copyLand 312 = .ok (.iload_n 3, 1) := dk_29 (c := cX9_copyLand) (pc := 312) (dk_at bnames03cX9_copyLand_288 24)
theorem dX9_copyLand_313 : decode cX9_copyLand 313 = .ok (.iadd, 1) := dk_96 (c := cX9_copyLand) (pc := 313) (dk_at bnames03cX9_copyLand_288 25)
theorem dX9_copyLand_314 : decode cX9_copyLand 314 = .ok (.iaload, 1) := dk_46 (c := cX9_copyLand) (pc := 314) (dk_at bnames03cX9_copyLand_288 26)
theorem dX9_copyLand_315 : decode cX9_copyLand 315 = .ok (.iastore, 1) := dk_79 (c := cX9_copyLand) (pc := 315) (dk_at bnames03cX9_copyLand_288 27)
theorem dX9_copyLand_316 : decode cX9_copyLand 316 = .ok (.iinc 3 1, 3) := dk_132 (c := cX9_copyLand) (pc := 316) (a := 3) (b := 1) (dk_at bnames03cX9_copyLand_288 28) rfl (by decide)
theorem dX9_copyLand_319 : decode cX9_copyLand 319 = .ok (.goto (-37), 3) := dk_167 (c := cX9_copyLand) (pc := 319) (a := 255) (b := 219) (dk_at bnames03cX9_copyLand_288 31) (by decide)
theorem dX9_copyLand_322 : decode cX9_copyLand 322 = .ok (.return_, 1) := dk_177 (c := cX9_copyLand) (pc := 322) (dk_at bnames03cX9_copyLand_288 34)
set_option maxRecDepth 20000 in
theorem ggX9_isState_X9_in : GoodIn wsX9_isState wsX9_in := goodIn_r _ [5] rfl (by decide +kernel)
set_option maxRecDepth 20000 in
theorem gX9_isState_X9_in : GoodIn wsX9_isState (va_wsS RX9 130 yX9_in wsX9_in) := goodIn_app (goodIn_r _ [2, 3, 4] rfl (by decide +kernel)) ggX9_isState_X9_in
theorem bnames03cX9_isState_0 : ((dk_l cX9_isState).drop 0).take 16 = [27, 133, 9, 42, 180, 0, 34, 3, 46, 4, 100, 133, 184, 0, 130, 172] := by decide +kernel
theorem dX9_isState_0 : decode cX9_isState 0 = .ok (.iload_n 1, 1) := dk_27 (c := cX9_isState) (pc := 0) (dk_at bnames03cX9_isState_0 0)
theorem dX9_isState_1 : decode cX9_isState 1 = .ok (.i2l, 1) := dk_133 (c := cX9_isState) (pc := 1) (dk_at bnames03cX9_isState_0 1)
theorem dX9_isState_2 : decode cX9_isState 2 = .ok (.lconst 0, 1) := dk_9 (c := cX9_isState) (pc := 2) (dk_at bnames03cX9_isState_0 2)
theorem dX9_isState_3 : decode cX9_isState 3 = .ok (.aload_n 0, 1) := dk_42 (c := cX9_isState) (pc := 3) (dk_at bnames03cX9_isState_0 3)
theorem dX9_isState_4 : decode cX9_isState 4 = .ok (.getfield 34, 3) := dk_180 (c := cX9_isState) (pc := 4) (a := 0) (b := 34) (dk_at bnames03cX9_isState_0 4) rfl
theorem dX9_isState_7 : decode cX9_isState 7 = .ok (.iconst 0, 1) := dk_3 (c := cX9_isState) (pc := 7) (dk_at bnames03cX9_isState_0 7)
theorem dX9_isState_8 : decode cX9_isState 8 = .ok (.iaload, 1) := dk_46 (c := cX9_isState) (pc := 8) (dk_at bnames03cX9_isState_0 8)
theorem dX9_isState_9 : decode cX9_isState 9 = .ok (.iconst 1, 1) := dk_4 (c := cX9_isState) (pc := 9) (dk_at bnames03cX9_isState_0 9)
theorem dX9_isState_10 : decode cX9_isState 10 = .ok (.isub, 1) := dk_100 (c := cX9_isState) (pc := 10) (dk_at bnames03cX9_isState_0 10)
theorem dX9_isState_11 : decode cX9_isState 11 = .ok (.i2l, 1) := dk_133 (c := cX9_isState) (pc := 11) (dk_at bnames03cX9_isState_0 11)
theorem dX9_isState_12 : decode cX9_isState 12 = .ok (.invokestatic 130, 3) := dk_184 (c := cX9_isState) (pc := 12) (a := 0) (b := 130) (dk_at bnames03cX9_isState_0 12) rfl
theorem dX9_isState_15 : decode cX9_isState 15 = .ok (.ireturn, 1) := dk_172 (c := cX9_isState) (pc := 15) (dk_at bnames03cX9_isState_0 15)
set_option maxRecDepth 20000 in
theorem ggX9_isMonth_X9_in : GoodIn wsX9_isMonth wsX9_in := goodIn_r _ [5] rfl (by decide +kernel)
set_option maxRecDepth 20000 in
theorem gX9_isMonth_X9_in : GoodIn wsX9_isMonth (va_wsS RX9 130 yX9_in wsX9_in) := goodIn_app (goodIn_r _ [2, 3, 4] rfl (by decide +kernel)) ggX9_isMonth_X9_in
theorem bnames03cX9_isMonth_0 : ((dk_l cX9_isMonth).drop 0).take 10 = [26, 133, 10, 20, 0, 222, 184, 0, 130, 172] := by decide +kernel
theorem dX9_isMonth_0 : decode cX9_isMonth 0 = .ok (.iload_n 0, 1) := dk_26 (c := cX9_isMonth) (pc := 0) (dk_at bnames03cX9_isMonth_0 0)
theorem dX9_isMonth_1 : decode cX9_isMonth 1 = .ok (.i2l, 1) := dk_133 (c := cX9_isMonth) (pc := 1) (dk_at bnames03cX9_isMonth_0 1)
theorem dX9_isMonth_2 : decode cX9_isMonth 2 = .ok (.lconst 1, 1) := dk_10 (c := cX9_isMonth) (pc := 2) (dk_at bnames03cX9_isMonth_0 2)
theorem dX9_isMonth_3 : decode cX9_isMonth 3 = .ok (.ldc2_w 222, 3) := dk_20 (c := cX9_isMonth) (pc := 3) (a := 0) (b := 222) (dk_at bnames03cX9_isMonth_0 3) rfl
theorem dX9_isMonth_6 : decode cX9_isMonth 6 = .ok (.invokestatic 130, 3) := dk_184 (c := cX9_isMonth) (pc := 6) (a := 0) (b := 130) (dk_at bnames03cX9_isMonth_0 6) rfl
theorem dX9_isMonth_9 : decode cX9_isMonth 9 = .ok (.ireturn, 1) := dk_172 (c := cX9_isMonth) (pc := 9) (dk_at bnames03cX9_isMonth_0 9)
theorem bnames03cX9_oldOf_0 : ((dk_l cX9_oldOf).drop 0).take 15 = [16, 12, 42, 180, 0, 37, 27, 46, 104, 16, 9, 96, 28, 100, 172] := by decide +kernel
theorem dX9_oldOf_0 : decode cX9_oldOf 0 = .ok (.bipush 12, 2) := dk_16 (c := cX9_oldOf) (pc := 0) (a := 12) (dk_at bnames03cX9_oldOf_0 0) (by decide)
theorem dX9_oldOf_2 : decode cX9_oldOf 2 = .ok (.aload_n 0, 1) := dk_42 (c := cX9_oldOf) (pc := 2) (dk_at bnames03cX9_oldOf_0 2)
theorem dX9_oldOf_3 : decode cX9_oldOf 3 = .ok (.getfield 37, 3) := dk_180 (c := cX9_oldOf) (pc := 3) (a := 0) (b := 37) (dk_at bnames03cX9_oldOf_0 3) rfl
theorem dX9_oldOf_6 : decode cX9_oldOf 6 = .ok (.iload_n 1, 1) := dk_27 (c := cX9_oldOf) (pc := 6) (dk_at bnames03cX9_oldOf_0 6)
theorem dX9_oldOf_7 : decode cX9_oldOf 7 = .ok (.iaload, 1) := dk_46 (c := cX9_oldOf) (pc := 7) (dk_at bnames03cX9_oldOf_0 7)
theorem dX9_oldOf_8 : decode cX9_oldOf 8 = .ok (.imul, 1) := dk_104 (c := cX9_oldOf) (pc := 8) (dk_at bnames03cX9_oldOf_0 8)
theorem dX9_oldOf_9 : decode cX9_oldOf 9 = .ok (.bipush 9, 2) := dk_16 (c := cX9_oldOf) (pc := 9) (a := 9) (dk_at bnames03cX9_oldOf_0 9) (by decide)
theorem dX9_oldOf_11 : decode cX9_oldOf 11 = .ok (.iadd, 1) := dk_96 (c := cX9_oldOf) (pc := 11) (dk_at bnames03cX9_oldOf_0 11)
theorem dX9_oldOf_12 : decode cX9_oldOf 12 = .ok (.iload_n 2, 1) := dk_28 (c := cX9_oldOf) (pc := 12) (dk_at bnames03cX9_oldOf_0 12)
theorem dX9_oldOf_13 : decode cX9_oldOf 13 = .ok (.isub, 1) := dk_100 (c := cX9_oldOf) (pc := 13) (dk_at bnames03cX9_oldOf_0 13)
theorem dX9_oldOf_14 : decode cX9_oldOf 14 = .ok (.ireturn, 1) := dk_172 (c := cX9_oldOf) (pc := 14) (dk_at bnames03cX9_oldOf_0 14)
set_option maxRecDepth 20000 in
theorem ggX9_forcedOf_X9_oldOf : GoodIn wsX9_forcedOf wsX9_oldOf := goodIn_r _ [6, 7, 8, 9, 10, 11, 12, 13, 14, 15, 16, 17, 18, 19, 20, 21, 22, 23, 24, 25, 26, 27, 28, 29, 30, 31, 32, 33, 34, 35, 36, 37, 38, 39, 40, 41, 42, 43, 44, 45, 46, 47, 48, 49, 50, 51, 52, 53, 54, 55, 56, 57, 58, 59, 60, 61, 62, 63, 64, 65, 66, 67] rfl (by decide +kernel)
set_option maxRecDepth 20000 in
theorem gX9_forcedOf_X9_oldOf : GoodIn wsX9_forcedOf (wsV RX9 293 RX9 yX9_oldOf wsX9_oldOf) := goodIn_app (goodIn_r _ [2, 3, 4, 5] rfl (by decide +kernel)) ggX9_forcedOf_X9_oldOf
theorem bnames03cX9_forcedOf_0 : ((dk_l cX9_forcedOf).drop 0).take 17 = [16, 12, 42, 180, 0, 40, 27, 46, 104, 42, 27, 28, 182, 1, 37, 100, 172] := by decide +kernel
theorem dX9_forcedOf_0 : decode cX9_forcedOf 0 = .ok (.bipush 12, 2) := dk_16 (c := cX9_forcedOf) (pc := 0) (a := 12) (dk_at bnames03cX9_forcedOf_0 0) (by decide)
theorem dX9_forcedOf_2 : decode cX9_forcedOf 2 = .ok (.aload_n 0, 1) := dk_42 (c := cX9_forcedOf) (pc := 2) (dk_at bnames03cX9_forcedOf_0 2)
theorem dX9_forcedOf_3 : decode cX9_forcedOf 3 = .ok (.getfield 40, 3) := dk_180 (c := cX9_forcedOf) (pc := 3) (a := 0) (b := 40) (dk_at bnames03cX9_forcedOf_0 3) rfl
theorem dX9_forcedOf_6 : decode cX9_forcedOf 6 = .ok (.iload_n 1, 1) := dk_27 (c := cX9_forcedOf) (pc := 6) (dk_at bnames03cX9_forcedOf_0 6)
theorem dX9_forcedOf_7 : decode cX9_forcedOf 7 = .ok (.iaload, 1) := dk_46 (c := cX9_forcedOf) (pc := 7) (dk_at bnames03cX9_forcedOf_0 7)
theorem dX9_forcedOf_8 : decode cX9_forcedOf 8 = .ok (.imul, 1) := dk_104 (c := cX9_forcedOf) (pc := 8) (dk_at bnames03cX9_forcedOf_0 8)
theorem dX9_forcedOf_9 : decode cX9_forcedOf 9 = .ok (.aload_n 0, 1) := dk_42 (c := cX9_forcedOf) (pc := 9) (dk_at bnames03cX9_forcedOf_0 9)
theorem dX9_forcedOf_10 : decode cX9_forcedOf 10 = .ok (.iload_n 1, 1) := dk_27 (c := cX9_forcedOf) (pc := 10) (dk_at bnames03cX9_forcedOf_0 10)
theorem dX9_forcedOf_11 : decode cX9_forcedOf 11 = .ok (.iload_n 2, 1) := dk_28 (c := cX9_forcedOf) (pc := 11) (dk_at bnames03cX9_forcedOf_0 11)
theorem dX9_forcedOf_12 : decode cX9_forcedOf 12 = .ok (.invokevirtual 293, 3) := dk_182 (c := cX9_forcedOf) (pc := 12) (a := 1) (b := 37) (dk_at bnames03cX9_forcedOf_0 12) rfl
theorem dX9_forcedOf_15 : decode cX9_forcedOf 15 = .ok (.isub, 1) := dk_100 (c := cX9_forcedOf) (pc := 15) (dk_at bnames03cX9_forcedOf_0 15)
theorem dX9_forcedOf_16 : decode cX9_forcedOf 16 = .ok (.ireturn, 1) := dk_172 (c := cX9_forcedOf) (pc := 16) (dk_at bnames03cX9_forcedOf_0 16)
set_option maxRecDepth 20000 in
theorem ggX9_forced_X9_isState : GoodIn wsX9_forced wsX9_isState := goodIn_r _ [6, 7, 8, 9, 5, 10, 25, 26, 27, 28, 29, 30, 31, 32, 33, 34, 35, 36, 37, 38, 39, 40, 41, 42, 43, 44, 45, 46, 47, 48, 49, 50, 51, 52, 53, 54, 55, 56, 57, 58, 59, 60, 61, 62, 63, 64, 65, 66, 67, 68, 69, 70, 71, 72, 73, 74, 75, 76, 77, 78, 79, 80, 81, 82, 83, 84] rfl (by decide +kernel)
set_option maxRecDepth 20000 in
theorem gX9_forced_X9_isState : GoodIn wsX9_forced (wsV RX9 296 RX9 yX9_isState wsX9_isState) := goodIn_app (goodIn_r _ [2, 3, 4, 5] rfl (by decide +kernel)) ggX9_forced_X9_isState
set_option maxRecDepth 20000 in
theorem ggX9_forced_X9_isMonth : GoodIn wsX9_forced wsX9_isMonth := goodIn_r _ [13, 14, 8, 9, 5, 10] rfl (by decide +kernel)
set_option maxRecDepth 20000 in
theorem gX9_forced_X9_isMonth : GoodIn wsX9_forced (va_wsS RX9 299 yX9_isMonth wsX9_isMonth) := goodIn_app (goodIn_r _ [11, 12, 5] rfl (by decide +kernel)) ggX9_forced_X9_isMonth
set_option maxRecDepth 20000 in
theorem ggX9_forced_X9_forcedOf : GoodIn wsX9_forced wsX9_forcedOf := goodIn_r _ [18, 19, 20, 21, 22, 5, 23, 24, 25, 26, 27, 28, 29, 30, 31, 32, 33, 34, 35, 36, 37, 38, 39, 40, 41, 42, 43, 44, 45, 46, 47, 48, 49, 50, 51, 52, 53, 54, 55, 56, 57, 58, 59, 60, 61, 62, 63, 64, 65, 66, 67, 68, 69, 70, 71, 72, 73, 74, 75, 76, 77, 78, 79, 80, 81, 82, 83, 84] rfl (by decide +kernel)
set_option maxRecDepth 20000 in
theorem gX9_forced_X9_forcedOf : GoodIn wsX9_forced (wsV RX9 302 RX9 yX9_forcedOf wsX9_forcedOf) := goodIn_app (goodIn_r _ [15, 16, 17, 5] rfl (by decide +kernel)) ggX9_forced_X9_forcedOf
theorem bnames03cX9_forced_0 : ((dk_l cX9_forced).drop 0).take 32 = [42, 3, 181, 0, 125, 42, 27, 182, 1, 40, 153, 0, 19, 28, 184, 1, 43, 153, 0, 12, 42, 27, 28, 182, 1, 46, 167, 0, 5, 16, 254, 172] := by decide +kernel
theorem dX9_forced_0 : decode cX9_forced 0 = .ok (.aload_n 0, 1) := dk_42 (c := cX9_forced) (pc := 0) (dk_at bnames03cX9_forced_0 0)
theorem dX9_forced_1 : decode cX9_forced 1 = .ok (.iconst 0, 1) := dk_3 (c := cX9_forced) (pc := 1) (dk_at bnames03cX9_forced_0 1)
theorem dX9_forced_2 : decode cX9_forced 2 = .ok (.putfield 125, 3) := dk_181 (c := cX9_forced) (pc := 2) (a := 0) (b := 125) (dk_at bnames03cX9_forced_0 2) rfl
theorem dX9_forced_5 : decode cX9_forced 5 = .ok (.aload_n 0, 1) := dk_42 (c := cX9_forced) (pc := 5) (dk_at bnames03cX9_forced_0 5)
theorem dX9_forced_6 : decode cX9_forced 6 = .ok (.iload_n 1, 1) := dk_27 (c := cX9_forced) (pc := 6) (dk_at bnames03cX9_forced_0 6)
theorem dX9_forced_7 : decode cX9_forced 7 = .ok (.invokevirtual 296, 3) := dk_182 (c := cX9_forced) (pc := 7) (a := 1) (b := 40) (dk_at bnames03cX9_forced_0 7) rfl
theorem dX9_forced_10 : decode cX9_forced 10 = .ok (.ifCond .eq 19, 3) := dk_153 (c := cX9_forced) (pc := 10) (a := 0) (b := 19) (dk_at bnames03cX9_forced_0 10) (by decide)
theorem dX9_forced_13 : decode cX9_forced 13 = .ok (.iload_n 2, 1) := dk_28 (c := cX9_forced) (pc := 13) (dk_at bnames03cX9_forced_0 13)
theorem dX9_forced_14 : decode cX9_forced 14 = .ok (.invokestatic 299, 3) := dk_184 (c := cX9_forced) (pc := 14) (a := 1) (b := 43) (dk_at bnames03cX9_forced_0 14) rfl
theorem dX9_forced_17 : decode cX9_forced 17 = .ok (.ifCond .eq 12, 3) := dk_153 (c := cX9_forced) (pc := 17) (a := 0) (b := 12) (dk_at bnames03cX9_forced_0 17) (by decide)
theorem dX9_forced_20 : decode cX9_forced 20 = .ok (.aload_n 0, 1) := dk_42 (c := cX9_forced) (pc := 20) (dk_at bnames03cX9_forced_0 20)
theorem dX9_forced_21 : decode cX9_forced 21 = .ok (.iload_n 1, 1) := dk_27 (c := cX9_forced) (pc := 21) (dk_at bnames03cX9_forced_0 21)
theorem dX9_forced_22 : decode cX9_forced 22 = .ok (.iload_n 2, 1) := dk_28 (c := cX9_forced) (pc := 22) (dk_at bnames03cX9_forced_0 22)
theorem dX9_forced_23 : decode cX9_forced 23 = .ok (.invokevirtual 302, 3) := dk_182 (c := cX9_forced) (pc := 23) (a := 1) (b := 46) (dk_at bnames03cX9_forced_0 23) rfl
theorem dX9_forced_26 : decode cX9_forced 26 = .ok (.goto 5, 3) := dk_167 (c := cX9_forced) (pc := 26) (a := 0) (b := 5) (dk_at bnames03cX9_forced_0 26) (by decide)
theorem dX9_forced_29 : decode cX9_forced 29 = .ok (.bipush (-2), 2) := dk_16 (c := cX9_forced) (pc := 29) (a := 254) (dk_at bnames03cX9_forced_0 29) (by decide)
theorem dX9_forced_31 : decode cX9_forced 31 = .ok (.ireturn, 1) := dk_172 (c := cX9_forced) (pc := 31) (dk_at bnames03cX9_forced_0 31)
set_option maxRecDepth 20000 in
theorem ggX9_old_X9_isState : GoodIn wsX9_old wsX9_isState := goodIn_r _ [6, 7, 8, 9, 5, 10, 20, 21, 22, 23, 24, 25, 26, 27, 28, 29, 30, 31, 32, 33, 34, 35, 36, 37, 38, 39, 40, 41, 42, 43, 44, 45, 46, 47, 48, 49, 50, 51, 52, 53, 54, 55, 56, 57, 58, 59, 60, 61, 62, 63, 64, 65, 66, 67, 68, 69, 70, 71, 72, 73, 74, 75, 76, 77, 78, 79] rfl (by decide +kernel)
set_option maxRecDepth 20000 in
theorem gX9_old_X9_isState : GoodIn wsX9_old (wsV RX9 296 RX9 yX9_isState wsX9_isState) := goodIn_app (goodIn_r _ [2, 3, 4, 5] rfl (by decide +kernel)) ggX9_old_X9_isState
set_option maxRecDepth 20000 in
theorem ggX9_old_X9_isMonth : GoodIn wsX9_old wsX9_isMonth := goodIn_r _ [13, 14, 8, 9, 5, 10] rfl (by decide +kernel)
set_option maxRecDepth 20000 in
theorem gX9_old_X9_isMonth : GoodIn wsX9_old (va_wsS RX9 299 yX9_isMonth wsX9_isMonth) := goodIn_app (goodIn_r _ [11, 12, 5] rfl (by decide +kernel)) ggX9_old_X9_isMonth
set_option maxRecDepth 20000 in
theorem ggX9_old_X9_oldOf : GoodIn wsX9_old wsX9_oldOf := goodIn_r _ [18, 19, 20, 21, 22, 23, 24, 25, 26, 27, 28, 29, 30, 31, 32, 33, 34, 35, 36, 37, 38, 39, 40, 41, 42, 43, 44, 45, 46, 47, 48, 49, 50, 51, 52, 53, 54, 55, 56, 57, 58, 59, 60, 61, 62, 63, 64, 65, 66, 67, 68, 69, 70, 71, 72, 73, 74, 75, 76, 77, 78, 79] rfl (by decide +kernel)
set_option maxRecDepth 20000 in
theorem gX9_old_X9_oldOf : GoodIn wsX9_old (wsV RX9 293 RX9 yX9_oldOf wsX9_oldOf) := goodIn_app (goodIn_r _ [15, 16, 17, 5] rfl (by decide +kernel)) ggX9_old_X9_oldOf
theorem bnames03cX9_old_0 : ((dk_l cX9_old).drop 0).take 32 = [42, 3, 181, 0, 125, 42, 27, 182, 1, 40, 153, 0, 19, 28, 184, 1, 43, 153, 0, 12, 42, 27, 28, 182, 1, 37, 167, 0, 5, 16, 254, 172] := by decide +kernel
theorem dX9_old_0 : decode cX9_old 0 = .ok (.aload_n 0, 1) := dk_42 (c := cX9_old) (pc := 0) (dk_at bnames03cX9_old_0 0)
theorem dX9_old_1 : decode cX9_old 1 = .ok (.iconst 0, 1) := dk_3 (c := cX9_old) (pc := 1) (dk_at bnames03cX9_old_0 1)
theorem dX9_old_2 : decode cX9_old 2 = .ok (.putfield 125, 3) := dk_181 (c := cX9_old) (pc := 2) (a := 0) (b := 125) (dk_at bnames03cX9_old_0 2) rfl
theorem dX9_old_5 : decode cX9_old 5 = .ok (.aload_n 0, 1) := dk_42 (c := cX9_old) (pc := 5) (dk_at bnames03cX9_old_0 5)
theorem dX9_old_6 : decode cX9_old 6 = .ok (.iload_n 1, 1) := dk_27 (c := cX9_old) (pc := 6) (dk_at bnames03cX9_old_0 6)
theorem dX9_old_7 : decode cX9_old 7 = .ok (.invokevirtual 296, 3) := dk_182 (c := cX9_old) (pc := 7) (a := 1) (b := 40) (dk_at bnames03cX9_old_0 7) rfl
theorem dX9_old_10 : decode cX9_old 10 = .ok (.ifCond .eq 19, 3) := dk_153 (c := cX9_old) (pc := 10) (a := 0) (b := 19) (dk_at bnames03cX9_old_0 10) (by decide)
theorem dX9_old_13 : decode cX9_old 13 = .ok (.iload_n 2, 1) := dk_28 (c := cX9_old) (pc := 13) (dk_at bnames03cX9_old_0 13)
theorem dX9_old_14 : decode cX9_old 14 = .ok (.invokestatic 299, 3) := dk_184 (c := cX9_old) (pc := 14) (a := 1) (b := 43) (dk_at bnames03cX9_old_0 14) rfl
theorem dX9_old_17 : decode cX9_old 17 = .ok (.ifCond .eq 12, 3) := dk_153 (c := cX9_old) (pc := 17) (a := 0) (b := 12) (dk_at bnames03cX9_old_0 17) (by decide)
theorem dX9_old_20 : decode cX9_old 20 = .ok (.aload_n 0, 1) := dk_42 (c := cX9_old) (pc := 20) (dk_at bnames03cX9_old_0 20)
theorem dX9_old_21 : decode cX9_old 21 = .ok (.iload_n 1, 1) := dk_27 (c := cX9_old) (pc := 21) (dk_at bnames03cX9_old_0 21)
theorem dX9_old_22 : decode cX9_old 22 = .ok (.iload_n 2, 1) := dk_28 (c := cX9_old) (pc := 22) (dk_at bnames03cX9_old_0 22)
theorem dX9_old_23 : decode cX9_old 23 = .ok (.invokevirtual 293, 3) := dk_182 (c := cX9_old) (pc := 23) (a := 1) (b := 37) (dk_at bnames03cX9_old_0 23) rfl
theorem dX9_old_26 : decode cX9_old 26 = .ok (.goto 5, 3) := dk_167 (c := cX9_old) (pc := 26) (a := 0) (b := 5) (dk_at bnames03cX9_old_0 26) (by decide)
theorem dX9_old_29 : decode cX9_old 29 = .ok (.bipush (-2), 2) := dk_16 (c := cX9_old) (pc := 29) (a := 254) (dk_at bnames03cX9_old_0 29) (by decide)
theorem dX9_old_31 : decode cX9_old 31 = .ok (.ireturn, 1) := dk_172 (c := cX9_old) (pc := 31) (dk_at bnames03cX9_old_0 31)
set_option maxRecDepth 20000 in
theorem ggX9_wageOf_X9_oldOf : GoodIn wsX9_wageOf wsX9_oldOf := goodIn_r _ [11, 12, 22, 23, 24, 25, 26, 27, 28, 29, 30, 31, 32, 33, 34, 35, 36, 37, 38, 39, 40, 41, 42, 43, 44, 45, 46, 47, 48, 49, 50, 51, 52, 53, 54, 55, 56, 57, 58, 59, 60, 61, 62, 63, 64, 65, 66, 67, 68, 69, 70, 71, 72, 73, 74, 75, 76, 77, 78, 79, 80, 81] rfl (by decide +kernel)
set_option maxRecDepth 20000 in
theorem gX9_wageOf_X9_oldOf : GoodIn wsX9_wageOf (wsV RX9 293 RX9 yX9_oldOf wsX9_oldOf) := goodIn_app (goodIn_r _ [7, 8, 9, 10] rfl (by decide +kernel)) ggX9_wageOf_X9_oldOf
set_option maxRecDepth 20000 in
theorem ggX9_wageOf_X9_forcedOf : GoodIn wsX9_wageOf wsX9_forcedOf := goodIn_r _ [16, 17, 7, 8, 9, 10, 11, 12, 22, 23, 24, 25, 26, 27, 28, 29, 30, 31, 32, 33, 34, 35, 36, 37, 38, 39, 40, 41, 42, 43, 44, 45, 46, 47, 48, 49, 50, 51, 52, 53, 54, 55, 56, 57, 58, 59, 60, 61, 62, 63, 64, 65, 66, 67, 68, 69, 70, 71, 72, 73, 74, 75, 76, 77, 78, 79, 80, 81] rfl (by decide +kernel)
set_option maxRecDepth 20000 in
theorem gX9_wageOf_X9_forcedOf : GoodIn wsX9_wageOf (wsV RX9 302 RX9 yX9_forcedOf wsX9_forcedOf) := goodIn_app (goodIn_r _ [13, 14, 15, 10] rfl (by decide +kernel)) ggX9_wageOf_X9_forcedOf
set_option maxRecDepth 20000 in
theorem ggX9_wageOf_X9_held : GoodIn wsX9_wageOf wsX9_held := goodIn_r _ [20, 21] rfl (by decide +kernel)
set_option maxRecDepth 20000 in
theorem gX9_wageOf_X9_held : GoodIn wsX9_wageOf (va_wsS RX9 309 yX9_held wsX9_held) := goodIn_app (goodIn_r _ [18, 19, 10] rfl (by decide +kernel)) ggX9_wageOf_X9_held
theorem bnames03cX9_wageOf_0 : ((dk_l cX9_wageOf).drop 0).take 52 = [42, 180, 0, 65, 3, 51, 154, 0, 5, 3, 172, 3, 54, 5, 3, 54, 6, 21, 6, 42, 180, 0, 77, 3, 46, 162, 0, 239, 42, 180, 0, 80, 21, 6, 46, 54, 7, 21, 7, 155, 0, 96, 42, 180, 0, 86, 21, 5, 21, 7, 17, 3] := by decide +kernel
theorem dX9_wageOf_0 : decode cX9_wageOf 0 = .ok (.aload_n 0, 1) := dk_42 (c := cX9_wageOf) (pc := 0) (dk_at bnames03cX9_wageOf_0 0)
theorem dX9_wageOf_1 : decode cX9_wageOf 1 = .ok (.getfield 65, 3) := dk_180 (c := cX9_wageOf) (pc := 1) (a := 0) (b := 65) (dk_at bnames03cX9_wageOf_0 1) rfl
theorem dX9_wageOf_4 : decode cX9_wageOf 4 = .ok (.iconst 0, 1) := dk_3 (c := cX9_wageOf) (pc := 4) (dk_at bnames03cX9_wageOf_0 4)
theorem dX9_wageOf_5 : decode cX9_wageOf 5 = .ok (.baload, 1) := dk_51 (c := cX9_wageOf) (pc := 5) (dk_at bnames03cX9_wageOf_0 5)
theorem dX9_wageOf_6 : decode cX9_wageOf 6 = .ok (.ifCond .ne 5, 3) := dk_154 (c := cX9_wageOf) (pc := 6) (a := 0) (b := 5) (dk_at bnames03cX9_wageOf_0 6) (by decide)
theorem dX9_wageOf_9 : decode cX9_wageOf 9 = .ok (.iconst 0, 1) := dk_3 (c := cX9_wageOf) (pc := 9) (dk_at bnames03cX9_wageOf_0 9)
theorem dX9_wageOf_10 : decode cX9_wageOf 10 = .ok (.ireturn, 1) := dk_172 (c := cX9_wageOf) (pc := 10) (dk_at bnames03cX9_wageOf_0 10)
theorem dX9_wageOf_11 : decode cX9_wageOf 11 = .ok (.iconst 0, 1) := dk_3 (c := cX9_wageOf) (pc := 11) (dk_at bnames03cX9_wageOf_0 11)
theorem dX9_wageOf_12 : decode cX9_wageOf 12 = .ok (.istore 5, 2) := dk_54 (c := cX9_wageOf) (pc := 12) (a := 5) (dk_at bnames03cX9_wageOf_0 12) rfl
theorem dX9_wageOf_14 : decode cX9_wageOf 14 = .ok (.iconst 0, 1) := dk_3 (c := cX9_wageOf) (pc := 14) (dk_at bnames03cX9_wageOf_0 14)
theorem dX9_wageOf_15 : decode cX9_wageOf 15 = .ok (.istore 6, 2) := dk_54 (c := cX9_wageOf) (pc := 15) (a := 6) (dk_at bnames03cX9_wageOf_0 15) rfl
theorem dX9_wageOf_17 : decode cX9_wageOf 17 = .ok (.iload 6, 2) := dk_21 (c := cX9_wageOf) (pc := 17) (a := 6) (dk_at bnames03cX9_wageOf_0 17) rfl
theorem dX9_wageOf_19 : decode cX9_wageOf 19 = .ok (.aload_n 0, 1) := dk_42 (c := cX9_wageOf) (pc := 19) (dk_at bnames03cX9_wageOf_0 19)
theorem dX9_wageOf_20 : decode cX9_wageOf 20 = .ok (.getfield 77, 3) := dk_180 (c := cX9_wageOf) (pc := 20) (a := 0) (b := 77) (dk_at bnames03cX9_wageOf_0 20) rfl
theorem dX9_wageOf_23 : decode cX9_wageOf 23 = .ok (.iconst 0, 1) := dk_3 (c := cX9_wageOf) (pc := 23) (dk_at bnames03cX9_wageOf_0 23)
theorem dX9_wageOf_24 : decode cX9_wageOf 24 = .ok (.iaload, 1) := dk_46 (c := cX9_wageOf) (pc := 24) (dk_at bnames03cX9_wageOf_0 24)
theorem dX9_wageOf_25 : decode cX9_wageOf 25 = .ok (.if_icmp .ge 239, 3) := dk_162 (c := cX9_wageOf) (pc := 25) (a := 0) (b := 239) (dk_at bnames03cX9_wageOf_0 25) (by decide)
theorem dX9_wageOf_28 : decode cX9_wageOf 28 = .ok (.aload_n 0, 1) := dk_42 (c := cX9_wageOf) (pc := 28) (dk_at bnames03cX9_wageOf_0 28)
theorem dX9_wageOf_29 : decode cX9_wageOf 29 = .ok (.getfield 80, 3) := dk_180 (c := cX9_wageOf) (pc := 29) (a := 0) (b := 80) (dk_at bnames03cX9_wageOf_0 29) rfl
theorem dX9_wageOf_32 : decode cX9_wageOf 32 = .ok (.iload 6, 2) := dk_21 (c := cX9_wageOf) (pc := 32) (a := 6) (dk_at bnames03cX9_wageOf_0 32) rfl
theorem dX9_wageOf_34 : decode cX9_wageOf 34 = .ok (.iaload, 1) := dk_46 (c := cX9_wageOf) (pc := 34) (dk_at bnames03cX9_wageOf_0 34)
theorem dX9_wageOf_35 : decode cX9_wageOf 35 = .ok (.istore 7, 2) := dk_54 (c := cX9_wageOf) (pc := 35) (a := 7) (dk_at bnames03cX9_wageOf_0 35) rfl
theorem dX9_wageOf_37 : decode cX9_wageOf 37 = .ok (.iload 7, 2) := dk_21 (c := cX9_wageOf) (pc := 37) (a := 7) (dk_at bnames03cX9_wageOf_0 37) rfl
theorem dX9_wageOf_39 : decode cX9_wageOf 39 = .ok (.ifCond .lt 96, 3) := dk_155 (c := cX9_wageOf) (pc := 39) (a := 0) (b := 96) (dk_at bnames03cX9_wageOf_0 39) (by decide)
theorem dX9_wageOf_42 : decode cX9_wageOf 42 = .ok (.aload_n 0, 1) := dk_42 (c := cX9_wageOf) (pc := 42) (dk_at bnames03cX9_wageOf_0 42)
theorem dX9_wageOf_43 : decode cX9_wageOf 43 = .ok (.getfield 86, 3) := dk_180 (c := cX9_wageOf) (pc := 43) (a := 0) (b := 86) (dk_at bnames03cX9_wageOf_0 43) rfl
theorem dX9_wageOf_46 : decode cX9_wageOf 46 = .ok (.iload 5, 2) := dk_21 (c := cX9_wageOf) (pc := 46) (a := 5) (dk_at bnames03cX9_wageOf_0 46) rfl
theorem bnames03cX9_wageOf_48 : ((dk_l cX9_wageOf).drop 48).take 52 = [21, 7, 17, 3, 232, 162, 0, 9, 21, 7, 133, 167, 0, 69, 21, 7, 17, 3, 232, 160, 0, 8, 27, 133, 167, 0, 56, 21, 7, 17, 3, 233, 160, 0, 8, 28, 133, 167, 0, 43, 21, 7, 17, 3, 234, 160, 0, 8, 29, 133, 167, 0] := by decide +kernel
theorem dX9_wageOf_48 : decode cX9_wageOf 48 = .ok (.iload 7, 2) := dk_21 (c := cX9_wageOf) (pc := 48) (a := 7) (dk_at bnames03cX9_wageOf_48 0) rfl
theorem dX9_wageOf_50 : decode cX9_wageOf 50 = .ok (.sipush 1000, 3) := dk_17 (c := cX9_wageOf) (pc := 50) (a := 3) (b := 232) (dk_at bnames03cX9_wageOf_48 2) (by decide)
theorem dX9_wageOf_53 : decode cX9_wageOf 53 = .ok (.if_icmp .ge 9, 3) := dk_162 (c := cX9_wageOf) (pc := 53) (a := 0) (b := 9) (dk_at bnames03cX9_wageOf_48 5) (by decide)
theorem dX9_wageOf_56 : decode cX9_wageOf 56 = .ok (.iload 7, 2) := dk_21 (c := cX9_wageOf) (pc := 56) (a := 7) (dk_at bnames03cX9_wageOf_48 8) rfl
theorem dX9_wageOf_58 : decode cX9_wageOf 58 = .ok (.i2l, 1) := dk_133 (c := cX9_wageOf) (pc := 58) (dk_at bnames03cX9_wageOf_48 10)
theorem dX9_wageOf_59 : decode cX9_wageOf 59 = .ok (.goto 69, 3) := dk_167 (c := cX9_wageOf) (pc := 59) (a := 0) (b := 69) (dk_at bnames03cX9_wageOf_48 11) (by decide)
theorem dX9_wageOf_62 : decode cX9_wageOf 62 = .ok (.iload 7, 2) := dk_21 (c := cX9_wageOf) (pc := 62) (a := 7) (dk_at bnames03cX9_wageOf_48 14) rfl
theorem dX9_wageOf_64 : decode cX9_wageOf 64 = .ok (.sipush 1000, 3) := dk_17 (c := cX9_wageOf) (pc := 64) (a := 3) (b := 232) (dk_at bnames03cX9_wageOf_48 16) (by decide)
theorem dX9_wageOf_67 : decode cX9_wageOf 67 = .ok (.if_icmp .ne 8, 3) := dk_160 (c := cX9_wageOf) (pc := 67) (a := 0) (b := 8) (dk_at bnames03cX9_wageOf_48 19) (by decide)
theorem dX9_wageOf_70 : decode cX9_wageOf 70 = .ok (.iload_n 1, 1) := dk_27 (c := cX9_wageOf) (pc := 70) (dk_at bnames03cX9_wageOf_48 22)
theorem dX9_wageOf_71 : decode cX9_wageOf 71 = .ok (.i2l, 1) := dk_133 (c := cX9_wageOf) (pc := 71) (dk_at bnames03cX9_wageOf_48 23)
theorem dX9_wageOf_72 : decode cX9_wageOf 72 = .ok (.goto 56, 3) := dk_167 (c := cX9_wageOf) (pc := 72) (a := 0) (b := 56) (dk_at bnames03cX9_wageOf_48 24) (by decide)
theorem dX9_wageOf_75 : decode cX9_wageOf 75 = .ok (.iload 7, 2) := dk_21 (c := cX9_wageOf) (pc := 75) (a := 7) (dk_at bnames03cX9_wageOf_48 27) rfl
theorem dX9_wageOf_77 : decode cX9_wageOf 77 = .ok (.sipush 1001, 3) := dk_17 (c := cX9_wageOf) (pc := 77) (a := 3) (b := 233) (dk_at bnames03cX9_wageOf_48 29) (by decide)
theorem dX9_wageOf_80 : decode cX9_wageOf 80 = .ok (.if_icmp .ne 8, 3) := dk_160 (c := cX9_wageOf) (pc := 80) (a := 0) (b := 8) (dk_at bnames03cX9_wageOf_48 32) (by decide)
theorem dX9_wageOf_83 : decode cX9_wageOf 83 = .ok (.iload_n 2, 1) := dk_28 (c := cX9_wageOf) (pc := 83) (dk_at bnames03cX9_wageOf_48 35)
theorem dX9_wageOf_84 : decode cX9_wageOf 84 = .ok (.i2l, 1) := dk_133 (c := cX9_wageOf) (pc := 84) (dk_at bnames03cX9_wageOf_48 36)
theorem dX9_wageOf_85 : decode cX9_wageOf 85 = .ok (.goto 43, 3) := dk_167 (c := cX9_wageOf) (pc := 85) (a := 0) (b := 43) (dk_at bnames03cX9_wageOf_48 37) (by decide)
theorem dX9_wageOf_88 : decode cX9_wageOf 88 = .ok (.iload 7, 2) := dk_21 (c := cX9_wageOf) (pc := 88) (a := 7) (dk_at bnames03cX9_wageOf_48 40) rfl
theorem dX9_wageOf_90 : decode cX9_wageOf 90 = .ok (.sipush 1002, 3) := dk_17 (c := cX9_wageOf) (pc := 90) (a := 3) (b := 234) (dk_at bnames03cX9_wageOf_48 42) (by decide)
theorem dX9_wageOf_93 : decode cX9_wageOf 93 = .ok (.if_icmp .ne 8, 3) := dk_160 (c := cX9_wageOf) (pc := 93) (a := 0) (b := 8) (dk_at bnames03cX9_wageOf_48 45) (by decide)
theorem bnames03cX9_wageOf_96 : ((dk_l cX9_wageOf).drop 96).take 52 = [29, 133, 167, 0, 30, 21, 7, 17, 3, 235, 160, 0, 14, 42, 21, 4, 29, 182, 1, 37, 133, 167, 0, 11, 42, 21, 4, 29, 182, 1, 46, 133, 80, 132, 5, 1, 167, 0, 126, 42, 180, 0, 86, 21, 5, 4, 100, 47, 55, 8, 42, 180] := by decide +kernel
theorem dX9_wageOf_96 : decode cX9_wageOf 96 = .ok (.iload_n 3, 1) := dk_29 (c := cX9_wageOf) (pc := 96) (dk_at bnames03cX9_wageOf_96 0)
theorem dX9_wageOf_97 : decode cX9_wageOf 97 = .ok (.i2l, 1) := dk_133 (c := cX9_wageOf) (pc := 97) (dk_at bnames03cX9_wageOf_96 1)
theorem dX9_wageOf_98 : decode cX9_wageOf 98 = .ok (.goto 30, 3) := dk_167 (c := cX9_wageOf) (pc := 98) (a := 0) (b := 30) (dk_at bnames03cX9_wageOf_96 2) (by decide)
theorem dX9_wageOf_101 : decode cX9_wageOf 101 = .ok (.iload 7, 2) := dk_21 (c := cX9_wageOf) (pc := 101) (a := 7) (dk_at bnames03cX9_wageOf_96 5) rfl
theorem dX9_wageOf_103 : decode cX9_wageOf 103 = .ok (.sipush 1003, 3) := dk_17 (c := cX9_wageOf) (pc := 103) (a := 3) (b := 235) (dk_at bnames03cX9_wageOf_96 7) (by decide)
theorem dX9_wageOf_106 : decode cX9_wageOf 106 = .ok (.if_icmp .ne 14, 3) := dk_160 (c := cX9_wageOf) (pc := 106) (a := 0) (b := 14) (dk_at bnames03cX9_wageOf_96 10) (by decide)
theorem dX9_wageOf_109 : decode cX9_wageOf 109 = .ok (.aload_n 0, 1) := dk_42 (c := cX9_wageOf) (pc := 109) (dk_at bnames03cX9_wageOf_96 13)
theorem dX9_wageOf_110 : decode cX9_wageOf 110 = .ok (.iload 4, 2) := dk_21 (c := cX9_wageOf) (pc := 110) (a := 4) (dk_at bnames03cX9_wageOf_96 14) rfl
theorem dX9_wageOf_112 : decode cX9_wageOf 112 = .ok (.iload_n 3, 1) := dk_29 (c := cX9_wageOf) (pc := 112) (dk_at bnames03cX9_wageOf_96 16)
theorem dX9_wageOf_113 : decode cX9_wageOf 113 = .ok (.invokevirtual 293, 3) := dk_182 (c := cX9_wageOf) (pc := 113) (a := 1) (b := 37) (dk_at bnames03cX9_wageOf_96 17) rfl
theorem dX9_wageOf_116 : decode cX9_wageOf 116 = .ok (.i2l, 1) := dk_133 (c := cX9_wageOf) (pc := 116) (dk_at bnames03cX9_wageOf_96 20)
theorem dX9_wageOf_117 : decode cX9_wageOf 117 = .ok (.goto 11, 3) := dk_167 (c := cX9_wageOf) (pc := 117) (a := 0) (b := 11) (dk_at bnames03cX9_wageOf_96 21) (by decide)
theorem dX9_wageOf_120 : decode cX9_wageOf 120 = .ok (.aload_n 0, 1) := dk_42 (c := cX9_wageOf) (pc := 120) (dk_at bnames03cX9_wageOf_96 24)
theorem dX9_wageOf_121 : decode cX9_wageOf 121 = .ok (.iload 4, 2) := dk_21 (c := cX9_wageOf) (pc := 121) (a := 4) (dk_at bnames03cX9_wageOf_96 25) rfl
theorem dX9_wageOf_123 : decode cX9_wageOf 123 = .ok (.iload_n 3, 1) := dk_29 (c := cX9_wageOf) (pc := 123) (dk_at bnames03cX9_wageOf_96 27)
theorem dX9_wageOf_124 : decode cX9_wageOf 124 = .ok (.invokevirtual 302, 3) := dk_182 (c := cX9_wageOf) (pc := 124) (a := 1) (b := 46) (dk_at bnames03cX9_wageOf_96 28) rfl
theorem dX9_wageOf_127 : decode cX9_wageOf 127 = .ok (.i2l, 1) := dk_133 (c := cX9_wageOf) (pc := 127) (dk_at bnames03cX9_wageOf_96 31)
theorem dX9_wageOf_128 : decode cX9_wageOf 128 = .ok (.lastore, 1) := dk_80 (c := cX9_wageOf) (pc := 128) (dk_at bnames03cX9_wageOf_96 32)
theorem dX9_wageOf_129 : decode cX9_wageOf 129 = .ok (.iinc 5 1, 3) := dk_132 (c := cX9_wageOf) (pc := 129) (a := 5) (b := 1) (dk_at bnames03cX9_wageOf_96 33) rfl (by decide)
theorem dX9_wageOf_132 : decode cX9_wageOf 132 = .ok (.goto 126, 3) := dk_167 (c := cX9_wageOf) (pc := 132) (a := 0) (b := 126) (dk_at bnames03cX9_wageOf_96 36) (by decide)
theorem dX9_wageOf_135 : decode cX9_wageOf 135 = .ok (.aload_n 0, 1) := dk_42 (c := cX9_wageOf) (pc := 135) (dk_at bnames03cX9_wageOf_96 39)
theorem dX9_wageOf_136 : decode cX9_wageOf 136 = .ok (.getfield 86, 3) := dk_180 (c := cX9_wageOf) (pc := 136) (a := 0) (b := 86) (dk_at bnames03cX9_wageOf_96 40) rfl
theorem dX9_wageOf_139 : decode cX9_wageOf 139 = .ok (.iload 5, 2) := dk_21 (c := cX9_wageOf) (pc := 139) (a := 5) (dk_at bnames03cX9_wageOf_96 43) rfl
theorem dX9_wageOf_141 : decode cX9_wageOf 141 = .ok (.iconst 1, 1) := dk_4 (c := cX9_wageOf) (pc := 141) (dk_at bnames03cX9_wageOf_96 45)
theorem dX9_wageOf_142 : decode cX9_wageOf 142 = .ok (.isub, 1) := dk_100 (c := cX9_wageOf) (pc := 142) (dk_at bnames03cX9_wageOf_96 46)
theorem dX9_wageOf_143 : decode cX9_wageOf 143 = .ok (.laload, 1) := dk_47 (c := cX9_wageOf) (pc := 143) (dk_at bnames03cX9_wageOf_96 47)
theorem bnames03cX9_wageOf_144 : ((dk_l cX9_wageOf).drop 144).take 52 = [55, 8, 42, 180, 0, 86, 21, 5, 5, 100, 47, 55, 10, 132, 5, 255, 21, 7, 16, 252, 160, 0, 12, 22, 8, 9, 148, 154, 0, 5, 3, 172, 21, 7, 2, 160, 0, 11, 22, 10, 22, 8, 97, 167, 0, 38, 21, 7, 16, 254, 160, 0] := by decide +kernel
theorem dX9_wageOf_144 : decode cX9_wageOf 144 = .ok (.lstore 8, 2) := dk_55 (c := cX9_wageOf) (pc := 144) (a := 8) (dk_at bnames03cX9_wageOf_144 0) rfl
theorem dX9_wageOf_146 : decode cX9_wageOf 146 = .ok (.aload_n 0, 1) := dk_42 (c := cX9_wageOf) (pc := 146) (dk_at bnames03cX9_wageOf_144 2)
theorem dX9_wageOf_147 : decode cX9_wageOf 147 = .ok (.getfield 86, 3) := dk_180 (c := cX9_wageOf) (pc := 147) (a := 0) (b := 86) (dk_at bnames03cX9_wageOf_144 3) rfl
theorem dX9_wageOf_150 : decode cX9_wageOf 150 = .ok (.iload 5, 2) := dk_21 (c := cX9_wageOf) (pc := 150) (a := 5) (dk_at bnames03cX9_wageOf_144 6) rfl
theorem dX9_wageOf_152 : decode cX9_wageOf 152 = .ok (.iconst 2, 1) := dk_5 (c := cX9_wageOf) (pc := 152) (dk_at bnames03cX9_wageOf_144 8)
theorem dX9_wageOf_153 : decode cX9_wageOf 153 = .ok (.isub, 1) := dk_100 (c := cX9_wageOf) (pc := 153) (dk_at bnames03cX9_wageOf_144 9)
theorem dX9_wageOf_154 : decode cX9_wageOf 154 = .ok (.laload, 1) := dk_47 (c := cX9_wageOf) (pc := 154) (dk_at bnames03cX9_wageOf_144 10)
theorem dX9_wageOf_155 : decode cX9_wageOf 155 = .ok (.lstore 10, 2) := dk_55 (c := cX9_wageOf) (pc := 155) (a := 10) (dk_at bnames03cX9_wageOf_144 11) rfl
theorem dX9_wageOf_157 : decode cX9_wageOf 157 = .ok (.iinc 5 (-1), 3) := dk_132 (c := cX9_wageOf) (pc := 157) (a := 5) (b := 255) (dk_at bnames03cX9_wageOf_144 13) rfl (by decide)
theorem dX9_wageOf_160 : decode cX9_wageOf 160 = .ok (.iload 7, 2) := dk_21 (c := cX9_wageOf) (pc := 160) (a := 7) (dk_at bnames03cX9_wageOf_144 16) rfl
theorem dX9_wageOf_162 : decode cX9_wageOf 162 = .ok (.bipush (-4), 2) := dk_16 (c := cX9_wageOf) (pc := 162) (a := 252) (dk_at bnames03cX9_wageOf_144 18) (by decide)
theorem dX9_wageOf_164 : decode cX9_wageOf 164 = .ok (.if_icmp .ne 12, 3) := dk_160 (c := cX9_wageOf) (pc := 164) (a := 0) (b := 12) (dk_at bnames03cX9_wageOf_144 20) (by decide)
theorem dX9_wageOf_167 : decode cX9_wageOf 167 = .ok (.lload 8, 2) := dk_22 (c := cX9_wageOf) (pc := 167) (a := 8) (dk_at bnames03cX9_wageOf_144 23) rfl
theorem dX9_wageOf_169 : decode cX9_wageOf 169 = .ok (.lconst 0, 1) := dk_9 (c := cX9_wageOf) (pc := 169) (dk_at bnames03cX9_wageOf_144 25)
theorem dX9_wageOf_170 : decode cX9_wageOf 170 = .ok (.lcmp, 1) := dk_148 (c := cX9_wageOf) (pc := 170) (dk_at bnames03cX9_wageOf_144 26)
theorem dX9_wageOf_171 : decode cX9_wageOf 171 = .ok (.ifCond .ne 5, 3) := dk_154 (c := cX9_wageOf) (pc := 171) (a := 0) (b := 5) (dk_at bnames03cX9_wageOf_144 27) (by decide)
theorem dX9_wageOf_174 : decode cX9_wageOf 174 = .ok (.iconst 0, 1) := dk_3 (c := cX9_wageOf) (pc := 174) (dk_at bnames03cX9_wageOf_144 30)
theorem dX9_wageOf_175 : decode cX9_wageOf 175 = .ok (.ireturn, 1) := dk_172 (c := cX9_wageOf) (pc := 175) (dk_at bnames03cX9_wageOf_144 31)
theorem dX9_wageOf_176 : decode cX9_wageOf 176 = .ok (.iload 7, 2) := dk_21 (c := cX9_wageOf) (pc := 176) (a := 7) (dk_at bnames03cX9_wageOf_144 32) rfl
theorem dX9_wageOf_178 : decode cX9_wageOf 178 = .ok (.iconst (-1), 1) := dk_2 (c := cX9_wageOf) (pc := 178) (dk_at bnames03cX9_wageOf_144 34)
theorem dX9_wageOf_179 : decode cX9_wageOf 179 = .ok (.if_icmp .ne 11, 3) := dk_160 (c := cX9_wageOf) (pc := 179) (a := 0) (b := 11) (dk_at bnames03cX9_wageOf_144 35) (by decide)
theorem dX9_wageOf_182 : decode cX9_wageOf 182 = .ok (.lload 10, 2) := dk_22 (c := cX9_wageOf) (pc := 182) (a := 10) (dk_at bnames03cX9_wageOf_144 38) rfl
theorem dX9_wageOf_184 : decode cX9_wageOf 184 = .ok (.lload 8, 2) := dk_22 (c := cX9_wageOf) (pc := 184) (a := 8) (dk_at bnames03cX9_wageOf_144 40) rfl
theorem dX9_wageOf_186 : decode cX9_wageOf 186 = .ok (.ladd, 1) := dk_97 (c := cX9_wageOf) (pc := 186) (dk_at bnames03cX9_wageOf_144 42)
theorem dX9_wageOf_187 : decode cX9_wageOf 187 = .ok (.goto 38, 3) := dk_167 (c := cX9_wageOf) (pc := 187) (a := 0) (b := 38) (dk_at bnames03cX9_wageOf_144 43) (by decide)
theorem dX9_wageOf_190 : decode cX9_wageOf 190 = .ok (.iload 7, 2) := dk_21 (c := cX9_wageOf) (pc := 190) (a := 7) (dk_at bnames03cX9_wageOf_144 46) rfl
theorem bnames03cX9_wageOf_192 : ((dk_l cX9_wageOf).drop 192).take 52 = [16, 254, 160, 0, 11, 22, 10, 22, 8, 101, 167, 0, 23, 21, 7, 16, 253, 160, 0, 11, 22, 10, 22, 8, 105, 167, 0, 8, 22, 10, 22, 8, 109, 55, 12, 22, 12, 20, 1, 49, 148, 157, 0, 12, 22, 12, 20, 1, 51, 148, 156, 0] := by decide +kernel
theorem dX9_wageOf_192 : decode cX9_wageOf 192 = .ok (.bipush (-2), 2) := dk_16 (c := cX9_wageOf) (pc := 192) (a := 254) (dk_at bnames03cX9_wageOf_192 0) (by decide)
theorem dX9_wageOf_194 : decode cX9_wageOf 194 = .ok (.if_icmp .ne 11, 3) := dk_160 (c := cX9_wageOf) (pc := 194) (a := 0) (b := 11) (dk_at bnames03cX9_wageOf_192 2) (by decide)
theorem dX9_wageOf_197 : decode cX9_wageOf 197 = .ok (.lload 10, 2) := dk_22 (c := cX9_wageOf) (pc := 197) (a := 10) (dk_at bnames03cX9_wageOf_192 5) rfl
theorem dX9_wageOf_199 : decode cX9_wageOf 199 = .ok (.lload 8, 2) := dk_22 (c := cX9_wageOf) (pc := 199) (a := 8) (dk_at bnames03cX9_wageOf_192 7) rfl
theorem dX9_wageOf_201 : decode cX9_wageOf 201 = .ok (.lsub, 1) := dk_101 (c := cX9_wageOf) (pc := 201) (dk_at bnames03cX9_wageOf_192 9)
theorem dX9_wageOf_202 : decode cX9_wageOf 202 = .ok (.goto 23, 3) := dk_167 (c := cX9_wageOf) (pc := 202) (a := 0) (b := 23) (dk_at bnames03cX9_wageOf_192 10) (by decide)
theorem dX9_wageOf_205 : decode cX9_wageOf 205 = .ok (.iload 7, 2) := dk_21 (c := cX9_wageOf) (pc := 205) (a := 7) (dk_at bnames03cX9_wageOf_192 13) rfl
theorem dX9_wageOf_207 : decode cX9_wageOf 207 = .ok (.bipush (-3), 2) := dk_16 (c := cX9_wageOf) (pc := 207) (a := 253) (dk_at bnames03cX9_wageOf_192 15) (by decide)
theorem dX9_wageOf_209 : decode cX9_wageOf 209 = .ok (.if_icmp .ne 11, 3) := dk_160 (c := cX9_wageOf) (pc := 209) (a := 0) (b := 11) (dk_at bnames03cX9_wageOf_192 17) (by decide)
theorem dX9_wageOf_212 : decode cX9_wageOf 212 = .ok (.lload 10, 2) := dk_22 (c := cX9_wageOf) (pc := 212) (a := 10) (dk_at bnames03cX9_wageOf_192 20) rfl
theorem dX9_wageOf_214 : decode cX9_wageOf 214 = .ok (.lload 8, 2) := dk_22 (c := cX9_wageOf) (pc := 214) (a := 8) (dk_at bnames03cX9_wageOf_192 22) rfl
theorem dX9_wageOf_216 : decode cX9_wageOf 216 = .ok (.lmul, 1) := dk_105 (c := cX9_wageOf) (pc := 216) (dk_at bnames03cX9_wageOf_192 24)
theorem dX9_wageOf_217 : decode cX9_wageOf 217 = .ok (.goto 8, 3) := dk_167 (c := cX9_wageOf) (pc := 217) (a := 0) (b := 8) (dk_at bnames03cX9_wageOf_192 25) (by decide)
theorem dX9_wageOf_220 : decode cX9_wageOf 220 = .ok (.lload 10, 2) := dk_22 (c := cX9_wageOf) (pc := 220) (a := 10) (dk_at bnames03cX9_wageOf_192 28) rfl
theorem dX9_wageOf_222 : decode cX9_wageOf 222 = .ok (.lload 8, 2) := dk_22 (c := cX9_wageOf) (pc := 222) (a := 8) (dk_at bnames03cX9_wageOf_192 30) rfl
theorem dX9_wageOf_224 : decode cX9_wageOf 224 = .ok (.ldiv, 1) := dk_109 (c := cX9_wageOf) (pc := 224) (dk_at bnames03cX9_wageOf_192 32)
theorem dX9_wageOf_225 : decode cX9_wageOf 225 = .ok (.lstore 12, 2) := dk_55 (c := cX9_wageOf) (pc := 225) (a := 12) (dk_at bnames03cX9_wageOf_192 33) rfl
theorem dX9_wageOf_227 : decode cX9_wageOf 227 = .ok (.lload 12, 2) := dk_22 (c := cX9_wageOf) (pc := 227) (a := 12) (dk_at bnames03cX9_wageOf_192 35) rfl
theorem dX9_wageOf_229 : decode cX9_wageOf 229 = .ok (.ldc2_w 305, 3) := dk_20 (c := cX9_wageOf) (pc := 229) (a := 1) (b := 49) (dk_at bnames03cX9_wageOf_192 37) rfl
theorem dX9_wageOf_232 : decode cX9_wageOf 232 = .ok (.lcmp, 1) := dk_148 (c := cX9_wageOf) (pc := 232) (dk_at bnames03cX9_wageOf_192 40)
theorem dX9_wageOf_233 : decode cX9_wageOf 233 = .ok (.ifCond .gt 12, 3) := dk_157 (c := cX9_wageOf) (pc := 233) (a := 0) (b := 12) (dk_at bnames03cX9_wageOf_192 41) (by decide)
theorem dX9_wageOf_236 : decode cX9_wageOf 236 = .ok (.lload 12, 2) := dk_22 (c := cX9_wageOf) (pc := 236) (a := 12) (dk_at bnames03cX9_wageOf_192 44) rfl
theorem dX9_wageOf_238 : decode cX9_wageOf 238 = .ok (.ldc2_w 307, 3) := dk_20 (c := cX9_wageOf) (pc := 238) (a := 1) (b := 51) (dk_at bnames03cX9_wageOf_192 46) rfl
theorem bnames03cX9_wageOf_240 : ((dk_l cX9_wageOf).drop 240).take 34 = [51, 148, 156, 0, 5, 3, 172, 42, 180, 0, 86, 21, 5, 4, 100, 22, 12, 80, 132, 6, 1, 167, 255, 12, 42, 180, 0, 86, 3, 47, 184, 1, 53, 172] := by decide +kernel
theorem dX9_wageOf_241 : decode cX9_wageOf 241 = .ok (.lcmp, 1) := dk_148 (c := cX9_wageOf) (pc := 241) (dk_at bnames03cX9_wageOf_240 1)
theorem dX9_wageOf_242 : decode cX9_wageOf 242 = .ok (.ifCond .ge 5, 3) := dk_156 (c := cX9_wageOf) (pc := 242) (a := 0) (b := 5) (dk_at bnames03cX9_wageOf_240 2) (by decide)
theorem dX9_wageOf_245 : decode cX9_wageOf 245 = .ok (.iconst 0, 1) := dk_3 (c := cX9_wageOf) (pc := 245) (dk_at bnames03cX9_wageOf_240 5)
theorem dX9_wageOf_246 : decode cX9_wageOf 246 = .ok (.ireturn, 1) := dk_172 (c := cX9_wageOf) (pc := 246) (dk_at bnames03cX9_wageOf_240 6)
theorem dX9_wageOf_247 : decode cX9_wageOf 247 = .ok (.aload_n 0, 1) := dk_42 (c := cX9_wageOf) (pc := 247) (dk_at bnames03cX9_wageOf_240 7)
theorem dX9_wageOf_248 : decode cX9_wageOf 248 = .ok (.getfield 86, 3) := dk_180 (c := cX9_wageOf) (pc := 248) (a := 0) (b := 86) (dk_at bnames03cX9_wageOf_240 8) rfl
theorem dX9_wageOf_251 : decode cX9_wageOf 251 = .ok (.iload 5, 2) := dk_21 (c := cX9_wageOf) (pc := 251) (a := 5) (dk_at bnames03cX9_wageOf_240 11) rfl
theorem dX9_wageOf_253 : decode cX9_wageOf 253 = .ok (.iconst 1, 1) := dk_4 (c := cX9_wageOf) (pc := 253) (dk_at bnames03cX9_wageOf_240 13)
theorem dX9_wageOf_254 : decode cX9_wageOf 254 = .ok (.isub, 1) := dk_100 (c := cX9_wageOf) (pc := 254) (dk_at bnames03cX9_wageOf_240 14)
theorem dX9_wageOf_255 : decode cX9_wageOf 255 = .ok (.lload 12, 2) := dk_22 (c := cX9_wageOf) (pc := 255) (a := 12) (dk_at bnames03cX9_wageOf_240 15) rfl
theorem dX9_wageOf_257 : decode cX9_wageOf 257 = .ok (.lastore, 1) := dk_80 (c := cX9_wageOf) (pc := 257) (dk_at bnames03cX9_wageOf_240 17)
theorem dX9_wageOf_258 : decode cX9_wageOf 258 = .ok (.iinc 6 1, 3) := dk_132 (c := cX9_wageOf) (pc := 258) (a := 6) (b := 1) (dk_at bnames03cX9_wageOf_240 18) rfl (by decide)
theorem dX9_wageOf_261 : decode cX9_wageOf 261 = .ok (.goto (-244), 3) := dk_167 (c := cX9_wageOf) (pc := 261) (a := 255) (b := 12) (dk_at bnames03cX9_wageOf_240 21) (by decide)
theorem dX9_wageOf_264 : decode cX9_wageOf 264 = .ok (.aload_n 0, 1) := dk_42 (c := cX9_wageOf) (pc := 264) (dk_at bnames03cX9_wageOf_240 24)
theorem dX9_wageOf_265 : decode cX9_wageOf 265 = .ok (.getfield 86, 3) := dk_180 (c := cX9_wageOf) (pc := 265) (a := 0) (b := 86) (dk_at bnames03cX9_wageOf_240 25) rfl
theorem dX9_wageOf_268 : decode cX9_wageOf 268 = .ok (.iconst 0, 1) := dk_3 (c := cX9_wageOf) (pc := 268) (dk_at bnames03cX9_wageOf_240 28)
theorem dX9_wageOf_269 : decode cX9_wageOf 269 = .ok (.laload, 1) := dk_47 (c := cX9_wageOf) (pc := 269) (dk_at bnames03cX9_wageOf_240 29)
theorem dX9_wageOf_270 : decode cX9_wageOf 270 = .ok (.invokestatic 309, 3) := dk_184 (c := cX9_wageOf) (pc := 270) (a := 1) (b := 53) (dk_at bnames03cX9_wageOf_240 30) rfl
theorem dX9_wageOf_273 : decode cX9_wageOf 273 = .ok (.ireturn, 1) := dk_172 (c := cX9_wageOf) (pc := 273) (dk_at bnames03cX9_wageOf_240 33)
theorem bnames03cX9_held_0 : ((dk_l cX9_held).drop 0).take 27 = [30, 9, 148, 156, 0, 7, 9, 167, 0, 18, 30, 20, 1, 57, 148, 158, 0, 9, 20, 1, 57, 167, 0, 4, 30, 136, 172] := by decide +kernel
theorem dX9_held_0 : decode cX9_held 0 = .ok (.lload_n 0, 1) := dk_30 (c := cX9_held) (pc := 0) (dk_at bnames03cX9_held_0 0)
theorem dX9_held_1 : decode cX9_held 1 = .ok (.lconst 0, 1) := dk_9 (c := cX9_held) (pc := 1) (dk_at bnames03cX9_held_0 1)
theorem dX9_held_2 : decode cX9_held 2 = .ok (.lcmp, 1) := dk_148 (c := cX9_held) (pc := 2) (dk_at bnames03cX9_held_0 2)
theorem dX9_held_3 : decode cX9_held 3 = .ok (.ifCond .ge 7, 3) := dk_156 (c := cX9_held) (pc := 3) (a := 0) (b := 7) (dk_at bnames03cX9_held_0 3) (by decide)
theorem dX9_held_6 : decode cX9_held 6 = .ok (.lconst 0, 1) := dk_9 (c := cX9_held) (pc := 6) (dk_at bnames03cX9_held_0 6)
theorem dX9_held_7 : decode cX9_held 7 = .ok (.goto 18, 3) := dk_167 (c := cX9_held) (pc := 7) (a := 0) (b := 18) (dk_at bnames03cX9_held_0 7) (by decide)
theorem dX9_held_10 : decode cX9_held 10 = .ok (.lload_n 0, 1) := dk_30 (c := cX9_held) (pc := 10) (dk_at bnames03cX9_held_0 10)
theorem dX9_held_11 : decode cX9_held 11 = .ok (.ldc2_w 313, 3) := dk_20 (c := cX9_held) (pc := 11) (a := 1) (b := 57) (dk_at bnames03cX9_held_0 11) rfl
theorem dX9_held_14 : decode cX9_held 14 = .ok (.lcmp, 1) := dk_148 (c := cX9_held) (pc := 14) (dk_at bnames03cX9_held_0 14)
theorem dX9_held_15 : decode cX9_held 15 = .ok (.ifCond .le 9, 3) := dk_158 (c := cX9_held) (pc := 15) (a := 0) (b := 9) (dk_at bnames03cX9_held_0 15) (by decide)
theorem dX9_held_18 : decode cX9_held 18 = .ok (.ldc2_w 313, 3) := dk_20 (c := cX9_held) (pc := 18) (a := 1) (b := 57) (dk_at bnames03cX9_held_0 18) rfl
theorem dX9_held_21 : decode cX9_held 21 = .ok (.goto 4, 3) := dk_167 (c := cX9_held) (pc := 21) (a := 0) (b := 4) (dk_at bnames03cX9_held_0 21) (by decide)
theorem dX9_held_24 : decode cX9_held 24 = .ok (.lload_n 0, 1) := dk_30 (c := cX9_held) (pc := 24) (dk_at bnames03cX9_held_0 24)
theorem dX9_held_25 : decode cX9_held 25 = .ok (.l2i, 1) := dk_136 (c := cX9_held) (pc := 25) (dk_at bnames03cX9_held_0 25)
theorem dX9_held_26 : decode cX9_held 26 = .ok (.ireturn, 1) := dk_172 (c := cX9_held) (pc := 26) (dk_at bnames03cX9_held_0 26)
set_option maxRecDepth 20000 in
theorem ggX9_wage_X9_in : GoodIn wsX9_wage wsX9_in := goodIn_r _ [7] rfl (by decide +kernel)
set_option maxRecDepth 20000 in
theorem gX9_wage_X9_in : GoodIn wsX9_wage (va_wsS RX9 130 yX9_in wsX9_in) := goodIn_app (goodIn_r _ [4, 5, 6] rfl (by decide +kernel)) ggX9_wage_X9_in
set_option maxRecDepth 20000 in
theorem ggX9_wage_X9_isMonth : GoodIn wsX9_wage wsX9_isMonth := goodIn_r _ [10, 11, 4, 5, 6, 7] rfl (by decide +kernel)
set_option maxRecDepth 20000 in
theorem gX9_wage_X9_isMonth : GoodIn wsX9_wage (va_wsS RX9 299 yX9_isMonth wsX9_isMonth) := goodIn_app (goodIn_r _ [8, 9, 6] rfl (by decide +kernel)) ggX9_wage_X9_isMonth
set_option maxRecDepth 20000 in
theorem ggX9_wage_X9_isState : GoodIn wsX9_wage wsX9_isState := goodIn_r _ [15, 16, 4, 5, 6, 7, 41, 42, 43, 44, 45, 46, 47, 48, 49, 50, 51, 52, 53, 54, 55, 56, 57, 58, 59, 60, 61, 62, 63, 64, 65, 66, 67, 68, 69, 70, 71, 72, 73, 74, 75, 76, 77, 78, 79, 80, 81, 82, 83, 84, 85, 86, 87, 88, 89, 90, 91, 92, 93, 94, 95, 96, 97, 98, 99, 100] rfl (by decide +kernel)
set_option maxRecDepth 20000 in
theorem gX9_wage_X9_isState : GoodIn wsX9_wage (wsV RX9 296 RX9 yX9_isState wsX9_isState) := goodIn_app (goodIn_r _ [12, 13, 14, 6] rfl (by decide +kernel)) ggX9_wage_X9_isState
set_option maxRecDepth 20000 in
theorem ggX9_wage_X9_wageOf : GoodIn wsX9_wage wsX9_wageOf := goodIn_r _ [20, 21, 22, 23, 24, 25, 26, 27, 28, 29, 6, 30, 31, 32, 33, 34, 35, 36, 37, 38, 39, 40, 41, 42, 43, 44, 45, 46, 47, 48, 49, 50, 51, 52, 53, 54, 55, 56, 57, 58, 59, 60, 61, 62, 63, 64, 65, 66, 67, 68, 69, 70, 71, 72, 73, 74, 75, 76, 77, 78, 79, 80, 81, 82, 83, 84, 85, 86, 87, 88, 89, 90, 91, 92, 93, 94, 95, 96, 97, 98, 99, 100] rfl (by decide +kernel)
set_option maxRecDepth 20000 in
theorem gX9_wage_X9_wageOf : GoodIn wsX9_wage (wsV RX9 319 RX9 yX9_wageOf wsX9_wageOf) := goodIn_app (goodIn_r _ [17, 18, 19, 6] rfl (by decide +kernel)) ggX9_wage_X9_wageOf
theorem bnames03cX9_wage_0 : ((dk_l cX9_wage).drop 0).take 52 = [42, 3, 181, 0, 125, 27, 133, 9, 20, 1, 59, 184, 0, 130, 153, 0, 31, 28, 133, 9, 20, 1, 61, 184, 0, 130, 153, 0, 19, 29, 184, 1, 43, 153, 0, 12, 42, 21, 4, 182, 1, 40, 154, 0, 6, 16, 254, 172, 42, 27, 28, 29] := by decide +kernel
theorem dX9_wage_0 : decode cX9_wage 0 = .ok (.aload_n 0, 1) := dk_42 (c := cX9_wage) (pc := 0) (dk_at bnames03cX9_wage_0 0)
theorem dX9_wage_1 : decode cX9_wage 1 = .ok (.iconst 0, 1) := dk_3 (c := cX9_wage) (pc := 1) (dk_at bnames03cX9_wage_0 1)
theorem dX9_wage_2 : decode cX9_wage 2 = .ok (.putfield 125, 3) := dk_181 (c := cX9_wage) (pc := 2) (a := 0) (b := 125) (dk_at bnames03cX9_wage_0 2) rfl
theorem dX9_wage_5 : decode cX9_wage 5 = .ok (.iload_n 1, 1) := dk_27 (c := cX9_wage) (pc := 5) (dk_at bnames03cX9_wage_0 5)
theorem dX9_wage_6 : decode cX9_wage 6 = .ok (.i2l, 1) := dk_133 (c := cX9_wage) (pc := 6) (dk_at bnames03cX9_wage_0 6)
theorem dX9_wage_7 : decode cX9_wage 7 = .ok (.lconst 0, 1) := dk_9 (c := cX9_wage) (pc := 7) (dk_at bnames03cX9_wage_0 7)
theorem dX9_wage_8 : decode cX9_wage 8 = .ok (.ldc2_w 315, 3) := dk_20 (c := cX9_wage) (pc := 8) (a := 1) (b := 59) (dk_at bnames03cX9_wage_0 8) rfl
theorem dX9_wage_11 : decode cX9_wage 11 = .ok (.invokestatic 130, 3) := dk_184 (c := cX9_wage) (pc := 11) (a := 0) (b := 130) (dk_at bnames03cX9_wage_0 11) rfl
theorem dX9_wage_14 : decode cX9_wage 14 = .ok (.ifCond .eq 31, 3) := dk_153 (c := cX9_wage) (pc := 14) (a := 0) (b := 31) (dk_at bnames03cX9_wage_0 14) (by decide)
theorem dX9_wage_17 : decode cX9_wage 17 = .ok (.iload_n 2, 1) := dk_28 (c := cX9_wage) (pc := 17) (dk_at bnames03cX9_wage_0 17)
theorem dX9_wage_18 : decode cX9_wage 18 = .ok (.i2l, 1) := dk_133 (c := cX9_wage) (pc := 18) (dk_at bnames03cX9_wage_0 18)
theorem dX9_wage_19 : decode cX9_wage 19 = .ok (.lconst 0, 1) := dk_9 (c := cX9_wage) (pc := 19) (dk_at bnames03cX9_wage_0 19)
theorem dX9_wage_20 : decode cX9_wage 20 = .ok (.ldc2_w 317, 3) := dk_20 (c := cX9_wage) (pc := 20) (a := 1) (b := 61) (dk_at bnames03cX9_wage_0 20) rfl
theorem dX9_wage_23 : decode cX9_wage 23 = .ok (.invokestatic 130, 3) := dk_184 (c := cX9_wage) (pc := 23) (a := 0) (b := 130) (dk_at bnames03cX9_wage_0 23) rfl
theorem dX9_wage_26 : decode cX9_wage 26 = .ok (.ifCond .eq 19, 3) := dk_153 (c := cX9_wage) (pc := 26) (a := 0) (b := 19) (dk_at bnames03cX9_wage_0 26) (by decide)
theorem dX9_wage_29 : decode cX9_wage 29 = .ok (.iload_n 3, 1) := dk_29 (c := cX9_wage) (pc := 29) (dk_at bnames03cX9_wage_0 29)
theorem dX9_wage_30 : decode cX9_wage 30 = .ok (.invokestatic 299, 3) := dk_184 (c := cX9_wage) (pc := 30) (a := 1) (b := 43) (dk_at bnames03cX9_wage_0 30) rfl
theorem dX9_wage_33 : decode cX9_wage 33 = .ok (.ifCond .eq 12, 3) := dk_153 (c := cX9_wage) (pc := 33) (a := 0) (b := 12) (dk_at bnames03cX9_wage_0 33) (by decide)
theorem dX9_wage_36 : decode cX9_wage 36 = .ok (.aload_n 0, 1) := dk_42 (c := cX9_wage) (pc := 36) (dk_at bnames03cX9_wage_0 36)
theorem dX9_wage_37 : decode cX9_wage 37 = .ok (.iload 4, 2) := dk_21 (c := cX9_wage) (pc := 37) (a := 4) (dk_at bnames03cX9_wage_0 37) rfl
theorem dX9_wage_39 : decode cX9_wage 39 = .ok (.invokevirtual 296, 3) := dk_182 (c := cX9_wage) (pc := 39) (a := 1) (b := 40) (dk_at bnames03cX9_wage_0 39) rfl
theorem dX9_wage_42 : decode cX9_wage 42 = .ok (.ifCond .ne 6, 3) := dk_154 (c := cX9_wage) (pc := 42) (a := 0) (b := 6) (dk_at bnames03cX9_wage_0 42) (by decide)
theorem dX9_wage_45 : decode cX9_wage 45 = .ok (.bipush (-2), 2) := dk_16 (c := cX9_wage) (pc := 45) (a := 254) (dk_at bnames03cX9_wage_0 45) (by decide)
theorem dX9_wage_47 : decode cX9_wage 47 = .ok (.ireturn, 1) := dk_172 (c := cX9_wage) (pc := 47) (dk_at bnames03cX9_wage_0 47)
theorem bnames03cX9_wage_48 : ((dk_l cX9_wage).drop 48).take 10 = [42, 27, 28, 29, 21, 4, 182, 1, 63, 172] := by decide +kernel
theorem dX9_wage_48 : decode cX9_wage 48 = .ok (.aload_n 0, 1) := dk_42 (c := cX9_wage) (pc := 48) (dk_at bnames03cX9_wage_48 0)
theorem dX9_wage_49 : decode cX9_wage 49 = .ok (.iload_n 1, 1) := dk_27 (c := cX9_wage) (pc := 49) (dk_at bnames03cX9_wage_48 1)
theorem dX9_wage_50 : decode cX9_wage 50 = .ok (.iload_n 2, 1) := dk_28 (c := cX9_wage) (pc := 50) (dk_at bnames03cX9_wage_48 2)
theorem dX9_wage_51 : decode cX9_wage 51 = .ok (.iload_n 3, 1) := dk_29 (c := cX9_wage) (pc := 51) (dk_at bnames03cX9_wage_48 3)
theorem dX9_wage_52 : decode cX9_wage 52 = .ok (.iload 4, 2) := dk_21 (c := cX9_wage) (pc := 52) (a := 4) (dk_at bnames03cX9_wage_48 4) rfl
theorem dX9_wage_54 : decode cX9_wage 54 = .ok (.invokevirtual 319, 3) := dk_182 (c := cX9_wage) (pc := 54) (a := 1) (b := 63) (dk_at bnames03cX9_wage_48 6) rfl
theorem dX9_wage_57 : decode cX9_wage 57 = .ok (.ireturn, 1) := dk_172 (c := cX9_wage) (pc := 57) (dk_at bnames03cX9_wage_48 9)
theorem bnames03cX9_copySheet_0 : ((dk_l cX9_copySheet).drop 0).take 52 = [42, 180, 0, 92, 28, 42, 180, 0, 92, 27, 46, 79, 42, 180, 0, 95, 28, 42, 180, 0, 95, 27, 46, 79, 42, 180, 0, 98, 28, 42, 180, 0, 98, 27, 46, 79, 42, 180, 0, 101, 28, 42, 180, 0, 101, 27, 46, 79, 42, 180, 0, 104] := by decide +kernel
theorem dX9_copySheet_0 : decode cX9_copySheet 0 = .ok (.aload_n 0, 1) := dk_42 (c := cX9_copySheet) (pc := 0) (dk_at bnames03cX9_copySheet_0 0)
theorem dX9_copySheet_1 : decode cX9_copySheet 1 = .ok (.getfield 92, 3) := dk_180 (c := cX9_copySheet) (pc := 1) (a := 0) (b := 92) (dk_at bnames03cX9_copySheet_0 1) rfl
theorem dX9_copySheet_4 : decode cX9_copySheet 4 = .ok (.iload_n 2, 1) := dk_28 (c := cX9_copySheet) (pc := 4) (dk_at bnames03cX9_copySheet_0 4)
theorem dX9_copySheet_5 : decode cX9_copySheet 5 = .ok (.aload_n 0, 1) := dk_42 (c := cX9_copySheet) (pc := 5) (dk_at bnames03cX9_copySheet_0 5)
theorem dX9_copySheet_6 : decode cX9_copySheet 6 = .ok (.getfield 92, 3) := dk_180 (c := cX9_copySheet) (pc := 6) (a := 0) (b := 92) (dk_at bnames03cX9_copySheet_0 6) rfl
theorem dX9_copySheet_9 : decode cX9_copySheet 9 = .ok (.iload_n 1, 1) := dk_27 (c := cX9_copySheet) (pc := 9) (dk_at bnames03cX9_copySheet_0 9)
theorem dX9_copySheet_10 : decode cX9_copySheet 10 = .ok (.iaload, 1) := dk_46 (c := cX9_copySheet) (pc := 10) (dk_at bnames03cX9_copySheet_0 10)
theorem dX9_copySheet_11 : decode cX9_copySheet 11 = .ok (.iastore, 1) := dk_79 (c := cX9_copySheet) (pc := 11) (dk_at bnames03cX9_copySheet_0 11)
theorem dX9_copySheet_12 : decode cX9_copySheet 12 = .ok (.aload_n 0, 1) := dk_42 (c := cX9_copySheet) (pc := 12) (dk_at bnames03cX9_copySheet_0 12)
theorem dX9_copySheet_13 : decode cX9_copySheet 13 = .ok (.getfield 95, 3) := dk_180 (c := cX9_copySheet) (pc := 13) (a := 0) (b := 95) (dk_at bnames03cX9_copySheet_0 13) rfl
theorem dX9_copySheet_16 : decode cX9_copySheet 16 = .ok (.iload_n 2, 1) := dk_28 (c := cX9_copySheet) (pc := 16) (dk_at bnames03cX9_copySheet_0 16)
theorem dX9_copySheet_17 : decode cX9_copySheet 17 = .ok (.aload_n 0, 1) := dk_42 (c := cX9_copySheet) (pc := 17) (dk_at bnames03cX9_copySheet_0 17)
theorem dX9_copySheet_18 : decode cX9_copySheet 18 = .ok (.getfield 95, 3) := dk_180 (c := cX9_copySheet) (pc := 18) (a := 0) (b := 95) (dk_at bnames03cX9_copySheet_0 18) rfl
theorem dX9_copySheet_21 : decode cX9_copySheet 21 = .ok (.iload_n 1, 1) := dk_27 (c := cX9_copySheet) (pc := 21) (dk_at bnames03cX9_copySheet_0 21)
theorem dX9_copySheet_22 : decode cX9_copySheet 22 = .ok (.iaload, 1) := dk_46 (c := cX9_copySheet) (pc := 22) (dk_at bnames03cX9_copySheet_0 22)
theorem dX9_copySheet_23 : decode cX9_copySheet 23 = .ok (.iastore, 1) := dk_79 (c := cX9_copySheet) (pc := 23) (dk_at bnames03cX9_copySheet_0 23)
theorem dX9_copySheet_24 : decode cX9_copySheet 24 = .ok (.aload_n 0, 1) := dk_42 (c := cX9_copySheet) (pc := 24) (dk_at bnames03cX9_copySheet_0 24)
theorem dX9_copySheet_25 : decode cX9_copySheet 25 = .ok (.getfield 98, 3) := dk_180 (c := cX9_copySheet) (pc := 25) (a := 0) (b := 98) (dk_at bnames03cX9_copySheet_0 25) rfl
theorem dX9_copySheet_28 : decode cX9_copySheet 28 = .ok (.iload_n 2, 1) := dk_28 (c := cX9_copySheet) (pc := 28) (dk_at bnames03cX9_copySheet_0 28)
theorem dX9_copySheet_29 : decode cX9_copySheet 29 = .ok (.aload_n 0, 1) := dk_42 (c := cX9_copySheet) (pc := 29) (dk_at bnames03cX9_copySheet_0 29)
theorem dX9_copySheet_30 : decode cX9_copySheet 30 = .ok (.getfield 98, 3) := dk_180 (c := cX9_copySheet) (pc := 30) (a := 0) (b := 98) (dk_at bnames03cX9_copySheet_0 30) rfl
theorem dX9_copySheet_33 : decode cX9_copySheet 33 = .ok (.iload_n 1, 1) := dk_27 (c := cX9_copySheet) (pc := 33) (dk_at bnames03cX9_copySheet_0 33)
theorem dX9_copySheet_34 : decode cX9_copySheet 34 = .ok (.iaload, 1) := dk_46 (c := cX9_copySheet) (pc := 34) (dk_at bnames03cX9_copySheet_0 34)
theorem dX9_copySheet_35 : decode cX9_copySheet 35 = .ok (.iastore, 1) := dk_79 (c := cX9_copySheet) (pc := 35) (dk_at bnames03cX9_copySheet_0 35)
theorem dX9_copySheet_36 : decode cX9_copySheet 36 = .ok (.aload_n 0, 1) := dk_42 (c := cX9_copySheet) (pc := 36) (dk_at bnames03cX9_copySheet_0 36)
theorem dX9_copySheet_37 : decode cX9_copySheet 37 = .ok (.getfield 101, 3) := dk_180 (c := cX9_copySheet) (pc := 37) (a := 0) (b := 101) (dk_at bnames03cX9_copySheet_0 37) rfl
theorem dX9_copySheet_40 : decode cX9_copySheet 40 = .ok (.iload_n 2, 1) := dk_28 (c := cX9_copySheet) (pc := 40) (dk_at bnames03cX9_copySheet_0 40)
theorem dX9_copySheet_41 : decode cX9_copySheet 41 = .ok (.aload_n 0, 1) := dk_42 (c := cX9_copySheet) (pc := 41) (dk_at bnames03cX9_copySheet_0 41)
theorem dX9_copySheet_42 : decode cX9_copySheet 42 = .ok (.getfield 101, 3) := dk_180 (c := cX9_copySheet) (pc := 42) (a := 0) (b := 101) (dk_at bnames03cX9_copySheet_0 42) rfl
theorem dX9_copySheet_45 : decode cX9_copySheet 45 = .ok (.iload_n 1, 1) := dk_27 (c := cX9_copySheet) (pc := 45) (dk_at bnames03cX9_copySheet_0 45)
theorem dX9_copySheet_46 : decode cX9_copySheet 46 = .ok (.iaload, 1) := dk_46 (c := cX9_copySheet) (pc := 46) (dk_at bnames03cX9_copySheet_0 46)
theorem dX9_copySheet_47 : decode cX9_copySheet 47 = .ok (.iastore, 1) := dk_79 (c := cX9_copySheet) (pc := 47) (dk_at bnames03cX9_copySheet_0 47)
theorem bnames03cX9_copySheet_48 : ((dk_l cX9_copySheet).drop 48).take 25 = [42, 180, 0, 104, 28, 42, 180, 0, 104, 27, 46, 79, 42, 180, 0, 107, 28, 42, 180, 0, 107, 27, 46, 79, 177] := by decide +kernel
theorem dX9_copySheet_48 : decode cX9_copySheet 48 = .ok (.aload_n 0, 1) := dk_42 (c := cX9_copySheet) (pc := 48) (dk_at bnames03cX9_copySheet_48 0)
theorem dX9_copySheet_49 : decode cX9_copySheet 49 = .ok (.getfield 104, 3) := dk_180 (c := cX9_copySheet) (pc := 49) (a := 0) (b := 104) (dk_at bnames03cX9_copySheet_48 1) rfl
theorem dX9_copySheet_52 : decode cX9_copySheet 52 = .ok (.iload_n 2, 1) := dk_28 (c := cX9_copySheet) (pc := 52) (dk_at bnames03cX9_copySheet_48 4)
theorem dX9_copySheet_53 : decode cX9_copySheet 53 = .ok (.aload_n 0, 1) := dk_42 (c := cX9_copySheet) (pc := 53) (dk_at bnames03cX9_copySheet_48 5)
theorem dX9_copySheet_54 : decode cX9_copySheet 54 = .ok (.getfield 104, 3) := dk_180 (c := cX9_copySheet) (pc := 54) (a := 0) (b := 104) (dk_at bnames03cX9_copySheet_48 6) rfl
theorem dX9_copySheet_57 : decode cX9_copySheet 57 = .ok (.iload_n 1, 1) := dk_27 (c := cX9_copySheet) (pc := 57) (dk_at bnames03cX9_copySheet_48 9)
theorem dX9_copySheet_58 : decode cX9_copySheet 58 = .ok (.iaload, 1) := dk_46 (c := cX9_copySheet) (pc := 58) (dk_at bnames03cX9_copySheet_48 10)
theorem dX9_copySheet_59 : decode cX9_copySheet 59 = .ok (.iastore, 1) := dk_79 (c := cX9_copySheet) (pc := 59) (dk_at bnames03cX9_copySheet_48 11)
theorem dX9_copySheet_60 : decode cX9_copySheet 60 = .ok (.aload_n 0, 1) := dk_42 (c := cX9_copySheet) (pc := 60) (dk_at bnames03cX9_copySheet_48 12)
theorem dX9_copySheet_61 : decode cX9_copySheet 61 = .ok (.getfield 107, 3) := dk_180 (c := cX9_copySheet) (pc := 61) (a := 0) (b := 107) (dk_at bnames03cX9_copySheet_48 13) rfl
theorem dX9_copySheet_64 : decode cX9_copySheet 64 = .ok (.iload_n 2, 1) := dk_28 (c := cX9_copySheet) (pc := 64) (dk_at bnames03cX9_copySheet_48 16)
theorem dX9_copySheet_65 : decode cX9_copySheet 65 = .ok (.aload_n 0, 1) := dk_42 (c := cX9_copySheet) (pc := 65) (dk_at bnames03cX9_copySheet_48 17)
theorem dX9_copySheet_66 : decode cX9_copySheet 66 = .ok (.getfield 107, 3) := dk_180 (c := cX9_copySheet) (pc := 66) (a := 0) (b := 107) (dk_at bnames03cX9_copySheet_48 18) rfl
theorem dX9_copySheet_69 : decode cX9_copySheet 69 = .ok (.iload_n 1, 1) := dk_27 (c := cX9_copySheet) (pc := 69) (dk_at bnames03cX9_copySheet_48 21)
theorem dX9_copySheet_70 : decode cX9_copySheet 70 = .ok (.iaload, 1) := dk_46 (c := cX9_copySheet) (pc := 70) (dk_at bnames03cX9_copySheet_48 22)
theorem dX9_copySheet_71 : decode cX9_copySheet 71 = .ok (.iastore, 1) := dk_79 (c := cX9_copySheet) (pc := 71) (dk_at bnames03cX9_copySheet_48 23)
theorem dX9_copySheet_72 : decode cX9_copySheet 72 = .ok (.return_, 1) := dk_177 (c := cX9_copySheet) (pc := 72) (dk_at bnames03cX9_copySheet_48 24)
set_option maxRecDepth 20000 in
theorem ggX9_copySheets_X9_copySheet : GoodIn wsX9_copySheets wsX9_copySheet := goodIn_r _ [6, 7, 8, 9, 10, 11, 12, 13, 14, 15, 16, 17, 18, 19, 20, 21, 22, 23, 24, 25, 26, 27, 28, 29, 30, 31, 32, 33, 34, 35, 36, 37, 38, 39, 40, 41, 42, 43, 44, 45, 46, 47, 48, 49, 50, 51, 52, 53, 54, 55, 56, 57, 58, 59, 60, 61, 62, 63, 64, 65, 66, 67, 68, 69, 70, 71, 72] rfl (by decide +kernel)
set_option maxRecDepth 20000 in
theorem gX9_copySheets_X9_copySheet : GoodIn wsX9_copySheets (wsV RX9 323 RX9 yX9_copySheet wsX9_copySheet) := goodIn_app (goodIn_r _ [2, 3, 4, 5] rfl (by decide +kernel)) ggX9_copySheets_X9_copySheet
theorem bnames03cX9_copySheets_0 : ((dk_l cX9_copySheets).drop 0).take 49 = [42, 180, 0, 89, 28, 42, 180, 0, 89, 27, 46, 79, 3, 62, 29, 42, 180, 0, 89, 27, 46, 162, 0, 27, 42, 17, 0, 200, 27, 104, 29, 96, 17, 0, 200, 28, 104, 29, 96, 182, 1, 67, 132, 3, 1, 167, 255, 225, 177] := by decide +kernel
theorem dX9_copySheets_0 : decode cX9_copySheets 0 = .ok (.aload_n 0, 1) := dk_42 (c := cX9_copySheets) (pc := 0) (dk_at bnames03cX9_copySheets_0 0)
theorem dX9_copySheets_1 : decode cX9_copySheets 1 = .ok (.getfield 89, 3) := dk_180 (c := cX9_copySheets) (pc := 1) (a := 0) (b := 89) (dk_at bnames03cX9_copySheets_0 1) rfl
theorem dX9_copySheets_4 : decode cX9_copySheets 4 = .ok (.iload_n 2, 1) := dk_28 (c := cX9_copySheets) (pc := 4) (dk_at bnames03cX9_copySheets_0 4)
theorem dX9_copySheets_5 : decode cX9_copySheets 5 = .ok (.aload_n 0, 1) := dk_42 (c := cX9_copySheets) (pc := 5) (dk_at bnames03cX9_copySheets_0 5)
theorem dX9_copySheets_6 : decode cX9_copySheets 6 = .ok (.getfield 89, 3) := dk_180 (c := cX9_copySheets) (pc := 6) (a := 0) (b := 89) (dk_at bnames03cX9_copySheets_0 6) rfl
theorem dX9_copySheets_9 : decode cX9_copySheets 9 = .ok (.iload_n 1, 1) := dk_27 (c := cX9_copySheets) (pc := 9) (dk_at bnames03cX9_copySheets_0 9)
theorem dX9_copySheets_10 : decode cX9_copySheets 10 = .ok (.iaload, 1) := dk_46 (c := cX9_copySheets) (pc := 10) (dk_at bnames03cX9_copySheets_0 10)
theorem dX9_copySheets_11 : decode cX9_copySheets 11 = .ok (.iastore, 1) := dk_79 (c := cX9_copySheets) (pc := 11) (dk_at bnames03cX9_copySheets_0 11)
theorem dX9_copySheets_12 : decode cX9_copySheets 12 = .ok (.iconst 0, 1) := dk_3 (c := cX9_copySheets) (pc := 12) (dk_at bnames03cX9_copySheets_0 12)
theorem dX9_copySheets_13 : decode cX9_copySheets 13 = .ok (.istore_n 3, 1) := dk_62 (c := cX9_copySheets) (pc := 13) (dk_at bnames03cX9_copySheets_0 13)
theorem dX9_copySheets_14 : decode cX9_copySheets 14 = .ok (.iload_n 3, 1) := dk_29 (c := cX9_copySheets) (pc := 14) (dk_at bnames03cX9_copySheets_0 14)
theorem dX9_copySheets_15 : decode cX9_copySheets 15 = .ok (.aload_n 0, 1) := dk_42 (c := cX9_copySheets) (pc := 15) (dk_at bnames03cX9_copySheets_0 15)
theorem dX9_copySheets_16 : decode cX9_copySheets 16 = .ok (.getfield 89, 3) := dk_180 (c := cX9_copySheets) (pc := 16) (a := 0) (b := 89) (dk_at bnames03cX9_copySheets_0 16) rfl
theorem dX9_copySheets_19 : decode cX9_copySheets 19 = .ok (.iload_n 1, 1) := dk_27 (c := cX9_copySheets) (pc := 19) (dk_at bnames03cX9_copySheets_0 19)
theorem dX9_copySheets_20 : decode cX9_copySheets 20 = .ok (.iaload, 1) := dk_46 (c := cX9_copySheets) (pc := 20) (dk_at bnames03cX9_copySheets_0 20)
theorem dX9_copySheets_21 : decode cX9_copySheets 21 = .ok (.if_icmp .ge 27, 3) := dk_162 (c := cX9_copySheets) (pc := 21) (a := 0) (b := 27) (dk_at bnames03cX9_copySheets_0 21) (by decide)
theorem dX9_copySheets_24 : decode cX9_copySheets 24 = .ok (.aload_n 0, 1) := dk_42 (c := cX9_copySheets) (pc := 24) (dk_at bnames03cX9_copySheets_0 24)
theorem dX9_copySheets_25 : decode cX9_copySheets 25 = .ok (.sipush 200, 3) := dk_17 (c := cX9_copySheets) (pc := 25) (a := 0) (b := 200) (dk_at bnames03cX9_copySheets_0 25) (by decide)
theorem dX9_copySheets_28 : decode cX9_copySheets 28 = .ok (.iload_n 1, 1) := dk_27 (c := cX9_copySheets) (pc := 28) (dk_at bnames03cX9_copySheets_0 28)
theorem dX9_copySheets_29 : decode cX9_copySheets 29 = .ok (.imul, 1) := dk_104 (c := cX9_copySheets) (pc := 29) (dk_at bnames03cX9_copySheets_0 29)
theorem dX9_copySheets_30 : decode cX9_copySheets 30 = .ok (.iload_n 3, 1) := dk_29 (c := cX9_copySheets) (pc := 30) (dk_at bnames03cX9_copySheets_0 30)
theorem dX9_copySheets_31 : decode cX9_copySheets 31 = .ok (.iadd, 1) := dk_96 (c := cX9_copySheets) (pc := 31) (dk_at bnames03cX9_copySheets_0 31)
theorem dX9_copySheets_32 : decode cX9_copySheets 32 = .ok (.sipush 200, 3) := dk_17 (c := cX9_copySheets) (pc := 32) (a := 0) (b := 200) (dk_at bnames03cX9_copySheets_0 32) (by decide)
theorem dX9_copySheets_35 : decode cX9_copySheets 35 = .ok (.iload_n 2, 1) := dk_28 (c := cX9_copySheets) (pc := 35) (dk_at bnames03cX9_copySheets_0 35)
theorem dX9_copySheets_36 : decode cX9_copySheets 36 = .ok (.imul, 1) := dk_104 (c := cX9_copySheets) (pc := 36) (dk_at bnames03cX9_copySheets_0 36)
theorem dX9_copySheets_37 : decode cX9_copySheets 37 = .ok (.iload_n 3, 1) := dk_29 (c := cX9_copySheets) (pc := 37) (dk_at bnames03cX9_copySheets_0 37)
theorem dX9_copySheets_38 : decode cX9_copySheets 38 = .ok (.iadd, 1) := dk_96 (c := cX9_copySheets) (pc := 38) (dk_at bnames03cX9_copySheets_0 38)
theorem dX9_copySheets_39 : decode cX9_copySheets 39 = .ok (.invokevirtual 323, 3) := dk_182 (c := cX9_copySheets) (pc := 39) (a := 1) (b := 67) (dk_at bnames03cX9_copySheets_0 39) rfl
theorem dX9_copySheets_42 : decode cX9_copySheets 42 = .ok (.iinc 3 1, 3) := dk_132 (c := cX9_copySheets) (pc := 42) (a := 3) (b := 1) (dk_at bnames03cX9_copySheets_0 42) rfl (by decide)
theorem dX9_copySheets_45 : decode cX9_copySheets 45 = .ok (.goto (-31), 3) := dk_167 (c := cX9_copySheets) (pc := 45) (a := 255) (b := 225) (dk_at bnames03cX9_copySheets_0 45) (by decide)
theorem bnames03cX9_copySheets_48 : ((dk_l cX9_copySheets).drop 48).take 1 = [177] := by decide +kernel
theorem dX9_copySheets_48 : decode cX9_copySheets 48 = .ok (.return_, 1) := dk_177 (c := cX9_copySheets) (pc := 48) (dk_at bnames03cX9_copySheets_48 0)
theorem bnames03cX9_drawn_0 : ((dk_l cX9_drawn).drop 0).take 33 = [42, 20, 1, 70, 42, 180, 1, 72, 105, 20, 1, 75, 97, 20, 1, 77, 113, 181, 1, 72, 42, 180, 1, 72, 20, 1, 79, 109, 27, 133, 113, 136, 172] := by decide +kernel
theorem dX9_drawn_0 : decode cX9_drawn 0 = .ok (.aload_n 0, 1) := dk_42 (c := cX9_drawn) (pc := 0) (dk_at bnames03cX9_drawn_0 0)
theorem dX9_drawn_1 : decode cX9_drawn 1 = .ok (.ldc2_w 326, 3) := dk_20 (c := cX9_drawn) (pc := 1) (a := 1) (b := 70) (dk_at bnames03cX9_drawn_0 1) rfl
theorem dX9_drawn_4 : decode cX9_drawn 4 = .ok (.aload_n 0, 1) := dk_42 (c := cX9_drawn) (pc := 4) (dk_at bnames03cX9_drawn_0 4)
theorem dX9_drawn_5 : decode cX9_drawn 5 = .ok (.getfield 328, 3) := dk_180 (c := cX9_drawn) (pc := 5) (a := 1) (b := 72) (dk_at bnames03cX9_drawn_0 5) rfl
theorem dX9_drawn_8 : decode cX9_drawn 8 = .ok (.lmul, 1) := dk_105 (c := cX9_drawn) (pc := 8) (dk_at bnames03cX9_drawn_0 8)
theorem dX9_drawn_9 : decode cX9_drawn 9 = .ok (.ldc2_w 331, 3) := dk_20 (c := cX9_drawn) (pc := 9) (a := 1) (b := 75) (dk_at bnames03cX9_drawn_0 9) rfl
theorem dX9_drawn_12 : decode cX9_drawn 12 = .ok (.ladd, 1) := dk_97 (c := cX9_drawn) (pc := 12) (dk_at bnames03cX9_drawn_0 12)
theorem dX9_drawn_13 : decode cX9_drawn 13 = .ok (.ldc2_w 333, 3) := dk_20 (c := cX9_drawn) (pc := 13) (a := 1) (b := 77) (dk_at bnames03cX9_drawn_0 13) rfl
theorem dX9_drawn_16 : decode cX9_drawn 16 = .ok (.lrem, 1) := dk_113 (c := cX9_drawn) (pc := 16) (dk_at bnames03cX9_drawn_0 16)
theorem dX9_drawn_17 : decode cX9_drawn 17 = .ok (.putfield 328, 3) := dk_181 (c := cX9_drawn) (pc := 17) (a := 1) (b := 72) (dk_at bnames03cX9_drawn_0 17) rfl
theorem dX9_drawn_20 : decode cX9_drawn 20 = .ok (.aload_n 0, 1) := dk_42 (c := cX9_drawn) (pc := 20) (dk_at bnames03cX9_drawn_0 20)
theorem dX9_drawn_21 : decode cX9_drawn 21 = .ok (.getfield 328, 3) := dk_180 (c := cX9_drawn) (pc := 21) (a := 1) (b := 72) (dk_at bnames03cX9_drawn_0 21) rfl
theorem dX9_drawn_24 : decode cX9_drawn 24 = .ok (.ldc2_w 335, 3) := dk_20 (c := cX9_drawn) (pc := 24) (a := 1) (b := 79) (dk_at bnames03cX9_drawn_0 24) rfl
theorem dX9_drawn_27 : decode cX9_drawn 27 = .ok (.ldiv, 1) := dk_109 (c := cX9_drawn) (pc := 27) (dk_at bnames03cX9_drawn_0 27)
theorem dX9_drawn_28 : decode cX9_drawn 28 = .ok (.iload_n 1, 1) := dk_27 (c := cX9_drawn) (pc := 28) (dk_at bnames03cX9_drawn_0 28)
theorem dX9_drawn_29 : decode cX9_drawn 29 = .ok (.i2l, 1) := dk_133 (c := cX9_drawn) (pc := 29) (dk_at bnames03cX9_drawn_0 29)
theorem dX9_drawn_30 : decode cX9_drawn 30 = .ok (.lrem, 1) := dk_113 (c := cX9_drawn) (pc := 30) (dk_at bnames03cX9_drawn_0 30)
theorem dX9_drawn_31 : decode cX9_drawn 31 = .ok (.l2i, 1) := dk_136 (c := cX9_drawn) (pc := 31) (dk_at bnames03cX9_drawn_0 31)
theorem dX9_drawn_32 : decode cX9_drawn 32 = .ok (.ireturn, 1) := dk_172 (c := cX9_drawn) (pc := 32) (dk_at bnames03cX9_drawn_0 32)
set_option maxRecDepth 20000 in
theorem ggX9_schoolOf_X9_forcedOf : GoodIn wsX9_schoolOf wsX9_forcedOf := goodIn_r _ [5, 6, 7, 8, 9, 4, 10, 11, 12, 13, 14, 15, 16, 17, 18, 19, 20, 21, 22, 23, 24, 25, 26, 27, 28, 29, 30, 31, 32, 33, 34, 35, 36, 37, 38, 39, 40, 41, 42, 43, 44, 45, 46, 47, 48, 49, 50, 51, 52, 53, 54, 55, 56, 57, 58, 59, 60, 61, 62, 63, 64, 65, 66, 67, 68, 69, 70, 71] rfl (by decide +kernel)
set_option maxRecDepth 20000 in
theorem gX9_schoolOf_X9_forcedOf : GoodIn wsX9_schoolOf (wsV RX9 302 RX9 yX9_forcedOf wsX9_forcedOf) := goodIn_app (goodIn_r _ [1, 2, 3, 4] rfl (by decide +kernel)) ggX9_schoolOf_X9_forcedOf
theorem bnames03cX9_schoolOf_0 : ((dk_l cX9_schoolOf).drop 0).take 39 = [42, 27, 28, 182, 1, 46, 54, 4, 21, 4, 29, 164, 0, 8, 21, 4, 167, 0, 4, 29, 54, 5, 21, 5, 17, 1, 44, 164, 0, 9, 17, 1, 44, 167, 0, 5, 21, 5, 172] := by decide +kernel
theorem dX9_schoolOf_0 : decode cX9_schoolOf 0 = .ok (.aload_n 0, 1) := dk_42 (c := cX9_schoolOf) (pc := 0) (dk_at bnames03cX9_schoolOf_0 0)
theorem dX9_schoolOf_1 : decode cX9_schoolOf 1 = .ok (.iload_n 1, 1) := dk_27 (c := cX9_schoolOf) (pc := 1) (dk_at bnames03cX9_schoolOf_0 1)
theorem dX9_schoolOf_2 : decode cX9_schoolOf 2 = .ok (.iload_n 2, 1) := dk_28 (c := cX9_schoolOf) (pc := 2) (dk_at bnames03cX9_schoolOf_0 2)
theorem dX9_schoolOf_3 : decode cX9_schoolOf 3 = .ok (.invokevirtual 302, 3) := dk_182 (c := cX9_schoolOf) (pc := 3) (a := 1) (b := 46) (dk_at bnames03cX9_schoolOf_0 3) rfl
theorem dX9_schoolOf_6 : decode cX9_schoolOf 6 = .ok (.istore 4, 2) := dk_54 (c := cX9_schoolOf) (pc := 6) (a := 4) (dk_at bnames03cX9_schoolOf_0 6) rfl
theorem dX9_schoolOf_8 : decode cX9_schoolOf 8 = .ok (.iload 4, 2) := dk_21 (c := cX9_schoolOf) (pc := 8) (a := 4) (dk_at bnames03cX9_schoolOf_0 8) rfl
theorem dX9_schoolOf_10 : decode cX9_schoolOf 10 = .ok (.iload_n 3, 1) := dk_29 (c := cX9_schoolOf) (pc := 10) (dk_at bnames03cX9_schoolOf_0 10)
theorem dX9_schoolOf_11 : decode cX9_schoolOf 11 = .ok (.if_icmp .le 8, 3) := dk_164 (c := cX9_schoolOf) (pc := 11) (a := 0) (b := 8) (dk_at bnames03cX9_schoolOf_0 11) (by decide)
theorem dX9_schoolOf_14 : decode cX9_schoolOf 14 = .ok (.iload 4, 2) := dk_21 (c := cX9_schoolOf) (pc := 14) (a := 4) (dk_at bnames03cX9_schoolOf_0 14) rfl
theorem dX9_schoolOf_16 : decode cX9_schoolOf 16 = .ok (.goto 4, 3) := dk_167 (c := cX9_schoolOf) (pc := 16) (a := 0) (b := 4) (dk_at bnames03cX9_schoolOf_0 16) (by decide)
theorem dX9_schoolOf_19 : decode cX9_schoolOf 19 = .ok (.iload_n 3, 1) := dk_29 (c := cX9_schoolOf) (pc := 19) (dk_at bnames03cX9_schoolOf_0 19)
theorem dX9_schoolOf_20 : decode cX9_schoolOf 20 = .ok (.istore 5, 2) := dk_54 (c := cX9_schoolOf) (pc := 20) (a := 5) (dk_at bnames03cX9_schoolOf_0 20) rfl
theorem dX9_schoolOf_22 : decode cX9_schoolOf 22 = .ok (.iload 5, 2) := dk_21 (c := cX9_schoolOf) (pc := 22) (a := 5) (dk_at bnames03cX9_schoolOf_0 22) rfl
theorem dX9_schoolOf_24 : decode cX9_schoolOf 24 = .ok (.sipush 300, 3) := dk_17 (c := cX9_schoolOf) (pc := 24) (a := 1) (b := 44) (dk_at bnames03cX9_schoolOf_0 24) (by decide)
theorem dX9_schoolOf_27 : decode cX9_schoolOf 27 = .ok (.if_icmp .le 9, 3) := dk_164 (c := cX9_schoolOf) (pc := 27) (a := 0) (b := 9) (dk_at bnames03cX9_schoolOf_0 27) (by decide)
theorem dX9_schoolOf_30 : decode cX9_schoolOf 30 = .ok (.sipush 300, 3) := dk_17 (c := cX9_schoolOf) (pc := 30) (a := 1) (b := 44) (dk_at bnames03cX9_schoolOf_0 30) (by decide)
theorem dX9_schoolOf_33 : decode cX9_schoolOf 33 = .ok (.goto 5, 3) := dk_167 (c := cX9_schoolOf) (pc := 33) (a := 0) (b := 5) (dk_at bnames03cX9_schoolOf_0 33) (by decide)
theorem dX9_schoolOf_36 : decode cX9_schoolOf 36 = .ok (.iload 5, 2) := dk_21 (c := cX9_schoolOf) (pc := 36) (a := 5) (dk_at bnames03cX9_schoolOf_0 36) rfl
theorem dX9_schoolOf_38 : decode cX9_schoolOf 38 = .ok (.ireturn, 1) := dk_172 (c := cX9_schoolOf) (pc := 38) (dk_at bnames03cX9_schoolOf_0 38)
set_option maxRecDepth 20000 in
theorem ggX9_draws_X9_drawn : GoodIn wsX9_draws wsX9_drawn := goodIn_r _ [21, 22, 1, 23, 24, 25, 54, 55, 56, 57, 58, 59, 60, 61, 62, 63, 64, 65, 66, 67, 68, 69, 70, 71, 72, 73, 74, 75, 76, 77, 78, 79, 80, 81, 82, 83, 84, 85, 86, 87, 88, 89, 90, 91, 92, 93, 94, 95, 96, 97, 98, 99, 100, 101, 102, 103, 104, 105, 106, 107, 108, 109, 110, 111, 112, 113] rfl (by decide +kernel)
set_option maxRecDepth 20000 in
theorem gX9_draws_X9_drawn : GoodIn wsX9_draws (wsV RX9 337 RX9 yX9_drawn wsX9_drawn) := goodIn_app (goodIn_r _ [17, 18, 19, 20] rfl (by decide +kernel)) ggX9_draws_X9_drawn
set_option maxRecDepth 20000 in
theorem ggX9_draws_X9_schoolOf : GoodIn wsX9_draws wsX9_schoolOf := goodIn_r _ [29, 30, 31, 32, 20, 33, 34, 35, 36, 37, 38, 39, 54, 55, 56, 57, 58, 59, 60, 61, 62, 63, 64, 65, 66, 67, 68, 69, 70, 71, 72, 73, 74, 75, 76, 77, 78, 79, 80, 81, 82, 83, 84, 85, 86, 87, 88, 89, 90, 91, 92, 93, 94, 95, 96, 97, 98, 99, 100, 101, 102, 103, 104, 105, 106, 107, 108, 109, 110, 111, 112, 113] rfl (by decide +kernel)
set_option maxRecDepth 20000 in
theorem gX9_draws_X9_schoolOf : GoodIn wsX9_draws (wsV RX9 341 RX9 yX9_schoolOf wsX9_schoolOf) := goodIn_app (goodIn_r _ [26, 27, 28, 20] rfl (by decide +kernel)) ggX9_draws_X9_schoolOf
set_option maxRecDepth 20000 in
theorem ggX9_draws_X9_wageOf : GoodIn wsX9_draws wsX9_wageOf := goodIn_r _ [43, 44, 45, 46, 47, 48, 49, 35, 36, 37, 20, 38, 39, 30, 31, 32, 33, 34, 50, 51, 52, 53, 54, 55, 56, 57, 58, 59, 60, 61, 62, 63, 64, 65, 66, 67, 68, 69, 70, 71, 72, 73, 74, 75, 76, 77, 78, 79, 80, 81, 82, 83, 84, 85, 86, 87, 88, 89, 90, 91, 92, 93, 94, 95, 96, 97, 98, 99, 100, 101, 102, 103, 104, 105, 106, 107, 108, 109, 110, 111, 112, 113] rfl (by decide +kernel)
set_option maxRecDepth 20000 in
theorem gX9_draws_X9_wageOf : GoodIn wsX9_draws (wsV RX9 319 RX9 yX9_wageOf wsX9_wageOf) := goodIn_app (goodIn_r _ [40, 41, 42, 20] rfl (by decide +kernel)) ggX9_draws_X9_wageOf
set_option maxRecDepth 20000 in
theorem ggX9_draws_X9_held : GoodIn wsX9_draws wsX9_held := goodIn_r _ [52, 53] rfl (by decide +kernel)
set_option maxRecDepth 20000 in
theorem gX9_draws_X9_held : GoodIn wsX9_draws (va_wsS RX9 309 yX9_held wsX9_held) := goodIn_app (goodIn_r _ [50, 51, 20] rfl (by decide +kernel)) ggX9_draws_X9_held
theorem bnames03cX9_draws_0 : ((dk_l cX9_draws).drop 0).take 52 = [42, 31, 181, 1, 72, 3, 54, 4, 3, 54, 5, 21, 5, 42, 180, 0, 43, 3, 46, 162, 0, 21, 21, 4, 42, 180, 0, 46, 21, 5, 46, 96, 54, 4, 132, 5, 1, 167, 255, 230, 3, 54, 5, 21, 5, 29, 162, 0, 224, 42, 42, 180] := by decide +kernel
theorem dX9_draws_0 : decode cX9_draws 0 = .ok (.aload_n 0, 1) := dk_42 (c := cX9_draws) (pc := 0) (dk_at bnames03cX9_draws_0 0)
theorem dX9_draws_1 : decode cX9_draws 1 = .ok (.lload_n 1, 1) := dk_31 (c := cX9_draws) (pc := 1) (dk_at bnames03cX9_draws_0 1)
theorem dX9_draws_2 : decode cX9_draws 2 = .ok (.putfield 328, 3) := dk_181 (c := cX9_draws) (pc := 2) (a := 1) (b := 72) (dk_at bnames03cX9_draws_0 2) rfl
theorem dX9_draws_5 : decode cX9_draws 5 = .ok (.iconst 0, 1) := dk_3 (c := cX9_draws) (pc := 5) (dk_at bnames03cX9_draws_0 5)
theorem dX9_draws_6 : decode cX9_draws 6 = .ok (.istore 4, 2) := dk_54 (c := cX9_draws) (pc := 6) (a := 4) (dk_at bnames03cX9_draws_0 6) rfl
theorem dX9_draws_8 : decode cX9_draws 8 = .ok (.iconst 0, 1) := dk_3 (c := cX9_draws) (pc := 8) (dk_at bnames03cX9_draws_0 8)
theorem dX9_draws_9 : decode cX9_draws 9 = .ok (.istore 5, 2) := dk_54 (c := cX9_draws) (pc := 9) (a := 5) (dk_at bnames03cX9_draws_0 9) rfl
theorem dX9_draws_11 : decode cX9_draws 11 = .ok (.iload 5, 2) := dk_21 (c := cX9_draws) (pc := 11) (a := 5) (dk_at bnames03cX9_draws_0 11) rfl
theorem dX9_draws_13 : decode cX9_draws 13 = .ok (.aload_n 0, 1) := dk_42 (c := cX9_draws) (pc := 13) (dk_at bnames03cX9_draws_0 13)
theorem dX9_draws_14 : decode cX9_draws 14 = .ok (.getfield 43, 3) := dk_180 (c := cX9_draws) (pc := 14) (a := 0) (b := 43) (dk_at bnames03cX9_draws_0 14) rfl
theorem dX9_draws_17 : decode cX9_draws 17 = .ok (.iconst 0, 1) := dk_3 (c := cX9_draws) (pc := 17) (dk_at bnames03cX9_draws_0 17)
theorem dX9_draws_18 : decode cX9_draws 18 = .ok (.iaload, 1) := dk_46 (c := cX9_draws) (pc := 18) (dk_at bnames03cX9_draws_0 18)
theorem dX9_draws_19 : decode cX9_draws 19 = .ok (.if_icmp .ge 21, 3) := dk_162 (c := cX9_draws) (pc := 19) (a := 0) (b := 21) (dk_at bnames03cX9_draws_0 19) (by decide)
theorem dX9_draws_22 : decode cX9_draws 22 = .ok (.iload 4, 2) := dk_21 (c := cX9_draws) (pc := 22) (a := 4) (dk_at bnames03cX9_draws_0 22) rfl
theorem dX9_draws_24 : decode cX9_draws 24 = .ok (.aload_n 0, 1) := dk_42 (c := cX9_draws) (pc := 24) (dk_at bnames03cX9_draws_0 24)
theorem dX9_draws_25 : decode cX9_draws 25 = .ok (.getfield 46, 3) := dk_180 (c := cX9_draws) (pc := 25) (a := 0) (b := 46) (dk_at bnames03cX9_draws_0 25) rfl
theorem dX9_draws_28 : decode cX9_draws 28 = .ok (.iload 5, 2) := dk_21 (c := cX9_draws) (pc := 28) (a := 5) (dk_at bnames03cX9_draws_0 28) rfl
theorem dX9_draws_30 : decode cX9_draws 30 = .ok (.iaload, 1) := dk_46 (c := cX9_draws) (pc := 30) (dk_at bnames03cX9_draws_0 30)
theorem dX9_draws_31 : decode cX9_draws 31 = .ok (.iadd, 1) := dk_96 (c := cX9_draws) (pc := 31) (dk_at bnames03cX9_draws_0 31)
theorem dX9_draws_32 : decode cX9_draws 32 = .ok (.istore 4, 2) := dk_54 (c := cX9_draws) (pc := 32) (a := 4) (dk_at bnames03cX9_draws_0 32) rfl
theorem dX9_draws_34 : decode cX9_draws 34 = .ok (.iinc 5 1, 3) := dk_132 (c := cX9_draws) (pc := 34) (a := 5) (b := 1) (dk_at bnames03cX9_draws_0 34) rfl (by decide)
theorem dX9_draws_37 : decode cX9_draws 37 = .ok (.goto (-26), 3) := dk_167 (c := cX9_draws) (pc := 37) (a := 255) (b := 230) (dk_at bnames03cX9_draws_0 37) (by decide)
theorem dX9_draws_40 : decode cX9_draws 40 = .ok (.iconst 0, 1) := dk_3 (c := cX9_draws) (pc := 40) (dk_at bnames03cX9_draws_0 40)
theorem dX9_draws_41 : decode cX9_draws 41 = .ok (.istore 5, 2) := dk_54 (c := cX9_draws) (pc := 41) (a := 5) (dk_at bnames03cX9_draws_0 41) rfl
theorem dX9_draws_43 : decode cX9_draws 43 = .ok (.iload 5, 2) := dk_21 (c := cX9_draws) (pc := 43) (a := 5) (dk_at bnames03cX9_draws_0 43) rfl
theorem dX9_draws_45 : decode cX9_draws 45 = .ok (.iload_n 3, 1) := dk_29 (c := cX9_draws) (pc := 45) (dk_at bnames03cX9_draws_0 45)
theorem dX9_draws_46 : decode cX9_draws 46 = .ok (.if_icmp .ge 224, 3) := dk_162 (c := cX9_draws) (pc := 46) (a := 0) (b := 224) (dk_at bnames03cX9_draws_0 46) (by decide)
theorem bnames03cX9_draws_48 : ((dk_l cX9_draws).drop 48).take 52 = [224, 42, 42, 180, 0, 34, 3, 46, 182, 1, 81, 54, 6, 42, 16, 12, 182, 1, 81, 4, 96, 54, 7, 42, 21, 4, 182, 1, 81, 54, 8, 3, 54, 9, 42, 180, 0, 46, 3, 46, 54, 10, 21, 10, 21, 8, 163, 0, 21, 132, 9, 1] := by decide +kernel
theorem dX9_draws_49 : decode cX9_draws 49 = .ok (.aload_n 0, 1) := dk_42 (c := cX9_draws) (pc := 49) (dk_at bnames03cX9_draws_48 1)
theorem dX9_draws_50 : decode cX9_draws 50 = .ok (.aload_n 0, 1) := dk_42 (c := cX9_draws) (pc := 50) (dk_at bnames03cX9_draws_48 2)
theorem dX9_draws_51 : decode cX9_draws 51 = .ok (.getfield 34, 3) := dk_180 (c := cX9_draws) (pc := 51) (a := 0) (b := 34) (dk_at bnames03cX9_draws_48 3) rfl
theorem dX9_draws_54 : decode cX9_draws 54 = .ok (.iconst 0, 1) := dk_3 (c := cX9_draws) (pc := 54) (dk_at bnames03cX9_draws_48 6)
theorem dX9_draws_55 : decode cX9_draws 55 = .ok (.iaload, 1) := dk_46 (c := cX9_draws) (pc := 55) (dk_at bnames03cX9_draws_48 7)
theorem dX9_draws_56 : decode cX9_draws 56 = .ok (.invokevirtual 337, 3) := dk_182 (c := cX9_draws) (pc := 56) (a := 1) (b := 81) (dk_at bnames03cX9_draws_48 8) rfl
theorem dX9_draws_59 : decode cX9_draws 59 = .ok (.istore 6, 2) := dk_54 (c := cX9_draws) (pc := 59) (a := 6) (dk_at bnames03cX9_draws_48 11) rfl
theorem dX9_draws_61 : decode cX9_draws 61 = .ok (.aload_n 0, 1) := dk_42 (c := cX9_draws) (pc := 61) (dk_at bnames03cX9_draws_48 13)
theorem dX9_draws_62 : decode cX9_draws 62 = .ok (.bipush 12, 2) := dk_16 (c := cX9_draws) (pc := 62) (a := 12) (dk_at bnames03cX9_draws_48 14) (by decide)
theorem dX9_draws_64 : decode cX9_draws 64 = .ok (.invokevirtual 337, 3) := dk_182 (c := cX9_draws) (pc := 64) (a := 1) (b := 81) (dk_at bnames03cX9_draws_48 16) rfl
theorem dX9_draws_67 : decode cX9_draws 67 = .ok (.iconst 1, 1) := dk_4 (c := cX9_draws) (pc := 67) (dk_at bnames03cX9_draws_48 19)
theorem dX9_draws_68 : decode cX9_draws 68 = .ok (.iadd, 1) := dk_96 (c := cX9_draws) (pc := 68) (dk_at bnames03cX9_draws_48 20)
theorem dX9_draws_69 : decode cX9_draws 69 = .ok (.istore 7, 2) := dk_54 (c := cX9_draws) (pc := 69) (a := 7) (dk_at bnames03cX9_draws_48 21) rfl
theorem dX9_draws_71 : decode cX9_draws 71 = .ok (.aload_n 0, 1) := dk_42 (c := cX9_draws) (pc := 71) (dk_at bnames03cX9_draws_48 23)
theorem dX9_draws_72 : decode cX9_draws 72 = .ok (.iload 4, 2) := dk_21 (c := cX9_draws) (pc := 72) (a := 4) (dk_at bnames03cX9_draws_48 24) rfl
theorem dX9_draws_74 : decode cX9_draws 74 = .ok (.invokevirtual 337, 3) := dk_182 (c := cX9_draws) (pc := 74) (a := 1) (b := 81) (dk_at bnames03cX9_draws_48 26) rfl
theorem dX9_draws_77 : decode cX9_draws 77 = .ok (.istore 8, 2) := dk_54 (c := cX9_draws) (pc := 77) (a := 8) (dk_at bnames03cX9_draws_48 29) rfl
theorem dX9_draws_79 : decode cX9_draws 79 = .ok (.iconst 0, 1) := dk_3 (c := cX9_draws) (pc := 79) (dk_at bnames03cX9_draws_48 31)
theorem dX9_draws_80 : decode cX9_draws 80 = .ok (.istore 9, 2) := dk_54 (c := cX9_draws) (pc := 80) (a := 9) (dk_at bnames03cX9_draws_48 32) rfl
theorem dX9_draws_82 : decode cX9_draws 82 = .ok (.aload_n 0, 1) := dk_42 (c := cX9_draws) (pc := 82) (dk_at bnames03cX9_draws_48 34)
theorem dX9_draws_83 : decode cX9_draws 83 = .ok (.getfield 46, 3) := dk_180 (c := cX9_draws) (pc := 83) (a := 0) (b := 46) (dk_at bnames03cX9_draws_48 35) rfl
theorem dX9_draws_86 : decode cX9_draws 86 = .ok (.iconst 0, 1) := dk_3 (c := cX9_draws) (pc := 86) (dk_at bnames03cX9_draws_48 38)
theorem dX9_draws_87 : decode cX9_draws 87 = .ok (.iaload, 1) := dk_46 (c := cX9_draws) (pc := 87) (dk_at bnames03cX9_draws_48 39)
theorem dX9_draws_88 : decode cX9_draws 88 = .ok (.istore 10, 2) := dk_54 (c := cX9_draws) (pc := 88) (a := 10) (dk_at bnames03cX9_draws_48 40) rfl
theorem dX9_draws_90 : decode cX9_draws 90 = .ok (.iload 10, 2) := dk_21 (c := cX9_draws) (pc := 90) (a := 10) (dk_at bnames03cX9_draws_48 42) rfl
theorem dX9_draws_92 : decode cX9_draws 92 = .ok (.iload 8, 2) := dk_21 (c := cX9_draws) (pc := 92) (a := 8) (dk_at bnames03cX9_draws_48 44) rfl
theorem dX9_draws_94 : decode cX9_draws 94 = .ok (.if_icmp .gt 21, 3) := dk_163 (c := cX9_draws) (pc := 94) (a := 0) (b := 21) (dk_at bnames03cX9_draws_48 46) (by decide)
theorem bnames03cX9_draws_96 : ((dk_l cX9_draws).drop 96).take 52 = [21, 132, 9, 1, 21, 10, 42, 180, 0, 46, 21, 9, 46, 96, 54, 10, 167, 255, 234, 42, 180, 0, 92, 21, 5, 21, 6, 79, 42, 180, 0, 95, 21, 5, 21, 7, 79, 42, 180, 0, 107, 21, 5, 42, 180, 0, 52, 21, 9, 46, 42, 42] := by decide +kernel
theorem dX9_draws_97 : decode cX9_draws 97 = .ok (.iinc 9 1, 3) := dk_132 (c := cX9_draws) (pc := 97) (a := 9) (b := 1) (dk_at bnames03cX9_draws_96 1) rfl (by decide)
theorem dX9_draws_100 : decode cX9_draws 100 = .ok (.iload 10, 2) := dk_21 (c := cX9_draws) (pc := 100) (a := 10) (dk_at bnames03cX9_draws_96 4) rfl
theorem dX9_draws_102 : decode cX9_draws 102 = .ok (.aload_n 0, 1) := dk_42 (c := cX9_draws) (pc := 102) (dk_at bnames03cX9_draws_96 6)
theorem dX9_draws_103 : decode cX9_draws 103 = .ok (.getfield 46, 3) := dk_180 (c := cX9_draws) (pc := 103) (a := 0) (b := 46) (dk_at bnames03cX9_draws_96 7) rfl
theorem dX9_draws_106 : decode cX9_draws 106 = .ok (.iload 9, 2) := dk_21 (c := cX9_draws) (pc := 106) (a := 9) (dk_at bnames03cX9_draws_96 10) rfl
theorem dX9_draws_108 : decode cX9_draws 108 = .ok (.iaload, 1) := dk_46 (c := cX9_draws) (pc := 108) (dk_at bnames03cX9_draws_96 12)
theorem dX9_draws_109 : decode cX9_draws 109 = .ok (.iadd, 1) := dk_96 (c := cX9_draws) (pc := 109) (dk_at bnames03cX9_draws_96 13)
theorem dX9_draws_110 : decode cX9_draws 110 = .ok (.istore 10, 2) := dk_54 (c := cX9_draws) (pc := 110) (a := 10) (dk_at bnames03cX9_draws_96 14) rfl
theorem dX9_draws_112 : decode cX9_draws 112 = .ok (.goto (-22), 3) := dk_167 (c := cX9_draws) (pc := 112) (a := 255) (b := 234) (dk_at bnames03cX9_draws_96 16) (by decide)
theorem dX9_draws_115 : decode cX9_draws 115 = .ok (.aload_n 0, 1) := dk_42 (c := cX9_draws) (pc := 115) (dk_at bnames03cX9_draws_96 19)
theorem dX9_draws_116 : decode cX9_draws 116 = .ok (.getfield 92, 3) := dk_180 (c := cX9_draws) (pc := 116) (a := 0) (b := 92) (dk_at bnames03cX9_draws_96 20) rfl
theorem dX9_draws_119 : decode cX9_draws 119 = .ok (.iload 5, 2) := dk_21 (c := cX9_draws) (pc := 119) (a := 5) (dk_at bnames03cX9_draws_96 23) rfl
theorem dX9_draws_121 : decode cX9_draws 121 = .ok (.iload 6, 2) := dk_21 (c := cX9_draws) (pc := 121) (a := 6) (dk_at bnames03cX9_draws_96 25) rfl
theorem dX9_draws_123 : decode cX9_draws 123 = .ok (.iastore, 1) := dk_79 (c := cX9_draws) (pc := 123) (dk_at bnames03cX9_draws_96 27)
theorem dX9_draws_124 : decode cX9_draws 124 = .ok (.aload_n 0, 1) := dk_42 (c := cX9_draws) (pc := 124) (dk_at bnames03cX9_draws_96 28)
theorem dX9_draws_125 : decode cX9_draws 125 = .ok (.getfield 95, 3) := dk_180 (c := cX9_draws) (pc := 125) (a := 0) (b := 95) (dk_at bnames03cX9_draws_96 29) rfl
theorem dX9_draws_128 : decode cX9_draws 128 = .ok (.iload 5, 2) := dk_21 (c := cX9_draws) (pc := 128) (a := 5) (dk_at bnames03cX9_draws_96 32) rfl
theorem dX9_draws_130 : decode cX9_draws 130 = .ok (.iload 7, 2) := dk_21 (c := cX9_draws) (pc := 130) (a := 7) (dk_at bnames03cX9_draws_96 34) rfl
theorem dX9_draws_132 : decode cX9_draws 132 = .ok (.iastore, 1) := dk_79 (c := cX9_draws) (pc := 132) (dk_at bnames03cX9_draws_96 36)
theorem dX9_draws_133 : decode cX9_draws 133 = .ok (.aload_n 0, 1) := dk_42 (c := cX9_draws) (pc := 133) (dk_at bnames03cX9_draws_96 37)
theorem dX9_draws_134 : decode cX9_draws 134 = .ok (.getfield 107, 3) := dk_180 (c := cX9_draws) (pc := 134) (a := 0) (b := 107) (dk_at bnames03cX9_draws_96 38) rfl
theorem dX9_draws_137 : decode cX9_draws 137 = .ok (.iload 5, 2) := dk_21 (c := cX9_draws) (pc := 137) (a := 5) (dk_at bnames03cX9_draws_96 41) rfl
theorem dX9_draws_139 : decode cX9_draws 139 = .ok (.aload_n 0, 1) := dk_42 (c := cX9_draws) (pc := 139) (dk_at bnames03cX9_draws_96 43)
theorem dX9_draws_140 : decode cX9_draws 140 = .ok (.getfield 52, 3) := dk_180 (c := cX9_draws) (pc := 140) (a := 0) (b := 52) (dk_at bnames03cX9_draws_96 44) rfl
theorem dX9_draws_143 : decode cX9_draws 143 = .ok (.iload 9, 2) := dk_21 (c := cX9_draws) (pc := 143) (a := 9) (dk_at bnames03cX9_draws_96 47) rfl
theorem bnames03cX9_draws_144 : ((dk_l cX9_draws).drop 144).take 52 = [9, 46, 42, 42, 180, 0, 55, 21, 9, 46, 4, 96, 182, 1, 81, 96, 79, 42, 180, 0, 104, 21, 5, 42, 180, 0, 49, 21, 9, 46, 42, 180, 0, 62, 21, 7, 4, 100, 46, 96, 79, 42, 180, 0, 98, 21, 5, 42, 21, 6, 21, 7] := by decide +kernel
theorem dX9_draws_145 : decode cX9_draws 145 = .ok (.iaload, 1) := dk_46 (c := cX9_draws) (pc := 145) (dk_at bnames03cX9_draws_144 1)
theorem dX9_draws_146 : decode cX9_draws 146 = .ok (.aload_n 0, 1) := dk_42 (c := cX9_draws) (pc := 146) (dk_at bnames03cX9_draws_144 2)
theorem dX9_draws_147 : decode cX9_draws 147 = .ok (.aload_n 0, 1) := dk_42 (c := cX9_draws) (pc := 147) (dk_at bnames03cX9_draws_144 3)
theorem dX9_draws_148 : decode cX9_draws 148 = .ok (.getfield 55, 3) := dk_180 (c := cX9_draws) (pc := 148) (a := 0) (b := 55) (dk_at bnames03cX9_draws_144 4) rfl
theorem dX9_draws_151 : decode cX9_draws 151 = .ok (.iload 9, 2) := dk_21 (c := cX9_draws) (pc := 151) (a := 9) (dk_at bnames03cX9_draws_144 7) rfl
theorem dX9_draws_153 : decode cX9_draws 153 = .ok (.iaload, 1) := dk_46 (c := cX9_draws) (pc := 153) (dk_at bnames03cX9_draws_144 9)
theorem dX9_draws_154 : decode cX9_draws 154 = .ok (.iconst 1, 1) := dk_4 (c := cX9_draws) (pc := 154) (dk_at bnames03cX9_draws_144 10)
theorem dX9_draws_155 : decode cX9_draws 155 = .ok (.iadd, 1) := dk_96 (c := cX9_draws) (pc := 155) (dk_at bnames03cX9_draws_144 11)
theorem dX9_draws_156 : decode cX9_draws 156 = .ok (.invokevirtual 337, 3) := dk_182 (c := cX9_draws) (pc := 156) (a := 1) (b := 81) (dk_at bnames03cX9_draws_144 12) rfl
theorem dX9_draws_159 : decode cX9_draws 159 = .ok (.iadd, 1) := dk_96 (c := cX9_draws) (pc := 159) (dk_at bnames03cX9_draws_144 15)
theorem dX9_draws_160 : decode cX9_draws 160 = .ok (.iastore, 1) := dk_79 (c := cX9_draws) (pc := 160) (dk_at bnames03cX9_draws_144 16)
theorem dX9_draws_161 : decode cX9_draws 161 = .ok (.aload_n 0, 1) := dk_42 (c := cX9_draws) (pc := 161) (dk_at bnames03cX9_draws_144 17)
theorem dX9_draws_162 : decode cX9_draws 162 = .ok (.getfield 104, 3) := dk_180 (c := cX9_draws) (pc := 162) (a := 0) (b := 104) (dk_at bnames03cX9_draws_144 18) rfl
theorem dX9_draws_165 : decode cX9_draws 165 = .ok (.iload 5, 2) := dk_21 (c := cX9_draws) (pc := 165) (a := 5) (dk_at bnames03cX9_draws_144 21) rfl
theorem dX9_draws_167 : decode cX9_draws 167 = .ok (.aload_n 0, 1) := dk_42 (c := cX9_draws) (pc := 167) (dk_at bnames03cX9_draws_144 23)
theorem dX9_draws_168 : decode cX9_draws 168 = .ok (.getfield 49, 3) := dk_180 (c := cX9_draws) (pc := 168) (a := 0) (b := 49) (dk_at bnames03cX9_draws_144 24) rfl
theorem dX9_draws_171 : decode cX9_draws 171 = .ok (.iload 9, 2) := dk_21 (c := cX9_draws) (pc := 171) (a := 9) (dk_at bnames03cX9_draws_144 27) rfl
theorem dX9_draws_173 : decode cX9_draws 173 = .ok (.iaload, 1) := dk_46 (c := cX9_draws) (pc := 173) (dk_at bnames03cX9_draws_144 29)
theorem dX9_draws_174 : decode cX9_draws 174 = .ok (.aload_n 0, 1) := dk_42 (c := cX9_draws) (pc := 174) (dk_at bnames03cX9_draws_144 30)
theorem dX9_draws_175 : decode cX9_draws 175 = .ok (.getfield 62, 3) := dk_180 (c := cX9_draws) (pc := 175) (a := 0) (b := 62) (dk_at bnames03cX9_draws_144 31) rfl
theorem dX9_draws_178 : decode cX9_draws 178 = .ok (.iload 7, 2) := dk_21 (c := cX9_draws) (pc := 178) (a := 7) (dk_at bnames03cX9_draws_144 34) rfl
theorem dX9_draws_180 : decode cX9_draws 180 = .ok (.iconst 1, 1) := dk_4 (c := cX9_draws) (pc := 180) (dk_at bnames03cX9_draws_144 36)
theorem dX9_draws_181 : decode cX9_draws 181 = .ok (.isub, 1) := dk_100 (c := cX9_draws) (pc := 181) (dk_at bnames03cX9_draws_144 37)
theorem dX9_draws_182 : decode cX9_draws 182 = .ok (.iaload, 1) := dk_46 (c := cX9_draws) (pc := 182) (dk_at bnames03cX9_draws_144 38)
theorem dX9_draws_183 : decode cX9_draws 183 = .ok (.iadd, 1) := dk_96 (c := cX9_draws) (pc := 183) (dk_at bnames03cX9_draws_144 39)
theorem dX9_draws_184 : decode cX9_draws 184 = .ok (.iastore, 1) := dk_79 (c := cX9_draws) (pc := 184) (dk_at bnames03cX9_draws_144 40)
theorem dX9_draws_185 : decode cX9_draws 185 = .ok (.aload_n 0, 1) := dk_42 (c := cX9_draws) (pc := 185) (dk_at bnames03cX9_draws_144 41)
theorem dX9_draws_186 : decode cX9_draws 186 = .ok (.getfield 98, 3) := dk_180 (c := cX9_draws) (pc := 186) (a := 0) (b := 98) (dk_at bnames03cX9_draws_144 42) rfl
theorem dX9_draws_189 : decode cX9_draws 189 = .ok (.iload 5, 2) := dk_21 (c := cX9_draws) (pc := 189) (a := 5) (dk_at bnames03cX9_draws_144 45) rfl
theorem dX9_draws_191 : decode cX9_draws 191 = .ok (.aload_n 0, 1) := dk_42 (c := cX9_draws) (pc := 191) (dk_at bnames03cX9_draws_144 47)
theorem bnames03cX9_draws_192 : ((dk_l cX9_draws).drop 192).take 52 = [21, 6, 21, 7, 42, 180, 0, 107, 21, 5, 46, 182, 1, 85, 79, 42, 180, 0, 101, 21, 5, 42, 42, 180, 0, 98, 21, 5, 46, 42, 180, 0, 104, 21, 5, 46, 21, 7, 21, 6, 182, 1, 63, 133, 42, 5, 42, 180, 0, 71, 3, 46] := by decide +kernel
theorem dX9_draws_192 : decode cX9_draws 192 = .ok (.iload 6, 2) := dk_21 (c := cX9_draws) (pc := 192) (a := 6) (dk_at bnames03cX9_draws_192 0) rfl
theorem dX9_draws_194 : decode cX9_draws 194 = .ok (.iload 7, 2) := dk_21 (c := cX9_draws) (pc := 194) (a := 7) (dk_at bnames03cX9_draws_192 2) rfl
theorem dX9_draws_196 : decode cX9_draws 196 = .ok (.aload_n 0, 1) := dk_42 (c := cX9_draws) (pc := 196) (dk_at bnames03cX9_draws_192 4)
theorem dX9_draws_197 : decode cX9_draws 197 = .ok (.getfield 107, 3) := dk_180 (c := cX9_draws) (pc := 197) (a := 0) (b := 107) (dk_at bnames03cX9_draws_192 5) rfl
theorem dX9_draws_200 : decode cX9_draws 200 = .ok (.iload 5, 2) := dk_21 (c := cX9_draws) (pc := 200) (a := 5) (dk_at bnames03cX9_draws_192 8) rfl
theorem dX9_draws_202 : decode cX9_draws 202 = .ok (.iaload, 1) := dk_46 (c := cX9_draws) (pc := 202) (dk_at bnames03cX9_draws_192 10)
theorem dX9_draws_203 : decode cX9_draws 203 = .ok (.invokevirtual 341, 3) := dk_182 (c := cX9_draws) (pc := 203) (a := 1) (b := 85) (dk_at bnames03cX9_draws_192 11) rfl
theorem dX9_draws_206 : decode cX9_draws 206 = .ok (.iastore, 1) := dk_79 (c := cX9_draws) (pc := 206) (dk_at bnames03cX9_draws_192 14)
theorem dX9_draws_207 : decode cX9_draws 207 = .ok (.aload_n 0, 1) := dk_42 (c := cX9_draws) (pc := 207) (dk_at bnames03cX9_draws_192 15)
theorem dX9_draws_208 : decode cX9_draws 208 = .ok (.getfield 101, 3) := dk_180 (c := cX9_draws) (pc := 208) (a := 0) (b := 101) (dk_at bnames03cX9_draws_192 16) rfl
theorem dX9_draws_211 : decode cX9_draws 211 = .ok (.iload 5, 2) := dk_21 (c := cX9_draws) (pc := 211) (a := 5) (dk_at bnames03cX9_draws_192 19) rfl
theorem dX9_draws_213 : decode cX9_draws 213 = .ok (.aload_n 0, 1) := dk_42 (c := cX9_draws) (pc := 213) (dk_at bnames03cX9_draws_192 21)
theorem dX9_draws_214 : decode cX9_draws 214 = .ok (.aload_n 0, 1) := dk_42 (c := cX9_draws) (pc := 214) (dk_at bnames03cX9_draws_192 22)
theorem dX9_draws_215 : decode cX9_draws 215 = .ok (.getfield 98, 3) := dk_180 (c := cX9_draws) (pc := 215) (a := 0) (b := 98) (dk_at bnames03cX9_draws_192 23) rfl
theorem dX9_draws_218 : decode cX9_draws 218 = .ok (.iload 5, 2) := dk_21 (c := cX9_draws) (pc := 218) (a := 5) (dk_at bnames03cX9_draws_192 26) rfl
theorem dX9_draws_220 : decode cX9_draws 220 = .ok (.iaload, 1) := dk_46 (c := cX9_draws) (pc := 220) (dk_at bnames03cX9_draws_192 28)
theorem dX9_draws_221 : decode cX9_draws 221 = .ok (.aload_n 0, 1) := dk_42 (c := cX9_draws) (pc := 221) (dk_at bnames03cX9_draws_192 29)
theorem dX9_draws_222 : decode cX9_draws 222 = .ok (.getfield 104, 3) := dk_180 (c := cX9_draws) (pc := 222) (a := 0) (b := 104) (dk_at bnames03cX9_draws_192 30) rfl
theorem dX9_draws_225 : decode cX9_draws 225 = .ok (.iload 5, 2) := dk_21 (c := cX9_draws) (pc := 225) (a := 5) (dk_at bnames03cX9_draws_192 33) rfl
theorem dX9_draws_227 : decode cX9_draws 227 = .ok (.iaload, 1) := dk_46 (c := cX9_draws) (pc := 227) (dk_at bnames03cX9_draws_192 35)
theorem dX9_draws_228 : decode cX9_draws 228 = .ok (.iload 7, 2) := dk_21 (c := cX9_draws) (pc := 228) (a := 7) (dk_at bnames03cX9_draws_192 36) rfl
theorem dX9_draws_230 : decode cX9_draws 230 = .ok (.iload 6, 2) := dk_21 (c := cX9_draws) (pc := 230) (a := 6) (dk_at bnames03cX9_draws_192 38) rfl
theorem dX9_draws_232 : decode cX9_draws 232 = .ok (.invokevirtual 319, 3) := dk_182 (c := cX9_draws) (pc := 232) (a := 1) (b := 63) (dk_at bnames03cX9_draws_192 40) rfl
theorem dX9_draws_235 : decode cX9_draws 235 = .ok (.i2l, 1) := dk_133 (c := cX9_draws) (pc := 235) (dk_at bnames03cX9_draws_192 43)
theorem dX9_draws_236 : decode cX9_draws 236 = .ok (.aload_n 0, 1) := dk_42 (c := cX9_draws) (pc := 236) (dk_at bnames03cX9_draws_192 44)
theorem dX9_draws_237 : decode cX9_draws 237 = .ok (.iconst 2, 1) := dk_5 (c := cX9_draws) (pc := 237) (dk_at bnames03cX9_draws_192 45)
theorem dX9_draws_238 : decode cX9_draws 238 = .ok (.aload_n 0, 1) := dk_42 (c := cX9_draws) (pc := 238) (dk_at bnames03cX9_draws_192 46)
theorem dX9_draws_239 : decode cX9_draws 239 = .ok (.getfield 71, 3) := dk_180 (c := cX9_draws) (pc := 239) (a := 0) (b := 71) (dk_at bnames03cX9_draws_192 47) rfl
theorem bnames03cX9_draws_240 : ((dk_l cX9_draws).drop 240).take 38 = [0, 71, 3, 46, 104, 4, 96, 182, 1, 81, 133, 97, 42, 180, 0, 71, 3, 46, 133, 101, 184, 1, 53, 79, 132, 5, 1, 167, 255, 32, 42, 180, 0, 89, 3, 29, 79, 177] := by decide +kernel
theorem dX9_draws_242 : decode cX9_draws 242 = .ok (.iconst 0, 1) := dk_3 (c := cX9_draws) (pc := 242) (dk_at bnames03cX9_draws_240 2)
theorem dX9_draws_243 : decode cX9_draws 243 = .ok (.iaload, 1) := dk_46 (c := cX9_draws) (pc := 243) (dk_at bnames03cX9_draws_240 3)
theorem dX9_draws_244 : decode cX9_draws 244 = .ok (.imul, 1) := dk_104 (c := cX9_draws) (pc := 244) (dk_at bnames03cX9_draws_240 4)
theorem dX9_draws_245 : decode cX9_draws 245 = .ok (.iconst 1, 1) := dk_4 (c := cX9_draws) (pc := 245) (dk_at bnames03cX9_draws_240 5)
theorem dX9_draws_246 : decode cX9_draws 246 = .ok (.iadd, 1) := dk_96 (c := cX9_draws) (pc := 246) (dk_at bnames03cX9_draws_240 6)
theorem dX9_draws_247 : decode cX9_draws 247 = .ok (.invokevirtual 337, 3) := dk_182 (c := cX9_draws) (pc := 247) (a := 1) (b := 81) (dk_at bnames03cX9_draws_240 7) rfl
theorem dX9_draws_250 : decode cX9_draws 250 = .ok (.i2l, 1) := dk_133 (c := cX9_draws) (pc := 250) (dk_at bnames03cX9_draws_240 10)
theorem dX9_draws_251 : decode cX9_draws 251 = .ok (.ladd, 1) := dk_97 (c := cX9_draws) (pc := 251) (dk_at bnames03cX9_draws_240 11)
theorem dX9_draws_252 : decode cX9_draws 252 = .ok (.aload_n 0, 1) := dk_42 (c := cX9_draws) (pc := 252) (dk_at bnames03cX9_draws_240 12)
theorem dX9_draws_253 : decode cX9_draws 253 = .ok (.getfield 71, 3) := dk_180 (c := cX9_draws) (pc := 253) (a := 0) (b := 71) (dk_at bnames03cX9_draws_240 13) rfl
theorem dX9_draws_256 : decode cX9_draws 256 = .ok (.iconst 0, 1) := dk_3 (c := cX9_draws) (pc := 256) (dk_at bnames03cX9_draws_240 16)
theorem dX9_draws_257 : decode cX9_draws 257 = .ok (.iaload, 1) := dk_46 (c := cX9_draws) (pc := 257) (dk_at bnames03cX9_draws_240 17)
theorem dX9_draws_258 : decode cX9_draws 258 = .ok (.i2l, 1) := dk_133 (c := cX9_draws) (pc := 258) (dk_at bnames03cX9_draws_240 18)
theorem dX9_draws_259 : decode cX9_draws 259 = .ok (.lsub, 1) := dk_101 (c := cX9_draws) (pc := 259) (dk_at bnames03cX9_draws_240 19)
theorem dX9_draws_260 : decode cX9_draws 260 = .ok (.invokestatic 309, 3) := dk_184 (c := cX9_draws) (pc := 260) (a := 1) (b := 53) (dk_at bnames03cX9_draws_240 20) rfl
theorem dX9_draws_263 : decode cX9_draws 263 = .ok (.iastore, 1) := dk_79 (c := cX9_draws) (pc := 263) (dk_at bnames03cX9_draws_240 23)
theorem dX9_draws_264 : decode cX9_draws 264 = .ok (.iinc 5 1, 3) := dk_132 (c := cX9_draws) (pc := 264) (a := 5) (b := 1) (dk_at bnames03cX9_draws_240 24) rfl (by decide)
theorem dX9_draws_267 : decode cX9_draws 267 = .ok (.goto (-224), 3) := dk_167 (c := cX9_draws) (pc := 267) (a := 255) (b := 32) (dk_at bnames03cX9_draws_240 27) (by decide)
theorem dX9_draws_270 : decode cX9_draws 270 = .ok (.aload_n 0, 1) := dk_42 (c := cX9_draws) (pc := 270) (dk_at bnames03cX9_draws_240 30)
theorem dX9_draws_271 : decode cX9_draws 271 = .ok (.getfield 89, 3) := dk_180 (c := cX9_draws) (pc := 271) (a := 0) (b := 89) (dk_at bnames03cX9_draws_240 31) rfl
theorem dX9_draws_274 : decode cX9_draws 274 = .ok (.iconst 0, 1) := dk_3 (c := cX9_draws) (pc := 274) (dk_at bnames03cX9_draws_240 34)
theorem dX9_draws_275 : decode cX9_draws 275 = .ok (.iload_n 3, 1) := dk_29 (c := cX9_draws) (pc := 275) (dk_at bnames03cX9_draws_240 35)
theorem dX9_draws_276 : decode cX9_draws 276 = .ok (.iastore, 1) := dk_79 (c := cX9_draws) (pc := 276) (dk_at bnames03cX9_draws_240 36)
theorem dX9_draws_277 : decode cX9_draws 277 = .ok (.return_, 1) := dk_177 (c := cX9_draws) (pc := 277) (dk_at bnames03cX9_draws_240 37)
set_option maxRecDepth 20000 in
theorem ggX9_isSeed_X9_in : GoodIn wsX9_isSeed wsX9_in := goodIn_r _ [5] rfl (by decide +kernel)
set_option maxRecDepth 20000 in
theorem gX9_isSeed_X9_in : GoodIn wsX9_isSeed (va_wsS RX9 130 yX9_in wsX9_in) := goodIn_app (goodIn_r _ [2, 3, 4] rfl (by decide +kernel)) ggX9_isSeed_X9_in
theorem bnames03cX9_isSeed_0 : ((dk_l cX9_isSeed).drop 0).take 10 = [26, 133, 9, 20, 1, 89, 184, 0, 130, 172] := by decide +kernel
theorem dX9_isSeed_0 : decode cX9_isSeed 0 = .ok (.iload_n 0, 1) := dk_26 (c := cX9_isSeed) (pc := 0) (dk_at bnames03cX9_isSeed_0 0)
theorem dX9_isSeed_1 : decode cX9_isSeed 1 = .ok (.i2l, 1) := dk_133 (c := cX9_isSeed) (pc := 1) (dk_at bnames03cX9_isSeed_0 1)
theorem dX9_isSeed_2 : decode cX9_isSeed 2 = .ok (.lconst 0, 1) := dk_9 (c := cX9_isSeed) (pc := 2) (dk_at bnames03cX9_isSeed_0 2)
theorem dX9_isSeed_3 : decode cX9_isSeed 3 = .ok (.ldc2_w 345, 3) := dk_20 (c := cX9_isSeed) (pc := 3) (a := 1) (b := 89) (dk_at bnames03cX9_isSeed_0 3) rfl
theorem dX9_isSeed_6 : decode cX9_isSeed 6 = .ok (.invokestatic 130, 3) := dk_184 (c := cX9_isSeed) (pc := 6) (a := 0) (b := 130) (dk_at bnames03cX9_isSeed_0 6) rfl
theorem dX9_isSeed_9 : decode cX9_isSeed 9 = .ok (.ireturn, 1) := dk_172 (c := cX9_isSeed) (pc := 9) (dk_at bnames03cX9_isSeed_0 9)
set_option maxRecDepth 20000 in
theorem ggX9_draw_X9_isSeed : GoodIn wsX9_draw wsX9_isSeed := goodIn_r _ [8, 9, 10, 11, 7, 12] rfl (by decide +kernel)
set_option maxRecDepth 20000 in
theorem gX9_draw_X9_isSeed : GoodIn wsX9_draw (va_wsS RX9 347 yX9_isSeed wsX9_isSeed) := goodIn_app (goodIn_r _ [5, 6, 7] rfl (by decide +kernel)) ggX9_draw_X9_isSeed
set_option maxRecDepth 20000 in
theorem ggX9_draw_X9_in : GoodIn wsX9_draw wsX9_in := goodIn_r _ [12] rfl (by decide +kernel)
set_option maxRecDepth 20000 in
theorem gX9_draw_X9_in : GoodIn wsX9_draw (va_wsS RX9 130 yX9_in wsX9_in) := goodIn_app (goodIn_r _ [10, 11, 7] rfl (by decide +kernel)) ggX9_draw_X9_in
set_option maxRecDepth 20000 in
theorem ggX9_draw_X9_draws : GoodIn wsX9_draw wsX9_draws := goodIn_r _ [16, 17, 4, 18, 3, 19, 20, 21, 22, 23, 24, 25, 26, 27, 28, 29, 30, 31, 32, 33, 7, 34, 35, 36, 37, 38, 39, 40, 41, 42, 43, 44, 45, 46, 47, 48, 49, 50, 51, 52, 53, 54, 55, 56, 57, 58, 59, 60, 61, 62, 63, 64, 65, 66, 67, 68, 69, 70, 71, 72, 73, 74, 75, 76, 77, 78, 79, 80, 81, 82, 83, 84, 85, 86, 87, 88, 89, 90, 91, 92, 93, 94, 95, 96, 97, 98, 99, 100, 101, 102, 103, 104, 105, 106, 107, 108, 109, 110, 111, 112, 113, 114, 115, 116, 117, 118, 119, 120, 121, 122, 123, 124, 125, 126] rfl (by decide +kernel)
set_option maxRecDepth 20000 in
theorem gX9_draw_X9_draws : GoodIn wsX9_draw (wsV RX9 352 RX9 yX9_draws wsX9_draws) := goodIn_app (goodIn_r _ [13, 14, 15, 7] rfl (by decide +kernel)) ggX9_draw_X9_draws
theorem bnames03cX9_draw_0 : ((dk_l cX9_draw).drop 0).take 52 = [42, 3, 181, 0, 125, 27, 184, 1, 91, 153, 0, 15, 28, 133, 10, 20, 1, 94, 184, 0, 130, 154, 0, 6, 16, 254, 172, 42, 180, 0, 34, 3, 46, 153, 0, 12, 42, 180, 0, 43, 3, 46, 154, 0, 6, 16, 250, 172, 42, 27, 133, 28] := by decide +kernel
theorem dX9_draw_0 : decode cX9_draw 0 = .ok (.aload_n 0, 1) := dk_42 (c := cX9_draw) (pc := 0) (dk_at bnames03cX9_draw_0 0)
theorem dX9_draw_1 : decode cX9_draw 1 = .ok (.iconst 0, 1) := dk_3 (c := cX9_draw) (pc := 1) (dk_at bnames03cX9_draw_0 1)
theorem dX9_draw_2 : decode cX9_draw 2 = .ok (.putfield 125, 3) := dk_181 (c := cX9_draw) (pc := 2) (a := 0) (b := 125) (dk_at bnames03cX9_draw_0 2) rfl
theorem dX9_draw_5 : decode cX9_draw 5 = .ok (.iload_n 1, 1) := dk_27 (c := cX9_draw) (pc := 5) (dk_at bnames03cX9_draw_0 5)
theorem dX9_draw_6 : decode cX9_draw 6 = .ok (.invokestatic 347, 3) := dk_184 (c := cX9_draw) (pc := 6) (a := 1) (b := 91) (dk_at bnames03cX9_draw_0 6) rfl
theorem dX9_draw_9 : decode cX9_draw 9 = .ok (.ifCond .eq 15, 3) := dk_153 (c := cX9_draw) (pc := 9) (a := 0) (b := 15) (dk_at bnames03cX9_draw_0 9) (by decide)
theorem dX9_draw_12 : decode cX9_draw 12 = .ok (.iload_n 2, 1) := dk_28 (c := cX9_draw) (pc := 12) (dk_at bnames03cX9_draw_0 12)
theorem dX9_draw_13 : decode cX9_draw 13 = .ok (.i2l, 1) := dk_133 (c := cX9_draw) (pc := 13) (dk_at bnames03cX9_draw_0 13)
theorem dX9_draw_14 : decode cX9_draw 14 = .ok (.lconst 1, 1) := dk_10 (c := cX9_draw) (pc := 14) (dk_at bnames03cX9_draw_0 14)
theorem dX9_draw_15 : decode cX9_draw 15 = .ok (.ldc2_w 350, 3) := dk_20 (c := cX9_draw) (pc := 15) (a := 1) (b := 94) (dk_at bnames03cX9_draw_0 15) rfl
theorem dX9_draw_18 : decode cX9_draw 18 = .ok (.invokestatic 130, 3) := dk_184 (c := cX9_draw) (pc := 18) (a := 0) (b := 130) (dk_at bnames03cX9_draw_0 18) rfl
theorem dX9_draw_21 : decode cX9_draw 21 = .ok (.ifCond .ne 6, 3) := dk_154 (c := cX9_draw) (pc := 21) (a := 0) (b := 6) (dk_at bnames03cX9_draw_0 21) (by decide)
theorem dX9_draw_24 : decode cX9_draw 24 = .ok (.bipush (-2), 2) := dk_16 (c := cX9_draw) (pc := 24) (a := 254) (dk_at bnames03cX9_draw_0 24) (by decide)
theorem dX9_draw_26 : decode cX9_draw 26 = .ok (.ireturn, 1) := dk_172 (c := cX9_draw) (pc := 26) (dk_at bnames03cX9_draw_0 26)
theorem dX9_draw_27 : decode cX9_draw 27 = .ok (.aload_n 0, 1) := dk_42 (c := cX9_draw) (pc := 27) (dk_at bnames03cX9_draw_0 27)
theorem dX9_draw_28 : decode cX9_draw 28 = .ok (.getfield 34, 3) := dk_180 (c := cX9_draw) (pc := 28) (a := 0) (b := 34) (dk_at bnames03cX9_draw_0 28) rfl
theorem dX9_draw_31 : decode cX9_draw 31 = .ok (.iconst 0, 1) := dk_3 (c := cX9_draw) (pc := 31) (dk_at bnames03cX9_draw_0 31)
theorem dX9_draw_32 : decode cX9_draw 32 = .ok (.iaload, 1) := dk_46 (c := cX9_draw) (pc := 32) (dk_at bnames03cX9_draw_0 32)
theorem dX9_draw_33 : decode cX9_draw 33 = .ok (.ifCond .eq 12, 3) := dk_153 (c := cX9_draw) (pc := 33) (a := 0) (b := 12) (dk_at bnames03cX9_draw_0 33) (by decide)
theorem dX9_draw_36 : decode cX9_draw 36 = .ok (.aload_n 0, 1) := dk_42 (c := cX9_draw) (pc := 36) (dk_at bnames03cX9_draw_0 36)
theorem dX9_draw_37 : decode cX9_draw 37 = .ok (.getfield 43, 3) := dk_180 (c := cX9_draw) (pc := 37) (a := 0) (b := 43) (dk_at bnames03cX9_draw_0 37) rfl
theorem dX9_draw_40 : decode cX9_draw 40 = .ok (.iconst 0, 1) := dk_3 (c := cX9_draw) (pc := 40) (dk_at bnames03cX9_draw_0 40)
theorem dX9_draw_41 : decode cX9_draw 41 = .ok (.iaload, 1) := dk_46 (c := cX9_draw) (pc := 41) (dk_at bnames03cX9_draw_0 41)
theorem dX9_draw_42 : decode cX9_draw 42 = .ok (.ifCond .ne 6, 3) := dk_154 (c := cX9_draw) (pc := 42) (a := 0) (b := 6) (dk_at bnames03cX9_draw_0 42) (by decide)
theorem dX9_draw_45 : decode cX9_draw 45 = .ok (.bipush (-6), 2) := dk_16 (c := cX9_draw) (pc := 45) (a := 250) (dk_at bnames03cX9_draw_0 45) (by decide)
theorem dX9_draw_47 : decode cX9_draw 47 = .ok (.ireturn, 1) := dk_172 (c := cX9_draw) (pc := 47) (dk_at bnames03cX9_draw_0 47)
theorem bnames03cX9_draw_48 : ((dk_l cX9_draw).drop 48).take 9 = [42, 27, 133, 28, 182, 1, 96, 28, 172] := by decide +kernel
theorem dX9_draw_48 : decode cX9_draw 48 = .ok (.aload_n 0, 1) := dk_42 (c := cX9_draw) (pc := 48) (dk_at bnames03cX9_draw_48 0)
theorem dX9_draw_49 : decode cX9_draw 49 = .ok (.iload_n 1, 1) := dk_27 (c := cX9_draw) (pc := 49) (dk_at bnames03cX9_draw_48 1)
theorem dX9_draw_50 : decode cX9_draw 50 = .ok (.i2l, 1) := dk_133 (c := cX9_draw) (pc := 50) (dk_at bnames03cX9_draw_48 2)
theorem dX9_draw_51 : decode cX9_draw 51 = .ok (.iload_n 2, 1) := dk_28 (c := cX9_draw) (pc := 51) (dk_at bnames03cX9_draw_48 3)
theorem dX9_draw_52 : decode cX9_draw 52 = .ok (.invokevirtual 352, 3) := dk_182 (c := cX9_draw) (pc := 52) (a := 1) (b := 96) (dk_at bnames03cX9_draw_48 4) rfl
theorem dX9_draw_55 : decode cX9_draw 55 = .ok (.iload_n 2, 1) := dk_28 (c := cX9_draw) (pc := 55) (dk_at bnames03cX9_draw_48 7)
theorem dX9_draw_56 : decode cX9_draw 56 = .ok (.ireturn, 1) := dk_172 (c := cX9_draw) (pc := 56) (dk_at bnames03cX9_draw_48 8)
set_option maxRecDepth 20000 in
theorem ggX9_tells_X9_in : GoodIn wsX9_tells wsX9_in := goodIn_r _ [15] rfl (by decide +kernel)
set_option maxRecDepth 20000 in
theorem gX9_tells_X9_in : GoodIn wsX9_tells (va_wsS RX9 130 yX9_in wsX9_in) := goodIn_app (goodIn_r _ [12, 13, 14] rfl (by decide +kernel)) ggX9_tells_X9_in
theorem bnames03cX9_tells_0 : ((dk_l cX9_tells).drop 0).take 52 = [31, 9, 42, 180, 0, 34, 3, 46, 4, 100, 133, 184, 0, 130, 153, 0, 38, 33, 10, 20, 0, 222, 184, 0, 130, 153, 0, 27, 22, 5, 9, 20, 1, 59, 184, 0, 130, 153, 0, 15, 22, 7, 9, 20, 1, 57, 184, 0, 130, 154, 0, 6] := by decide +kernel
theorem dX9_tells_0 : decode cX9_tells 0 = .ok (.lload_n 1, 1) := dk_31 (c := cX9_tells) (pc := 0) (dk_at bnames03cX9_tells_0 0)
theorem dX9_tells_1 : decode cX9_tells 1 = .ok (.lconst 0, 1) := dk_9 (c := cX9_tells) (pc := 1) (dk_at bnames03cX9_tells_0 1)
theorem dX9_tells_2 : decode cX9_tells 2 = .ok (.aload_n 0, 1) := dk_42 (c := cX9_tells) (pc := 2) (dk_at bnames03cX9_tells_0 2)
theorem dX9_tells_3 : decode cX9_tells 3 = .ok (.getfield 34, 3) := dk_180 (c := cX9_tells) (pc := 3) (a := 0) (b := 34) (dk_at bnames03cX9_tells_0 3) rfl
theorem dX9_tells_6 : decode cX9_tells 6 = .ok (.iconst 0, 1) := dk_3 (c := cX9_tells) (pc := 6) (dk_at bnames03cX9_tells_0 6)
theorem dX9_tells_7 : decode cX9_tells 7 = .ok (.iaload, 1) := dk_46 (c := cX9_tells) (pc := 7) (dk_at bnames03cX9_tells_0 7)
theorem dX9_tells_8 : decode cX9_tells 8 = .ok (.iconst 1, 1) := dk_4 (c := cX9_tells) (pc := 8) (dk_at bnames03cX9_tells_0 8)
theorem dX9_tells_9 : decode cX9_tells 9 = .ok (.isub, 1) := dk_100 (c := cX9_tells) (pc := 9) (dk_at bnames03cX9_tells_0 9)
theorem dX9_tells_10 : decode cX9_tells 10 = .ok (.i2l, 1) := dk_133 (c := cX9_tells) (pc := 10) (dk_at bnames03cX9_tells_0 10)
theorem dX9_tells_11 : decode cX9_tells 11 = .ok (.invokestatic 130, 3) := dk_184 (c := cX9_tells) (pc := 11) (a := 0) (b := 130) (dk_at bnames03cX9_tells_0 11) rfl
theorem dX9_tells_14 : decode cX9_tells 14 = .ok (.ifCond .eq 38, 3) := dk_153 (c := cX9_tells) (pc := 14) (a := 0) (b := 38) (dk_at bnames03cX9_tells_0 14) (by decide)
theorem dX9_tells_17 : decode cX9_tells 17 = .ok (.lload_n 3, 1) := dk_33 (c := cX9_tells) (pc := 17) (dk_at bnames03cX9_tells_0 17)
theorem dX9_tells_18 : decode cX9_tells 18 = .ok (.lconst 1, 1) := dk_10 (c := cX9_tells) (pc := 18) (dk_at bnames03cX9_tells_0 18)
theorem dX9_tells_19 : decode cX9_tells 19 = .ok (.ldc2_w 222, 3) := dk_20 (c := cX9_tells) (pc := 19) (a := 0) (b := 222) (dk_at bnames03cX9_tells_0 19) rfl
theorem dX9_tells_22 : decode cX9_tells 22 = .ok (.invokestatic 130, 3) := dk_184 (c := cX9_tells) (pc := 22) (a := 0) (b := 130) (dk_at bnames03cX9_tells_0 22) rfl
theorem dX9_tells_25 : decode cX9_tells 25 = .ok (.ifCond .eq 27, 3) := dk_153 (c := cX9_tells) (pc := 25) (a := 0) (b := 27) (dk_at bnames03cX9_tells_0 25) (by decide)
theorem dX9_tells_28 : decode cX9_tells 28 = .ok (.lload 5, 2) := dk_22 (c := cX9_tells) (pc := 28) (a := 5) (dk_at bnames03cX9_tells_0 28) rfl
theorem dX9_tells_30 : decode cX9_tells 30 = .ok (.lconst 0, 1) := dk_9 (c := cX9_tells) (pc := 30) (dk_at bnames03cX9_tells_0 30)
theorem dX9_tells_31 : decode cX9_tells 31 = .ok (.ldc2_w 315, 3) := dk_20 (c := cX9_tells) (pc := 31) (a := 1) (b := 59) (dk_at bnames03cX9_tells_0 31) rfl
theorem dX9_tells_34 : decode cX9_tells 34 = .ok (.invokestatic 130, 3) := dk_184 (c := cX9_tells) (pc := 34) (a := 0) (b := 130) (dk_at bnames03cX9_tells_0 34) rfl
theorem dX9_tells_37 : decode cX9_tells 37 = .ok (.ifCond .eq 15, 3) := dk_153 (c := cX9_tells) (pc := 37) (a := 0) (b := 15) (dk_at bnames03cX9_tells_0 37) (by decide)
theorem dX9_tells_40 : decode cX9_tells 40 = .ok (.lload 7, 2) := dk_22 (c := cX9_tells) (pc := 40) (a := 7) (dk_at bnames03cX9_tells_0 40) rfl
theorem dX9_tells_42 : decode cX9_tells 42 = .ok (.lconst 0, 1) := dk_9 (c := cX9_tells) (pc := 42) (dk_at bnames03cX9_tells_0 42)
theorem dX9_tells_43 : decode cX9_tells 43 = .ok (.ldc2_w 313, 3) := dk_20 (c := cX9_tells) (pc := 43) (a := 1) (b := 57) (dk_at bnames03cX9_tells_0 43) rfl
theorem dX9_tells_46 : decode cX9_tells 46 = .ok (.invokestatic 130, 3) := dk_184 (c := cX9_tells) (pc := 46) (a := 0) (b := 130) (dk_at bnames03cX9_tells_0 46) rfl
theorem bnames03cX9_tells_48 : ((dk_l cX9_tells).drop 48).take 52 = [130, 154, 0, 6, 16, 254, 172, 42, 180, 0, 89, 3, 46, 17, 0, 200, 160, 0, 6, 16, 253, 172, 42, 180, 0, 89, 3, 46, 54, 9, 42, 180, 0, 92, 21, 9, 31, 136, 79, 42, 180, 0, 95, 21, 9, 33, 136, 79, 42, 180, 0, 98] := by decide +kernel
theorem dX9_tells_49 : decode cX9_tells 49 = .ok (.ifCond .ne 6, 3) := dk_154 (c := cX9_tells) (pc := 49) (a := 0) (b := 6) (dk_at bnames03cX9_tells_48 1) (by decide)
theorem dX9_tells_52 : decode cX9_tells 52 = .ok (.bipush (-2), 2) := dk_16 (c := cX9_tells) (pc := 52) (a := 254) (dk_at bnames03cX9_tells_48 4) (by decide)
theorem dX9_tells_54 : decode cX9_tells 54 = .ok (.ireturn, 1) := dk_172 (c := cX9_tells) (pc := 54) (dk_at bnames03cX9_tells_48 6)
theorem dX9_tells_55 : decode cX9_tells 55 = .ok (.aload_n 0, 1) := dk_42 (c := cX9_tells) (pc := 55) (dk_at bnames03cX9_tells_48 7)
theorem dX9_tells_56 : decode cX9_tells 56 = .ok (.getfield 89, 3) := dk_180 (c := cX9_tells) (pc := 56) (a := 0) (b := 89) (dk_at bnames03cX9_tells_48 8) rfl
theorem dX9_tells_59 : decode cX9_tells 59 = .ok (.iconst 0, 1) := dk_3 (c := cX9_tells) (pc := 59) (dk_at bnames03cX9_tells_48 11)
theorem dX9_tells_60 : decode cX9_tells 60 = .ok (.iaload, 1) := dk_46 (c := cX9_tells) (pc := 60) (dk_at bnames03cX9_tells_48 12)
theorem dX9_tells_61 : decode cX9_tells 61 = .ok (.sipush 200, 3) := dk_17 (c := cX9_tells) (pc := 61) (a := 0) (b := 200) (dk_at bnames03cX9_tells_48 13) (by decide)
theorem dX9_tells_64 : decode cX9_tells 64 = .ok (.if_icmp .ne 6, 3) := dk_160 (c := cX9_tells) (pc := 64) (a := 0) (b := 6) (dk_at bnames03cX9_tells_48 16) (by decide)
theorem dX9_tells_67 : decode cX9_tells 67 = .ok (.bipush (-3), 2) := dk_16 (c := cX9_tells) (pc := 67) (a := 253) (dk_at bnames03cX9_tells_48 19) (by decide)
theorem dX9_tells_69 : decode cX9_tells 69 = .ok (.ireturn, 1) := dk_172 (c := cX9_tells) (pc := 69) (dk_at bnames03cX9_tells_48 21)
theorem dX9_tells_70 : decode cX9_tells 70 = .ok (.aload_n 0, 1) := dk_42 (c := cX9_tells) (pc := 70) (dk_at bnames03cX9_tells_48 22)
theorem dX9_tells_71 : decode cX9_tells 71 = .ok (.getfield 89, 3) := dk_180 (c := cX9_tells) (pc := 71) (a := 0) (b := 89) (dk_at bnames03cX9_tells_48 23) rfl
theorem dX9_tells_74 : decode cX9_tells 74 = .ok (.iconst 0, 1) := dk_3 (c := cX9_tells) (pc := 74) (dk_at bnames03cX9_tells_48 26)
theorem dX9_tells_75 : decode cX9_tells 75 = .ok (.iaload, 1) := dk_46 (c := cX9_tells) (pc := 75) (dk_at bnames03cX9_tells_48 27)
theorem dX9_tells_76 : decode cX9_tells 76 = .ok (.istore 9, 2) := dk_54 (c := cX9_tells) (pc := 76) (a := 9) (dk_at bnames03cX9_tells_48 28) rfl
theorem dX9_tells_78 : decode cX9_tells 78 = .ok (.aload_n 0, 1) := dk_42 (c := cX9_tells) (pc := 78) (dk_at bnames03cX9_tells_48 30)
theorem dX9_tells_79 : decode cX9_tells 79 = .ok (.getfield 92, 3) := dk_180 (c := cX9_tells) (pc := 79) (a := 0) (b := 92) (dk_at bnames03cX9_tells_48 31) rfl
theorem dX9_tells_82 : decode cX9_tells 82 = .ok (.iload 9, 2) := dk_21 (c := cX9_tells) (pc := 82) (a := 9) (dk_at bnames03cX9_tells_48 34) rfl
theorem dX9_tells_84 : decode cX9_tells 84 = .ok (.lload_n 1, 1) := dk_31 (c := cX9_tells) (pc := 84) (dk_at bnames03cX9_tells_48 36)
theorem dX9_tells_85 : decode cX9_tells 85 = .ok (.l2i, 1) := dk_136 (c := cX9_tells) (pc := 85) (dk_at bnames03cX9_tells_48 37)
theorem dX9_tells_86 : decode cX9_tells 86 = .ok (.iastore, 1) := dk_79 (c := cX9_tells) (pc := 86) (dk_at bnames03cX9_tells_48 38)
theorem dX9_tells_87 : decode cX9_tells 87 = .ok (.aload_n 0, 1) := dk_42 (c := cX9_tells) (pc := 87) (dk_at bnames03cX9_tells_48 39)
theorem dX9_tells_88 : decode cX9_tells 88 = .ok (.getfield 95, 3) := dk_180 (c := cX9_tells) (pc := 88) (a := 0) (b := 95) (dk_at bnames03cX9_tells_48 40) rfl
theorem dX9_tells_91 : decode cX9_tells 91 = .ok (.iload 9, 2) := dk_21 (c := cX9_tells) (pc := 91) (a := 9) (dk_at bnames03cX9_tells_48 43) rfl
theorem dX9_tells_93 : decode cX9_tells 93 = .ok (.lload_n 3, 1) := dk_33 (c := cX9_tells) (pc := 93) (dk_at bnames03cX9_tells_48 45)
theorem dX9_tells_94 : decode cX9_tells 94 = .ok (.l2i, 1) := dk_136 (c := cX9_tells) (pc := 94) (dk_at bnames03cX9_tells_48 46)
theorem dX9_tells_95 : decode cX9_tells 95 = .ok (.iastore, 1) := dk_79 (c := cX9_tells) (pc := 95) (dk_at bnames03cX9_tells_48 47)
theorem bnames03cX9_tells_96 : ((dk_l cX9_tells).drop 96).take 51 = [42, 180, 0, 98, 21, 9, 22, 5, 136, 79, 42, 180, 0, 101, 21, 9, 22, 7, 136, 79, 42, 180, 0, 104, 21, 9, 3, 79, 42, 180, 0, 107, 21, 9, 22, 5, 136, 79, 42, 180, 0, 89, 3, 92, 46, 4, 96, 79, 21, 9, 172] := by decide +kernel
theorem dX9_tells_96 : decode cX9_tells 96 = .ok (.aload_n 0, 1) := dk_42 (c := cX9_tells) (pc := 96) (dk_at bnames03cX9_tells_96 0)
theorem dX9_tells_97 : decode cX9_tells 97 = .ok (.getfield 98, 3) := dk_180 (c := cX9_tells) (pc := 97) (a := 0) (b := 98) (dk_at bnames03cX9_tells_96 1) rfl
theorem dX9_tells_100 : decode cX9_tells 100 = .ok (.iload 9, 2) := dk_21 (c := cX9_tells) (pc := 100) (a := 9) (dk_at bnames03cX9_tells_96 4) rfl
theorem dX9_tells_102 : decode cX9_tells 102 = .ok (.lload 5, 2) := dk_22 (c := cX9_tells) (pc := 102) (a := 5) (dk_at bnames03cX9_tells_96 6) rfl
theorem dX9_tells_104 : decode cX9_tells 104 = .ok (.l2i, 1) := dk_136 (c := cX9_tells) (pc := 104) (dk_at bnames03cX9_tells_96 8)
theorem dX9_tells_105 : decode cX9_tells 105 = .ok (.iastore, 1) := dk_79 (c := cX9_tells) (pc := 105) (dk_at bnames03cX9_tells_96 9)
theorem dX9_tells_106 : decode cX9_tells 106 = .ok (.aload_n 0, 1) := dk_42 (c := cX9_tells) (pc := 106) (dk_at bnames03cX9_tells_96 10)
theorem dX9_tells_107 : decode cX9_tells 107 = .ok (.getfield 101, 3) := dk_180 (c := cX9_tells) (pc := 107) (a := 0) (b := 101) (dk_at bnames03cX9_tells_96 11) rfl
theorem dX9_tells_110 : decode cX9_tells 110 = .ok (.iload 9, 2) := dk_21 (c := cX9_tells) (pc := 110) (a := 9) (dk_at bnames03cX9_tells_96 14) rfl
theorem dX9_tells_112 : decode cX9_tells 112 = .ok (.lload 7, 2) := dk_22 (c := cX9_tells) (pc := 112) (a := 7) (dk_at bnames03cX9_tells_96 16) rfl
theorem dX9_tells_114 : decode cX9_tells 114 = .ok (.l2i, 1) := dk_136 (c := cX9_tells) (pc := 114) (dk_at bnames03cX9_tells_96 18)
theorem dX9_tells_115 : decode cX9_tells 115 = .ok (.iastore, 1) := dk_79 (c := cX9_tells) (pc := 115) (dk_at bnames03cX9_tells_96 19)
theorem dX9_tells_116 : decode cX9_tells 116 = .ok (.aload_n 0, 1) := dk_42 (c := cX9_tells) (pc := 116) (dk_at bnames03cX9_tells_96 20)
theorem dX9_tells_117 : decode cX9_tells 117 = .ok (.getfield 104, 3) := dk_180 (c := cX9_tells) (pc := 117) (a := 0) (b := 104) (dk_at bnames03cX9_tells_96 21) rfl
theorem dX9_tells_120 : decode cX9_tells 120 = .ok (.iload 9, 2) := dk_21 (c := cX9_tells) (pc := 120) (a := 9) (dk_at bnames03cX9_tells_96 24) rfl
theorem dX9_tells_122 : decode cX9_tells 122 = .ok (.iconst 0, 1) := dk_3 (c := cX9_tells) (pc := 122) (dk_at bnames03cX9_tells_96 26)
theorem dX9_tells_123 : decode cX9_tells 123 = .ok (.iastore, 1) := dk_79 (c := cX9_tells) (pc := 123) (dk_at bnames03cX9_tells_96 27)
theorem dX9_tells_124 : decode cX9_tells 124 = .ok (.aload_n 0, 1) := dk_42 (c := cX9_tells) (pc := 124) (dk_at bnames03cX9_tells_96 28)
theorem dX9_tells_125 : decode cX9_tells 125 = .ok (.getfield 107, 3) := dk_180 (c := cX9_tells) (pc := 125) (a := 0) (b := 107) (dk_at bnames03cX9_tells_96 29) rfl
theorem dX9_tells_128 : decode cX9_tells 128 = .ok (.iload 9, 2) := dk_21 (c := cX9_tells) (pc := 128) (a := 9) (dk_at bnames03cX9_tells_96 32) rfl
theorem dX9_tells_130 : decode cX9_tells 130 = .ok (.lload 5, 2) := dk_22 (c := cX9_tells) (pc := 130) (a := 5) (dk_at bnames03cX9_tells_96 34) rfl
theorem dX9_tells_132 : decode cX9_tells 132 = .ok (.l2i, 1) := dk_136 (c := cX9_tells) (pc := 132) (dk_at bnames03cX9_tells_96 36)
theorem dX9_tells_133 : decode cX9_tells 133 = .ok (.iastore, 1) := dk_79 (c := cX9_tells) (pc := 133) (dk_at bnames03cX9_tells_96 37)
theorem dX9_tells_134 : decode cX9_tells 134 = .ok (.aload_n 0, 1) := dk_42 (c := cX9_tells) (pc := 134) (dk_at bnames03cX9_tells_96 38)
theorem dX9_tells_135 : decode cX9_tells 135 = .ok (.getfield 89, 3) := dk_180 (c := cX9_tells) (pc := 135) (a := 0) (b := 89) (dk_at bnames03cX9_tells_96 39) rfl
theorem dX9_tells_138 : decode cX9_tells 138 = .ok (.iconst 0, 1) := dk_3 (c := cX9_tells) (pc := 138) (dk_at bnames03cX9_tells_96 42)
theorem dX9_tells_139 : decode cX9_tells 139 = .ok (.dup2, 1) := dk_92 (c := cX9_tells) (pc := 139) (dk_at bnames03cX9_tells_96 43)
theorem dX9_tells_140 : decode cX9_tells 140 = .ok (.iaload, 1) := dk_46 (c := cX9_tells) (pc := 140) (dk_at bnames03cX9_tells_96 44)
theorem dX9_tells_141 : decode cX9_tells 141 = .ok (.iconst 1, 1) := dk_4 (c := cX9_tells) (pc := 141) (dk_at bnames03cX9_tells_96 45)
theorem dX9_tells_142 : decode cX9_tells 142 = .ok (.iadd, 1) := dk_96 (c := cX9_tells) (pc := 142) (dk_at bnames03cX9_tells_96 46)
theorem dX9_tells_143 : decode cX9_tells 143 = .ok (.iastore, 1) := dk_79 (c := cX9_tells) (pc := 143) (dk_at bnames03cX9_tells_96 47)
theorem bnames03cX9_tells_144 : ((dk_l cX9_tells).drop 144).take 3 = [21, 9, 172] := by decide +kernel
theorem dX9_tells_144 : decode cX9_tells 144 = .ok (.iload 9, 2) := dk_21 (c := cX9_tells) (pc := 144) (a := 9) (dk_at bnames03cX9_tells_144 0) rfl
theorem dX9_tells_146 : decode cX9_tells 146 = .ok (.ireturn, 1) := dk_172 (c := cX9_tells) (pc := 146) (dk_at bnames03cX9_tells_144 2)
set_option maxRecDepth 20000 in
theorem ggX9_sheet_X9_tells : GoodIn wsX9_sheet wsX9_tells := goodIn_r _ [6, 7, 8, 9, 10, 11, 12, 13, 14, 15, 16, 17, 18, 19, 5, 20, 21, 22, 23, 24, 25, 26, 27, 28, 29, 30, 31, 32, 33, 34, 35, 36, 37, 38, 39, 40, 41, 42, 43, 44, 45, 46, 47, 48, 49, 50, 51, 52, 53, 54, 55, 56, 57, 58, 59, 60, 61, 62, 63, 64, 65, 66, 67, 68, 69, 70, 71, 72, 73, 74, 75, 76, 77, 78, 79, 80] rfl (by decide +kernel)
set_option maxRecDepth 20000 in
theorem gX9_sheet_X9_tells : GoodIn wsX9_sheet (wsV RX9 356 RX9 yX9_tells wsX9_tells) := goodIn_app (goodIn_r _ [2, 3, 4, 5] rfl (by decide +kernel)) ggX9_sheet_X9_tells
theorem bnames03cX9_sheet_0 : ((dk_l cX9_sheet).drop 0).take 19 = [42, 3, 181, 0, 125, 42, 27, 133, 28, 133, 29, 133, 21, 4, 133, 182, 1, 100, 172] := by decide +kernel
theorem dX9_sheet_0 : decode cX9_sheet 0 = .ok (.aload_n 0, 1) := dk_42 (c := cX9_sheet) (pc := 0) (dk_at bnames03cX9_sheet_0 0)
theorem dX9_sheet_1 : decode cX9_sheet 1 = .ok (.iconst 0, 1) := dk_3 (c := cX9_sheet) (pc := 1) (dk_at bnames03cX9_sheet_0 1)
theorem dX9_sheet_2 : decode cX9_sheet 2 = .ok (.putfield 125, 3) := dk_181 (c := cX9_sheet) (pc := 2) (a := 0) (b := 125) (dk_at bnames03cX9_sheet_0 2) rfl
theorem dX9_sheet_5 : decode cX9_sheet 5 = .ok (.aload_n 0, 1) := dk_42 (c := cX9_sheet) (pc := 5) (dk_at bnames03cX9_sheet_0 5)
theorem dX9_sheet_6 : decode cX9_sheet 6 = .ok (.iload_n 1, 1) := dk_27 (c := cX9_sheet) (pc := 6) (dk_at bnames03cX9_sheet_0 6)
theorem dX9_sheet_7 : decode cX9_sheet 7 = .ok (.i2l, 1) := dk_133 (c := cX9_sheet) (pc := 7) (dk_at bnames03cX9_sheet_0 7)
