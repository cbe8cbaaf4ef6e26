theorem bnames02cX8_beside_48 : ((dk_l cX8_beside).drop 48).take 42 = [0, 192, 27, 46, 54, 5, 42, 180, 0, 19, 29, 21, 4, 28, 21, 5, 182, 0, 109, 42, 180, 0, 19, 29, 21, 4, 42, 180, 0, 29, 180, 0, 195, 27, 46, 21, 5, 182, 0, 109, 100, 172] := by decide +kernel
theorem dX8_beside_51 : decode cX8_beside 51 = .ok (.iaload, 1) := dk_46 (c := cX8_beside) (pc := 51) (dk_at bnames02cX8_beside_48 3)
theorem dX8_beside_52 : decode cX8_beside 52 = .ok (.istore 5, 2) := dk_54 (c := cX8_beside) (pc := 52) (a := 5) (dk_at bnames02cX8_beside_48 4) rfl
theorem dX8_beside_54 : decode cX8_beside 54 = .ok (.aload_n 0, 1) := dk_42 (c := cX8_beside) (pc := 54) (dk_at bnames02cX8_beside_48 6)
theorem dX8_beside_55 : decode cX8_beside 55 = .ok (.getfield 19, 3) := dk_180 (c := cX8_beside) (pc := 55) (a := 0) (b := 19) (dk_at bnames02cX8_beside_48 7) rfl
theorem dX8_beside_58 : decode cX8_beside 58 = .ok (.iload_n 3, 1) := dk_29 (c := cX8_beside) (pc := 58) (dk_at bnames02cX8_beside_48 10)
theorem dX8_beside_59 : decode cX8_beside 59 = .ok (.iload 4, 2) := dk_21 (c := cX8_beside) (pc := 59) (a := 4) (dk_at bnames02cX8_beside_48 11) rfl
theorem dX8_beside_61 : decode cX8_beside 61 = .ok (.iload_n 2, 1) := dk_28 (c := cX8_beside) (pc := 61) (dk_at bnames02cX8_beside_48 13)
theorem dX8_beside_62 : decode cX8_beside 62 = .ok (.iload 5, 2) := dk_21 (c := cX8_beside) (pc := 62) (a := 5) (dk_at bnames02cX8_beside_48 14) rfl
theorem dX8_beside_64 : decode cX8_beside 64 = .ok (.invokevirtual 109, 3) := dk_182 (c := cX8_beside) (pc := 64) (a := 0) (b := 109) (dk_at bnames02cX8_beside_48 16) rfl
theorem dX8_beside_67 : decode cX8_beside 67 = .ok (.aload_n 0, 1) := dk_42 (c := cX8_beside) (pc := 67) (dk_at bnames02cX8_beside_48 19)
theorem dX8_beside_68 : decode cX8_beside 68 = .ok (.getfield 19, 3) := dk_180 (c := cX8_beside) (pc := 68) (a := 0) (b := 19) (dk_at bnames02cX8_beside_48 20) rfl
theorem dX8_beside_71 : decode cX8_beside 71 = .ok (.iload_n 3, 1) := dk_29 (c := cX8_beside) (pc := 71) (dk_at bnames02cX8_beside_48 23)
theorem dX8_beside_72 : decode cX8_beside 72 = .ok (.iload 4, 2) := dk_21 (c := cX8_beside) (pc := 72) (a := 4) (dk_at bnames02cX8_beside_48 24) rfl
theorem dX8_beside_74 : decode cX8_beside 74 = .ok (.aload_n 0, 1) := dk_42 (c := cX8_beside) (pc := 74) (dk_at bnames02cX8_beside_48 26)
theorem dX8_beside_75 : decode cX8_beside 75 = .ok (.getfield 29, 3) := dk_180 (c := cX8_beside) (pc := 75) (a := 0) (b := 29) (dk_at bnames02cX8_beside_48 27) rfl
theorem dX8_beside_78 : decode cX8_beside 78 = .ok (.getfield 195, 3) := dk_180 (c := cX8_beside) (pc := 78) (a := 0) (b := 195) (dk_at bnames02cX8_beside_48 30) rfl
theorem dX8_beside_81 : decode cX8_beside 81 = .ok (.iload_n 1, 1) := dk_27 (c := cX8_beside) (pc := 81) (dk_at bnames02cX8_beside_48 33)
theorem dX8_beside_82 : decode cX8_beside 82 = .ok (.iaload, 1) := dk_46 (c := cX8_beside) (pc := 82) (dk_at bnames02cX8_beside_48 34)
theorem dX8_beside_83 : decode cX8_beside 83 = .ok (.iload 5, 2) := dk_21 (c := cX8_beside) (pc := 83) (a := 5) (dk_at bnames02cX8_beside_48 35) rfl
theorem dX8_beside_85 : decode cX8_beside 85 = .ok (.invokevirtual 109, 3) := dk_182 (c := cX8_beside) (pc := 85) (a := 0) (b := 109) (dk_at bnames02cX8_beside_48 37) rfl
theorem dX8_beside_88 : decode cX8_beside 88 = .ok (.isub, 1) := dk_100 (c := cX8_beside) (pc := 88) (dk_at bnames02cX8_beside_48 40)
theorem dX8_beside_89 : decode cX8_beside 89 = .ok (.ireturn, 1) := dk_172 (c := cX8_beside) (pc := 89) (dk_at bnames02cX8_beside_48 41)
set_option maxRecDepth 20000 in
theorem ggX8_needs_X8_isPush : GoodIn wsX8_needs wsX8_isPush := goodIn_r _ [9, 10, 11, 8, 12] rfl (by decide +kernel)
set_option maxRecDepth 20000 in
theorem gX8_needs_X8_isPush : GoodIn wsX8_needs (va_wsS RX8 341 yX8_isPush wsX8_isPush) := goodIn_app (goodIn_r _ [6, 7, 8] rfl (by decide +kernel)) ggX8_needs_X8_isPush
set_option maxRecDepth 20000 in
theorem ggX8_needs_X8_within : GoodIn wsX8_needs wsX8_within := goodIn_r _ [12] rfl (by decide +kernel)
set_option maxRecDepth 20000 in
theorem gX8_needs_X8_within : GoodIn wsX8_needs (va_wsS RX8 105 yX8_within wsX8_within) := goodIn_app (goodIn_r _ [10, 11, 8] rfl (by decide +kernel)) ggX8_needs_X8_within
set_option maxRecDepth 20000 in
theorem ggX8_needs_X6_clear : GoodIn wsX8_needs wsX6_clear := goodIn_r _ [17, 18, 19, 20, 21, 22, 23, 24, 25, 26, 27, 28, 81, 82, 83, 84, 85, 86, 87, 88, 89, 90, 91] rfl (by decide +kernel)
set_option maxRecDepth 20000 in
theorem gX8_needs_X6_clear : GoodIn wsX8_needs (wsV RX8 229 RX6 yX6_clear wsX6_clear) := goodIn_app (goodIn_r _ [13, 14, 15, 16] rfl (by decide +kernel)) ggX8_needs_X6_clear
set_option maxRecDepth 20000 in
theorem ggX8_needs_X8_isMoved : GoodIn wsX8_needs wsX8_isMoved := goodIn_r _ [31] rfl (by decide +kernel)
set_option maxRecDepth 20000 in
theorem gX8_needs_X8_isMoved : GoodIn wsX8_needs (va_wsS RX8 345 yX8_isMoved wsX8_isMoved) := goodIn_app (goodIn_r _ [29, 30, 8] rfl (by decide +kernel)) ggX8_needs_X8_isMoved
set_option maxRecDepth 20000 in
theorem ggX8_needs_X6_take : GoodIn wsX8_needs wsX6_take := goodIn_r _ [35, 36, 37, 26, 27, 28, 18, 19, 20, 21, 38, 22, 23, 24, 25, 74, 75, 76, 77, 78, 79, 80, 81, 82, 83, 84, 85, 86, 87, 88, 89, 90, 91] rfl (by decide +kernel)
set_option maxRecDepth 20000 in
theorem gX8_needs_X6_take : GoodIn wsX8_needs (wsV RX8 232 RX6 yX6_take wsX6_take) := goodIn_app (goodIn_r _ [32, 33, 34, 16] rfl (by decide +kernel)) ggX8_needs_X6_take
set_option maxRecDepth 20000 in
theorem ggX8_needs_X6_strength : GoodIn wsX8_needs wsX6_strength := goodIn_r _ [42, 43, 19, 23, 26, 44, 45, 18, 22, 46, 47, 48, 49, 16, 50, 51, 52, 53, 54, 55, 56, 57, 58, 59, 60, 61, 62, 63, 81, 82, 83, 84, 85, 86, 87, 88, 89, 90, 91] rfl (by decide +kernel)
set_option maxRecDepth 20000 in
theorem gX8_needs_X6_strength : GoodIn wsX8_needs (wsV RX8 279 RX6 yX6_strength wsX6_strength) := goodIn_app (goodIn_r _ [39, 40, 41, 16] rfl (by decide +kernel)) ggX8_needs_X6_strength
theorem bnames02cX8_needs_0 : ((dk_l cX8_needs).drop 0).take 52 = [27, 184, 1, 85, 153, 0, 14, 28, 3, 19, 1, 88, 184, 0, 105, 154, 0, 6, 16, 254, 172, 42, 180, 0, 46, 182, 0, 229, 3, 62, 29, 42, 180, 0, 29, 180, 0, 127, 162, 0, 51, 42, 180, 0, 46, 42, 180, 0, 29, 29, 27, 42] := by decide +kernel
theorem dX8_needs_0 : decode cX8_needs 0 = .ok (.iload_n 1, 1) := dk_27 (c := cX8_needs) (pc := 0) (dk_at bnames02cX8_needs_0 0)
theorem dX8_needs_1 : decode cX8_needs 1 = .ok (.invokestatic 341, 3) := dk_184 (c := cX8_needs) (pc := 1) (a := 1) (b := 85) (dk_at bnames02cX8_needs_0 1) rfl
theorem dX8_needs_4 : decode cX8_needs 4 = .ok (.ifCond .eq 14, 3) := dk_153 (c := cX8_needs) (pc := 4) (a := 0) (b := 14) (dk_at bnames02cX8_needs_0 4) (by decide)
theorem dX8_needs_7 : decode cX8_needs 7 = .ok (.iload_n 2, 1) := dk_28 (c := cX8_needs) (pc := 7) (dk_at bnames02cX8_needs_0 7)
theorem dX8_needs_8 : decode cX8_needs 8 = .ok (.iconst 0, 1) := dk_3 (c := cX8_needs) (pc := 8) (dk_at bnames02cX8_needs_0 8)
theorem dX8_needs_9 : decode cX8_needs 9 = .ok (.ldc_w 344, 3) := dk_19 (c := cX8_needs) (pc := 9) (a := 1) (b := 88) (dk_at bnames02cX8_needs_0 9) rfl
theorem dX8_needs_12 : decode cX8_needs 12 = .ok (.invokestatic 105, 3) := dk_184 (c := cX8_needs) (pc := 12) (a := 0) (b := 105) (dk_at bnames02cX8_needs_0 12) rfl
theorem dX8_needs_15 : decode cX8_needs 15 = .ok (.ifCond .ne 6, 3) := dk_154 (c := cX8_needs) (pc := 15) (a := 0) (b := 6) (dk_at bnames02cX8_needs_0 15) (by decide)
theorem dX8_needs_18 : decode cX8_needs 18 = .ok (.bipush (-2), 2) := dk_16 (c := cX8_needs) (pc := 18) (a := 254) (dk_at bnames02cX8_needs_0 18) (by decide)
theorem dX8_needs_20 : decode cX8_needs 20 = .ok (.ireturn, 1) := dk_172 (c := cX8_needs) (pc := 20) (dk_at bnames02cX8_needs_0 20)
theorem dX8_needs_21 : decode cX8_needs 21 = .ok (.aload_n 0, 1) := dk_42 (c := cX8_needs) (pc := 21) (dk_at bnames02cX8_needs_0 21)
theorem dX8_needs_22 : decode cX8_needs 22 = .ok (.getfield 46, 3) := dk_180 (c := cX8_needs) (pc := 22) (a := 0) (b := 46) (dk_at bnames02cX8_needs_0 22) rfl
theorem dX8_needs_25 : decode cX8_needs 25 = .ok (.invokevirtual 229, 3) := dk_182 (c := cX8_needs) (pc := 25) (a := 0) (b := 229) (dk_at bnames02cX8_needs_0 25) rfl
theorem dX8_needs_28 : decode cX8_needs 28 = .ok (.iconst 0, 1) := dk_3 (c := cX8_needs) (pc := 28) (dk_at bnames02cX8_needs_0 28)
theorem dX8_needs_29 : decode cX8_needs 29 = .ok (.istore_n 3, 1) := dk_62 (c := cX8_needs) (pc := 29) (dk_at bnames02cX8_needs_0 29)
theorem dX8_needs_30 : decode cX8_needs 30 = .ok (.iload_n 3, 1) := dk_29 (c := cX8_needs) (pc := 30) (dk_at bnames02cX8_needs_0 30)
theorem dX8_needs_31 : decode cX8_needs 31 = .ok (.aload_n 0, 1) := dk_42 (c := cX8_needs) (pc := 31) (dk_at bnames02cX8_needs_0 31)
theorem dX8_needs_32 : decode cX8_needs 32 = .ok (.getfield 29, 3) := dk_180 (c := cX8_needs) (pc := 32) (a := 0) (b := 29) (dk_at bnames02cX8_needs_0 32) rfl
theorem dX8_needs_35 : decode cX8_needs 35 = .ok (.getfield 127, 3) := dk_180 (c := cX8_needs) (pc := 35) (a := 0) (b := 127) (dk_at bnames02cX8_needs_0 35) rfl
theorem dX8_needs_38 : decode cX8_needs 38 = .ok (.if_icmp .ge 51, 3) := dk_162 (c := cX8_needs) (pc := 38) (a := 0) (b := 51) (dk_at bnames02cX8_needs_0 38) (by decide)
theorem dX8_needs_41 : decode cX8_needs 41 = .ok (.aload_n 0, 1) := dk_42 (c := cX8_needs) (pc := 41) (dk_at bnames02cX8_needs_0 41)
theorem dX8_needs_42 : decode cX8_needs 42 = .ok (.getfield 46, 3) := dk_180 (c := cX8_needs) (pc := 42) (a := 0) (b := 46) (dk_at bnames02cX8_needs_0 42) rfl
theorem dX8_needs_45 : decode cX8_needs 45 = .ok (.aload_n 0, 1) := dk_42 (c := cX8_needs) (pc := 45) (dk_at bnames02cX8_needs_0 45)
theorem dX8_needs_46 : decode cX8_needs 46 = .ok (.getfield 29, 3) := dk_180 (c := cX8_needs) (pc := 46) (a := 0) (b := 29) (dk_at bnames02cX8_needs_0 46) rfl
theorem bnames02cX8_needs_48 : ((dk_l cX8_needs).drop 48).take 43 = [29, 29, 27, 42, 180, 0, 29, 180, 0, 195, 29, 46, 184, 1, 89, 182, 0, 232, 42, 180, 0, 46, 182, 1, 23, 28, 133, 148, 155, 0, 7, 29, 4, 96, 172, 132, 3, 1, 167, 255, 200, 2, 172] := by decide +kernel
theorem dX8_needs_49 : decode cX8_needs 49 = .ok (.iload_n 3, 1) := dk_29 (c := cX8_needs) (pc := 49) (dk_at bnames02cX8_needs_48 1)
theorem dX8_needs_50 : decode cX8_needs 50 = .ok (.iload_n 1, 1) := dk_27 (c := cX8_needs) (pc := 50) (dk_at bnames02cX8_needs_48 2)
theorem dX8_needs_51 : decode cX8_needs 51 = .ok (.aload_n 0, 1) := dk_42 (c := cX8_needs) (pc := 51) (dk_at bnames02cX8_needs_48 3)
theorem dX8_needs_52 : decode cX8_needs 52 = .ok (.getfield 29, 3) := dk_180 (c := cX8_needs) (pc := 52) (a := 0) (b := 29) (dk_at bnames02cX8_needs_48 4) rfl
theorem dX8_needs_55 : decode cX8_needs 55 = .ok (.getfield 195, 3) := dk_180 (c := cX8_needs) (pc := 55) (a := 0) (b := 195) (dk_at bnames02cX8_needs_48 7) rfl
theorem dX8_needs_58 : decode cX8_needs 58 = .ok (.iload_n 3, 1) := dk_29 (c := cX8_needs) (pc := 58) (dk_at bnames02cX8_needs_48 10)
theorem dX8_needs_59 : decode cX8_needs 59 = .ok (.iaload, 1) := dk_46 (c := cX8_needs) (pc := 59) (dk_at bnames02cX8_needs_48 11)
theorem dX8_needs_60 : decode cX8_needs 60 = .ok (.invokestatic 345, 3) := dk_184 (c := cX8_needs) (pc := 60) (a := 1) (b := 89) (dk_at bnames02cX8_needs_48 12) rfl
theorem dX8_needs_63 : decode cX8_needs 63 = .ok (.invokevirtual 232, 3) := dk_182 (c := cX8_needs) (pc := 63) (a := 0) (b := 232) (dk_at bnames02cX8_needs_48 15) rfl
theorem dX8_needs_66 : decode cX8_needs 66 = .ok (.aload_n 0, 1) := dk_42 (c := cX8_needs) (pc := 66) (dk_at bnames02cX8_needs_48 18)
theorem dX8_needs_67 : decode cX8_needs 67 = .ok (.getfield 46, 3) := dk_180 (c := cX8_needs) (pc := 67) (a := 0) (b := 46) (dk_at bnames02cX8_needs_48 19) rfl
theorem dX8_needs_70 : decode cX8_needs 70 = .ok (.invokevirtual 279, 3) := dk_182 (c := cX8_needs) (pc := 70) (a := 1) (b := 23) (dk_at bnames02cX8_needs_48 22) rfl
theorem dX8_needs_73 : decode cX8_needs 73 = .ok (.iload_n 2, 1) := dk_28 (c := cX8_needs) (pc := 73) (dk_at bnames02cX8_needs_48 25)
theorem dX8_needs_74 : decode cX8_needs 74 = .ok (.i2l, 1) := dk_133 (c := cX8_needs) (pc := 74) (dk_at bnames02cX8_needs_48 26)
theorem dX8_needs_75 : decode cX8_needs 75 = .ok (.lcmp, 1) := dk_148 (c := cX8_needs) (pc := 75) (dk_at bnames02cX8_needs_48 27)
theorem dX8_needs_76 : decode cX8_needs 76 = .ok (.ifCond .lt 7, 3) := dk_155 (c := cX8_needs) (pc := 76) (a := 0) (b := 7) (dk_at bnames02cX8_needs_48 28) (by decide)
theorem dX8_needs_79 : decode cX8_needs 79 = .ok (.iload_n 3, 1) := dk_29 (c := cX8_needs) (pc := 79) (dk_at bnames02cX8_needs_48 31)
theorem dX8_needs_80 : decode cX8_needs 80 = .ok (.iconst 1, 1) := dk_4 (c := cX8_needs) (pc := 80) (dk_at bnames02cX8_needs_48 32)
theorem dX8_needs_81 : decode cX8_needs 81 = .ok (.iadd, 1) := dk_96 (c := cX8_needs) (pc := 81) (dk_at bnames02cX8_needs_48 33)
theorem dX8_needs_82 : decode cX8_needs 82 = .ok (.ireturn, 1) := dk_172 (c := cX8_needs) (pc := 82) (dk_at bnames02cX8_needs_48 34)
theorem dX8_needs_83 : decode cX8_needs 83 = .ok (.iinc 3 1, 3) := dk_132 (c := cX8_needs) (pc := 83) (a := 3) (b := 1) (dk_at bnames02cX8_needs_48 35) rfl (by decide)
theorem dX8_needs_86 : decode cX8_needs 86 = .ok (.goto (-56), 3) := dk_167 (c := cX8_needs) (pc := 86) (a := 255) (b := 200) (dk_at bnames02cX8_needs_48 38) (by decide)
theorem dX8_needs_89 : decode cX8_needs 89 = .ok (.iconst (-1), 1) := dk_2 (c := cX8_needs) (pc := 89) (dk_at bnames02cX8_needs_48 41)
theorem dX8_needs_90 : decode cX8_needs 90 = .ok (.ireturn, 1) := dk_172 (c := cX8_needs) (pc := 90) (dk_at bnames02cX8_needs_48 42)
set_option maxRecDepth 20000 in
theorem ggX8_worlds_X8_isPush : GoodIn wsX8_worlds wsX8_isPush := goodIn_r _ [8, 9, 10, 7, 11] rfl (by decide +kernel)
set_option maxRecDepth 20000 in
theorem gX8_worlds_X8_isPush : GoodIn wsX8_worlds (va_wsS RX8 341 yX8_isPush wsX8_isPush) := goodIn_app (goodIn_r _ [5, 6, 7] rfl (by decide +kernel)) ggX8_worlds_X8_isPush
set_option maxRecDepth 20000 in
theorem ggX8_worlds_X8_isSeed : GoodIn wsX8_worlds wsX8_isSeed := goodIn_r _ [14, 15, 9, 10, 7, 11] rfl (by decide +kernel)
set_option maxRecDepth 20000 in
theorem gX8_worlds_X8_isSeed : GoodIn wsX8_worlds (va_wsS RX8 113 yX8_isSeed wsX8_isSeed) := goodIn_app (goodIn_r _ [12, 13, 7] rfl (by decide +kernel)) ggX8_worlds_X8_isSeed
set_option maxRecDepth 20000 in
theorem ggX8_worlds_X8_within : GoodIn wsX8_worlds wsX8_within := goodIn_r _ [11] rfl (by decide +kernel)
set_option maxRecDepth 20000 in
theorem gX8_worlds_X8_within : GoodIn wsX8_worlds (va_wsS RX8 105 yX8_within wsX8_within) := goodIn_app (goodIn_r _ [9, 10, 7] rfl (by decide +kernel)) ggX8_worlds_X8_within
set_option maxRecDepth 20000 in
theorem ggX8_worlds_X3_canBeDrawnFrom : GoodIn wsX8_worlds wsX3_canBeDrawnFrom := goodIn_r _ [20, 21, 22, 273, 274, 275, 276, 277, 278, 279, 280, 281, 282, 283, 284, 285, 286, 287, 288] rfl (by decide +kernel)
set_option maxRecDepth 20000 in
theorem gX8_worlds_X3_canBeDrawnFrom : GoodIn wsX8_worlds (wsV RX8 116 RX3 yX3_canBeDrawnFrom wsX3_canBeDrawnFrom) := goodIn_app (goodIn_r _ [16, 17, 18, 19] rfl (by decide +kernel)) ggX8_worlds_X3_canBeDrawnFrom
set_option maxRecDepth 20000 in
theorem ggX8_worlds_X8_drawInto : GoodIn wsX8_worlds wsX8_drawInto := goodIn_r _ [26, 27, 3, 28, 29, 30, 31, 32, 33, 34, 35, 36, 7, 37, 1, 38, 39, 40, 41, 42, 43, 44, 45, 46, 47, 48, 49, 50, 51, 52, 53, 54, 55, 56, 57, 58, 59, 60, 61, 19, 62, 22, 63, 64, 65, 66, 67, 68, 69, 70, 71, 72, 73, 74, 9, 10, 11, 75, 76, 77, 78, 79, 80, 81, 82, 83, 84, 85, 86, 87, 88, 89, 90, 91, 92, 93, 94, 95, 96, 97, 98, 99, 100, 101, 102, 103, 104, 105, 106, 107, 108, 109, 110, 111, 112, 113, 114, 115, 116, 117, 118, 119, 120, 121, 122, 123, 256, 257, 258, 259, 260, 261, 262, 263, 264, 265, 266, 267, 268, 269, 270, 271, 272, 289, 273, 274, 275, 276, 277, 278, 279, 280, 281, 282, 283, 284, 285, 286, 287, 288] rfl (by decide +kernel)
set_option maxRecDepth 20000 in
theorem gX8_worlds_X8_drawInto : GoodIn wsX8_worlds (wsV RX8 120 RX8 yX8_drawInto wsX8_drawInto) := goodIn_app (goodIn_r _ [23, 24, 25, 7] rfl (by decide +kernel)) ggX8_worlds_X8_drawInto
set_option maxRecDepth 20000 in
theorem ggX8_worlds_X8_divided : GoodIn wsX8_worlds wsX8_divided := goodIn_r _ [127, 128, 3, 129, 130, 131, 132, 133, 134, 135, 136, 137, 138, 139, 140, 141, 142, 143, 144, 145, 5, 6, 7, 8, 9, 10, 11, 146, 147, 148, 149, 150, 151, 152, 153, 154, 155, 256, 257, 258, 259, 260, 261, 262, 263, 264, 265, 266, 267, 268, 269, 270, 271, 272, 290, 291, 292, 293, 294, 295, 296, 297, 298, 299, 300] rfl (by decide +kernel)
set_option maxRecDepth 20000 in
theorem gX8_worlds_X8_divided : GoodIn wsX8_worlds (wsV RX8 253 RX8 yX8_divided wsX8_divided) := goodIn_app (goodIn_r _ [124, 125, 126, 7] rfl (by decide +kernel)) ggX8_worlds_X8_divided
set_option maxRecDepth 20000 in
theorem ggX8_worlds_X8_worldCounts : GoodIn wsX8_worlds wsX8_worldCounts := goodIn_r _ [159, 160, 4, 161, 162, 163, 164, 165, 166, 133, 167, 168, 136, 140, 143, 169, 170, 135, 139, 171, 172, 173, 174, 175, 176, 177, 178, 179, 180, 181, 182, 183, 184, 185, 186, 187, 188, 189, 190, 191, 7, 192, 3, 193, 194, 195, 196, 1, 197, 129, 198, 199, 200, 201, 202, 203, 204, 205, 115, 206, 117, 207, 208, 209, 19, 210, 21, 75, 76, 77, 78, 79, 80, 81, 82, 83, 84, 211, 212, 213, 214, 215, 216, 48, 49, 46, 50, 85, 86, 87, 88, 89, 90, 91, 92, 93, 94, 95, 96, 97, 98, 99, 100, 101, 102, 103, 104, 105, 106, 107, 108, 109, 110, 217, 218, 219, 220, 221, 222, 223, 224, 225, 226, 227, 228, 145, 144, 137, 141, 229, 230, 231, 232, 233, 234, 235, 236, 237, 238, 239, 240, 241, 242, 243, 244, 245, 246, 247, 248, 249, 250, 251, 252, 253, 254, 255, 256, 257, 258, 259, 260, 261, 262, 263, 264, 265, 290, 291, 292, 293, 294, 295, 296, 297, 298, 299, 300, 266, 267, 268, 269, 270, 271, 272, 273, 274, 275, 276, 277, 278, 279, 280, 281, 282, 283, 284, 285, 286, 287, 288] rfl (by decide +kernel)
set_option maxRecDepth 20000 in
theorem gX8_worlds_X8_worldCounts : GoodIn wsX8_worlds (wsV RX8 349 RX8 yX8_worldCounts wsX8_worldCounts) := goodIn_app (goodIn_r _ [156, 157, 158, 7] rfl (by decide +kernel)) ggX8_worlds_X8_worldCounts
theorem bnames02cX8_worlds_0 : ((dk_l cX8_worlds).drop 0).take 52 = [27, 184, 1, 85, 153, 0, 20, 28, 184, 0, 113, 153, 0, 13, 29, 4, 16, 20, 184, 0, 105, 154, 0, 6, 16, 254, 172, 21, 4, 4, 16, 10, 184, 0, 105, 153, 0, 13, 21, 5, 3, 5, 184, 0, 105, 154, 0, 6, 16, 254, 172, 42] := by decide +kernel
theorem dX8_worlds_0 : decode cX8_worlds 0 = .ok (.iload_n 1, 1) := dk_27 (c := cX8_worlds) (pc := 0) (dk_at bnames02cX8_worlds_0 0)
theorem dX8_worlds_1 : decode cX8_worlds 1 = .ok (.invokestatic 341, 3) := dk_184 (c := cX8_worlds) (pc := 1) (a := 1) (b := 85) (dk_at bnames02cX8_worlds_0 1) rfl
theorem dX8_worlds_4 : decode cX8_worlds 4 = .ok (.ifCond .eq 20, 3) := dk_153 (c := cX8_worlds) (pc := 4) (a := 0) (b := 20) (dk_at bnames02cX8_worlds_0 4) (by decide)
theorem dX8_worlds_7 : decode cX8_worlds 7 = .ok (.iload_n 2, 1) := dk_28 (c := cX8_worlds) (pc := 7) (dk_at bnames02cX8_worlds_0 7)
theorem dX8_worlds_8 : decode cX8_worlds 8 = .ok (.invokestatic 113, 3) := dk_184 (c := cX8_worlds) (pc := 8) (a := 0) (b := 113) (dk_at bnames02cX8_worlds_0 8) rfl
theorem dX8_worlds_11 : decode cX8_worlds 11 = .ok (.ifCond .eq 13, 3) := dk_153 (c := cX8_worlds) (pc := 11) (a := 0) (b := 13) (dk_at bnames02cX8_worlds_0 11) (by decide)
theorem dX8_worlds_14 : decode cX8_worlds 14 = .ok (.iload_n 3, 1) := dk_29 (c := cX8_worlds) (pc := 14) (dk_at bnames02cX8_worlds_0 14)
theorem dX8_worlds_15 : decode cX8_worlds 15 = .ok (.iconst 1, 1) := dk_4 (c := cX8_worlds) (pc := 15) (dk_at bnames02cX8_worlds_0 15)
theorem dX8_worlds_16 : decode cX8_worlds 16 = .ok (.bipush 20, 2) := dk_16 (c := cX8_worlds) (pc := 16) (a := 20) (dk_at bnames02cX8_worlds_0 16) (by decide)
theorem dX8_worlds_18 : decode cX8_worlds 18 = .ok (.invokestatic 105, 3) := dk_184 (c := cX8_worlds) (pc := 18) (a := 0) (b := 105) (dk_at bnames02cX8_worlds_0 18) rfl
theorem dX8_worlds_21 : decode cX8_worlds 21 = .ok (.ifCond .ne 6, 3) := dk_154 (c := cX8_worlds) (pc := 21) (a := 0) (b := 6) (dk_at bnames02cX8_worlds_0 21) (by decide)
theorem dX8_worlds_24 : decode cX8_worlds 24 = .ok (.bipush (-2), 2) := dk_16 (c := cX8_worlds) (pc := 24) (a := 254) (dk_at bnames02cX8_worlds_0 24) (by decide)
theorem dX8_worlds_26 : decode cX8_worlds 26 = .ok (.ireturn, 1) := dk_172 (c := cX8_worlds) (pc := 26) (dk_at bnames02cX8_worlds_0 26)
theorem dX8_worlds_27 : decode cX8_worlds 27 = .ok (.iload 4, 2) := dk_21 (c := cX8_worlds) (pc := 27) (a := 4) (dk_at bnames02cX8_worlds_0 27) rfl
theorem dX8_worlds_29 : decode cX8_worlds 29 = .ok (.iconst 1, 1) := dk_4 (c := cX8_worlds) (pc := 29) (dk_at bnames02cX8_worlds_0 29)
theorem dX8_worlds_30 : decode cX8_worlds 30 = .ok (.bipush 10, 2) := dk_16 (c := cX8_worlds) (pc := 30) (a := 10) (dk_at bnames02cX8_worlds_0 30) (by decide)
theorem dX8_worlds_32 : decode cX8_worlds 32 = .ok (.invokestatic 105, 3) := dk_184 (c := cX8_worlds) (pc := 32) (a := 0) (b := 105) (dk_at bnames02cX8_worlds_0 32) rfl
theorem dX8_worlds_35 : decode cX8_worlds 35 = .ok (.ifCond .eq 13, 3) := dk_153 (c := cX8_worlds) (pc := 35) (a := 0) (b := 13) (dk_at bnames02cX8_worlds_0 35) (by decide)
theorem dX8_worlds_38 : decode cX8_worlds 38 = .ok (.iload 5, 2) := dk_21 (c := cX8_worlds) (pc := 38) (a := 5) (dk_at bnames02cX8_worlds_0 38) rfl
theorem dX8_worlds_40 : decode cX8_worlds 40 = .ok (.iconst 0, 1) := dk_3 (c := cX8_worlds) (pc := 40) (dk_at bnames02cX8_worlds_0 40)
theorem dX8_worlds_41 : decode cX8_worlds 41 = .ok (.iconst 2, 1) := dk_5 (c := cX8_worlds) (pc := 41) (dk_at bnames02cX8_worlds_0 41)
theorem dX8_worlds_42 : decode cX8_worlds 42 = .ok (.invokestatic 105, 3) := dk_184 (c := cX8_worlds) (pc := 42) (a := 0) (b := 105) (dk_at bnames02cX8_worlds_0 42) rfl
theorem dX8_worlds_45 : decode cX8_worlds 45 = .ok (.ifCond .ne 6, 3) := dk_154 (c := cX8_worlds) (pc := 45) (a := 0) (b := 6) (dk_at bnames02cX8_worlds_0 45) (by decide)
theorem bnames02cX8_worlds_48 : ((dk_l cX8_worlds).drop 48).take 52 = [16, 254, 172, 42, 180, 0, 19, 182, 0, 116, 153, 0, 13, 42, 180, 0, 29, 180, 0, 127, 154, 0, 6, 16, 250, 172, 3, 54, 6, 3, 54, 7, 21, 7, 29, 162, 0, 51, 42, 42, 180, 0, 33, 28, 21, 7, 96, 42, 180, 0, 29, 180] := by decide +kernel
theorem dX8_worlds_48 : decode cX8_worlds 48 = .ok (.bipush (-2), 2) := dk_16 (c := cX8_worlds) (pc := 48) (a := 254) (dk_at bnames02cX8_worlds_48 0) (by decide)
theorem dX8_worlds_50 : decode cX8_worlds 50 = .ok (.ireturn, 1) := dk_172 (c := cX8_worlds) (pc := 50) (dk_at bnames02cX8_worlds_48 2)
theorem dX8_worlds_51 : decode cX8_worlds 51 = .ok (.aload_n 0, 1) := dk_42 (c := cX8_worlds) (pc := 51) (dk_at bnames02cX8_worlds_48 3)
theorem dX8_worlds_52 : decode cX8_worlds 52 = .ok (.getfield 19, 3) := dk_180 (c := cX8_worlds) (pc := 52) (a := 0) (b := 19) (dk_at bnames02cX8_worlds_48 4) rfl
theorem dX8_worlds_55 : decode cX8_worlds 55 = .ok (.invokevirtual 116, 3) := dk_182 (c := cX8_worlds) (pc := 55) (a := 0) (b := 116) (dk_at bnames02cX8_worlds_48 7) rfl
theorem dX8_worlds_58 : decode cX8_worlds 58 = .ok (.ifCond .eq 13, 3) := dk_153 (c := cX8_worlds) (pc := 58) (a := 0) (b := 13) (dk_at bnames02cX8_worlds_48 10) (by decide)
theorem dX8_worlds_61 : decode cX8_worlds 61 = .ok (.aload_n 0, 1) := dk_42 (c := cX8_worlds) (pc := 61) (dk_at bnames02cX8_worlds_48 13)
theorem dX8_worlds_62 : decode cX8_worlds 62 = .ok (.getfield 29, 3) := dk_180 (c := cX8_worlds) (pc := 62) (a := 0) (b := 29) (dk_at bnames02cX8_worlds_48 14) rfl
theorem dX8_worlds_65 : decode cX8_worlds 65 = .ok (.getfield 127, 3) := dk_180 (c := cX8_worlds) (pc := 65) (a := 0) (b := 127) (dk_at bnames02cX8_worlds_48 17) rfl
theorem dX8_worlds_68 : decode cX8_worlds 68 = .ok (.ifCond .ne 6, 3) := dk_154 (c := cX8_worlds) (pc := 68) (a := 0) (b := 6) (dk_at bnames02cX8_worlds_48 20) (by decide)
theorem dX8_worlds_71 : decode cX8_worlds 71 = .ok (.bipush (-6), 2) := dk_16 (c := cX8_worlds) (pc := 71) (a := 250) (dk_at bnames02cX8_worlds_48 23) (by decide)
theorem dX8_worlds_73 : decode cX8_worlds 73 = .ok (.ireturn, 1) := dk_172 (c := cX8_worlds) (pc := 73) (dk_at bnames02cX8_worlds_48 25)
theorem dX8_worlds_74 : decode cX8_worlds 74 = .ok (.iconst 0, 1) := dk_3 (c := cX8_worlds) (pc := 74) (dk_at bnames02cX8_worlds_48 26)
theorem dX8_worlds_75 : decode cX8_worlds 75 = .ok (.istore 6, 2) := dk_54 (c := cX8_worlds) (pc := 75) (a := 6) (dk_at bnames02cX8_worlds_48 27) rfl
theorem dX8_worlds_77 : decode cX8_worlds 77 = .ok (.iconst 0, 1) := dk_3 (c := cX8_worlds) (pc := 77) (dk_at bnames02cX8_worlds_48 29)
theorem dX8_worlds_78 : decode cX8_worlds 78 = .ok (.istore 7, 2) := dk_54 (c := cX8_worlds) (pc := 78) (a := 7) (dk_at bnames02cX8_worlds_48 30) rfl
theorem dX8_worlds_80 : decode cX8_worlds 80 = .ok (.iload 7, 2) := dk_21 (c := cX8_worlds) (pc := 80) (a := 7) (dk_at bnames02cX8_worlds_48 32) rfl
theorem dX8_worlds_82 : decode cX8_worlds 82 = .ok (.iload_n 3, 1) := dk_29 (c := cX8_worlds) (pc := 82) (dk_at bnames02cX8_worlds_48 34)
theorem dX8_worlds_83 : decode cX8_worlds 83 = .ok (.if_icmp .ge 51, 3) := dk_162 (c := cX8_worlds) (pc := 83) (a := 0) (b := 51) (dk_at bnames02cX8_worlds_48 35) (by decide)
theorem dX8_worlds_86 : decode cX8_worlds 86 = .ok (.aload_n 0, 1) := dk_42 (c := cX8_worlds) (pc := 86) (dk_at bnames02cX8_worlds_48 38)
theorem dX8_worlds_87 : decode cX8_worlds 87 = .ok (.aload_n 0, 1) := dk_42 (c := cX8_worlds) (pc := 87) (dk_at bnames02cX8_worlds_48 39)
theorem dX8_worlds_88 : decode cX8_worlds 88 = .ok (.getfield 33, 3) := dk_180 (c := cX8_worlds) (pc := 88) (a := 0) (b := 33) (dk_at bnames02cX8_worlds_48 40) rfl
theorem dX8_worlds_91 : decode cX8_worlds 91 = .ok (.iload_n 2, 1) := dk_28 (c := cX8_worlds) (pc := 91) (dk_at bnames02cX8_worlds_48 43)
theorem dX8_worlds_92 : decode cX8_worlds 92 = .ok (.iload 7, 2) := dk_21 (c := cX8_worlds) (pc := 92) (a := 7) (dk_at bnames02cX8_worlds_48 44) rfl
theorem dX8_worlds_94 : decode cX8_worlds 94 = .ok (.iadd, 1) := dk_96 (c := cX8_worlds) (pc := 94) (dk_at bnames02cX8_worlds_48 46)
theorem dX8_worlds_95 : decode cX8_worlds 95 = .ok (.aload_n 0, 1) := dk_42 (c := cX8_worlds) (pc := 95) (dk_at bnames02cX8_worlds_48 47)
theorem bnames02cX8_worlds_96 : ((dk_l cX8_worlds).drop 96).take 41 = [180, 0, 29, 180, 0, 127, 182, 0, 120, 42, 42, 42, 180, 0, 33, 27, 182, 0, 253, 21, 4, 21, 5, 182, 1, 93, 153, 0, 6, 132, 6, 1, 132, 7, 1, 167, 255, 205, 21, 6, 172] := by decide +kernel
theorem dX8_worlds_96 : decode cX8_worlds 96 = .ok (.getfield 29, 3) := dk_180 (c := cX8_worlds) (pc := 96) (a := 0) (b := 29) (dk_at bnames02cX8_worlds_96 0) rfl
theorem dX8_worlds_99 : decode cX8_worlds 99 = .ok (.getfield 127, 3) := dk_180 (c := cX8_worlds) (pc := 99) (a := 0) (b := 127) (dk_at bnames02cX8_worlds_96 3) rfl
theorem dX8_worlds_102 : decode cX8_worlds 102 = .ok (.invokevirtual 120, 3) := dk_182 (c := cX8_worlds) (pc := 102) (a := 0) (b := 120) (dk_at bnames02cX8_worlds_96 6) rfl
theorem dX8_worlds_105 : decode cX8_worlds 105 = .ok (.aload_n 0, 1) := dk_42 (c := cX8_worlds) (pc := 105) (dk_at bnames02cX8_worlds_96 9)
theorem dX8_worlds_106 : decode cX8_worlds 106 = .ok (.aload_n 0, 1) := dk_42 (c := cX8_worlds) (pc := 106) (dk_at bnames02cX8_worlds_96 10)
theorem dX8_worlds_107 : decode cX8_worlds 107 = .ok (.aload_n 0, 1) := dk_42 (c := cX8_worlds) (pc := 107) (dk_at bnames02cX8_worlds_96 11)
theorem dX8_worlds_108 : decode cX8_worlds 108 = .ok (.getfield 33, 3) := dk_180 (c := cX8_worlds) (pc := 108) (a := 0) (b := 33) (dk_at bnames02cX8_worlds_96 12) rfl
theorem dX8_worlds_111 : decode cX8_worlds 111 = .ok (.iload_n 1, 1) := dk_27 (c := cX8_worlds) (pc := 111) (dk_at bnames02cX8_worlds_96 15)
theorem dX8_worlds_112 : decode cX8_worlds 112 = .ok (.invokevirtual 253, 3) := dk_182 (c := cX8_worlds) (pc := 112) (a := 0) (b := 253) (dk_at bnames02cX8_worlds_96 16) rfl
theorem dX8_worlds_115 : decode cX8_worlds 115 = .ok (.iload 4, 2) := dk_21 (c := cX8_worlds) (pc := 115) (a := 4) (dk_at bnames02cX8_worlds_96 19) rfl
theorem dX8_worlds_117 : decode cX8_worlds 117 = .ok (.iload 5, 2) := dk_21 (c := cX8_worlds) (pc := 117) (a := 5) (dk_at bnames02cX8_worlds_96 21) rfl
theorem dX8_worlds_119 : decode cX8_worlds 119 = .ok (.invokevirtual 349, 3) := dk_182 (c := cX8_worlds) (pc := 119) (a := 1) (b := 93) (dk_at bnames02cX8_worlds_96 23) rfl
theorem dX8_worlds_122 : decode cX8_worlds 122 = .ok (.ifCond .eq 6, 3) := dk_153 (c := cX8_worlds) (pc := 122) (a := 0) (b := 6) (dk_at bnames02cX8_worlds_96 26) (by decide)
theorem dX8_worlds_125 : decode cX8_worlds 125 = .ok (.iinc 6 1, 3) := dk_132 (c := cX8_worlds) (pc := 125) (a := 6) (b := 1) (dk_at bnames02cX8_worlds_96 29) rfl (by decide)
theorem dX8_worlds_128 : decode cX8_worlds 128 = .ok (.iinc 7 1, 3) := dk_132 (c := cX8_worlds) (pc := 128) (a := 7) (b := 1) (dk_at bnames02cX8_worlds_96 32) rfl (by decide)
theorem dX8_worlds_131 : decode cX8_worlds 131 = .ok (.goto (-51), 3) := dk_167 (c := cX8_worlds) (pc := 131) (a := 255) (b := 205) (dk_at bnames02cX8_worlds_96 35) (by decide)
theorem dX8_worlds_134 : decode cX8_worlds 134 = .ok (.iload 6, 2) := dk_21 (c := cX8_worlds) (pc := 134) (a := 6) (dk_at bnames02cX8_worlds_96 38) rfl
theorem dX8_worlds_136 : decode cX8_worlds 136 = .ok (.ireturn, 1) := dk_172 (c := cX8_worlds) (pc := 136) (dk_at bnames02cX8_worlds_96 40)
set_option maxRecDepth 20000 in
theorem ggX8_worldCounts_X6_strength : GoodIn wsX8_worldCounts wsX6_strength := goodIn_r _ [10, 11, 12, 13, 14, 15, 16, 17, 18, 19, 20, 21, 22, 9, 23, 24, 25, 26, 27, 28, 29, 30, 31, 32, 33, 34, 35, 36, 166, 167, 168, 169, 170, 171, 172, 173, 174, 175, 176] rfl (by decide +kernel)
set_option maxRecDepth 20000 in
theorem gX8_worldCounts_X6_strength : GoodIn wsX8_worldCounts (wsV RX8 279 RX6 yX6_strength wsX6_strength) := goodIn_app (goodIn_r _ [6, 7, 8, 9] rfl (by decide +kernel)) ggX8_worldCounts_X6_strength
set_option maxRecDepth 20000 in
theorem ggX8_worldCounts_X8_truthOf : GoodIn wsX8_worldCounts wsX8_truthOf := goodIn_r _ [41, 42, 3, 43, 44, 45, 40, 46, 47, 48, 49, 50, 51, 52, 53, 54, 55, 56, 57, 58, 59, 60, 61, 62, 63, 64, 65, 66, 67, 68, 69, 70, 71, 72, 73, 74, 75, 76, 77, 78, 79, 80, 81, 82, 83, 84, 85, 86, 87, 88, 89, 90, 91, 92, 93, 94, 95, 96, 97, 98, 99, 100, 101, 102, 103, 104, 105, 106, 107, 108, 109, 110, 111, 112, 113, 114, 115, 1, 177, 178, 179, 180, 181, 182, 183, 156, 157, 158, 159, 160, 161, 162, 163, 164, 165, 184, 185, 186, 187, 188, 189, 190, 191, 192, 193, 194, 195, 196, 197, 198, 199] rfl (by decide +kernel)
set_option maxRecDepth 20000 in
theorem gX8_worldCounts_X8_truthOf : GoodIn wsX8_worldCounts (wsV RX8 330 RX8 yX8_truthOf wsX8_truthOf) := goodIn_app (goodIn_r _ [37, 38, 39, 40] rfl (by decide +kernel)) ggX8_worldCounts_X8_truthOf
set_option maxRecDepth 20000 in
theorem ggX8_worldCounts_X6_hasSpan : GoodIn wsX8_worldCounts wsX6_hasSpan := goodIn_r _ [23, 17, 18, 24, 25, 26, 27, 9, 28, 166, 167, 168, 169, 170, 171, 172, 173, 174, 175, 176] rfl (by decide +kernel)
set_option maxRecDepth 20000 in
theorem gX8_worldCounts_X6_hasSpan : GoodIn wsX8_worldCounts (wsV RX8 284 RX6 yX6_hasSpan wsX6_hasSpan) := goodIn_app (goodIn_r _ [116, 21, 22, 9] rfl (by decide +kernel)) ggX8_worldCounts_X6_hasSpan
set_option maxRecDepth 20000 in
theorem ggX8_worldCounts_X6_inTrueSpan : GoodIn wsX8_worldCounts wsX6_inTrueSpan := goodIn_r _ [120, 121, 122, 123, 9, 124, 125, 19, 126, 14, 127, 12, 128, 13, 33, 34, 35, 36, 17, 18, 129, 130, 131, 132, 133, 134, 135, 136, 29, 30, 31, 32, 166, 167, 168, 169, 170, 171, 172, 173, 174, 175, 176] rfl (by decide +kernel)
set_option maxRecDepth 20000 in
theorem gX8_worldCounts_X6_inTrueSpan : GoodIn wsX8_worldCounts (wsV RX8 296 RX6 yX6_inTrueSpan wsX6_inTrueSpan) := goodIn_app (goodIn_r _ [117, 118, 119, 9] rfl (by decide +kernel)) ggX8_worldCounts_X6_inTrueSpan
set_option maxRecDepth 20000 in
theorem ggX8_worldCounts_X6_hasUsualSpan : GoodIn wsX8_worldCounts wsX6_hasUsualSpan := goodIn_r _ [140, 11, 141, 142, 143, 144, 145, 146, 9, 147, 148, 149, 150, 151, 12, 13, 127, 128, 17, 18, 29, 30, 31, 32, 25, 26, 27, 28, 20, 21, 22, 23, 24, 166, 167, 168, 169, 170, 171, 172, 173, 174, 175, 176] rfl (by decide +kernel)
set_option maxRecDepth 20000 in
theorem gX8_worldCounts_X6_hasUsualSpan : GoodIn wsX8_worldCounts (wsV RX8 290 RX6 yX6_hasUsualSpan wsX6_hasUsualSpan) := goodIn_app (goodIn_r _ [137, 138, 139, 9] rfl (by decide +kernel)) ggX8_worldCounts_X6_hasUsualSpan
set_option maxRecDepth 20000 in
theorem ggX8_worldCounts_X6_inUsualSpan : GoodIn wsX8_worldCounts wsX6_inUsualSpan := goodIn_r _ [155, 141, 144, 145, 146, 9, 147, 148, 149, 150, 151, 12, 13, 11, 127, 128, 17, 18, 29, 30, 31, 32, 25, 26, 27, 28, 121, 122, 123, 124, 125, 19, 126, 14, 33, 34, 35, 36, 129, 130, 131, 132, 133, 134, 135, 136, 166, 167, 168, 169, 170, 171, 172, 173, 174, 175, 176] rfl (by decide +kernel)
set_option maxRecDepth 20000 in
theorem gX8_worldCounts_X6_inUsualSpan : GoodIn wsX8_worldCounts (wsV RX8 312 RX6 yX6_inUsualSpan wsX6_inUsualSpan) := goodIn_app (goodIn_r _ [152, 153, 154, 9] rfl (by decide +kernel)) ggX8_worldCounts_X6_inUsualSpan
theorem bnames02cX8_worldCounts_0 : ((dk_l cX8_worldCounts).drop 0).take 52 = [29, 5, 160, 0, 20, 43, 182, 1, 23, 20, 1, 54, 148, 155, 0, 7, 4, 167, 0, 4, 3, 172, 42, 42, 180, 0, 33, 4, 182, 1, 74, 55, 4, 22, 4, 20, 1, 26, 148, 154, 0, 5, 3, 172, 22, 4, 20, 1, 54, 109, 55, 6] := by decide +kernel
theorem dX8_worldCounts_0 : decode cX8_worldCounts 0 = .ok (.iload_n 3, 1) := dk_29 (c := cX8_worldCounts) (pc := 0) (dk_at bnames02cX8_worldCounts_0 0)
theorem dX8_worldCounts_1 : decode cX8_worldCounts 1 = .ok (.iconst 2, 1) := dk_5 (c := cX8_worldCounts) (pc := 1) (dk_at bnames02cX8_worldCounts_0 1)
theorem dX8_worldCounts_2 : decode cX8_worldCounts 2 = .ok (.if_icmp .ne 20, 3) := dk_160 (c := cX8_worldCounts) (pc := 2) (a := 0) (b := 20) (dk_at bnames02cX8_worldCounts_0 2) (by decide)
theorem dX8_worldCounts_5 : decode cX8_worldCounts 5 = .ok (.aload_n 1, 1) := dk_43 (c := cX8_worldCounts) (pc := 5) (dk_at bnames02cX8_worldCounts_0 5)
theorem dX8_worldCounts_6 : decode cX8_worldCounts 6 = .ok (.invokevirtual 279, 3) := dk_182 (c := cX8_worldCounts) (pc := 6) (a := 1) (b := 23) (dk_at bnames02cX8_worldCounts_0 6) rfl
theorem dX8_worldCounts_9 : decode cX8_worldCounts 9 = .ok (.ldc2_w 310, 3) := dk_20 (c := cX8_worldCounts) (pc := 9) (a := 1) (b := 54) (dk_at bnames02cX8_worldCounts_0 9) rfl
theorem dX8_worldCounts_12 : decode cX8_worldCounts 12 = .ok (.lcmp, 1) := dk_148 (c := cX8_worldCounts) (pc := 12) (dk_at bnames02cX8_worldCounts_0 12)
theorem dX8_worldCounts_13 : decode cX8_worldCounts 13 = .ok (.ifCond .lt 7, 3) := dk_155 (c := cX8_worldCounts) (pc := 13) (a := 0) (b := 7) (dk_at bnames02cX8_worldCounts_0 13) (by decide)
theorem dX8_worldCounts_16 : decode cX8_worldCounts 16 = .ok (.iconst 1, 1) := dk_4 (c := cX8_worldCounts) (pc := 16) (dk_at bnames02cX8_worldCounts_0 16)
theorem dX8_worldCounts_17 : decode cX8_worldCounts 17 = .ok (.goto 4, 3) := dk_167 (c := cX8_worldCounts) (pc := 17) (a := 0) (b := 4) (dk_at bnames02cX8_worldCounts_0 17) (by decide)
theorem dX8_worldCounts_20 : decode cX8_worldCounts 20 = .ok (.iconst 0, 1) := dk_3 (c := cX8_worldCounts) (pc := 20) (dk_at bnames02cX8_worldCounts_0 20)
theorem dX8_worldCounts_21 : decode cX8_worldCounts 21 = .ok (.ireturn, 1) := dk_172 (c := cX8_worldCounts) (pc := 21) (dk_at bnames02cX8_worldCounts_0 21)
theorem dX8_worldCounts_22 : decode cX8_worldCounts 22 = .ok (.aload_n 0, 1) := dk_42 (c := cX8_worldCounts) (pc := 22) (dk_at bnames02cX8_worldCounts_0 22)
theorem dX8_worldCounts_23 : decode cX8_worldCounts 23 = .ok (.aload_n 0, 1) := dk_42 (c := cX8_worldCounts) (pc := 23) (dk_at bnames02cX8_worldCounts_0 23)
theorem dX8_worldCounts_24 : decode cX8_worldCounts 24 = .ok (.getfield 33, 3) := dk_180 (c := cX8_worldCounts) (pc := 24) (a := 0) (b := 33) (dk_at bnames02cX8_worldCounts_0 24) rfl
theorem dX8_worldCounts_27 : decode cX8_worldCounts 27 = .ok (.iconst 1, 1) := dk_4 (c := cX8_worldCounts) (pc := 27) (dk_at bnames02cX8_worldCounts_0 27)
theorem dX8_worldCounts_28 : decode cX8_worldCounts 28 = .ok (.invokevirtual 330, 3) := dk_182 (c := cX8_worldCounts) (pc := 28) (a := 1) (b := 74) (dk_at bnames02cX8_worldCounts_0 28) rfl
theorem dX8_worldCounts_31 : decode cX8_worldCounts 31 = .ok (.lstore 4, 2) := dk_55 (c := cX8_worldCounts) (pc := 31) (a := 4) (dk_at bnames02cX8_worldCounts_0 31) rfl
theorem dX8_worldCounts_33 : decode cX8_worldCounts 33 = .ok (.lload 4, 2) := dk_22 (c := cX8_worldCounts) (pc := 33) (a := 4) (dk_at bnames02cX8_worldCounts_0 33) rfl
theorem dX8_worldCounts_35 : decode cX8_worldCounts 35 = .ok (.ldc2_w 282, 3) := dk_20 (c := cX8_worldCounts) (pc := 35) (a := 1) (b := 26) (dk_at bnames02cX8_worldCounts_0 35) rfl
theorem dX8_worldCounts_38 : decode cX8_worldCounts 38 = .ok (.lcmp, 1) := dk_148 (c := cX8_worldCounts) (pc := 38) (dk_at bnames02cX8_worldCounts_0 38)
theorem dX8_worldCounts_39 : decode cX8_worldCounts 39 = .ok (.ifCond .ne 5, 3) := dk_154 (c := cX8_worldCounts) (pc := 39) (a := 0) (b := 5) (dk_at bnames02cX8_worldCounts_0 39) (by decide)
theorem dX8_worldCounts_42 : decode cX8_worldCounts 42 = .ok (.iconst 0, 1) := dk_3 (c := cX8_worldCounts) (pc := 42) (dk_at bnames02cX8_worldCounts_0 42)
theorem dX8_worldCounts_43 : decode cX8_worldCounts 43 = .ok (.ireturn, 1) := dk_172 (c := cX8_worldCounts) (pc := 43) (dk_at bnames02cX8_worldCounts_0 43)
theorem dX8_worldCounts_44 : decode cX8_worldCounts 44 = .ok (.lload 4, 2) := dk_22 (c := cX8_worldCounts) (pc := 44) (a := 4) (dk_at bnames02cX8_worldCounts_0 44) rfl
theorem dX8_worldCounts_46 : decode cX8_worldCounts 46 = .ok (.ldc2_w 310, 3) := dk_20 (c := cX8_worldCounts) (pc := 46) (a := 1) (b := 54) (dk_at bnames02cX8_worldCounts_0 46) rfl
theorem bnames02cX8_worldCounts_48 : ((dk_l cX8_worldCounts).drop 48).take 52 = [54, 109, 55, 6, 22, 6, 20, 1, 97, 148, 155, 0, 12, 22, 6, 20, 1, 99, 148, 158, 0, 5, 3, 172, 29, 154, 0, 26, 43, 182, 1, 28, 153, 0, 17, 43, 22, 6, 28, 182, 1, 40, 153, 0, 7, 4, 167, 0, 4, 3, 172, 43] := by decide +kernel
theorem dX8_worldCounts_49 : decode cX8_worldCounts 49 = .ok (.ldiv, 1) := dk_109 (c := cX8_worldCounts) (pc := 49) (dk_at bnames02cX8_worldCounts_48 1)
theorem dX8_worldCounts_50 : decode cX8_worldCounts 50 = .ok (.lstore 6, 2) := dk_55 (c := cX8_worldCounts) (pc := 50) (a := 6) (dk_at bnames02cX8_worldCounts_48 2) rfl
theorem dX8_worldCounts_52 : decode cX8_worldCounts 52 = .ok (.lload 6, 2) := dk_22 (c := cX8_worldCounts) (pc := 52) (a := 6) (dk_at bnames02cX8_worldCounts_48 4) rfl
theorem dX8_worldCounts_54 : decode cX8_worldCounts 54 = .ok (.ldc2_w 353, 3) := dk_20 (c := cX8_worldCounts) (pc := 54) (a := 1) (b := 97) (dk_at bnames02cX8_worldCounts_48 6) rfl
theorem dX8_worldCounts_57 : decode cX8_worldCounts 57 = .ok (.lcmp, 1) := dk_148 (c := cX8_worldCounts) (pc := 57) (dk_at bnames02cX8_worldCounts_48 9)
theorem dX8_worldCounts_58 : decode cX8_worldCounts 58 = .ok (.ifCond .lt 12, 3) := dk_155 (c := cX8_worldCounts) (pc := 58) (a := 0) (b := 12) (dk_at bnames02cX8_worldCounts_48 10) (by decide)
theorem dX8_worldCounts_61 : decode cX8_worldCounts 61 = .ok (.lload 6, 2) := dk_22 (c := cX8_worldCounts) (pc := 61) (a := 6) (dk_at bnames02cX8_worldCounts_48 13) rfl
theorem dX8_worldCounts_63 : decode cX8_worldCounts 63 = .ok (.ldc2_w 355, 3) := dk_20 (c := cX8_worldCounts) (pc := 63) (a := 1) (b := 99) (dk_at bnames02cX8_worldCounts_48 15) rfl
theorem dX8_worldCounts_66 : decode cX8_worldCounts 66 = .ok (.lcmp, 1) := dk_148 (c := cX8_worldCounts) (pc := 66) (dk_at bnames02cX8_worldCounts_48 18)
theorem dX8_worldCounts_67 : decode cX8_worldCounts 67 = .ok (.ifCond .le 5, 3) := dk_158 (c := cX8_worldCounts) (pc := 67) (a := 0) (b := 5) (dk_at bnames02cX8_worldCounts_48 19) (by decide)
theorem dX8_worldCounts_70 : decode cX8_worldCounts 70 = .ok (.iconst 0, 1) := dk_3 (c := cX8_worldCounts) (pc := 70) (dk_at bnames02cX8_worldCounts_48 22)
theorem dX8_worldCounts_71 : decode cX8_worldCounts 71 = .ok (.ireturn, 1) := dk_172 (c := cX8_worldCounts) (pc := 71) (dk_at bnames02cX8_worldCounts_48 23)
theorem dX8_worldCounts_72 : decode cX8_worldCounts 72 = .ok (.iload_n 3, 1) := dk_29 (c := cX8_worldCounts) (pc := 72) (dk_at bnames02cX8_worldCounts_48 24)
theorem dX8_worldCounts_73 : decode cX8_worldCounts 73 = .ok (.ifCond .ne 26, 3) := dk_154 (c := cX8_worldCounts) (pc := 73) (a := 0) (b := 26) (dk_at bnames02cX8_worldCounts_48 25) (by decide)
theorem dX8_worldCounts_76 : decode cX8_worldCounts 76 = .ok (.aload_n 1, 1) := dk_43 (c := cX8_worldCounts) (pc := 76) (dk_at bnames02cX8_worldCounts_48 28)
theorem dX8_worldCounts_77 : decode cX8_worldCounts 77 = .ok (.invokevirtual 284, 3) := dk_182 (c := cX8_worldCounts) (pc := 77) (a := 1) (b := 28) (dk_at bnames02cX8_worldCounts_48 29) rfl
theorem dX8_worldCounts_80 : decode cX8_worldCounts 80 = .ok (.ifCond .eq 17, 3) := dk_153 (c := cX8_worldCounts) (pc := 80) (a := 0) (b := 17) (dk_at bnames02cX8_worldCounts_48 32) (by decide)
theorem dX8_worldCounts_83 : decode cX8_worldCounts 83 = .ok (.aload_n 1, 1) := dk_43 (c := cX8_worldCounts) (pc := 83) (dk_at bnames02cX8_worldCounts_48 35)
theorem dX8_worldCounts_84 : decode cX8_worldCounts 84 = .ok (.lload 6, 2) := dk_22 (c := cX8_worldCounts) (pc := 84) (a := 6) (dk_at bnames02cX8_worldCounts_48 36) rfl
theorem dX8_worldCounts_86 : decode cX8_worldCounts 86 = .ok (.iload_n 2, 1) := dk_28 (c := cX8_worldCounts) (pc := 86) (dk_at bnames02cX8_worldCounts_48 38)
theorem dX8_worldCounts_87 : decode cX8_worldCounts 87 = .ok (.invokevirtual 296, 3) := dk_182 (c := cX8_worldCounts) (pc := 87) (a := 1) (b := 40) (dk_at bnames02cX8_worldCounts_48 39) rfl
theorem dX8_worldCounts_90 : decode cX8_worldCounts 90 = .ok (.ifCond .eq 7, 3) := dk_153 (c := cX8_worldCounts) (pc := 90) (a := 0) (b := 7) (dk_at bnames02cX8_worldCounts_48 42) (by decide)
theorem dX8_worldCounts_93 : decode cX8_worldCounts 93 = .ok (.iconst 1, 1) := dk_4 (c := cX8_worldCounts) (pc := 93) (dk_at bnames02cX8_worldCounts_48 45)
theorem dX8_worldCounts_94 : decode cX8_worldCounts 94 = .ok (.goto 4, 3) := dk_167 (c := cX8_worldCounts) (pc := 94) (a := 0) (b := 4) (dk_at bnames02cX8_worldCounts_48 46) (by decide)
theorem bnames02cX8_worldCounts_96 : ((dk_l cX8_worldCounts).drop 96).take 26 = [4, 3, 172, 43, 182, 1, 34, 153, 0, 17, 43, 22, 6, 28, 182, 1, 56, 153, 0, 7, 4, 167, 0, 4, 3, 172] := by decide +kernel
theorem dX8_worldCounts_97 : decode cX8_worldCounts 97 = .ok (.iconst 0, 1) := dk_3 (c := cX8_worldCounts) (pc := 97) (dk_at bnames02cX8_worldCounts_96 1)
theorem dX8_worldCounts_98 : decode cX8_worldCounts 98 = .ok (.ireturn, 1) := dk_172 (c := cX8_worldCounts) (pc := 98) (dk_at bnames02cX8_worldCounts_96 2)
theorem dX8_worldCounts_99 : decode cX8_worldCounts 99 = .ok (.aload_n 1, 1) := dk_43 (c := cX8_worldCounts) (pc := 99) (dk_at bnames02cX8_worldCounts_96 3)
theorem dX8_worldCounts_100 : decode cX8_worldCounts 100 = .ok (.invokevirtual 290, 3) := dk_182 (c := cX8_worldCounts) (pc := 100) (a := 1) (b := 34) (dk_at bnames02cX8_worldCounts_96 4) rfl
theorem dX8_worldCounts_103 : decode cX8_worldCounts 103 = .ok (.ifCond .eq 17, 3) := dk_153 (c := cX8_worldCounts) (pc := 103) (a := 0) (b := 17) (dk_at bnames02cX8_worldCounts_96 7) (by decide)
theorem dX8_worldCounts_106 : decode cX8_worldCounts 106 = .ok (.aload_n 1, 1) := dk_43 (c := cX8_worldCounts) (pc := 106) (dk_at bnames02cX8_worldCounts_96 10)
theorem dX8_worldCounts_107 : decode cX8_worldCounts 107 = .ok (.lload 6, 2) := dk_22 (c := cX8_worldCounts) (pc := 107) (a := 6) (dk_at bnames02cX8_worldCounts_96 11) rfl
theorem dX8_worldCounts_109 : decode cX8_worldCounts 109 = .ok (.iload_n 2, 1) := dk_28 (c := cX8_worldCounts) (pc := 109) (dk_at bnames02cX8_worldCounts_96 13)
theorem dX8_worldCounts_110 : decode cX8_worldCounts 110 = .ok (.invokevirtual 312, 3) := dk_182 (c := cX8_worldCounts) (pc := 110) (a := 1) (b := 56) (dk_at bnames02cX8_worldCounts_96 14) rfl
theorem dX8_worldCounts_113 : decode cX8_worldCounts 113 = .ok (.ifCond .eq 7, 3) := dk_153 (c := cX8_worldCounts) (pc := 113) (a := 0) (b := 7) (dk_at bnames02cX8_worldCounts_96 17) (by decide)
theorem dX8_worldCounts_116 : decode cX8_worldCounts 116 = .ok (.iconst 1, 1) := dk_4 (c := cX8_worldCounts) (pc := 116) (dk_at bnames02cX8_worldCounts_96 20)
theorem dX8_worldCounts_117 : decode cX8_worldCounts 117 = .ok (.goto 4, 3) := dk_167 (c := cX8_worldCounts) (pc := 117) (a := 0) (b := 4) (dk_at bnames02cX8_worldCounts_96 21) (by decide)
theorem dX8_worldCounts_120 : decode cX8_worldCounts 120 = .ok (.iconst 0, 1) := dk_3 (c := cX8_worldCounts) (pc := 120) (dk_at bnames02cX8_worldCounts_96 24)
theorem dX8_worldCounts_121 : decode cX8_worldCounts 121 = .ok (.ireturn, 1) := dk_172 (c := cX8_worldCounts) (pc := 121) (dk_at bnames02cX8_worldCounts_96 25)
set_option maxRecDepth 20000 in
theorem ggX8_only_X3_hasState : GoodIn wsX8_only wsX3_hasState := goodIn_r _ [8, 9, 43, 44, 45, 46, 47, 48, 49, 50, 51, 52, 53, 54, 55, 56, 57, 58] rfl (by decide +kernel)
set_option maxRecDepth 20000 in
theorem gX8_only_X3_hasState : GoodIn wsX8_only (wsV RX8 91 RX3 yX3_hasState wsX3_hasState) := goodIn_app (goodIn_r _ [4, 5, 6, 7] rfl (by decide +kernel)) ggX8_only_X3_hasState
set_option maxRecDepth 20000 in
theorem ggX8_only_X5_leave : GoodIn wsX8_only wsX5_leave := goodIn_r _ [14, 15, 16, 17, 18, 19, 20, 21, 22, 23, 24, 13, 25, 36, 37, 38, 39, 40, 41, 42] rfl (by decide +kernel)
set_option maxRecDepth 20000 in
theorem gX8_only_X5_leave : GoodIn wsX8_only (wsV RX8 357 RX5 yX5_leave wsX5_leave) := goodIn_app (goodIn_r _ [10, 11, 12, 13] rfl (by decide +kernel)) ggX8_only_X5_leave
theorem bnames02cX8_only_0 : ((dk_l cX8_only).drop 0).take 30 = [42, 180, 0, 19, 27, 182, 0, 91, 154, 0, 6, 16, 254, 172, 42, 180, 0, 29, 27, 182, 1, 101, 42, 180, 0, 29, 180, 0, 127, 172] := by decide +kernel
theorem dX8_only_0 : decode cX8_only 0 = .ok (.aload_n 0, 1) := dk_42 (c := cX8_only) (pc := 0) (dk_at bnames02cX8_only_0 0)
theorem dX8_only_1 : decode cX8_only 1 = .ok (.getfield 19, 3) := dk_180 (c := cX8_only) (pc := 1) (a := 0) (b := 19) (dk_at bnames02cX8_only_0 1) rfl
theorem dX8_only_4 : decode cX8_only 4 = .ok (.iload_n 1, 1) := dk_27 (c := cX8_only) (pc := 4) (dk_at bnames02cX8_only_0 4)
theorem dX8_only_5 : decode cX8_only 5 = .ok (.invokevirtual 91, 3) := dk_182 (c := cX8_only) (pc := 5) (a := 0) (b := 91) (dk_at bnames02cX8_only_0 5) rfl
theorem dX8_only_8 : decode cX8_only 8 = .ok (.ifCond .ne 6, 3) := dk_154 (c := cX8_only) (pc := 8) (a := 0) (b := 6) (dk_at bnames02cX8_only_0 8) (by decide)
theorem dX8_only_11 : decode cX8_only 11 = .ok (.bipush (-2), 2) := dk_16 (c := cX8_only) (pc := 11) (a := 254) (dk_at bnames02cX8_only_0 11) (by decide)
theorem dX8_only_13 : decode cX8_only 13 = .ok (.ireturn, 1) := dk_172 (c := cX8_only) (pc := 13) (dk_at bnames02cX8_only_0 13)
theorem dX8_only_14 : decode cX8_only 14 = .ok (.aload_n 0, 1) := dk_42 (c := cX8_only) (pc := 14) (dk_at bnames02cX8_only_0 14)
theorem dX8_only_15 : decode cX8_only 15 = .ok (.getfield 29, 3) := dk_180 (c := cX8_only) (pc := 15) (a := 0) (b := 29) (dk_at bnames02cX8_only_0 15) rfl
theorem dX8_only_18 : decode cX8_only 18 = .ok (.iload_n 1, 1) := dk_27 (c := cX8_only) (pc := 18) (dk_at bnames02cX8_only_0 18)
theorem dX8_only_19 : decode cX8_only 19 = .ok (.invokevirtual 357, 3) := dk_182 (c := cX8_only) (pc := 19) (a := 1) (b := 101) (dk_at bnames02cX8_only_0 19) rfl
theorem dX8_only_22 : decode cX8_only 22 = .ok (.aload_n 0, 1) := dk_42 (c := cX8_only) (pc := 22) (dk_at bnames02cX8_only_0 22)
theorem dX8_only_23 : decode cX8_only 23 = .ok (.getfield 29, 3) := dk_180 (c := cX8_only) (pc := 23) (a := 0) (b := 29) (dk_at bnames02cX8_only_0 23) rfl
theorem dX8_only_26 : decode cX8_only 26 = .ok (.getfield 127, 3) := dk_180 (c := cX8_only) (pc := 26) (a := 0) (b := 127) (dk_at bnames02cX8_only_0 26) rfl
theorem dX8_only_29 : decode cX8_only 29 = .ok (.ireturn, 1) := dk_172 (c := cX8_only) (pc := 29) (dk_at bnames02cX8_only_0 29)
set_option maxRecDepth 20000 in
theorem ggX8_judge_X8_isSlot : GoodIn wsX8_judge wsX8_isSlot := goodIn_r _ [10, 11, 12, 9, 13] rfl (by decide +kernel)
set_option maxRecDepth 20000 in
theorem gX8_judge_X8_isSlot : GoodIn wsX8_judge (va_wsS RX8 360 yX8_isSlot wsX8_isSlot) := goodIn_app (goodIn_r _ [7, 8, 9] rfl (by decide +kernel)) ggX8_judge_X8_isSlot
set_option maxRecDepth 20000 in
theorem ggX8_judge_X4_stands : GoodIn wsX8_judge wsX4_stands := goodIn_r _ [18, 19, 30, 31, 32] rfl (by decide +kernel)
set_option maxRecDepth 20000 in
theorem gX8_judge_X4_stands : GoodIn wsX8_judge (wsV RX8 363 RX4 yX4_stands wsX4_stands) := goodIn_app (goodIn_r _ [14, 15, 16, 17] rfl (by decide +kernel)) ggX8_judge_X4_stands
theorem bnames02cX8_judge_0 : ((dk_l cX8_judge).drop 0).take 52 = [27, 184, 1, 104, 154, 0, 6, 16, 254, 172, 42, 180, 0, 65, 27, 50, 77, 44, 182, 1, 107, 154, 0, 6, 16, 250, 172, 3, 62, 29, 44, 180, 1, 110, 162, 0, 40, 29, 42, 180, 0, 29, 180, 0, 127, 162, 0, 29, 44, 180, 1, 111] := by decide +kernel
theorem dX8_judge_0 : decode cX8_judge 0 = .ok (.iload_n 1, 1) := dk_27 (c := cX8_judge) (pc := 0) (dk_at bnames02cX8_judge_0 0)
theorem dX8_judge_1 : decode cX8_judge 1 = .ok (.invokestatic 360, 3) := dk_184 (c := cX8_judge) (pc := 1) (a := 1) (b := 104) (dk_at bnames02cX8_judge_0 1) rfl
theorem dX8_judge_4 : decode cX8_judge 4 = .ok (.ifCond .ne 6, 3) := dk_154 (c := cX8_judge) (pc := 4) (a := 0) (b := 6) (dk_at bnames02cX8_judge_0 4) (by decide)
theorem dX8_judge_7 : decode cX8_judge 7 = .ok (.bipush (-2), 2) := dk_16 (c := cX8_judge) (pc := 7) (a := 254) (dk_at bnames02cX8_judge_0 7) (by decide)
theorem dX8_judge_9 : decode cX8_judge 9 = .ok (.ireturn, 1) := dk_172 (c := cX8_judge) (pc := 9) (dk_at bnames02cX8_judge_0 9)
theorem dX8_judge_10 : decode cX8_judge 10 = .ok (.aload_n 0, 1) := dk_42 (c := cX8_judge) (pc := 10) (dk_at bnames02cX8_judge_0 10)
theorem dX8_judge_11 : decode cX8_judge 11 = .ok (.getfield 65, 3) := dk_180 (c := cX8_judge) (pc := 11) (a := 0) (b := 65) (dk_at bnames02cX8_judge_0 11) rfl
theorem dX8_judge_14 : decode cX8_judge 14 = .ok (.iload_n 1, 1) := dk_27 (c := cX8_judge) (pc := 14) (dk_at bnames02cX8_judge_0 14)
theorem dX8_judge_15 : decode cX8_judge 15 = .ok (.aaload, 1) := dk_50 (c := cX8_judge) (pc := 15) (dk_at bnames02cX8_judge_0 15)
theorem dX8_judge_16 : decode cX8_judge 16 = .ok (.astore_n 2, 1) := dk_77 (c := cX8_judge) (pc := 16) (dk_at bnames02cX8_judge_0 16)
theorem dX8_judge_17 : decode cX8_judge 17 = .ok (.aload_n 2, 1) := dk_44 (c := cX8_judge) (pc := 17) (dk_at bnames02cX8_judge_0 17)
theorem dX8_judge_18 : decode cX8_judge 18 = .ok (.invokevirtual 363, 3) := dk_182 (c := cX8_judge) (pc := 18) (a := 1) (b := 107) (dk_at bnames02cX8_judge_0 18) rfl
theorem dX8_judge_21 : decode cX8_judge 21 = .ok (.ifCond .ne 6, 3) := dk_154 (c := cX8_judge) (pc := 21) (a := 0) (b := 6) (dk_at bnames02cX8_judge_0 21) (by decide)
theorem dX8_judge_24 : decode cX8_judge 24 = .ok (.bipush (-6), 2) := dk_16 (c := cX8_judge) (pc := 24) (a := 250) (dk_at bnames02cX8_judge_0 24) (by decide)
theorem dX8_judge_26 : decode cX8_judge 26 = .ok (.ireturn, 1) := dk_172 (c := cX8_judge) (pc := 26) (dk_at bnames02cX8_judge_0 26)
theorem dX8_judge_27 : decode cX8_judge 27 = .ok (.iconst 0, 1) := dk_3 (c := cX8_judge) (pc := 27) (dk_at bnames02cX8_judge_0 27)
theorem dX8_judge_28 : decode cX8_judge 28 = .ok (.istore_n 3, 1) := dk_62 (c := cX8_judge) (pc := 28) (dk_at bnames02cX8_judge_0 28)
theorem dX8_judge_29 : decode cX8_judge 29 = .ok (.iload_n 3, 1) := dk_29 (c := cX8_judge) (pc := 29) (dk_at bnames02cX8_judge_0 29)
theorem dX8_judge_30 : decode cX8_judge 30 = .ok (.aload_n 2, 1) := dk_44 (c := cX8_judge) (pc := 30) (dk_at bnames02cX8_judge_0 30)
theorem dX8_judge_31 : decode cX8_judge 31 = .ok (.getfield 366, 3) := dk_180 (c := cX8_judge) (pc := 31) (a := 1) (b := 110) (dk_at bnames02cX8_judge_0 31) rfl
theorem dX8_judge_34 : decode cX8_judge 34 = .ok (.if_icmp .ge 40, 3) := dk_162 (c := cX8_judge) (pc := 34) (a := 0) (b := 40) (dk_at bnames02cX8_judge_0 34) (by decide)
theorem dX8_judge_37 : decode cX8_judge 37 = .ok (.iload_n 3, 1) := dk_29 (c := cX8_judge) (pc := 37) (dk_at bnames02cX8_judge_0 37)
theorem dX8_judge_38 : decode cX8_judge 38 = .ok (.aload_n 0, 1) := dk_42 (c := cX8_judge) (pc := 38) (dk_at bnames02cX8_judge_0 38)
theorem dX8_judge_39 : decode cX8_judge 39 = .ok (.getfield 29, 3) := dk_180 (c := cX8_judge) (pc := 39) (a := 0) (b := 29) (dk_at bnames02cX8_judge_0 39) rfl
theorem dX8_judge_42 : decode cX8_judge 42 = .ok (.getfield 127, 3) := dk_180 (c := cX8_judge) (pc := 42) (a := 0) (b := 127) (dk_at bnames02cX8_judge_0 42) rfl
theorem dX8_judge_45 : decode cX8_judge 45 = .ok (.if_icmp .ge 29, 3) := dk_162 (c := cX8_judge) (pc := 45) (a := 0) (b := 29) (dk_at bnames02cX8_judge_0 45) (by decide)
theorem bnames02cX8_judge_48 : ((dk_l cX8_judge).drop 48).take 28 = [44, 180, 1, 111, 29, 47, 42, 180, 0, 29, 180, 0, 198, 29, 46, 133, 148, 154, 0, 9, 132, 3, 1, 167, 255, 214, 29, 172] := by decide +kernel
theorem dX8_judge_48 : decode cX8_judge 48 = .ok (.aload_n 2, 1) := dk_44 (c := cX8_judge) (pc := 48) (dk_at bnames02cX8_judge_48 0)
theorem dX8_judge_49 : decode cX8_judge 49 = .ok (.getfield 367, 3) := dk_180 (c := cX8_judge) (pc := 49) (a := 1) (b := 111) (dk_at bnames02cX8_judge_48 1) rfl
theorem dX8_judge_52 : decode cX8_judge 52 = .ok (.iload_n 3, 1) := dk_29 (c := cX8_judge) (pc := 52) (dk_at bnames02cX8_judge_48 4)
theorem dX8_judge_53 : decode cX8_judge 53 = .ok (.laload, 1) := dk_47 (c := cX8_judge) (pc := 53) (dk_at bnames02cX8_judge_48 5)
theorem dX8_judge_54 : decode cX8_judge 54 = .ok (.aload_n 0, 1) := dk_42 (c := cX8_judge) (pc := 54) (dk_at bnames02cX8_judge_48 6)
theorem dX8_judge_55 : decode cX8_judge 55 = .ok (.getfield 29, 3) := dk_180 (c := cX8_judge) (pc := 55) (a := 0) (b := 29) (dk_at bnames02cX8_judge_48 7) rfl
theorem dX8_judge_58 : decode cX8_judge 58 = .ok (.getfield 198, 3) := dk_180 (c := cX8_judge) (pc := 58) (a := 0) (b := 198) (dk_at bnames02cX8_judge_48 10) rfl
theorem dX8_judge_61 : decode cX8_judge 61 = .ok (.iload_n 3, 1) := dk_29 (c := cX8_judge) (pc := 61) (dk_at bnames02cX8_judge_48 13)
theorem dX8_judge_62 : decode cX8_judge 62 = .ok (.iaload, 1) := dk_46 (c := cX8_judge) (pc := 62) (dk_at bnames02cX8_judge_48 14)
theorem dX8_judge_63 : decode cX8_judge 63 = .ok (.i2l, 1) := dk_133 (c := cX8_judge) (pc := 63) (dk_at bnames02cX8_judge_48 15)
theorem dX8_judge_64 : decode cX8_judge 64 = .ok (.lcmp, 1) := dk_148 (c := cX8_judge) (pc := 64) (dk_at bnames02cX8_judge_48 16)
theorem dX8_judge_65 : decode cX8_judge 65 = .ok (.ifCond .ne 9, 3) := dk_154 (c := cX8_judge) (pc := 65) (a := 0) (b := 9) (dk_at bnames02cX8_judge_48 17) (by decide)
theorem dX8_judge_68 : decode cX8_judge 68 = .ok (.iinc 3 1, 3) := dk_132 (c := cX8_judge) (pc := 68) (a := 3) (b := 1) (dk_at bnames02cX8_judge_48 20) rfl (by decide)
theorem dX8_judge_71 : decode cX8_judge 71 = .ok (.goto (-42), 3) := dk_167 (c := cX8_judge) (pc := 71) (a := 255) (b := 214) (dk_at bnames02cX8_judge_48 23) (by decide)
theorem dX8_judge_74 : decode cX8_judge 74 = .ok (.iload_n 3, 1) := dk_29 (c := cX8_judge) (pc := 74) (dk_at bnames02cX8_judge_48 26)
theorem dX8_judge_75 : decode cX8_judge 75 = .ok (.ireturn, 1) := dk_172 (c := cX8_judge) (pc := 75) (dk_at bnames02cX8_judge_48 27)
set_option maxRecDepth 20000 in
theorem ggX8_sheets_X8_isSlot : GoodIn wsX8_sheets wsX8_isSlot := goodIn_r _ [7, 8, 9, 6, 10] rfl (by decide +kernel)
set_option maxRecDepth 20000 in
theorem gX8_sheets_X8_isSlot : GoodIn wsX8_sheets (va_wsS RX8 360 yX8_isSlot wsX8_isSlot) := goodIn_app (goodIn_r _ [4, 5, 6] rfl (by decide +kernel)) ggX8_sheets_X8_isSlot
set_option maxRecDepth 20000 in
theorem ggX8_sheets_X4_stands : GoodIn wsX8_sheets wsX4_stands := goodIn_r _ [15, 16, 50, 51, 52] rfl (by decide +kernel)
set_option maxRecDepth 20000 in
theorem gX8_sheets_X4_stands : GoodIn wsX8_sheets (wsV RX8 363 RX4 yX4_stands wsX4_stands) := goodIn_app (goodIn_r _ [11, 12, 13, 14] rfl (by decide +kernel)) ggX8_sheets_X4_stands
set_option maxRecDepth 20000 in
theorem ggX8_sheets_X8_tellSheet : GoodIn wsX8_sheets wsX8_tellSheet := goodIn_r _ [20, 21, 22, 23, 24, 25, 26, 27, 28, 29, 30, 31, 32, 33, 34, 35, 36, 37, 38, 39, 40, 41, 42, 43, 44, 45, 46, 47, 48, 49, 53, 54, 55, 56, 57, 58, 59, 60, 61, 62, 63, 64, 65, 66, 67, 68, 69, 70, 71, 72, 73, 74, 75] rfl (by decide +kernel)
set_option maxRecDepth 20000 in
theorem gX8_sheets_X8_tellSheet : GoodIn wsX8_sheets (wsV RX8 179 RX8 yX8_tellSheet wsX8_tellSheet) := goodIn_app (goodIn_r _ [17, 18, 19, 6] rfl (by decide +kernel)) ggX8_sheets_X8_tellSheet
theorem bnames02cX8_sheets_0 : ((dk_l cX8_sheets).drop 0).take 52 = [27, 184, 1, 104, 154, 0, 6, 16, 254, 172, 42, 180, 0, 65, 27, 50, 77, 44, 182, 1, 107, 154, 0, 6, 16, 250, 172, 44, 180, 1, 111, 78, 3, 54, 4, 3, 54, 5, 21, 5, 7, 96, 44, 180, 1, 110, 163, 0, 44, 42, 45, 21] := by decide +kernel
theorem dX8_sheets_0 : decode cX8_sheets 0 = .ok (.iload_n 1, 1) := dk_27 (c := cX8_sheets) (pc := 0) (dk_at bnames02cX8_sheets_0 0)
theorem dX8_sheets_1 : decode cX8_sheets 1 = .ok (.invokestatic 360, 3) := dk_184 (c := cX8_sheets) (pc := 1) (a := 1) (b := 104) (dk_at bnames02cX8_sheets_0 1) rfl
theorem dX8_sheets_4 : decode cX8_sheets 4 = .ok (.ifCond .ne 6, 3) := dk_154 (c := cX8_sheets) (pc := 4) (a := 0) (b := 6) (dk_at bnames02cX8_sheets_0 4) (by decide)
theorem dX8_sheets_7 : decode cX8_sheets 7 = .ok (.bipush (-2), 2) := dk_16 (c := cX8_sheets) (pc := 7) (a := 254) (dk_at bnames02cX8_sheets_0 7) (by decide)
theorem dX8_sheets_9 : decode cX8_sheets 9 = .ok (.ireturn, 1) := dk_172 (c := cX8_sheets) (pc := 9) (dk_at bnames02cX8_sheets_0 9)
theorem dX8_sheets_10 : decode cX8_sheets 10 = .ok (.aload_n 0, 1) := dk_42 (c := cX8_sheets) (pc := 10) (dk_at bnames02cX8_sheets_0 10)
theorem dX8_sheets_11 : decode cX8_sheets 11 = .ok (.getfield 65, 3) := dk_180 (c := cX8_sheets) (pc := 11) (a := 0) (b := 65) (dk_at bnames02cX8_sheets_0 11) rfl
theorem dX8_sheets_14 : decode cX8_sheets 14 = .ok (.iload_n 1, 1) := dk_27 (c := cX8_sheets) (pc := 14) (dk_at bnames02cX8_sheets_0 14)
theorem dX8_sheets_15 : decode cX8_sheets 15 = .ok (.aaload, 1) := dk_50 (c := cX8_sheets) (pc := 15) (dk_at bnames02cX8_sheets_0 15)
theorem dX8_sheets_16 : decode cX8_sheets 16 = .ok (.astore_n 2, 1) := dk_77 (c := cX8_sheets) (pc := 16) (dk_at bnames02cX8_sheets_0 16)
theorem dX8_sheets_17 : decode cX8_sheets 17 = .ok (.aload_n 2, 1) := dk_44 (c := cX8_sheets) (pc := 17) (dk_at bnames02cX8_sheets_0 17)
theorem dX8_sheets_18 : decode cX8_sheets 18 = .ok (.invokevirtual 363, 3) := dk_182 (c := cX8_sheets) (pc := 18) (a := 1) (b := 107) (dk_at bnames02cX8_sheets_0 18) rfl
theorem dX8_sheets_21 : decode cX8_sheets 21 = .ok (.ifCond .ne 6, 3) := dk_154 (c := cX8_sheets) (pc := 21) (a := 0) (b := 6) (dk_at bnames02cX8_sheets_0 21) (by decide)
theorem dX8_sheets_24 : decode cX8_sheets 24 = .ok (.bipush (-6), 2) := dk_16 (c := cX8_sheets) (pc := 24) (a := 250) (dk_at bnames02cX8_sheets_0 24) (by decide)
theorem dX8_sheets_26 : decode cX8_sheets 26 = .ok (.ireturn, 1) := dk_172 (c := cX8_sheets) (pc := 26) (dk_at bnames02cX8_sheets_0 26)
theorem dX8_sheets_27 : decode cX8_sheets 27 = .ok (.aload_n 2, 1) := dk_44 (c := cX8_sheets) (pc := 27) (dk_at bnames02cX8_sheets_0 27)
theorem dX8_sheets_28 : decode cX8_sheets 28 = .ok (.getfield 367, 3) := dk_180 (c := cX8_sheets) (pc := 28) (a := 1) (b := 111) (dk_at bnames02cX8_sheets_0 28) rfl
theorem dX8_sheets_31 : decode cX8_sheets 31 = .ok (.astore_n 3, 1) := dk_78 (c := cX8_sheets) (pc := 31) (dk_at bnames02cX8_sheets_0 31)
theorem dX8_sheets_32 : decode cX8_sheets 32 = .ok (.iconst 0, 1) := dk_3 (c := cX8_sheets) (pc := 32) (dk_at bnames02cX8_sheets_0 32)
theorem dX8_sheets_33 : decode cX8_sheets 33 = .ok (.istore 4, 2) := dk_54 (c := cX8_sheets) (pc := 33) (a := 4) (dk_at bnames02cX8_sheets_0 33) rfl
theorem dX8_sheets_35 : decode cX8_sheets 35 = .ok (.iconst 0, 1) := dk_3 (c := cX8_sheets) (pc := 35) (dk_at bnames02cX8_sheets_0 35)
theorem dX8_sheets_36 : decode cX8_sheets 36 = .ok (.istore 5, 2) := dk_54 (c := cX8_sheets) (pc := 36) (a := 5) (dk_at bnames02cX8_sheets_0 36) rfl
theorem dX8_sheets_38 : decode cX8_sheets 38 = .ok (.iload 5, 2) := dk_21 (c := cX8_sheets) (pc := 38) (a := 5) (dk_at bnames02cX8_sheets_0 38) rfl
theorem dX8_sheets_40 : decode cX8_sheets 40 = .ok (.iconst 4, 1) := dk_7 (c := cX8_sheets) (pc := 40) (dk_at bnames02cX8_sheets_0 40)
theorem dX8_sheets_41 : decode cX8_sheets 41 = .ok (.iadd, 1) := dk_96 (c := cX8_sheets) (pc := 41) (dk_at bnames02cX8_sheets_0 41)
theorem dX8_sheets_42 : decode cX8_sheets 42 = .ok (.aload_n 2, 1) := dk_44 (c := cX8_sheets) (pc := 42) (dk_at bnames02cX8_sheets_0 42)
theorem dX8_sheets_43 : decode cX8_sheets 43 = .ok (.getfield 366, 3) := dk_180 (c := cX8_sheets) (pc := 43) (a := 1) (b := 110) (dk_at bnames02cX8_sheets_0 43) rfl
theorem dX8_sheets_46 : decode cX8_sheets 46 = .ok (.if_icmp .gt 44, 3) := dk_163 (c := cX8_sheets) (pc := 46) (a := 0) (b := 44) (dk_at bnames02cX8_sheets_0 46) (by decide)
theorem bnames02cX8_sheets_48 : ((dk_l cX8_sheets).drop 48).take 45 = [44, 42, 45, 21, 5, 47, 45, 21, 5, 4, 96, 47, 45, 21, 5, 5, 96, 47, 45, 21, 5, 6, 96, 47, 182, 0, 179, 156, 0, 6, 167, 0, 12, 132, 4, 1, 132, 5, 4, 167, 255, 207, 21, 4, 172] := by decide +kernel
theorem dX8_sheets_49 : decode cX8_sheets 49 = .ok (.aload_n 0, 1) := dk_42 (c := cX8_sheets) (pc := 49) (dk_at bnames02cX8_sheets_48 1)
theorem dX8_sheets_50 : decode cX8_sheets 50 = .ok (.aload_n 3, 1) := dk_45 (c := cX8_sheets) (pc := 50) (dk_at bnames02cX8_sheets_48 2)
theorem dX8_sheets_51 : decode cX8_sheets 51 = .ok (.iload 5, 2) := dk_21 (c := cX8_sheets) (pc := 51) (a := 5) (dk_at bnames02cX8_sheets_48 3) rfl
theorem dX8_sheets_53 : decode cX8_sheets 53 = .ok (.laload, 1) := dk_47 (c := cX8_sheets) (pc := 53) (dk_at bnames02cX8_sheets_48 5)
theorem dX8_sheets_54 : decode cX8_sheets 54 = .ok (.aload_n 3, 1) := dk_45 (c := cX8_sheets) (pc := 54) (dk_at bnames02cX8_sheets_48 6)
theorem dX8_sheets_55 : decode cX8_sheets 55 = .ok (.iload 5, 2) := dk_21 (c := cX8_sheets) (pc := 55) (a := 5) (dk_at bnames02cX8_sheets_48 7) rfl
theorem dX8_sheets_57 : decode cX8_sheets 57 = .ok (.iconst 1, 1) := dk_4 (c := cX8_sheets) (pc := 57) (dk_at bnames02cX8_sheets_48 9)
theorem dX8_sheets_58 : decode cX8_sheets 58 = .ok (.iadd, 1) := dk_96 (c := cX8_sheets) (pc := 58) (dk_at bnames02cX8_sheets_48 10)
theorem dX8_sheets_59 : decode cX8_sheets 59 = .ok (.laload, 1) := dk_47 (c := cX8_sheets) (pc := 59) (dk_at bnames02cX8_sheets_48 11)
theorem dX8_sheets_60 : decode cX8_sheets 60 = .ok (.aload_n 3, 1) := dk_45 (c := cX8_sheets) (pc := 60) (dk_at bnames02cX8_sheets_48 12)
theorem dX8_sheets_61 : decode cX8_sheets 61 = .ok (.iload 5, 2) := dk_21 (c := cX8_sheets) (pc := 61) (a := 5) (dk_at bnames02cX8_sheets_48 13) rfl
theorem dX8_sheets_63 : decode cX8_sheets 63 = .ok (.iconst 2, 1) := dk_5 (c := cX8_sheets) (pc := 63) (dk_at bnames02cX8_sheets_48 15)
theorem dX8_sheets_64 : decode cX8_sheets 64 = .ok (.iadd, 1) := dk_96 (c := cX8_sheets) (pc := 64) (dk_at bnames02cX8_sheets_48 16)
theorem dX8_sheets_65 : decode cX8_sheets 65 = .ok (.laload, 1) := dk_47 (c := cX8_sheets) (pc := 65) (dk_at bnames02cX8_sheets_48 17)
theorem dX8_sheets_66 : decode cX8_sheets 66 = .ok (.aload_n 3, 1) := dk_45 (c := cX8_sheets) (pc := 66) (dk_at bnames02cX8_sheets_48 18)
theorem dX8_sheets_67 : decode cX8_sheets 67 = .ok (.iload 5, 2) := dk_21 (c := cX8_sheets) (pc := 67) (a := 5) (dk_at bnames02cX8_sheets_48 19) rfl
theorem dX8_sheets_69 : decode cX8_sheets 69 = .ok (.iconst 3, 1) := dk_6 (c := cX8_sheets) (pc := 69) (dk_at bnames02cX8_sheets_48 21)
theorem dX8_sheets_70 : decode cX8_sheets 70 = .ok (.iadd, 1) := dk_96 (c := cX8_sheets) (pc := 70) (dk_at bnames02cX8_sheets_48 22)
theorem dX8_sheets_71 : decode cX8_sheets 71 = .ok (.laload, 1) := dk_47 (c := cX8_sheets) (pc := 71) (dk_at bnames02cX8_sheets_48 23)
theorem dX8_sheets_72 : decode cX8_sheets 72 = .ok (.invokevirtual 179, 3) := dk_182 (c := cX8_sheets) (pc := 72) (a := 0) (b := 179) (dk_at bnames02cX8_sheets_48 24) rfl
theorem dX8_sheets_75 : decode cX8_sheets 75 = .ok (.ifCond .ge 6, 3) := dk_156 (c := cX8_sheets) (pc := 75) (a := 0) (b := 6) (dk_at bnames02cX8_sheets_48 27) (by decide)
theorem dX8_sheets_78 : decode cX8_sheets 78 = .ok (.goto 12, 3) := dk_167 (c := cX8_sheets) (pc := 78) (a := 0) (b := 12) (dk_at bnames02cX8_sheets_48 30) (by decide)
theorem dX8_sheets_81 : decode cX8_sheets 81 = .ok (.iinc 4 1, 3) := dk_132 (c := cX8_sheets) (pc := 81) (a := 4) (b := 1) (dk_at bnames02cX8_sheets_48 33) rfl (by decide)
theorem dX8_sheets_84 : decode cX8_sheets 84 = .ok (.iinc 5 4, 3) := dk_132 (c := cX8_sheets) (pc := 84) (a := 5) (b := 4) (dk_at bnames02cX8_sheets_48 36) rfl (by decide)
theorem dX8_sheets_87 : decode cX8_sheets 87 = .ok (.goto (-49), 3) := dk_167 (c := cX8_sheets) (pc := 87) (a := 255) (b := 207) (dk_at bnames02cX8_sheets_48 39) (by decide)
theorem dX8_sheets_90 : decode cX8_sheets 90 = .ok (.iload 4, 2) := dk_21 (c := cX8_sheets) (pc := 90) (a := 4) (dk_at bnames02cX8_sheets_48 42) rfl
theorem dX8_sheets_92 : decode cX8_sheets 92 = .ok (.ireturn, 1) := dk_172 (c := cX8_sheets) (pc := 92) (dk_at bnames02cX8_sheets_48 44)
set_option maxRecDepth 20000 in
theorem ggX8_count_X8_slotsThatStand : GoodIn wsX8_count wsX8_slotsThatStand := goodIn_r _ [15, 16, 17, 18, 19, 20, 21, 22, 23, 24, 25, 26, 27, 28, 29, 30, 31, 32, 64, 65, 66] rfl (by decide +kernel)
set_option maxRecDepth 20000 in
theorem gX8_count_X8_slotsThatStand : GoodIn wsX8_count (wsV RX8 377 RX8 yX8_slotsThatStand wsX8_slotsThatStand) := goodIn_app (goodIn_r _ [11, 12, 13, 14] rfl (by decide +kernel)) ggX8_count_X8_slotsThatStand
theorem bnames02cX8_count_0 : ((dk_l cX8_count).drop 0).take 52 = [27, 170, 0, 0, 0, 0, 0, 108, 0, 0, 0, 0, 0, 0, 0, 7, 0, 0, 0, 47, 0, 0, 0, 55, 0, 0, 0, 63, 0, 0, 0, 71, 0, 0, 0, 79, 0, 0, 0, 87, 0, 0, 0, 95, 0, 0, 0, 103, 42, 180, 0, 19] := by decide +kernel
theorem dX8_count_0 : decode cX8_count 0 = .ok (.iload_n 1, 1) := dk_27 (c := cX8_count) (pc := 0) (dk_at bnames02cX8_count_0 0)
theorem dX8_count_1 : decode cX8_count 1 = .ok (.tableswitch 108 0 7 #[47, 55, 63, 71, 79, 87, 95, 103], 47) := by decide +kernel
theorem bnames02cX8_count_48 : ((dk_l cX8_count).drop 48).take 52 = [42, 180, 0, 19, 180, 0, 134, 172, 42, 180, 0, 19, 180, 1, 115, 172, 42, 180, 0, 29, 180, 0, 127, 172, 42, 180, 0, 19, 180, 0, 85, 172, 42, 180, 0, 19, 180, 1, 118, 172, 42, 180, 0, 19, 180, 0, 154, 172, 42, 180, 0, 10] := by decide +kernel
theorem dX8_count_48 : decode cX8_count 48 = .ok (.aload_n 0, 1) := dk_42 (c := cX8_count) (pc := 48) (dk_at bnames02cX8_count_48 0)
theorem dX8_count_49 : decode cX8_count 49 = .ok (.getfield 19, 3) := dk_180 (c := cX8_count) (pc := 49) (a := 0) (b := 19) (dk_at bnames02cX8_count_48 1) rfl
theorem dX8_count_52 : decode cX8_count 52 = .ok (.getfield 134, 3) := dk_180 (c := cX8_count) (pc := 52) (a := 0) (b := 134) (dk_at bnames02cX8_count_48 4) rfl
theorem dX8_count_55 : decode cX8_count 55 = .ok (.ireturn, 1) := dk_172 (c := cX8_count) (pc := 55) (dk_at bnames02cX8_count_48 7)
theorem dX8_count_56 : decode cX8_count 56 = .ok (.aload_n 0, 1) := dk_42 (c := cX8_count) (pc := 56) (dk_at bnames02cX8_count_48 8)
theorem dX8_count_57 : decode cX8_count 57 = .ok (.getfield 19, 3) := dk_180 (c := cX8_count) (pc := 57) (a := 0) (b := 19) (dk_at bnames02cX8_count_48 9) rfl
theorem dX8_count_60 : decode cX8_count 60 = .ok (.getfield 371, 3) := dk_180 (c := cX8_count) (pc := 60) (a := 1) (b := 115) (dk_at bnames02cX8_count_48 12) rfl
theorem dX8_count_63 : decode cX8_count 63 = .ok (.ireturn, 1) := dk_172 (c := cX8_count) (pc := 63) (dk_at bnames02cX8_count_48 15)
theorem dX8_count_64 : decode cX8_count 64 = .ok (.aload_n 0, 1) := dk_42 (c := cX8_count) (pc := 64) (dk_at bnames02cX8_count_48 16)
theorem dX8_count_65 : decode cX8_count 65 = .ok (.getfield 29, 3) := dk_180 (c := cX8_count) (pc := 65) (a := 0) (b := 29) (dk_at bnames02cX8_count_48 17) rfl
theorem dX8_count_68 : decode cX8_count 68 = .ok (.getfield 127, 3) := dk_180 (c := cX8_count) (pc := 68) (a := 0) (b := 127) (dk_at bnames02cX8_count_48 20) rfl
theorem dX8_count_71 : decode cX8_count 71 = .ok (.ireturn, 1) := dk_172 (c := cX8_count) (pc := 71) (dk_at bnames02cX8_count_48 23)
theorem dX8_count_72 : decode cX8_count 72 = .ok (.aload_n 0, 1) := dk_42 (c := cX8_count) (pc := 72) (dk_at bnames02cX8_count_48 24)
theorem dX8_count_73 : decode cX8_count 73 = .ok (.getfield 19, 3) := dk_180 (c := cX8_count) (pc := 73) (a := 0) (b := 19) (dk_at bnames02cX8_count_48 25) rfl
theorem dX8_count_76 : decode cX8_count 76 = .ok (.getfield 85, 3) := dk_180 (c := cX8_count) (pc := 76) (a := 0) (b := 85) (dk_at bnames02cX8_count_48 28) rfl
theorem dX8_count_79 : decode cX8_count 79 = .ok (.ireturn, 1) := dk_172 (c := cX8_count) (pc := 79) (dk_at bnames02cX8_count_48 31)
theorem dX8_count_80 : decode cX8_count 80 = .ok (.aload_n 0, 1) := dk_42 (c := cX8_count) (pc := 80) (dk_at bnames02cX8_count_48 32)
theorem dX8_count_81 : decode cX8_count 81 = .ok (.getfield 19, 3) := dk_180 (c := cX8_count) (pc := 81) (a := 0) (b := 19) (dk_at bnames02cX8_count_48 33) rfl
theorem dX8_count_84 : decode cX8_count 84 = .ok (.getfield 374, 3) := dk_180 (c := cX8_count) (pc := 84) (a := 1) (b := 118) (dk_at bnames02cX8_count_48 36) rfl
theorem dX8_count_87 : decode cX8_count 87 = .ok (.ireturn, 1) := dk_172 (c := cX8_count) (pc := 87) (dk_at bnames02cX8_count_48 39)
theorem dX8_count_88 : decode cX8_count 88 = .ok (.aload_n 0, 1) := dk_42 (c := cX8_count) (pc := 88) (dk_at bnames02cX8_count_48 40)
theorem dX8_count_89 : decode cX8_count 89 = .ok (.getfield 19, 3) := dk_180 (c := cX8_count) (pc := 89) (a := 0) (b := 19) (dk_at bnames02cX8_count_48 41) rfl
theorem dX8_count_92 : decode cX8_count 92 = .ok (.getfield 154, 3) := dk_180 (c := cX8_count) (pc := 92) (a := 0) (b := 154) (dk_at bnames02cX8_count_48 44) rfl
theorem dX8_count_95 : decode cX8_count 95 = .ok (.ireturn, 1) := dk_172 (c := cX8_count) (pc := 95) (dk_at bnames02cX8_count_48 47)
theorem bnames02cX8_count_96 : ((dk_l cX8_count).drop 96).take 15 = [42, 180, 0, 10, 180, 0, 70, 172, 42, 182, 1, 121, 172, 2, 172] := by decide +kernel
theorem dX8_count_96 : decode cX8_count 96 = .ok (.aload_n 0, 1) := dk_42 (c := cX8_count) (pc := 96) (dk_at bnames02cX8_count_96 0)
theorem dX8_count_97 : decode cX8_count 97 = .ok (.getfield 10, 3) := dk_180 (c := cX8_count) (pc := 97) (a := 0) (b := 10) (dk_at bnames02cX8_count_96 1) rfl
theorem dX8_count_100 : decode cX8_count 100 = .ok (.getfield 70, 3) := dk_180 (c := cX8_count) (pc := 100) (a := 0) (b := 70) (dk_at bnames02cX8_count_96 4) rfl
theorem dX8_count_103 : decode cX8_count 103 = .ok (.ireturn, 1) := dk_172 (c := cX8_count) (pc := 103) (dk_at bnames02cX8_count_96 7)
theorem dX8_count_104 : decode cX8_count 104 = .ok (.aload_n 0, 1) := dk_42 (c := cX8_count) (pc := 104) (dk_at bnames02cX8_count_96 8)
theorem dX8_count_105 : decode cX8_count 105 = .ok (.invokevirtual 377, 3) := dk_182 (c := cX8_count) (pc := 105) (a := 1) (b := 121) (dk_at bnames02cX8_count_96 9) rfl
theorem dX8_count_108 : decode cX8_count 108 = .ok (.ireturn, 1) := dk_172 (c := cX8_count) (pc := 108) (dk_at bnames02cX8_count_96 12)
theorem dX8_count_109 : decode cX8_count 109 = .ok (.iconst (-1), 1) := dk_2 (c := cX8_count) (pc := 109) (dk_at bnames02cX8_count_96 13)
theorem dX8_count_110 : decode cX8_count 110 = .ok (.ireturn, 1) := dk_172 (c := cX8_count) (pc := 110) (dk_at bnames02cX8_count_96 14)
set_option maxRecDepth 20000 in
theorem ggX8_slotsThatStand_X4_stands : GoodIn wsX8_slotsThatStand wsX4_stands := goodIn_r _ [6, 7, 18, 19, 20] rfl (by decide +kernel)
set_option maxRecDepth 20000 in
theorem gX8_slotsThatStand_X4_stands : GoodIn wsX8_slotsThatStand (wsV RX8 363 RX4 yX4_stands wsX4_stands) := goodIn_app (goodIn_r _ [2, 3, 4, 5] rfl (by decide +kernel)) ggX8_slotsThatStand_X4_stands
theorem bnames02cX8_slotsThatStand_0 : ((dk_l cX8_slotsThatStand).drop 0).take 32 = [3, 60, 3, 61, 28, 7, 162, 0, 24, 42, 180, 0, 65, 28, 50, 182, 1, 107, 153, 0, 6, 132, 1, 1, 132, 2, 1, 167, 255, 233, 27, 172] := by decide +kernel
theorem dX8_slotsThatStand_0 : decode cX8_slotsThatStand 0 = .ok (.iconst 0, 1) := dk_3 (c := cX8_slotsThatStand) (pc := 0) (dk_at bnames02cX8_slotsThatStand_0 0)
theorem dX8_slotsThatStand_1 : decode cX8_slotsThatStand 1 = .ok (.istore_n 1, 1) := dk_60 (c := cX8_slotsThatStand) (pc := 1) (dk_at bnames02cX8_slotsThatStand_0 1)
theorem dX8_slotsThatStand_2 : decode cX8_slotsThatStand 2 = .ok (.iconst 0, 1) := dk_3 (c := cX8_slotsThatStand) (pc := 2) (dk_at bnames02cX8_slotsThatStand_0 2)
theorem dX8_slotsThatStand_3 : decode cX8_slotsThatStand 3 = .ok (.istore_n 2, 1) := dk_61 (c := cX8_slotsThatStand) (pc := 3) (dk_at bnames02cX8_slotsThatStand_0 3)
theorem dX8_slotsThatStand_4 : decode cX8_slotsThatStand 4 = .ok (.iload_n 2, 1) := dk_28 (c := cX8_slotsThatStand) (pc := 4) (dk_at bnames02cX8_slotsThatStand_0 4)
theorem dX8_slotsThatStand_5 : decode cX8_slotsThatStand 5 = .ok (.iconst 4, 1) := dk_7 (c := cX8_slotsThatStand) (pc := 5) (dk_at bnames02cX8_slotsThatStand_0 5)
theorem dX8_slotsThatStand_6 : decode cX8_slotsThatStand 6 = .ok (.if_icmp .ge 24, 3) := dk_162 (c := cX8_slotsThatStand) (pc := 6) (a := 0) (b := 24) (dk_at bnames02cX8_slotsThatStand_0 6) (by decide)
theorem dX8_slotsThatStand_9 : decode cX8_slotsThatStand 9 = .ok (.aload_n 0, 1) := dk_42 (c := cX8_slotsThatStand) (pc := 9) (dk_at bnames02cX8_slotsThatStand_0 9)
theorem dX8_slotsThatStand_10 : decode cX8_slotsThatStand 10 = .ok (.getfield 65, 3) := dk_180 (c := cX8_slotsThatStand) (pc := 10) (a := 0) (b := 65) (dk_at bnames02cX8_slotsThatStand_0 10) rfl
theorem dX8_slotsThatStand_13 : decode cX8_slotsThatStand 13 = .ok (.iload_n 2, 1) := dk_28 (c := cX8_slotsThatStand) (pc := 13) (dk_at bnames02cX8_slotsThatStand_0 13)
theorem dX8_slotsThatStand_14 : decode cX8_slotsThatStand 14 = .ok (.aaload, 1) := dk_50 (c := cX8_slotsThatStand) (pc := 14) (dk_at bnames02cX8_slotsThatStand_0 14)
theorem dX8_slotsThatStand_15 : decode cX8_slotsThatStand 15 = .ok (.invokevirtual 363, 3) := dk_182 (c := cX8_slotsThatStand) (pc := 15) (a := 1) (b := 107) (dk_at bnames02cX8_slotsThatStand_0 15) rfl
theorem dX8_slotsThatStand_18 : decode cX8_slotsThatStand 18 = .ok (.ifCond .eq 6, 3) := dk_153 (c := cX8_slotsThatStand) (pc := 18) (a := 0) (b := 6) (dk_at bnames02cX8_slotsThatStand_0 18) (by decide)
theorem dX8_slotsThatStand_21 : decode cX8_slotsThatStand 21 = .ok (.iinc 1 1, 3) := dk_132 (c := cX8_slotsThatStand) (pc := 21) (a := 1) (b := 1) (dk_at bnames02cX8_slotsThatStand_0 21) rfl (by decide)
theorem dX8_slotsThatStand_24 : decode cX8_slotsThatStand 24 = .ok (.iinc 2 1, 3) := dk_132 (c := cX8_slotsThatStand) (pc := 24) (a := 2) (b := 1) (dk_at bnames02cX8_slotsThatStand_0 24) rfl (by decide)
theorem dX8_slotsThatStand_27 : decode cX8_slotsThatStand 27 = .ok (.goto (-23), 3) := dk_167 (c := cX8_slotsThatStand) (pc := 27) (a := 255) (b := 233) (dk_at bnames02cX8_slotsThatStand_0 27) (by decide)
theorem dX8_slotsThatStand_30 : decode cX8_slotsThatStand 30 = .ok (.iload_n 1, 1) := dk_27 (c := cX8_slotsThatStand) (pc := 30) (dk_at bnames02cX8_slotsThatStand_0 30)
theorem dX8_slotsThatStand_31 : decode cX8_slotsThatStand 31 = .ok (.ireturn, 1) := dk_172 (c := cX8_slotsThatStand) (pc := 31) (dk_at bnames02cX8_slotsThatStand_0 31)
set_option maxRecDepth 20000 in
theorem ggX8_row_X8_isSlot : GoodIn wsX8_row wsX8_isSlot := goodIn_r _ [5, 6, 7, 4, 8] rfl (by decide +kernel)
set_option maxRecDepth 20000 in
theorem gX8_row_X8_isSlot : GoodIn wsX8_row (va_wsS RX8 360 yX8_isSlot wsX8_isSlot) := goodIn_app (goodIn_r _ [2, 3, 4] rfl (by decide +kernel)) ggX8_row_X8_isSlot
set_option maxRecDepth 20000 in
theorem ggX8_row_X8_within : GoodIn wsX8_row wsX8_within := goodIn_r _ [8] rfl (by decide +kernel)
set_option maxRecDepth 20000 in
theorem gX8_row_X8_within : GoodIn wsX8_row (va_wsS RX8 105 yX8_within wsX8_within) := goodIn_app (goodIn_r _ [6, 7, 4] rfl (by decide +kernel)) ggX8_row_X8_within
set_option maxRecDepth 20000 in
theorem ggX8_row_X4_make : GoodIn wsX8_row wsX4_make := goodIn_r _ [13, 14, 15, 16, 17, 18, 19, 20, 31, 32, 33] rfl (by decide +kernel)
set_option maxRecDepth 20000 in
theorem gX8_row_X4_make : GoodIn wsX8_row (wsV RX8 392 RX4 yX4_make wsX4_make) := goodIn_app (goodIn_r _ [9, 10, 11, 12] rfl (by decide +kernel)) ggX8_row_X4_make
theorem bnames02cX8_row_0 : ((dk_l cX8_row).drop 0).take 45 = [27, 184, 1, 104, 153, 0, 18, 28, 3, 6, 184, 0, 105, 153, 0, 9, 29, 16, 60, 164, 0, 6, 16, 254, 172, 29, 156, 0, 6, 16, 253, 172, 42, 180, 0, 65, 27, 50, 28, 29, 182, 1, 136, 3, 172] := by decide +kernel
theorem dX8_row_0 : decode cX8_row 0 = .ok (.iload_n 1, 1) := dk_27 (c := cX8_row) (pc := 0) (dk_at bnames02cX8_row_0 0)
theorem dX8_row_1 : decode cX8_row 1 = .ok (.invokestatic 360, 3) := dk_184 (c := cX8_row) (pc := 1) (a := 1) (b := 104) (dk_at bnames02cX8_row_0 1) rfl
theorem dX8_row_4 : decode cX8_row 4 = .ok (.ifCond .eq 18, 3) := dk_153 (c := cX8_row) (pc := 4) (a := 0) (b := 18) (dk_at bnames02cX8_row_0 4) (by decide)
theorem dX8_row_7 : decode cX8_row 7 = .ok (.iload_n 2, 1) := dk_28 (c := cX8_row) (pc := 7) (dk_at bnames02cX8_row_0 7)
theorem dX8_row_8 : decode cX8_row 8 = .ok (.iconst 0, 1) := dk_3 (c := cX8_row) (pc := 8) (dk_at bnames02cX8_row_0 8)
theorem dX8_row_9 : decode cX8_row 9 = .ok (.iconst 3, 1) := dk_6 (c := cX8_row) (pc := 9) (dk_at bnames02cX8_row_0 9)
theorem dX8_row_10 : decode cX8_row 10 = .ok (.invokestatic 105, 3) := dk_184 (c := cX8_row) (pc := 10) (a := 0) (b := 105) (dk_at bnames02cX8_row_0 10) rfl
theorem dX8_row_13 : decode cX8_row 13 = .ok (.ifCond .eq 9, 3) := dk_153 (c := cX8_row) (pc := 13) (a := 0) (b := 9) (dk_at bnames02cX8_row_0 13) (by decide)
theorem dX8_row_16 : decode cX8_row 16 = .ok (.iload_n 3, 1) := dk_29 (c := cX8_row) (pc := 16) (dk_at bnames02cX8_row_0 16)
theorem dX8_row_17 : decode cX8_row 17 = .ok (.bipush 60, 2) := dk_16 (c := cX8_row) (pc := 17) (a := 60) (dk_at bnames02cX8_row_0 17) (by decide)
theorem dX8_row_19 : decode cX8_row 19 = .ok (.if_icmp .le 6, 3) := dk_164 (c := cX8_row) (pc := 19) (a := 0) (b := 6) (dk_at bnames02cX8_row_0 19) (by decide)
theorem dX8_row_22 : decode cX8_row 22 = .ok (.bipush (-2), 2) := dk_16 (c := cX8_row) (pc := 22) (a := 254) (dk_at bnames02cX8_row_0 22) (by decide)
theorem dX8_row_24 : decode cX8_row 24 = .ok (.ireturn, 1) := dk_172 (c := cX8_row) (pc := 24) (dk_at bnames02cX8_row_0 24)
theorem dX8_row_25 : decode cX8_row 25 = .ok (.iload_n 3, 1) := dk_29 (c := cX8_row) (pc := 25) (dk_at bnames02cX8_row_0 25)
theorem dX8_row_26 : decode cX8_row 26 = .ok (.ifCond .ge 6, 3) := dk_156 (c := cX8_row) (pc := 26) (a := 0) (b := 6) (dk_at bnames02cX8_row_0 26) (by decide)
theorem dX8_row_29 : decode cX8_row 29 = .ok (.bipush (-3), 2) := dk_16 (c := cX8_row) (pc := 29) (a := 253) (dk_at bnames02cX8_row_0 29) (by decide)
theorem dX8_row_31 : decode cX8_row 31 = .ok (.ireturn, 1) := dk_172 (c := cX8_row) (pc := 31) (dk_at bnames02cX8_row_0 31)
theorem dX8_row_32 : decode cX8_row 32 = .ok (.aload_n 0, 1) := dk_42 (c := cX8_row) (pc := 32) (dk_at bnames02cX8_row_0 32)
theorem dX8_row_33 : decode cX8_row 33 = .ok (.getfield 65, 3) := dk_180 (c := cX8_row) (pc := 33) (a := 0) (b := 65) (dk_at bnames02cX8_row_0 33) rfl
theorem dX8_row_36 : decode cX8_row 36 = .ok (.iload_n 1, 1) := dk_27 (c := cX8_row) (pc := 36) (dk_at bnames02cX8_row_0 36)
theorem dX8_row_37 : decode cX8_row 37 = .ok (.aaload, 1) := dk_50 (c := cX8_row) (pc := 37) (dk_at bnames02cX8_row_0 37)
theorem dX8_row_38 : decode cX8_row 38 = .ok (.iload_n 2, 1) := dk_28 (c := cX8_row) (pc := 38) (dk_at bnames02cX8_row_0 38)
theorem dX8_row_39 : decode cX8_row 39 = .ok (.iload_n 3, 1) := dk_29 (c := cX8_row) (pc := 39) (dk_at bnames02cX8_row_0 39)
theorem dX8_row_40 : decode cX8_row 40 = .ok (.invokevirtual 392, 3) := dk_182 (c := cX8_row) (pc := 40) (a := 1) (b := 136) (dk_at bnames02cX8_row_0 40) rfl
theorem dX8_row_43 : decode cX8_row 43 = .ok (.iconst 0, 1) := dk_3 (c := cX8_row) (pc := 43) (dk_at bnames02cX8_row_0 43)
theorem dX8_row_44 : decode cX8_row 44 = .ok (.ireturn, 1) := dk_172 (c := cX8_row) (pc := 44) (dk_at bnames02cX8_row_0 44)
set_option maxRecDepth 20000 in
theorem ggX8_write_X8_isSlot : GoodIn wsX8_write wsX8_isSlot := goodIn_r _ [8, 9, 10, 7, 11] rfl (by decide +kernel)
set_option maxRecDepth 20000 in
theorem gX8_write_X8_isSlot : GoodIn wsX8_write (va_wsS RX8 360 yX8_isSlot wsX8_isSlot) := goodIn_app (goodIn_r _ [5, 6, 7] rfl (by decide +kernel)) ggX8_write_X8_isSlot
set_option maxRecDepth 20000 in
theorem ggX8_write_X4_stands : GoodIn wsX8_write wsX4_stands := goodIn_r _ [16, 17, 31, 32, 33] rfl (by decide +kernel)
set_option maxRecDepth 20000 in
theorem gX8_write_X4_stands : GoodIn wsX8_write (wsV RX8 363 RX4 yX4_stands wsX4_stands) := goodIn_app (goodIn_r _ [12, 13, 14, 15] rfl (by decide +kernel)) ggX8_write_X4_stands
set_option maxRecDepth 20000 in
theorem ggX8_write_X8_cutToWidth : GoodIn wsX8_write wsX8_cutToWidth := goodIn_r _ [20] rfl (by decide +kernel)
set_option maxRecDepth 20000 in
theorem gX8_write_X8_cutToWidth : GoodIn wsX8_write (va_wsS RX8 399 yX8_cutToWidth wsX8_cutToWidth) := goodIn_app (goodIn_r _ [18, 19, 7] rfl (by decide +kernel)) ggX8_write_X8_cutToWidth
theorem bnames02cX8_write_0 : ((dk_l cX8_write).drop 0).take 52 = [27, 184, 1, 104, 154, 0, 6, 16, 254, 172, 42, 180, 0, 65, 27, 50, 58, 5, 25, 5, 182, 1, 107, 154, 0, 6, 16, 250, 172, 28, 155, 0, 12, 28, 25, 5, 180, 1, 110, 161, 0, 6, 16, 249, 172, 25, 5, 180, 1, 111, 28, 33] := by decide +kernel
theorem dX8_write_0 : decode cX8_write 0 = .ok (.iload_n 1, 1) := dk_27 (c := cX8_write) (pc := 0) (dk_at bnames02cX8_write_0 0)
theorem dX8_write_1 : decode cX8_write 1 = .ok (.invokestatic 360, 3) := dk_184 (c := cX8_write) (pc := 1) (a := 1) (b := 104) (dk_at bnames02cX8_write_0 1) rfl
theorem dX8_write_4 : decode cX8_write 4 = .ok (.ifCond .ne 6, 3) := dk_154 (c := cX8_write) (pc := 4) (a := 0) (b := 6) (dk_at bnames02cX8_write_0 4) (by decide)
theorem dX8_write_7 : decode cX8_write 7 = .ok (.bipush (-2), 2) := dk_16 (c := cX8_write) (pc := 7) (a := 254) (dk_at bnames02cX8_write_0 7) (by decide)
theorem dX8_write_9 : decode cX8_write 9 = .ok (.ireturn, 1) := dk_172 (c := cX8_write) (pc := 9) (dk_at bnames02cX8_write_0 9)
theorem dX8_write_10 : decode cX8_write 10 = .ok (.aload_n 0, 1) := dk_42 (c := cX8_write) (pc := 10) (dk_at bnames02cX8_write_0 10)
theorem dX8_write_11 : decode cX8_write 11 = .ok (.getfield 65, 3) := dk_180 (c := cX8_write) (pc := 11) (a := 0) (b := 65) (dk_at bnames02cX8_write_0 11) rfl
theorem dX8_write_14 : decode cX8_write 14 = .ok (.iload_n 1, 1) := dk_27 (c := cX8_write) (pc := 14) (dk_at bnames02cX8_write_0 14)
theorem dX8_write_15 : decode cX8_write 15 = .ok (.aaload, 1) := dk_50 (c := cX8_write) (pc := 15) (dk_at bnames02cX8_write_0 15)
theorem dX8_write_16 : decode cX8_write 16 = .ok (.astore 5, 2) := dk_58 (c := cX8_write) (pc := 16) (a := 5) (dk_at bnames02cX8_write_0 16) rfl
theorem dX8_write_18 : decode cX8_write 18 = .ok (.aload 5, 2) := dk_25 (c := cX8_write) (pc := 18) (a := 5) (dk_at bnames02cX8_write_0 18) rfl
theorem dX8_write_20 : decode cX8_write 20 = .ok (.invokevirtual 363, 3) := dk_182 (c := cX8_write) (pc := 20) (a := 1) (b := 107) (dk_at bnames02cX8_write_0 20) rfl
theorem dX8_write_23 : decode cX8_write 23 = .ok (.ifCond .ne 6, 3) := dk_154 (c := cX8_write) (pc := 23) (a := 0) (b := 6) (dk_at bnames02cX8_write_0 23) (by decide)
theorem dX8_write_26 : decode cX8_write 26 = .ok (.bipush (-6), 2) := dk_16 (c := cX8_write) (pc := 26) (a := 250) (dk_at bnames02cX8_write_0 26) (by decide)
theorem dX8_write_28 : decode cX8_write 28 = .ok (.ireturn, 1) := dk_172 (c := cX8_write) (pc := 28) (dk_at bnames02cX8_write_0 28)
theorem dX8_write_29 : decode cX8_write 29 = .ok (.iload_n 2, 1) := dk_28 (c := cX8_write) (pc := 29) (dk_at bnames02cX8_write_0 29)
theorem dX8_write_30 : decode cX8_write 30 = .ok (.ifCond .lt 12, 3) := dk_155 (c := cX8_write) (pc := 30) (a := 0) (b := 12) (dk_at bnames02cX8_write_0 30) (by decide)
theorem dX8_write_33 : decode cX8_write 33 = .ok (.iload_n 2, 1) := dk_28 (c := cX8_write) (pc := 33) (dk_at bnames02cX8_write_0 33)
theorem dX8_write_34 : decode cX8_write 34 = .ok (.aload 5, 2) := dk_25 (c := cX8_write) (pc := 34) (a := 5) (dk_at bnames02cX8_write_0 34) rfl
theorem dX8_write_36 : decode cX8_write 36 = .ok (.getfield 366, 3) := dk_180 (c := cX8_write) (pc := 36) (a := 1) (b := 110) (dk_at bnames02cX8_write_0 36) rfl
theorem dX8_write_39 : decode cX8_write 39 = .ok (.if_icmp .lt 6, 3) := dk_161 (c := cX8_write) (pc := 39) (a := 0) (b := 6) (dk_at bnames02cX8_write_0 39) (by decide)
theorem dX8_write_42 : decode cX8_write 42 = .ok (.bipush (-7), 2) := dk_16 (c := cX8_write) (pc := 42) (a := 249) (dk_at bnames02cX8_write_0 42) (by decide)
theorem dX8_write_44 : decode cX8_write 44 = .ok (.ireturn, 1) := dk_172 (c := cX8_write) (pc := 44) (dk_at bnames02cX8_write_0 44)
theorem dX8_write_45 : decode cX8_write 45 = .ok (.aload 5, 2) := dk_25 (c := cX8_write) (pc := 45) (a := 5) (dk_at bnames02cX8_write_0 45) rfl
theorem dX8_write_47 : decode cX8_write 47 = .ok (.getfield 367, 3) := dk_180 (c := cX8_write) (pc := 47) (a := 1) (b := 111) (dk_at bnames02cX8_write_0 47) rfl
theorem bnames02cX8_write_48 : ((dk_l cX8_write).drop 48).take 15 = [1, 111, 28, 33, 25, 5, 180, 1, 140, 184, 1, 143, 80, 3, 172] := by decide +kernel
theorem dX8_write_50 : decode cX8_write 50 = .ok (.iload_n 2, 1) := dk_28 (c := cX8_write) (pc := 50) (dk_at bnames02cX8_write_48 2)
theorem dX8_write_51 : decode cX8_write 51 = .ok (.lload_n 3, 1) := dk_33 (c := cX8_write) (pc := 51) (dk_at bnames02cX8_write_48 3)
theorem dX8_write_52 : decode cX8_write 52 = .ok (.aload 5, 2) := dk_25 (c := cX8_write) (pc := 52) (a := 5) (dk_at bnames02cX8_write_48 4) rfl
theorem dX8_write_54 : decode cX8_write 54 = .ok (.getfield 396, 3) := dk_180 (c := cX8_write) (pc := 54) (a := 1) (b := 140) (dk_at bnames02cX8_write_48 6) rfl
theorem dX8_write_57 : decode cX8_write 57 = .ok (.invokestatic 399, 3) := dk_184 (c := cX8_write) (pc := 57) (a := 1) (b := 143) (dk_at bnames02cX8_write_48 9) rfl
theorem dX8_write_60 : decode cX8_write 60 = .ok (.lastore, 1) := dk_80 (c := cX8_write) (pc := 60) (dk_at bnames02cX8_write_48 12)
theorem dX8_write_61 : decode cX8_write 61 = .ok (.iconst 0, 1) := dk_3 (c := cX8_write) (pc := 61) (dk_at bnames02cX8_write_48 13)
theorem dX8_write_62 : decode cX8_write 62 = .ok (.ireturn, 1) := dk_172 (c := cX8_write) (pc := 62) (dk_at bnames02cX8_write_48 14)
set_option maxRecDepth 20000 in
theorem ggX8_paste_X8_isSlot : GoodIn wsX8_paste wsX8_isSlot := goodIn_r _ [11, 12, 13, 10, 14] rfl (by decide +kernel)
set_option maxRecDepth 20000 in
theorem gX8_paste_X8_isSlot : GoodIn wsX8_paste (va_wsS RX8 360 yX8_isSlot wsX8_isSlot) := goodIn_app (goodIn_r _ [8, 9, 10] rfl (by decide +kernel)) ggX8_paste_X8_isSlot
set_option maxRecDepth 20000 in
theorem ggX8_paste_X4_stands : GoodIn wsX8_paste wsX4_stands := goodIn_r _ [19, 20, 36, 37, 38] rfl (by decide +kernel)
set_option maxRecDepth 20000 in
theorem gX8_paste_X4_stands : GoodIn wsX8_paste (wsV RX8 363 RX4 yX4_stands wsX4_stands) := goodIn_app (goodIn_r _ [15, 16, 17, 18] rfl (by decide +kernel)) ggX8_paste_X4_stands
set_option maxRecDepth 20000 in
theorem ggX8_paste_X4_holds : GoodIn wsX8_paste wsX4_holds := goodIn_r _ [24, 25, 36, 37, 38] rfl (by decide +kernel)
set_option maxRecDepth 20000 in
theorem gX8_paste_X4_holds : GoodIn wsX8_paste (wsV RX8 403 RX4 yX4_holds wsX4_holds) := goodIn_app (goodIn_r _ [21, 22, 23, 18] rfl (by decide +kernel)) ggX8_paste_X4_holds
theorem bnames02cX8_paste_0 : ((dk_l cX8_paste).drop 0).take 52 = [27, 184, 1, 104, 153, 0, 10, 29, 184, 1, 104, 154, 0, 6, 16, 254, 172, 42, 180, 0, 65, 27, 50, 58, 6, 42, 180, 0, 65, 29, 50, 58, 7, 25, 6, 182, 1, 107, 153, 0, 11, 25, 7, 182, 1, 107, 154, 0, 6, 16, 250, 172] := by decide +kernel
theorem dX8_paste_0 : decode cX8_paste 0 = .ok (.iload_n 1, 1) := dk_27 (c := cX8_paste) (pc := 0) (dk_at bnames02cX8_paste_0 0)
theorem dX8_paste_1 : decode cX8_paste 1 = .ok (.invokestatic 360, 3) := dk_184 (c := cX8_paste) (pc := 1) (a := 1) (b := 104) (dk_at bnames02cX8_paste_0 1) rfl
theorem dX8_paste_4 : decode cX8_paste 4 = .ok (.ifCond .eq 10, 3) := dk_153 (c := cX8_paste) (pc := 4) (a := 0) (b := 10) (dk_at bnames02cX8_paste_0 4) (by decide)
theorem dX8_paste_7 : decode cX8_paste 7 = .ok (.iload_n 3, 1) := dk_29 (c := cX8_paste) (pc := 7) (dk_at bnames02cX8_paste_0 7)
theorem dX8_paste_8 : decode cX8_paste 8 = .ok (.invokestatic 360, 3) := dk_184 (c := cX8_paste) (pc := 8) (a := 1) (b := 104) (dk_at bnames02cX8_paste_0 8) rfl
theorem dX8_paste_11 : decode cX8_paste 11 = .ok (.ifCond .ne 6, 3) := dk_154 (c := cX8_paste) (pc := 11) (a := 0) (b := 6) (dk_at bnames02cX8_paste_0 11) (by decide)
theorem dX8_paste_14 : decode cX8_paste 14 = .ok (.bipush (-2), 2) := dk_16 (c := cX8_paste) (pc := 14) (a := 254) (dk_at bnames02cX8_paste_0 14) (by decide)
theorem dX8_paste_16 : decode cX8_paste 16 = .ok (.ireturn, 1) := dk_172 (c := cX8_paste) (pc := 16) (dk_at bnames02cX8_paste_0 16)
theorem dX8_paste_17 : decode cX8_paste 17 = .ok (.aload_n 0, 1) := dk_42 (c := cX8_paste) (pc := 17) (dk_at bnames02cX8_paste_0 17)
theorem dX8_paste_18 : decode cX8_paste 18 = .ok (.getfield 65, 3) := dk_180 (c := cX8_paste) (pc := 18) (a := 0) (b := 65) (dk_at bnames02cX8_paste_0 18) rfl
theorem dX8_paste_21 : decode cX8_paste 21 = .ok (.iload_n 1, 1) := dk_27 (c := cX8_paste) (pc := 21) (dk_at bnames02cX8_paste_0 21)
theorem dX8_paste_22 : decode cX8_paste 22 = .ok (.aaload, 1) := dk_50 (c := cX8_paste) (pc := 22) (dk_at bnames02cX8_paste_0 22)
theorem dX8_paste_23 : decode cX8_paste 23 = .ok (.astore 6, 2) := dk_58 (c := cX8_paste) (pc := 23) (a := 6) (dk_at bnames02cX8_paste_0 23) rfl
theorem dX8_paste_25 : decode cX8_paste 25 = .ok (.aload_n 0, 1) := dk_42 (c := cX8_paste) (pc := 25) (dk_at bnames02cX8_paste_0 25)
theorem dX8_paste_26 : decode cX8_paste 26 = .ok (.getfield 65, 3) := dk_180 (c := cX8_paste) (pc := 26) (a := 0) (b := 65) (dk_at bnames02cX8_paste_0 26) rfl
theorem dX8_paste_29 : decode cX8_paste 29 = .ok (.iload_n 3, 1) := dk_29 (c := cX8_paste) (pc := 29) (dk_at bnames02cX8_paste_0 29)
theorem dX8_paste_30 : decode cX8_paste 30 = .ok (.aaload, 1) := dk_50 (c := cX8_paste) (pc := 30) (dk_at bnames02cX8_paste_0 30)
theorem dX8_paste_31 : decode cX8_paste 31 = .ok (.astore 7, 2) := dk_58 (c := cX8_paste) (pc := 31) (a := 7) (dk_at bnames02cX8_paste_0 31) rfl
theorem dX8_paste_33 : decode cX8_paste 33 = .ok (.aload 6, 2) := dk_25 (c := cX8_paste) (pc := 33) (a := 6) (dk_at bnames02cX8_paste_0 33) rfl
theorem dX8_paste_35 : decode cX8_paste 35 = .ok (.invokevirtual 363, 3) := dk_182 (c := cX8_paste) (pc := 35) (a := 1) (b := 107) (dk_at bnames02cX8_paste_0 35) rfl
theorem dX8_paste_38 : decode cX8_paste 38 = .ok (.ifCond .eq 11, 3) := dk_153 (c := cX8_paste) (pc := 38) (a := 0) (b := 11) (dk_at bnames02cX8_paste_0 38) (by decide)
theorem dX8_paste_41 : decode cX8_paste 41 = .ok (.aload 7, 2) := dk_25 (c := cX8_paste) (pc := 41) (a := 7) (dk_at bnames02cX8_paste_0 41) rfl
theorem dX8_paste_43 : decode cX8_paste 43 = .ok (.invokevirtual 363, 3) := dk_182 (c := cX8_paste) (pc := 43) (a := 1) (b := 107) (dk_at bnames02cX8_paste_0 43) rfl
theorem dX8_paste_46 : decode cX8_paste 46 = .ok (.ifCond .ne 6, 3) := dk_154 (c := cX8_paste) (pc := 46) (a := 0) (b := 6) (dk_at bnames02cX8_paste_0 46) (by decide)
theorem bnames02cX8_paste_48 : ((dk_l cX8_paste).drop 48).take 52 = [6, 16, 250, 172, 25, 6, 180, 1, 140, 25, 7, 180, 1, 140, 159, 0, 6, 16, 248, 172, 25, 6, 28, 21, 5, 182, 1, 147, 153, 0, 15, 25, 7, 21, 4, 21, 5, 182, 1, 147, 154, 0, 6, 16, 249, 172, 25, 6, 180, 1, 111, 28] := by decide +kernel
theorem dX8_paste_49 : decode cX8_paste 49 = .ok (.bipush (-6), 2) := dk_16 (c := cX8_paste) (pc := 49) (a := 250) (dk_at bnames02cX8_paste_48 1) (by decide)
theorem dX8_paste_51 : decode cX8_paste 51 = .ok (.ireturn, 1) := dk_172 (c := cX8_paste) (pc := 51) (dk_at bnames02cX8_paste_48 3)
theorem dX8_paste_52 : decode cX8_paste 52 = .ok (.aload 6, 2) := dk_25 (c := cX8_paste) (pc := 52) (a := 6) (dk_at bnames02cX8_paste_48 4) rfl
theorem dX8_paste_54 : decode cX8_paste 54 = .ok (.getfield 396, 3) := dk_180 (c := cX8_paste) (pc := 54) (a := 1) (b := 140) (dk_at bnames02cX8_paste_48 6) rfl
theorem dX8_paste_57 : decode cX8_paste 57 = .ok (.aload 7, 2) := dk_25 (c := cX8_paste) (pc := 57) (a := 7) (dk_at bnames02cX8_paste_48 9) rfl
theorem dX8_paste_59 : decode cX8_paste 59 = .ok (.getfield 396, 3) := dk_180 (c := cX8_paste) (pc := 59) (a := 1) (b := 140) (dk_at bnames02cX8_paste_48 11) rfl
theorem dX8_paste_62 : decode cX8_paste 62 = .ok (.if_icmp .eq 6, 3) := dk_159 (c := cX8_paste) (pc := 62) (a := 0) (b := 6) (dk_at bnames02cX8_paste_48 14) (by decide)
theorem dX8_paste_65 : decode cX8_paste 65 = .ok (.bipush (-8), 2) := dk_16 (c := cX8_paste) (pc := 65) (a := 248) (dk_at bnames02cX8_paste_48 17) (by decide)
theorem dX8_paste_67 : decode cX8_paste 67 = .ok (.ireturn, 1) := dk_172 (c := cX8_paste) (pc := 67) (dk_at bnames02cX8_paste_48 19)
theorem dX8_paste_68 : decode cX8_paste 68 = .ok (.aload 6, 2) := dk_25 (c := cX8_paste) (pc := 68) (a := 6) (dk_at bnames02cX8_paste_48 20) rfl
theorem dX8_paste_70 : decode cX8_paste 70 = .ok (.iload_n 2, 1) := dk_28 (c := cX8_paste) (pc := 70) (dk_at bnames02cX8_paste_48 22)
theorem dX8_paste_71 : decode cX8_paste 71 = .ok (.iload 5, 2) := dk_21 (c := cX8_paste) (pc := 71) (a := 5) (dk_at bnames02cX8_paste_48 23) rfl
theorem dX8_paste_73 : decode cX8_paste 73 = .ok (.invokevirtual 403, 3) := dk_182 (c := cX8_paste) (pc := 73) (a := 1) (b := 147) (dk_at bnames02cX8_paste_48 25) rfl
theorem dX8_paste_76 : decode cX8_paste 76 = .ok (.ifCond .eq 15, 3) := dk_153 (c := cX8_paste) (pc := 76) (a := 0) (b := 15) (dk_at bnames02cX8_paste_48 28) (by decide)
theorem dX8_paste_79 : decode cX8_paste 79 = .ok (.aload 7, 2) := dk_25 (c := cX8_paste) (pc := 79) (a := 7) (dk_at bnames02cX8_paste_48 31) rfl
theorem dX8_paste_81 : decode cX8_paste 81 = .ok (.iload 4, 2) := dk_21 (c := cX8_paste) (pc := 81) (a := 4) (dk_at bnames02cX8_paste_48 33) rfl
theorem dX8_paste_83 : decode cX8_paste 83 = .ok (.iload 5, 2) := dk_21 (c := cX8_paste) (pc := 83) (a := 5) (dk_at bnames02cX8_paste_48 35) rfl
theorem dX8_paste_85 : decode cX8_paste 85 = .ok (.invokevirtual 403, 3) := dk_182 (c := cX8_paste) (pc := 85) (a := 1) (b := 147) (dk_at bnames02cX8_paste_48 37) rfl
theorem dX8_paste_88 : decode cX8_paste 88 = .ok (.ifCond .ne 6, 3) := dk_154 (c := cX8_paste) (pc := 88) (a := 0) (b := 6) (dk_at bnames02cX8_paste_48 40) (by decide)
theorem dX8_paste_91 : decode cX8_paste 91 = .ok (.bipush (-7), 2) := dk_16 (c := cX8_paste) (pc := 91) (a := 249) (dk_at bnames02cX8_paste_48 43) (by decide)
theorem dX8_paste_93 : decode cX8_paste 93 = .ok (.ireturn, 1) := dk_172 (c := cX8_paste) (pc := 93) (dk_at bnames02cX8_paste_48 45)
theorem dX8_paste_94 : decode cX8_paste 94 = .ok (.aload 6, 2) := dk_25 (c := cX8_paste) (pc := 94) (a := 6) (dk_at bnames02cX8_paste_48 46) rfl
theorem bnames02cX8_paste_96 : ((dk_l cX8_paste).drop 96).take 18 = [180, 1, 111, 28, 25, 7, 180, 1, 111, 21, 4, 21, 5, 184, 1, 150, 3, 172] := by decide +kernel
theorem dX8_paste_96 : decode cX8_paste 96 = .ok (.getfield 367, 3) := dk_180 (c := cX8_paste) (pc := 96) (a := 1) (b := 111) (dk_at bnames02cX8_paste_96 0) rfl
theorem dX8_paste_99 : decode cX8_paste 99 = .ok (.iload_n 2, 1) := dk_28 (c := cX8_paste) (pc := 99) (dk_at bnames02cX8_paste_96 3)
theorem dX8_paste_100 : decode cX8_paste 100 = .ok (.aload 7, 2) := dk_25 (c := cX8_paste) (pc := 100) (a := 7) (dk_at bnames02cX8_paste_96 4) rfl
theorem dX8_paste_102 : decode cX8_paste 102 = .ok (.getfield 367, 3) := dk_180 (c := cX8_paste) (pc := 102) (a := 1) (b := 111) (dk_at bnames02cX8_paste_96 6) rfl
theorem dX8_paste_105 : decode cX8_paste 105 = .ok (.iload 4, 2) := dk_21 (c := cX8_paste) (pc := 105) (a := 4) (dk_at bnames02cX8_paste_96 9) rfl
theorem dX8_paste_107 : decode cX8_paste 107 = .ok (.iload 5, 2) := dk_21 (c := cX8_paste) (pc := 107) (a := 5) (dk_at bnames02cX8_paste_96 11) rfl
theorem dX8_paste_109 : decode cX8_paste 109 = .ok (.invokestatic 406, 3) := dk_184 (c := cX8_paste) (pc := 109) (a := 1) (b := 150) (dk_at bnames02cX8_paste_96 13) rfl
theorem dX8_paste_112 : decode cX8_paste 112 = .ok (.iconst 0, 1) := dk_3 (c := cX8_paste) (pc := 112) (dk_at bnames02cX8_paste_96 16)
theorem dX8_paste_113 : decode cX8_paste 113 = .ok (.ireturn, 1) := dk_172 (c := cX8_paste) (pc := 113) (dk_at bnames02cX8_paste_96 17)
theorem bnames02cX8_within_0 : ((dk_l cX8_within).drop 0).take 16 = [26, 27, 161, 0, 12, 26, 28, 163, 0, 7, 4, 167, 0, 4, 3, 172] := by decide +kernel
theorem dX8_within_0 : decode cX8_within 0 = .ok (.iload_n 0, 1) := dk_26 (c := cX8_within) (pc := 0) (dk_at bnames02cX8_within_0 0)
theorem dX8_within_1 : decode cX8_within 1 = .ok (.iload_n 1, 1) := dk_27 (c := cX8_within) (pc := 1) (dk_at bnames02cX8_within_0 1)
theorem dX8_within_2 : decode cX8_within 2 = .ok (.if_icmp .lt 12, 3) := dk_161 (c := cX8_within) (pc := 2) (a := 0) (b := 12) (dk_at bnames02cX8_within_0 2) (by decide)
theorem dX8_within_5 : decode cX8_within 5 = .ok (.iload_n 0, 1) := dk_26 (c := cX8_within) (pc := 5) (dk_at bnames02cX8_within_0 5)
theorem dX8_within_6 : decode cX8_within 6 = .ok (.iload_n 2, 1) := dk_28 (c := cX8_within) (pc := 6) (dk_at bnames02cX8_within_0 6)
theorem dX8_within_7 : decode cX8_within 7 = .ok (.if_icmp .gt 7, 3) := dk_163 (c := cX8_within) (pc := 7) (a := 0) (b := 7) (dk_at bnames02cX8_within_0 7) (by decide)
theorem dX8_within_10 : decode cX8_within 10 = .ok (.iconst 1, 1) := dk_4 (c := cX8_within) (pc := 10) (dk_at bnames02cX8_within_0 10)
theorem dX8_within_11 : decode cX8_within 11 = .ok (.goto 4, 3) := dk_167 (c := cX8_within) (pc := 11) (a := 0) (b := 4) (dk_at bnames02cX8_within_0 11) (by decide)
theorem dX8_within_14 : decode cX8_within 14 = .ok (.iconst 0, 1) := dk_3 (c := cX8_within) (pc := 14) (dk_at bnames02cX8_within_0 14)
theorem dX8_within_15 : decode cX8_within 15 = .ok (.ireturn, 1) := dk_172 (c := cX8_within) (pc := 15) (dk_at bnames02cX8_within_0 15)
set_option maxRecDepth 20000 in
theorem ggX8_isMonth_X8_within : GoodIn wsX8_isMonth wsX8_within := goodIn_r _ [4] rfl (by decide +kernel)
set_option maxRecDepth 20000 in
theorem gX8_isMonth_X8_within : GoodIn wsX8_isMonth (va_wsS RX8 105 yX8_within wsX8_within) := goodIn_app (goodIn_r _ [1, 2, 3] rfl (by decide +kernel)) ggX8_isMonth_X8_within
theorem bnames02cX8_isMonth_0 : ((dk_l cX8_isMonth).drop 0).take 8 = [26, 4, 16, 12, 184, 0, 105, 172] := by decide +kernel
theorem dX8_isMonth_0 : decode cX8_isMonth 0 = .ok (.iload_n 0, 1) := dk_26 (c := cX8_isMonth) (pc := 0) (dk_at bnames02cX8_isMonth_0 0)
theorem dX8_isMonth_1 : decode cX8_isMonth 1 = .ok (.iconst 1, 1) := dk_4 (c := cX8_isMonth) (pc := 1) (dk_at bnames02cX8_isMonth_0 1)
theorem dX8_isMonth_2 : decode cX8_isMonth 2 = .ok (.bipush 12, 2) := dk_16 (c := cX8_isMonth) (pc := 2) (a := 12) (dk_at bnames02cX8_isMonth_0 2) (by decide)
theorem dX8_isMonth_4 : decode cX8_isMonth 4 = .ok (.invokestatic 105, 3) := dk_184 (c := cX8_isMonth) (pc := 4) (a := 0) (b := 105) (dk_at bnames02cX8_isMonth_0 4) rfl
theorem dX8_isMonth_7 : decode cX8_isMonth 7 = .ok (.ireturn, 1) := dk_172 (c := cX8_isMonth) (pc := 7) (dk_at bnames02cX8_isMonth_0 7)
set_option maxRecDepth 20000 in
theorem ggX8_isSeed_X8_within : GoodIn wsX8_isSeed wsX8_within := goodIn_r _ [5] rfl (by decide +kernel)
set_option maxRecDepth 20000 in
theorem gX8_isSeed_X8_within : GoodIn wsX8_isSeed (va_wsS RX8 105 yX8_within wsX8_within) := goodIn_app (goodIn_r _ [2, 3, 4] rfl (by decide +kernel)) ggX8_isSeed_X8_within
theorem bnames02cX8_isSeed_0 : ((dk_l cX8_isSeed).drop 0).take 9 = [26, 3, 19, 1, 156, 184, 0, 105, 172] := by decide +kernel
theorem dX8_isSeed_0 : decode cX8_isSeed 0 = .ok (.iload_n 0, 1) := dk_26 (c := cX8_isSeed) (pc := 0) (dk_at bnames02cX8_isSeed_0 0)
theorem dX8_isSeed_1 : decode cX8_isSeed 1 = .ok (.iconst 0, 1) := dk_3 (c := cX8_isSeed) (pc := 1) (dk_at bnames02cX8_isSeed_0 1)
theorem dX8_isSeed_2 : decode cX8_isSeed 2 = .ok (.ldc_w 412, 3) := dk_19 (c := cX8_isSeed) (pc := 2) (a := 1) (b := 156) (dk_at bnames02cX8_isSeed_0 2) rfl
theorem dX8_isSeed_5 : decode cX8_isSeed 5 = .ok (.invokestatic 105, 3) := dk_184 (c := cX8_isSeed) (pc := 5) (a := 0) (b := 105) (dk_at bnames02cX8_isSeed_0 5) rfl
theorem dX8_isSeed_8 : decode cX8_isSeed 8 = .ok (.ireturn, 1) := dk_172 (c := cX8_isSeed) (pc := 8) (dk_at bnames02cX8_isSeed_0 8)
set_option maxRecDepth 20000 in
theorem ggX8_isPush_X8_within : GoodIn wsX8_isPush wsX8_within := goodIn_r _ [4] rfl (by decide +kernel)
set_option maxRecDepth 20000 in
theorem gX8_isPush_X8_within : GoodIn wsX8_isPush (va_wsS RX8 105 yX8_within wsX8_within) := goodIn_app (goodIn_r _ [1, 2, 3] rfl (by decide +kernel)) ggX8_isPush_X8_within
theorem bnames02cX8_isPush_0 : ((dk_l cX8_isPush).drop 0).take 9 = [26, 4, 17, 15, 254, 184, 0, 105, 172] := by decide +kernel
theorem dX8_isPush_0 : decode cX8_isPush 0 = .ok (.iload_n 0, 1) := dk_26 (c := cX8_isPush) (pc := 0) (dk_at bnames02cX8_isPush_0 0)
theorem dX8_isPush_1 : decode cX8_isPush 1 = .ok (.iconst 1, 1) := dk_4 (c := cX8_isPush) (pc := 1) (dk_at bnames02cX8_isPush_0 1)
theorem dX8_isPush_2 : decode cX8_isPush 2 = .ok (.sipush 4094, 3) := dk_17 (c := cX8_isPush) (pc := 2) (a := 15) (b := 254) (dk_at bnames02cX8_isPush_0 2) (by decide)
theorem dX8_isPush_5 : decode cX8_isPush 5 = .ok (.invokestatic 105, 3) := dk_184 (c := cX8_isPush) (pc := 5) (a := 0) (b := 105) (dk_at bnames02cX8_isPush_0 5) rfl
theorem dX8_isPush_8 : decode cX8_isPush 8 = .ok (.ireturn, 1) := dk_172 (c := cX8_isPush) (pc := 8) (dk_at bnames02cX8_isPush_0 8)
set_option maxRecDepth 20000 in
theorem ggX8_isSlot_X8_within : GoodIn wsX8_isSlot wsX8_within := goodIn_r _ [4] rfl (by decide +kernel)
set_option maxRecDepth 20000 in
theorem gX8_isSlot_X8_within : GoodIn wsX8_isSlot (va_wsS RX8 105 yX8_within wsX8_within) := goodIn_app (goodIn_r _ [1, 2, 3] rfl (by decide +kernel)) ggX8_isSlot_X8_within
theorem bnames02cX8_isSlot_0 : ((dk_l cX8_isSlot).drop 0).take 7 = [26, 3, 6, 184, 0, 105, 172] := by decide +kernel
theorem dX8_isSlot_0 : decode cX8_isSlot 0 = .ok (.iload_n 0, 1) := dk_26 (c := cX8_isSlot) (pc := 0) (dk_at bnames02cX8_isSlot_0 0)
theorem dX8_isSlot_1 : decode cX8_isSlot 1 = .ok (.iconst 0, 1) := dk_3 (c := cX8_isSlot) (pc := 1) (dk_at bnames02cX8_isSlot_0 1)
theorem dX8_isSlot_2 : decode cX8_isSlot 2 = .ok (.iconst 3, 1) := dk_6 (c := cX8_isSlot) (pc := 2) (dk_at bnames02cX8_isSlot_0 2)
theorem dX8_isSlot_3 : decode cX8_isSlot 3 = .ok (.invokestatic 105, 3) := dk_184 (c := cX8_isSlot) (pc := 3) (a := 0) (b := 105) (dk_at bnames02cX8_isSlot_0 3) rfl
theorem dX8_isSlot_6 : decode cX8_isSlot 6 = .ok (.ireturn, 1) := dk_172 (c := cX8_isSlot) (pc := 6) (dk_at bnames02cX8_isSlot_0 6)
theorem bnames02cX8_isMoved_0 : ((dk_l cX8_isMoved).drop 0).take 17 = [26, 27, 4, 100, 122, 4, 126, 4, 160, 0, 7, 4, 167, 0, 4, 3, 172] := by decide +kernel
theorem dX8_isMoved_0 : decode cX8_isMoved 0 = .ok (.iload_n 0, 1) := dk_26 (c := cX8_isMoved) (pc := 0) (dk_at bnames02cX8_isMoved_0 0)
theorem dX8_isMoved_1 : decode cX8_isMoved 1 = .ok (.iload_n 1, 1) := dk_27 (c := cX8_isMoved) (pc := 1) (dk_at bnames02cX8_isMoved_0 1)
theorem dX8_isMoved_2 : decode cX8_isMoved 2 = .ok (.iconst 1, 1) := dk_4 (c := cX8_isMoved) (pc := 2) (dk_at bnames02cX8_isMoved_0 2)
theorem dX8_isMoved_3 : decode cX8_isMoved 3 = .ok (.isub, 1) := dk_100 (c := cX8_isMoved) (pc := 3) (dk_at bnames02cX8_isMoved_0 3)
theorem dX8_isMoved_4 : decode cX8_isMoved 4 = .ok (.ishr, 1) := dk_122 (c := cX8_isMoved) (pc := 4) (dk_at bnames02cX8_isMoved_0 4)
theorem dX8_isMoved_5 : decode cX8_isMoved 5 = .ok (.iconst 1, 1) := dk_4 (c := cX8_isMoved) (pc := 5) (dk_at bnames02cX8_isMoved_0 5)
theorem dX8_isMoved_6 : decode cX8_isMoved 6 = .ok (.iand, 1) := dk_126 (c := cX8_isMoved) (pc := 6) (dk_at bnames02cX8_isMoved_0 6)
theorem dX8_isMoved_7 : decode cX8_isMoved 7 = .ok (.iconst 1, 1) := dk_4 (c := cX8_isMoved) (pc := 7) (dk_at bnames02cX8_isMoved_0 7)
theorem dX8_isMoved_8 : decode cX8_isMoved 8 = .ok (.if_icmp .ne 7, 3) := dk_160 (c := cX8_isMoved) (pc := 8) (a := 0) (b := 7) (dk_at bnames02cX8_isMoved_0 8) (by decide)
theorem dX8_isMoved_11 : decode cX8_isMoved 11 = .ok (.iconst 1, 1) := dk_4 (c := cX8_isMoved) (pc := 11) (dk_at bnames02cX8_isMoved_0 11)
theorem dX8_isMoved_12 : decode cX8_isMoved 12 = .ok (.goto 4, 3) := dk_167 (c := cX8_isMoved) (pc := 12) (a := 0) (b := 4) (dk_at bnames02cX8_isMoved_0 12) (by decide)
theorem dX8_isMoved_15 : decode cX8_isMoved 15 = .ok (.iconst 0, 1) := dk_3 (c := cX8_isMoved) (pc := 15) (dk_at bnames02cX8_isMoved_0 15)
theorem dX8_isMoved_16 : decode cX8_isMoved 16 = .ok (.ireturn, 1) := dk_172 (c := cX8_isMoved) (pc := 16) (dk_at bnames02cX8_isMoved_0 16)
theorem bnames02cX8_cutToWage_0 : ((dk_l cX8_cutToWage).drop 0).take 13 = [9, 20, 0, 187, 30, 184, 1, 157, 184, 1, 159, 136, 172] := by decide +kernel
theorem dX8_cutToWage_0 : decode cX8_cutToWage 0 = .ok (.lconst 0, 1) := dk_9 (c := cX8_cutToWage) (pc := 0) (dk_at bnames02cX8_cutToWage_0 0)
theorem dX8_cutToWage_1 : decode cX8_cutToWage 1 = .ok (.ldc2_w 187, 3) := dk_20 (c := cX8_cutToWage) (pc := 1) (a := 0) (b := 187) (dk_at bnames02cX8_cutToWage_0 1) rfl
theorem dX8_cutToWage_4 : decode cX8_cutToWage 4 = .ok (.lload_n 0, 1) := dk_30 (c := cX8_cutToWage) (pc := 4) (dk_at bnames02cX8_cutToWage_0 4)
theorem dX8_cutToWage_5 : decode cX8_cutToWage 5 = .ok (.invokestatic 413, 3) := dk_184 (c := cX8_cutToWage) (pc := 5) (a := 1) (b := 157) (dk_at bnames02cX8_cutToWage_0 5) rfl
theorem dX8_cutToWage_8 : decode cX8_cutToWage 8 = .ok (.invokestatic 415, 3) := dk_184 (c := cX8_cutToWage) (pc := 8) (a := 1) (b := 159) (dk_at bnames02cX8_cutToWage_0 8) rfl
theorem dX8_cutToWage_11 : decode cX8_cutToWage 11 = .ok (.l2i, 1) := dk_136 (c := cX8_cutToWage) (pc := 11) (dk_at bnames02cX8_cutToWage_0 11)
theorem dX8_cutToWage_12 : decode cX8_cutToWage 12 = .ok (.ireturn, 1) := dk_172 (c := cX8_cutToWage) (pc := 12) (dk_at bnames02cX8_cutToWage_0 12)
theorem bnames02cX8_cutToWidth_0 : ((dk_l cX8_cutToWidth).drop 0).take 44 = [28, 170, 0, 0, 0, 0, 0, 41, 0, 0, 0, 0, 0, 0, 0, 2, 0, 0, 0, 27, 0, 0, 0, 32, 0, 0, 0, 37, 30, 136, 145, 133, 173, 30, 136, 147, 133, 173, 30, 136, 133, 173, 30, 173] := by decide +kernel
theorem dX8_cutToWidth_0 : decode cX8_cutToWidth 0 = .ok (.iload_n 2, 1) := dk_28 (c := cX8_cutToWidth) (pc := 0) (dk_at bnames02cX8_cutToWidth_0 0)
theorem dX8_cutToWidth_1 : decode cX8_cutToWidth 1 = .ok (.tableswitch 41 0 2 #[27, 32, 37], 27) := by decide +kernel
theorem dX8_cutToWidth_28 : decode cX8_cutToWidth 28 = .ok (.lload_n 0, 1) := dk_30 (c := cX8_cutToWidth) (pc := 28) (dk_at bnames02cX8_cutToWidth_0 28)
theorem dX8_cutToWidth_29 : decode cX8_cutToWidth 29 = .ok (.l2i, 1) := dk_136 (c := cX8_cutToWidth) (pc := 29) (dk_at bnames02cX8_cutToWidth_0 29)
theorem dX8_cutToWidth_30 : decode cX8_cutToWidth 30 = .ok (.i2b, 1) := dk_145 (c := cX8_cutToWidth) (pc := 30) (dk_at bnames02cX8_cutToWidth_0 30)
theorem dX8_cutToWidth_31 : decode cX8_cutToWidth 31 = .ok (.i2l, 1) := dk_133 (c := cX8_cutToWidth) (pc := 31) (dk_at bnames02cX8_cutToWidth_0 31)
theorem dX8_cutToWidth_32 : decode cX8_cutToWidth 32 = .ok (.lreturn, 1) := dk_173 (c := cX8_cutToWidth) (pc := 32) (dk_at bnames02cX8_cutToWidth_0 32)
theorem dX8_cutToWidth_33 : decode cX8_cutToWidth 33 = .ok (.lload_n 0, 1) := dk_30 (c := cX8_cutToWidth) (pc := 33) (dk_at bnames02cX8_cutToWidth_0 33)
theorem dX8_cutToWidth_34 : decode cX8_cutToWidth 34 = .ok (.l2i, 1) := dk_136 (c := cX8_cutToWidth) (pc := 34) (dk_at bnames02cX8_cutToWidth_0 34)
theorem dX8_cutToWidth_35 : decode cX8_cutToWidth 35 = .ok (.i2s, 1) := dk_147 (c := cX8_cutToWidth) (pc := 35) (dk_at bnames02cX8_cutToWidth_0 35)
theorem dX8_cutToWidth_36 : decode cX8_cutToWidth 36 = .ok (.i2l, 1) := dk_133 (c := cX8_cutToWidth) (pc := 36) (dk_at bnames02cX8_cutToWidth_0 36)
theorem dX8_cutToWidth_37 : decode cX8_cutToWidth 37 = .ok (.lreturn, 1) := dk_173 (c := cX8_cutToWidth) (pc := 37) (dk_at bnames02cX8_cutToWidth_0 37)
theorem dX8_cutToWidth_38 : decode cX8_cutToWidth 38 = .ok (.lload_n 0, 1) := dk_30 (c := cX8_cutToWidth) (pc := 38) (dk_at bnames02cX8_cutToWidth_0 38)
theorem dX8_cutToWidth_39 : decode cX8_cutToWidth 39 = .ok (.l2i, 1) := dk_136 (c := cX8_cutToWidth) (pc := 39) (dk_at bnames02cX8_cutToWidth_0 39)
theorem dX8_cutToWidth_40 : decode cX8_cutToWidth 40 = .ok (.i2l, 1) := dk_133 (c := cX8_cutToWidth) (pc := 40) (dk_at bnames02cX8_cutToWidth_0 40)
theorem dX8_cutToWidth_41 : decode cX8_cutToWidth 41 = .ok (.lreturn, 1) := dk_173 (c := cX8_cutToWidth) (pc := 41) (dk_at bnames02cX8_cutToWidth_0 41)
theorem dX8_cutToWidth_42 : decode cX8_cutToWidth 42 = .ok (.lload_n 0, 1) := dk_30 (c := cX8_cutToWidth) (pc := 42) (dk_at bnames02cX8_cutToWidth_0 42)
theorem dX8_cutToWidth_43 : decode cX8_cutToWidth 43 = .ok (.lreturn, 1) := dk_173 (c := cX8_cutToWidth) (pc := 43) (dk_at bnames02cX8_cutToWidth_0 43)
theorem bnames02cX8_thousandths_0 : ((dk_l cX8_thousandths).drop 0).take 20 = [32, 9, 148, 154, 0, 9, 20, 1, 26, 167, 0, 10, 20, 1, 54, 30, 105, 32, 109, 173] := by decide +kernel
theorem dX8_thousandths_0 : decode cX8_thousandths 0 = .ok (.lload_n 2, 1) := dk_32 (c := cX8_thousandths) (pc := 0) (dk_at bnames02cX8_thousandths_0 0)
theorem dX8_thousandths_1 : decode cX8_thousandths 1 = .ok (.lconst 0, 1) := dk_9 (c := cX8_thousandths) (pc := 1) (dk_at bnames02cX8_thousandths_0 1)
theorem dX8_thousandths_2 : decode cX8_thousandths 2 = .ok (.lcmp, 1) := dk_148 (c := cX8_thousandths) (pc := 2) (dk_at bnames02cX8_thousandths_0 2)
theorem dX8_thousandths_3 : decode cX8_thousandths 3 = .ok (.ifCond .ne 9, 3) := dk_154 (c := cX8_thousandths) (pc := 3) (a := 0) (b := 9) (dk_at bnames02cX8_thousandths_0 3) (by decide)
theorem dX8_thousandths_6 : decode cX8_thousandths 6 = .ok (.ldc2_w 282, 3) := dk_20 (c := cX8_thousandths) (pc := 6) (a := 1) (b := 26) (dk_at bnames02cX8_thousandths_0 6) rfl
theorem dX8_thousandths_9 : decode cX8_thousandths 9 = .ok (.goto 10, 3) := dk_167 (c := cX8_thousandths) (pc := 9) (a := 0) (b := 10) (dk_at bnames02cX8_thousandths_0 9) (by decide)
theorem dX8_thousandths_12 : decode cX8_thousandths 12 = .ok (.ldc2_w 310, 3) := dk_20 (c := cX8_thousandths) (pc := 12) (a := 1) (b := 54) (dk_at bnames02cX8_thousandths_0 12) rfl
theorem dX8_thousandths_15 : decode cX8_thousandths 15 = .ok (.lload_n 0, 1) := dk_30 (c := cX8_thousandths) (pc := 15) (dk_at bnames02cX8_thousandths_0 15)
theorem dX8_thousandths_16 : decode cX8_thousandths 16 = .ok (.lmul, 1) := dk_105 (c := cX8_thousandths) (pc := 16) (dk_at bnames02cX8_thousandths_0 16)
theorem dX8_thousandths_17 : decode cX8_thousandths 17 = .ok (.lload_n 2, 1) := dk_32 (c := cX8_thousandths) (pc := 17) (dk_at bnames02cX8_thousandths_0 17)
theorem dX8_thousandths_18 : decode cX8_thousandths 18 = .ok (.ldiv, 1) := dk_109 (c := cX8_thousandths) (pc := 18) (dk_at bnames02cX8_thousandths_0 18)
theorem dX8_thousandths_19 : decode cX8_thousandths 19 = .ok (.lreturn, 1) := dk_173 (c := cX8_thousandths) (pc := 19) (dk_at bnames02cX8_thousandths_0 19)
theorem bnames02cX8_toFace_0 : ((dk_l cX8_toFace).drop 0).take 16 = [30, 20, 1, 26, 148, 154, 0, 9, 20, 1, 64, 167, 0, 4, 30, 173] := by decide +kernel
theorem dX8_toFace_0 : decode cX8_toFace 0 = .ok (.lload_n 0, 1) := dk_30 (c := cX8_toFace) (pc := 0) (dk_at bnames02cX8_toFace_0 0)
theorem dX8_toFace_1 : decode cX8_toFace 1 = .ok (.ldc2_w 282, 3) := dk_20 (c := cX8_toFace) (pc := 1) (a := 1) (b := 26) (dk_at bnames02cX8_toFace_0 1) rfl
theorem dX8_toFace_4 : decode cX8_toFace 4 = .ok (.lcmp, 1) := dk_148 (c := cX8_toFace) (pc := 4) (dk_at bnames02cX8_toFace_0 4)
theorem dX8_toFace_5 : decode cX8_toFace 5 = .ok (.ifCond .ne 9, 3) := dk_154 (c := cX8_toFace) (pc := 5) (a := 0) (b := 9) (dk_at bnames02cX8_toFace_0 5) (by decide)
theorem dX8_toFace_8 : decode cX8_toFace 8 = .ok (.ldc2_w 320, 3) := dk_20 (c := cX8_toFace) (pc := 8) (a := 1) (b := 64) (dk_at bnames02cX8_toFace_0 8) rfl
theorem dX8_toFace_11 : decode cX8_toFace 11 = .ok (.goto 4, 3) := dk_167 (c := cX8_toFace) (pc := 11) (a := 0) (b := 4) (dk_at bnames02cX8_toFace_0 11) (by decide)
theorem dX8_toFace_14 : decode cX8_toFace 14 = .ok (.lload_n 0, 1) := dk_30 (c := cX8_toFace) (pc := 14) (dk_at bnames02cX8_toFace_0 14)
theorem dX8_toFace_15 : decode cX8_toFace 15 = .ok (.lreturn, 1) := dk_173 (c := cX8_toFace) (pc := 15) (dk_at bnames02cX8_toFace_0 15)
set_option maxRecDepth 20000 in
theorem ggX8_isPlaced_X5_has : GoodIn wsX8_isPlaced wsX5_has := goodIn_r _ [7, 8, 25, 26, 27, 28, 29, 30, 31] rfl (by decide +kernel)
set_option maxRecDepth 20000 in
theorem gX8_isPlaced_X5_has : GoodIn wsX8_isPlaced (wsV RX8 189 RX5 yX5_has wsX5_has) := goodIn_app (goodIn_r _ [3, 4, 5, 6] rfl (by decide +kernel)) ggX8_isPlaced_X5_has
set_option maxRecDepth 20000 in
theorem ggX8_isPlaced_X3_hasState : GoodIn wsX8_isPlaced wsX3_hasState := goodIn_r _ [13, 14, 32, 33, 34, 35, 36, 37, 38, 39, 40, 41, 42, 43, 44, 45, 46, 47] rfl (by decide +kernel)
set_option maxRecDepth 20000 in
theorem gX8_isPlaced_X3_hasState : GoodIn wsX8_isPlaced (wsV RX8 91 RX3 yX3_hasState wsX3_hasState) := goodIn_app (goodIn_r _ [9, 10, 11, 12] rfl (by decide +kernel)) ggX8_isPlaced_X3_hasState
theorem bnames02cX8_isPlaced_0 : ((dk_l cX8_isPlaced).drop 0).take 30 = [43, 28, 182, 0, 189, 153, 0, 23, 42, 180, 0, 19, 43, 180, 0, 192, 28, 46, 182, 0, 91, 153, 0, 7, 4, 167, 0, 4, 3, 172] := by decide +kernel
theorem dX8_isPlaced_0 : decode cX8_isPlaced 0 = .ok (.aload_n 1, 1) := dk_43 (c := cX8_isPlaced) (pc := 0) (dk_at bnames02cX8_isPlaced_0 0)
theorem dX8_isPlaced_1 : decode cX8_isPlaced 1 = .ok (.iload_n 2, 1) := dk_28 (c := cX8_isPlaced) (pc := 1) (dk_at bnames02cX8_isPlaced_0 1)
theorem dX8_isPlaced_2 : decode cX8_isPlaced 2 = .ok (.invokevirtual 189, 3) := dk_182 (c := cX8_isPlaced) (pc := 2) (a := 0) (b := 189) (dk_at bnames02cX8_isPlaced_0 2) rfl
theorem dX8_isPlaced_5 : decode cX8_isPlaced 5 = .ok (.ifCond .eq 23, 3) := dk_153 (c := cX8_isPlaced) (pc := 5) (a := 0) (b := 23) (dk_at bnames02cX8_isPlaced_0 5) (by decide)
theorem dX8_isPlaced_8 : decode cX8_isPlaced 8 = .ok (.aload_n 0, 1) := dk_42 (c := cX8_isPlaced) (pc := 8) (dk_at bnames02cX8_isPlaced_0 8)
theorem dX8_isPlaced_9 : decode cX8_isPlaced 9 = .ok (.getfield 19, 3) := dk_180 (c := cX8_isPlaced) (pc := 9) (a := 0) (b := 19) (dk_at bnames02cX8_isPlaced_0 9) rfl
theorem dX8_isPlaced_12 : decode cX8_isPlaced 12 = .ok (.aload_n 1, 1) := dk_43 (c := cX8_isPlaced) (pc := 12) (dk_at bnames02cX8_isPlaced_0 12)
theorem dX8_isPlaced_13 : decode cX8_isPlaced 13 = .ok (.getfield 192, 3) := dk_180 (c := cX8_isPlaced) (pc := 13) (a := 0) (b := 192) (dk_at bnames02cX8_isPlaced_0 13) rfl
theorem dX8_isPlaced_16 : decode cX8_isPlaced 16 = .ok (.iload_n 2, 1) := dk_28 (c := cX8_isPlaced) (pc := 16) (dk_at bnames02cX8_isPlaced_0 16)
theorem dX8_isPlaced_17 : decode cX8_isPlaced 17 = .ok (.iaload, 1) := dk_46 (c := cX8_isPlaced) (pc := 17) (dk_at bnames02cX8_isPlaced_0 17)
theorem dX8_isPlaced_18 : decode cX8_isPlaced 18 = .ok (.invokevirtual 91, 3) := dk_182 (c := cX8_isPlaced) (pc := 18) (a := 0) (b := 91) (dk_at bnames02cX8_isPlaced_0 18) rfl
theorem dX8_isPlaced_21 : decode cX8_isPlaced 21 = .ok (.ifCond .eq 7, 3) := dk_153 (c := cX8_isPlaced) (pc := 21) (a := 0) (b := 7) (dk_at bnames02cX8_isPlaced_0 21) (by decide)
theorem dX8_isPlaced_24 : decode cX8_isPlaced 24 = .ok (.iconst 1, 1) := dk_4 (c := cX8_isPlaced) (pc := 24) (dk_at bnames02cX8_isPlaced_0 24)
theorem dX8_isPlaced_25 : decode cX8_isPlaced 25 = .ok (.goto 4, 3) := dk_167 (c := cX8_isPlaced) (pc := 25) (a := 0) (b := 4) (dk_at bnames02cX8_isPlaced_0 25) (by decide)
theorem dX8_isPlaced_28 : decode cX8_isPlaced 28 = .ok (.iconst 0, 1) := dk_3 (c := cX8_isPlaced) (pc := 28) (dk_at bnames02cX8_isPlaced_0 28)
theorem dX8_isPlaced_29 : decode cX8_isPlaced 29 = .ok (.ireturn, 1) := dk_172 (c := cX8_isPlaced) (pc := 29) (dk_at bnames02cX8_isPlaced_0 29)
set_option maxRecDepth 20000 in
theorem ggX8_isHeld_X8_isPlaced : GoodIn wsX8_isHeld wsX8_isPlaced := goodIn_r _ [9, 1, 2, 10, 11, 12, 13, 14, 15, 16, 17, 18, 19, 20, 21, 32, 33, 34, 35, 36, 37, 38, 39, 40, 41, 42, 43, 44, 45, 46, 47, 48, 49, 50, 51, 52, 53, 54, 55, 56, 57, 58, 59, 60, 61, 62, 63, 64] rfl (by decide +kernel)
set_option maxRecDepth 20000 in
theorem gX8_isHeld_X8_isPlaced : GoodIn wsX8_isHeld (wsV RX8 206 RX8 yX8_isPlaced wsX8_isPlaced) := goodIn_app (goodIn_r _ [5, 6, 7, 8] rfl (by decide +kernel)) ggX8_isHeld_X8_isPlaced
set_option maxRecDepth 20000 in
theorem ggX8_isHeld_X3_forcedAt : GoodIn wsX8_isHeld wsX3_forcedAt := goodIn_r _ [25, 26, 27, 28, 29, 19, 30, 31, 49, 50, 51, 52, 53, 54, 55, 56, 57, 58, 59, 60, 61, 62, 63, 64] rfl (by decide +kernel)
set_option maxRecDepth 20000 in
theorem gX8_isHeld_X3_forcedAt : GoodIn wsX8_isHeld (wsV RX8 98 RX3 yX3_forcedAt wsX3_forcedAt) := goodIn_app (goodIn_r _ [22, 23, 24, 19] rfl (by decide +kernel)) ggX8_isHeld_X3_forcedAt
theorem bnames02cX8_isHeld_0 : ((dk_l cX8_isHeld).drop 0).take 43 = [42, 43, 28, 182, 0, 206, 153, 0, 35, 42, 180, 0, 19, 43, 180, 0, 192, 28, 46, 43, 180, 0, 195, 28, 46, 182, 0, 98, 43, 180, 0, 205, 28, 46, 164, 0, 7, 4, 167, 0, 4, 3, 172] := by decide +kernel
theorem dX8_isHeld_0 : decode cX8_isHeld 0 = .ok (.aload_n 0, 1) := dk_42 (c := cX8_isHeld) (pc := 0) (dk_at bnames02cX8_isHeld_0 0)
theorem dX8_isHeld_1 : decode cX8_isHeld 1 = .ok (.aload_n 1, 1) := dk_43 (c := cX8_isHeld) (pc := 1) (dk_at bnames02cX8_isHeld_0 1)
theorem dX8_isHeld_2 : decode cX8_isHeld 2 = .ok (.iload_n 2, 1) := dk_28 (c := cX8_isHeld) (pc := 2) (dk_at bnames02cX8_isHeld_0 2)
theorem dX8_isHeld_3 : decode cX8_isHeld 3 = .ok (.invokevirtual 206, 3) := dk_182 (c := cX8_isHeld) (pc := 3) (a := 0) (b := 206) (dk_at bnames02cX8_isHeld_0 3) rfl
theorem dX8_isHeld_6 : decode cX8_isHeld 6 = .ok (.ifCond .eq 35, 3) := dk_153 (c := cX8_isHeld) (pc := 6) (a := 0) (b := 35) (dk_at bnames02cX8_isHeld_0 6) (by decide)
theorem dX8_isHeld_9 : decode cX8_isHeld 9 = .ok (.aload_n 0, 1) := dk_42 (c := cX8_isHeld) (pc := 9) (dk_at bnames02cX8_isHeld_0 9)
theorem dX8_isHeld_10 : decode cX8_isHeld 10 = .ok (.getfield 19, 3) := dk_180 (c := cX8_isHeld) (pc := 10) (a := 0) (b := 19) (dk_at bnames02cX8_isHeld_0 10) rfl
theorem dX8_isHeld_13 : decode cX8_isHeld 13 = .ok (.aload_n 1, 1) := dk_43 (c := cX8_isHeld) (pc := 13) (dk_at bnames02cX8_isHeld_0 13)
theorem dX8_isHeld_14 : decode cX8_isHeld 14 = .ok (.getfield 192, 3) := dk_180 (c := cX8_isHeld) (pc := 14) (a := 0) (b := 192) (dk_at bnames02cX8_isHeld_0 14) rfl
theorem dX8_isHeld_17 : decode cX8_isHeld 17 = .ok (.iload_n 2, 1) := dk_28 (c := cX8_isHeld) (pc := 17) (dk_at bnames02cX8_isHeld_0 17)
theorem dX8_isHeld_18 : decode cX8_isHeld 18 = .ok (.iaload, 1) := dk_46 (c := cX8_isHeld) (pc := 18) (dk_at bnames02cX8_isHeld_0 18)
theorem dX8_isHeld_19 : decode cX8_isHeld 19 = .ok (.aload_n 1, 1) := dk_43 (c := cX8_isHeld) (pc := 19) (dk_at bnames02cX8_isHeld_0 19)
theorem dX8_isHeld_20 : decode cX8_isHeld 20 = .ok (.getfield 195, 3) := dk_180 (c := cX8_isHeld) (pc := 20) (a := 0) (b := 195) (dk_at bnames02cX8_isHeld_0 20) rfl
theorem dX8_isHeld_23 : decode cX8_isHeld 23 = .ok (.iload_n 2, 1) := dk_28 (c := cX8_isHeld) (pc := 23) (dk_at bnames02cX8_isHeld_0 23)
theorem dX8_isHeld_24 : decode cX8_isHeld 24 = .ok (.iaload, 1) := dk_46 (c := cX8_isHeld) (pc := 24) (dk_at bnames02cX8_isHeld_0 24)
theorem dX8_isHeld_25 : decode cX8_isHeld 25 = .ok (.invokevirtual 98, 3) := dk_182 (c := cX8_isHeld) (pc := 25) (a := 0) (b := 98) (dk_at bnames02cX8_isHeld_0 25) rfl
theorem dX8_isHeld_28 : decode cX8_isHeld 28 = .ok (.aload_n 1, 1) := dk_43 (c := cX8_isHeld) (pc := 28) (dk_at bnames02cX8_isHeld_0 28)
theorem dX8_isHeld_29 : decode cX8_isHeld 29 = .ok (.getfield 205, 3) := dk_180 (c := cX8_isHeld) (pc := 29) (a := 0) (b := 205) (dk_at bnames02cX8_isHeld_0 29) rfl
theorem dX8_isHeld_32 : decode cX8_isHeld 32 = .ok (.iload_n 2, 1) := dk_28 (c := cX8_isHeld) (pc := 32) (dk_at bnames02cX8_isHeld_0 32)
theorem dX8_isHeld_33 : decode cX8_isHeld 33 = .ok (.iaload, 1) := dk_46 (c := cX8_isHeld) (pc := 33) (dk_at bnames02cX8_isHeld_0 33)
theorem dX8_isHeld_34 : decode cX8_isHeld 34 = .ok (.if_icmp .le 7, 3) := dk_164 (c := cX8_isHeld) (pc := 34) (a := 0) (b := 7) (dk_at bnames02cX8_isHeld_0 34) (by decide)
theorem dX8_isHeld_37 : decode cX8_isHeld 37 = .ok (.iconst 1, 1) := dk_4 (c := cX8_isHeld) (pc := 37) (dk_at bnames02cX8_isHeld_0 37)
theorem dX8_isHeld_38 : decode cX8_isHeld 38 = .ok (.goto 4, 3) := dk_167 (c := cX8_isHeld) (pc := 38) (a := 0) (b := 4) (dk_at bnames02cX8_isHeld_0 38) (by decide)
theorem dX8_isHeld_41 : decode cX8_isHeld 41 = .ok (.iconst 0, 1) := dk_3 (c := cX8_isHeld) (pc := 41) (dk_at bnames02cX8_isHeld_0 41)
theorem dX8_isHeld_42 : decode cX8_isHeld 42 = .ok (.ireturn, 1) := dk_172 (c := cX8_isHeld) (pc := 42) (dk_at bnames02cX8_isHeld_0 42)
set_option maxRecDepth 20000 in
theorem ggX8_gainOf_X3_payFor : GoodIn wsX8_gainOf wsX3_payFor := goodIn_r _ [14, 15, 16, 17, 18, 19, 20, 13, 21, 22, 23, 24, 25, 26, 27, 28, 29, 30, 31, 32, 33, 34, 35, 36, 37, 38, 39, 40, 41, 42, 7, 43, 44, 45, 46, 64, 65, 66, 67, 68, 69, 70, 71, 72, 73, 74, 75, 76, 77, 78, 79] rfl (by decide +kernel)
set_option maxRecDepth 20000 in
theorem gX8_gainOf_X3_payFor : GoodIn wsX8_gainOf (wsV RX8 109 RX3 yX3_payFor wsX3_payFor) := goodIn_app (goodIn_r _ [10, 11, 12, 13] rfl (by decide +kernel)) ggX8_gainOf_X3_payFor
theorem bnames02cX8_gainOf_0 : ((dk_l cX8_gainOf).drop 0).take 52 = [43, 180, 0, 204, 28, 46, 62, 43, 180, 0, 195, 28, 46, 54, 4, 43, 180, 0, 192, 28, 46, 54, 5, 17, 1, 44, 43, 180, 0, 198, 28, 46, 4, 96, 184, 0, 168, 54, 6, 42, 180, 0, 19, 21, 6, 29, 21, 4, 21, 5, 182, 0] := by decide +kernel
theorem dX8_gainOf_0 : decode cX8_gainOf 0 = .ok (.aload_n 1, 1) := dk_43 (c := cX8_gainOf) (pc := 0) (dk_at bnames02cX8_gainOf_0 0)
theorem dX8_gainOf_1 : decode cX8_gainOf 1 = .ok (.getfield 204, 3) := dk_180 (c := cX8_gainOf) (pc := 1) (a := 0) (b := 204) (dk_at bnames02cX8_gainOf_0 1) rfl
theorem dX8_gainOf_4 : decode cX8_gainOf 4 = .ok (.iload_n 2, 1) := dk_28 (c := cX8_gainOf) (pc := 4) (dk_at bnames02cX8_gainOf_0 4)
theorem dX8_gainOf_5 : decode cX8_gainOf 5 = .ok (.iaload, 1) := dk_46 (c := cX8_gainOf) (pc := 5) (dk_at bnames02cX8_gainOf_0 5)
theorem dX8_gainOf_6 : decode cX8_gainOf 6 = .ok (.istore_n 3, 1) := dk_62 (c := cX8_gainOf) (pc := 6) (dk_at bnames02cX8_gainOf_0 6)
theorem dX8_gainOf_7 : decode cX8_gainOf 7 = .ok (.aload_n 1, 1) := dk_43 (c := cX8_gainOf) (pc := 7) (dk_at bnames02cX8_gainOf_0 7)
theorem dX8_gainOf_8 : decode cX8_gainOf 8 = .ok (.getfield 195, 3) := dk_180 (c := cX8_gainOf) (pc := 8) (a := 0) (b := 195) (dk_at bnames02cX8_gainOf_0 8) rfl
theorem dX8_gainOf_11 : decode cX8_gainOf 11 = .ok (.iload_n 2, 1) := dk_28 (c := cX8_gainOf) (pc := 11) (dk_at bnames02cX8_gainOf_0 11)
theorem dX8_gainOf_12 : decode cX8_gainOf 12 = .ok (.iaload, 1) := dk_46 (c := cX8_gainOf) (pc := 12) (dk_at bnames02cX8_gainOf_0 12)
theorem dX8_gainOf_13 : decode cX8_gainOf 13 = .ok (.istore 4, 2) := dk_54 (c := cX8_gainOf) (pc := 13) (a := 4) (dk_at bnames02cX8_gainOf_0 13) rfl
theorem dX8_gainOf_15 : decode cX8_gainOf 15 = .ok (.aload_n 1, 1) := dk_43 (c := cX8_gainOf) (pc := 15) (dk_at bnames02cX8_gainOf_0 15)
theorem dX8_gainOf_16 : decode cX8_gainOf 16 = .ok (.getfield 192, 3) := dk_180 (c := cX8_gainOf) (pc := 16) (a := 0) (b := 192) (dk_at bnames02cX8_gainOf_0 16) rfl
theorem dX8_gainOf_19 : decode cX8_gainOf 19 = .ok (.iload_n 2, 1) := dk_28 (c := cX8_gainOf) (pc := 19) (dk_at bnames02cX8_gainOf_0 19)
theorem dX8_gainOf_20 : decode cX8_gainOf 20 = .ok (.iaload, 1) := dk_46 (c := cX8_gainOf) (pc := 20) (dk_at bnames02cX8_gainOf_0 20)
theorem dX8_gainOf_21 : decode cX8_gainOf 21 = .ok (.istore 5, 2) := dk_54 (c := cX8_gainOf) (pc := 21) (a := 5) (dk_at bnames02cX8_gainOf_0 21) rfl
theorem dX8_gainOf_23 : decode cX8_gainOf 23 = .ok (.sipush 300, 3) := dk_17 (c := cX8_gainOf) (pc := 23) (a := 1) (b := 44) (dk_at bnames02cX8_gainOf_0 23) (by decide)
theorem dX8_gainOf_26 : decode cX8_gainOf 26 = .ok (.aload_n 1, 1) := dk_43 (c := cX8_gainOf) (pc := 26) (dk_at bnames02cX8_gainOf_0 26)
theorem dX8_gainOf_27 : decode cX8_gainOf 27 = .ok (.getfield 198, 3) := dk_180 (c := cX8_gainOf) (pc := 27) (a := 0) (b := 198) (dk_at bnames02cX8_gainOf_0 27) rfl
theorem dX8_gainOf_30 : decode cX8_gainOf 30 = .ok (.iload_n 2, 1) := dk_28 (c := cX8_gainOf) (pc := 30) (dk_at bnames02cX8_gainOf_0 30)
theorem dX8_gainOf_31 : decode cX8_gainOf 31 = .ok (.iaload, 1) := dk_46 (c := cX8_gainOf) (pc := 31) (dk_at bnames02cX8_gainOf_0 31)
theorem dX8_gainOf_32 : decode cX8_gainOf 32 = .ok (.iconst 1, 1) := dk_4 (c := cX8_gainOf) (pc := 32) (dk_at bnames02cX8_gainOf_0 32)
theorem dX8_gainOf_33 : decode cX8_gainOf 33 = .ok (.iadd, 1) := dk_96 (c := cX8_gainOf) (pc := 33) (dk_at bnames02cX8_gainOf_0 33)
theorem dX8_gainOf_34 : decode cX8_gainOf 34 = .ok (.invokestatic 168, 3) := dk_184 (c := cX8_gainOf) (pc := 34) (a := 0) (b := 168) (dk_at bnames02cX8_gainOf_0 34) rfl
theorem dX8_gainOf_37 : decode cX8_gainOf 37 = .ok (.istore 6, 2) := dk_54 (c := cX8_gainOf) (pc := 37) (a := 6) (dk_at bnames02cX8_gainOf_0 37) rfl
theorem dX8_gainOf_39 : decode cX8_gainOf 39 = .ok (.aload_n 0, 1) := dk_42 (c := cX8_gainOf) (pc := 39) (dk_at bnames02cX8_gainOf_0 39)
theorem dX8_gainOf_40 : decode cX8_gainOf 40 = .ok (.getfield 19, 3) := dk_180 (c := cX8_gainOf) (pc := 40) (a := 0) (b := 19) (dk_at bnames02cX8_gainOf_0 40) rfl
theorem dX8_gainOf_43 : decode cX8_gainOf 43 = .ok (.iload 6, 2) := dk_21 (c := cX8_gainOf) (pc := 43) (a := 6) (dk_at bnames02cX8_gainOf_0 43) rfl
theorem dX8_gainOf_45 : decode cX8_gainOf 45 = .ok (.iload_n 3, 1) := dk_29 (c := cX8_gainOf) (pc := 45) (dk_at bnames02cX8_gainOf_0 45)
theorem dX8_gainOf_46 : decode cX8_gainOf 46 = .ok (.iload 4, 2) := dk_21 (c := cX8_gainOf) (pc := 46) (a := 4) (dk_at bnames02cX8_gainOf_0 46) rfl
theorem bnames02cX8_gainOf_48 : ((dk_l cX8_gainOf).drop 48).take 25 = [21, 5, 182, 0, 109, 42, 180, 0, 19, 43, 180, 0, 198, 28, 46, 29, 21, 4, 21, 5, 182, 0, 109, 100, 172] := by decide +kernel
theorem dX8_gainOf_48 : decode cX8_gainOf 48 = .ok (.iload 5, 2) := dk_21 (c := cX8_gainOf) (pc := 48) (a := 5) (dk_at bnames02cX8_gainOf_48 0) rfl
theorem dX8_gainOf_50 : decode cX8_gainOf 50 = .ok (.invokevirtual 109, 3) := dk_182 (c := cX8_gainOf) (pc := 50) (a := 0) (b := 109) (dk_at bnames02cX8_gainOf_48 2) rfl
theorem dX8_gainOf_53 : decode cX8_gainOf 53 = .ok (.aload_n 0, 1) := dk_42 (c := cX8_gainOf) (pc := 53) (dk_at bnames02cX8_gainOf_48 5)
theorem dX8_gainOf_54 : decode cX8_gainOf 54 = .ok (.getfield 19, 3) := dk_180 (c := cX8_gainOf) (pc := 54) (a := 0) (b := 19) (dk_at bnames02cX8_gainOf_48 6) rfl
theorem dX8_gainOf_57 : decode cX8_gainOf 57 = .ok (.aload_n 1, 1) := dk_43 (c := cX8_gainOf) (pc := 57) (dk_at bnames02cX8_gainOf_48 9)
theorem dX8_gainOf_58 : decode cX8_gainOf 58 = .ok (.getfield 198, 3) := dk_180 (c := cX8_gainOf) (pc := 58) (a := 0) (b := 198) (dk_at bnames02cX8_gainOf_48 10) rfl
theorem dX8_gainOf_61 : decode cX8_gainOf 61 = .ok (.iload_n 2, 1) := dk_28 (c := cX8_gainOf) (pc := 61) (dk_at bnames02cX8_gainOf_48 13)
theorem dX8_gainOf_62 : decode cX8_gainOf 62 = .ok (.iaload, 1) := dk_46 (c := cX8_gainOf) (pc := 62) (dk_at bnames02cX8_gainOf_48 14)
theorem dX8_gainOf_63 : decode cX8_gainOf 63 = .ok (.iload_n 3, 1) := dk_29 (c := cX8_gainOf) (pc := 63) (dk_at bnames02cX8_gainOf_48 15)
theorem dX8_gainOf_64 : decode cX8_gainOf 64 = .ok (.iload 4, 2) := dk_21 (c := cX8_gainOf) (pc := 64) (a := 4) (dk_at bnames02cX8_gainOf_48 16) rfl
theorem dX8_gainOf_66 : decode cX8_gainOf 66 = .ok (.iload 5, 2) := dk_21 (c := cX8_gainOf) (pc := 66) (a := 5) (dk_at bnames02cX8_gainOf_48 18) rfl
theorem dX8_gainOf_68 : decode cX8_gainOf 68 = .ok (.invokevirtual 109, 3) := dk_182 (c := cX8_gainOf) (pc := 68) (a := 0) (b := 109) (dk_at bnames02cX8_gainOf_48 20) rfl
theorem dX8_gainOf_71 : decode cX8_gainOf 71 = .ok (.isub, 1) := dk_100 (c := cX8_gainOf) (pc := 71) (dk_at bnames02cX8_gainOf_48 23)
theorem dX8_gainOf_72 : decode cX8_gainOf 72 = .ok (.ireturn, 1) := dk_172 (c := cX8_gainOf) (pc := 72) (dk_at bnames02cX8_gainOf_48 24)
set_option maxRecDepth 20000 in
theorem ggX8_divided_X6_clear : GoodIn wsX8_divided wsX6_clear := goodIn_r _ [8, 9, 10, 11, 12, 13, 14, 15, 16, 17, 18, 19, 54, 55, 56, 57, 58, 59, 60, 61, 62, 63, 64] rfl (by decide +kernel)
set_option maxRecDepth 20000 in
theorem gX8_divided_X6_clear : GoodIn wsX8_divided (wsV RX8 229 RX6 yX6_clear wsX6_clear) := goodIn_app (goodIn_r _ [4, 5, 6, 7] rfl (by decide +kernel)) ggX8_divided_X6_clear
set_option maxRecDepth 20000 in
theorem ggX8_divided_X8_isPush : GoodIn wsX8_divided wsX8_isPush := goodIn_r _ [23, 24, 25, 22, 26] rfl (by decide +kernel)
set_option maxRecDepth 20000 in
theorem gX8_divided_X8_isPush : GoodIn wsX8_divided (va_wsS RX8 341 yX8_isPush wsX8_isPush) := goodIn_app (goodIn_r _ [20, 21, 22] rfl (by decide +kernel)) ggX8_divided_X8_isPush
set_option maxRecDepth 20000 in
theorem ggX8_divided_X8_isMoved : GoodIn wsX8_divided wsX8_isMoved := goodIn_r _ [29] rfl (by decide +kernel)
set_option maxRecDepth 20000 in
theorem gX8_divided_X8_isMoved : GoodIn wsX8_divided (va_wsS RX8 345 yX8_isMoved wsX8_isMoved) := goodIn_app (goodIn_r _ [27, 28, 22] rfl (by decide +kernel)) ggX8_divided_X8_isMoved
set_option maxRecDepth 20000 in
theorem ggX8_divided_X6_take : GoodIn wsX8_divided wsX6_take := goodIn_r _ [33, 34, 35, 17, 18, 19, 9, 10, 11, 12, 36, 13, 14, 15, 16, 47, 48, 49, 50, 51, 52, 53, 54, 55, 56, 57, 58, 59, 60, 61, 62, 63, 64] rfl (by decide +kernel)
set_option maxRecDepth 20000 in
theorem gX8_divided_X6_take : GoodIn wsX8_divided (wsV RX8 232 RX6 yX6_take wsX6_take) := goodIn_app (goodIn_r _ [30, 31, 32, 7] rfl (by decide +kernel)) ggX8_divided_X6_take
theorem bnames02cX8_divided_0 : ((dk_l cX8_divided).drop 0).take 52 = [42, 180, 0, 46, 182, 0, 229, 28, 184, 1, 85, 153, 0, 38, 3, 62, 29, 43, 180, 0, 127, 162, 0, 28, 42, 180, 0, 46, 43, 29, 28, 43, 180, 0, 195, 29, 46, 184, 1, 89, 182, 0, 232, 132, 3, 1, 167, 255, 226, 42, 180, 0] := by decide +kernel
theorem dX8_divided_0 : decode cX8_divided 0 = .ok (.aload_n 0, 1) := dk_42 (c := cX8_divided) (pc := 0) (dk_at bnames02cX8_divided_0 0)
theorem dX8_divided_1 : decode cX8_divided 1 = .ok (.getfield 46, 3) := dk_180 (c := cX8_divided) (pc := 1) (a := 0) (b := 46) (dk_at bnames02cX8_divided_0 1) rfl
theorem dX8_divided_4 : decode cX8_divided 4 = .ok (.invokevirtual 229, 3) := dk_182 (c := cX8_divided) (pc := 4) (a := 0) (b := 229) (dk_at bnames02cX8_divided_0 4) rfl
theorem dX8_divided_7 : decode cX8_divided 7 = .ok (.iload_n 2, 1) := dk_28 (c := cX8_divided) (pc := 7) (dk_at bnames02cX8_divided_0 7)
theorem dX8_divided_8 : decode cX8_divided 8 = .ok (.invokestatic 341, 3) := dk_184 (c := cX8_divided) (pc := 8) (a := 1) (b := 85) (dk_at bnames02cX8_divided_0 8) rfl
theorem dX8_divided_11 : decode cX8_divided 11 = .ok (.ifCond .eq 38, 3) := dk_153 (c := cX8_divided) (pc := 11) (a := 0) (b := 38) (dk_at bnames02cX8_divided_0 11) (by decide)
theorem dX8_divided_14 : decode cX8_divided 14 = .ok (.iconst 0, 1) := dk_3 (c := cX8_divided) (pc := 14) (dk_at bnames02cX8_divided_0 14)
theorem dX8_divided_15 : decode cX8_divided 15 = .ok (.istore_n 3, 1) := dk_62 (c := cX8_divided) (pc := 15) (dk_at bnames02cX8_divided_0 15)
theorem dX8_divided_16 : decode cX8_divided 16 = .ok (.iload_n 3, 1) := dk_29 (c := cX8_divided) (pc := 16) (dk_at bnames02cX8_divided_0 16)
theorem dX8_divided_17 : decode cX8_divided 17 = .ok (.aload_n 1, 1) := dk_43 (c := cX8_divided) (pc := 17) (dk_at bnames02cX8_divided_0 17)
theorem dX8_divided_18 : decode cX8_divided 18 = .ok (.getfield 127, 3) := dk_180 (c := cX8_divided) (pc := 18) (a := 0) (b := 127) (dk_at bnames02cX8_divided_0 18) rfl
theorem dX8_divided_21 : decode cX8_divided 21 = .ok (.if_icmp .ge 28, 3) := dk_162 (c := cX8_divided) (pc := 21) (a := 0) (b := 28) (dk_at bnames02cX8_divided_0 21) (by decide)
theorem dX8_divided_24 : decode cX8_divided 24 = .ok (.aload_n 0, 1) := dk_42 (c := cX8_divided) (pc := 24) (dk_at bnames02cX8_divided_0 24)
theorem dX8_divided_25 : decode cX8_divided 25 = .ok (.getfield 46, 3) := dk_180 (c := cX8_divided) (pc := 25) (a := 0) (b := 46) (dk_at bnames02cX8_divided_0 25) rfl
theorem dX8_divided_28 : decode cX8_divided 28 = .ok (.aload_n 1, 1) := dk_43 (c := cX8_divided) (pc := 28) (dk_at bnames02cX8_divided_0 28)
theorem dX8_divided_29 : decode cX8_divided 29 = .ok (.iload_n 3, 1) := dk_29 (c := cX8_divided) (pc := 29) (dk_at bnames02cX8_divided_0 29)
theorem dX8_divided_30 : decode cX8_divided 30 = .ok (.iload_n 2, 1) := dk_28 (c := cX8_divided) (pc := 30) (dk_at bnames02cX8_divided_0 30)
theorem dX8_divided_31 : decode cX8_divided 31 = .ok (.aload_n 1, 1) := dk_43 (c := cX8_divided) (pc := 31) (dk_at bnames02cX8_divided_0 31)
theorem dX8_divided_32 : decode cX8_divided 32 = .ok (.getfield 195, 3) := dk_180 (c := cX8_divided) (pc := 32) (a := 0) (b := 195) (dk_at bnames02cX8_divided_0 32) rfl
theorem dX8_divided_35 : decode cX8_divided 35 = .ok (.iload_n 3, 1) := dk_29 (c := cX8_divided) (pc := 35) (dk_at bnames02cX8_divided_0 35)
theorem dX8_divided_36 : decode cX8_divided 36 = .ok (.iaload, 1) := dk_46 (c := cX8_divided) (pc := 36) (dk_at bnames02cX8_divided_0 36)
theorem dX8_divided_37 : decode cX8_divided 37 = .ok (.invokestatic 345, 3) := dk_184 (c := cX8_divided) (pc := 37) (a := 1) (b := 89) (dk_at bnames02cX8_divided_0 37) rfl
theorem dX8_divided_40 : decode cX8_divided 40 = .ok (.invokevirtual 232, 3) := dk_182 (c := cX8_divided) (pc := 40) (a := 0) (b := 232) (dk_at bnames02cX8_divided_0 40) rfl
theorem dX8_divided_43 : decode cX8_divided 43 = .ok (.iinc 3 1, 3) := dk_132 (c := cX8_divided) (pc := 43) (a := 3) (b := 1) (dk_at bnames02cX8_divided_0 43) rfl (by decide)
theorem dX8_divided_46 : decode cX8_divided 46 = .ok (.goto (-30), 3) := dk_167 (c := cX8_divided) (pc := 46) (a := 255) (b := 226) (dk_at bnames02cX8_divided_0 46) (by decide)
theorem bnames02cX8_divided_48 : ((dk_l cX8_divided).drop 48).take 6 = [226, 42, 180, 0, 46, 176] := by decide +kernel
theorem dX8_divided_49 : decode cX8_divided 49 = .ok (.aload_n 0, 1) := dk_42 (c := cX8_divided) (pc := 49) (dk_at bnames02cX8_divided_48 1)
theorem dX8_divided_50 : decode cX8_divided 50 = .ok (.getfield 46, 3) := dk_180 (c := cX8_divided) (pc := 50) (a := 0) (b := 46) (dk_at bnames02cX8_divided_48 2) rfl
theorem dX8_divided_53 : decode cX8_divided 53 = .ok (.areturn, 1) := dk_176 (c := cX8_divided) (pc := 53) (dk_at bnames02cX8_divided_48 5)
theorem bnames02cX9_in_0 : ((dk_l cX9_in).drop 0).take 19 = [30, 32, 148, 155, 0, 14, 30, 22, 4, 148, 157, 0, 7, 4, 167, 0, 4, 3, 172] := by decide +kernel
theorem dX9_in_0 : decode cX9_in 0 = .ok (.lload_n 0, 1) := dk_30 (c := cX9_in) (pc := 0) (dk_at bnames02cX9_in_0 0)
theorem dX9_in_1 : decode cX9_in 1 = .ok (.lload_n 2, 1) := dk_32 (c := cX9_in) (pc := 1) (dk_at bnames02cX9_in_0 1)
theorem dX9_in_2 : decode cX9_in 2 = .ok (.lcmp, 1) := dk_148 (c := cX9_in) (pc := 2) (dk_at bnames02cX9_in_0 2)
theorem dX9_in_3 : decode cX9_in 3 = .ok (.ifCond .lt 14, 3) := dk_155 (c := cX9_in) (pc := 3) (a := 0) (b := 14) (dk_at bnames02cX9_in_0 3) (by decide)
theorem dX9_in_6 : decode cX9_in 6 = .ok (.lload_n 0, 1) := dk_30 (c := cX9_in) (pc := 6) (dk_at bnames02cX9_in_0 6)
theorem dX9_in_7 : decode cX9_in 7 = .ok (.lload 4, 2) := dk_22 (c := cX9_in) (pc := 7) (a := 4) (dk_at bnames02cX9_in_0 7) rfl
theorem dX9_in_9 : decode cX9_in 9 = .ok (.lcmp, 1) := dk_148 (c := cX9_in) (pc := 9) (dk_at bnames02cX9_in_0 9)
theorem dX9_in_10 : decode cX9_in 10 = .ok (.ifCond .gt 7, 3) := dk_157 (c := cX9_in) (pc := 10) (a := 0) (b := 7) (dk_at bnames02cX9_in_0 10) (by decide)
theorem dX9_in_13 : decode cX9_in 13 = .ok (.iconst 1, 1) := dk_4 (c := cX9_in) (pc := 13) (dk_at bnames02cX9_in_0 13)
theorem dX9_in_14 : decode cX9_in 14 = .ok (.goto 4, 3) := dk_167 (c := cX9_in) (pc := 14) (a := 0) (b := 4) (dk_at bnames02cX9_in_0 14) (by decide)
theorem dX9_in_17 : decode cX9_in 17 = .ok (.iconst 0, 1) := dk_3 (c := cX9_in) (pc := 17) (dk_at bnames02cX9_in_0 17)
theorem dX9_in_18 : decode cX9_in 18 = .ok (.ireturn, 1) := dk_172 (c := cX9_in) (pc := 18) (dk_at bnames02cX9_in_0 18)
set_option maxRecDepth 20000 in
theorem ggX9_isSlot_X9_in : GoodIn wsX9_isSlot wsX9_in := goodIn_r _ [5] rfl (by decide +kernel)
set_option maxRecDepth 20000 in
theorem gX9_isSlot_X9_in : GoodIn wsX9_isSlot (va_wsS RX9 130 yX9_in wsX9_in) := goodIn_app (goodIn_r _ [2, 3, 4] rfl (by decide +kernel)) ggX9_isSlot_X9_in
theorem bnames02cX9_isSlot_0 : ((dk_l cX9_isSlot).drop 0).take 10 = [26, 133, 9, 20, 0, 128, 184, 0, 130, 172] := by decide +kernel
theorem dX9_isSlot_0 : decode cX9_isSlot 0 = .ok (.iload_n 0, 1) := dk_26 (c := cX9_isSlot) (pc := 0) (dk_at bnames02cX9_isSlot_0 0)
theorem dX9_isSlot_1 : decode cX9_isSlot 1 = .ok (.i2l, 1) := dk_133 (c := cX9_isSlot) (pc := 1) (dk_at bnames02cX9_isSlot_0 1)
theorem dX9_isSlot_2 : decode cX9_isSlot 2 = .ok (.lconst 0, 1) := dk_9 (c := cX9_isSlot) (pc := 2) (dk_at bnames02cX9_isSlot_0 2)
theorem dX9_isSlot_3 : decode cX9_isSlot 3 = .ok (.ldc2_w 128, 3) := dk_20 (c := cX9_isSlot) (pc := 3) (a := 0) (b := 128) (dk_at bnames02cX9_isSlot_0 3) rfl
theorem dX9_isSlot_6 : decode cX9_isSlot 6 = .ok (.invokestatic 130, 3) := dk_184 (c := cX9_isSlot) (pc := 6) (a := 0) (b := 130) (dk_at bnames02cX9_isSlot_0 6) rfl
theorem dX9_isSlot_9 : decode cX9_isSlot 9 = .ok (.ireturn, 1) := dk_172 (c := cX9_isSlot) (pc := 9) (dk_at bnames02cX9_isSlot_0 9)
set_option maxRecDepth 20000 in
theorem ggX9_row_X9_isSlot : GoodIn wsX9_row wsX9_isSlot := goodIn_r _ [9, 2, 10, 11, 8, 12] rfl (by decide +kernel)
set_option maxRecDepth 20000 in
theorem gX9_row_X9_isSlot : GoodIn wsX9_row (va_wsS RX9 134 yX9_isSlot wsX9_isSlot) := goodIn_app (goodIn_r _ [6, 7, 8] rfl (by decide +kernel)) ggX9_row_X9_isSlot
set_option maxRecDepth 20000 in
theorem ggX9_row_X9_in : GoodIn wsX9_row wsX9_in := goodIn_r _ [12] rfl (by decide +kernel)
set_option maxRecDepth 20000 in
theorem gX9_row_X9_in : GoodIn wsX9_row (va_wsS RX9 130 yX9_in wsX9_in) := goodIn_app (goodIn_r _ [10, 11, 8] rfl (by decide +kernel)) ggX9_row_X9_in
theorem bnames02cX9_row_0 : ((dk_l cX9_row).drop 0).take 52 = [42, 3, 181, 0, 125, 27, 184, 0, 134, 153, 0, 21, 28, 133, 9, 20, 0, 128, 184, 0, 130, 153, 0, 9, 29, 16, 60, 164, 0, 6, 16, 254, 172, 29, 156, 0, 6, 16, 253, 172, 42, 180, 0, 7, 27, 28, 79, 42, 180, 0, 13, 27] := by decide +kernel
theorem dX9_row_0 : decode cX9_row 0 = .ok (.aload_n 0, 1) := dk_42 (c := cX9_row) (pc := 0) (dk_at bnames02cX9_row_0 0)
theorem dX9_row_1 : decode cX9_row 1 = .ok (.iconst 0, 1) := dk_3 (c := cX9_row) (pc := 1) (dk_at bnames02cX9_row_0 1)
theorem dX9_row_2 : decode cX9_row 2 = .ok (.putfield 125, 3) := dk_181 (c := cX9_row) (pc := 2) (a := 0) (b := 125) (dk_at bnames02cX9_row_0 2) rfl
theorem dX9_row_5 : decode cX9_row 5 = .ok (.iload_n 1, 1) := dk_27 (c := cX9_row) (pc := 5) (dk_at bnames02cX9_row_0 5)
theorem dX9_row_6 : decode cX9_row 6 = .ok (.invokestatic 134, 3) := dk_184 (c := cX9_row) (pc := 6) (a := 0) (b := 134) (dk_at bnames02cX9_row_0 6) rfl
theorem dX9_row_9 : decode cX9_row 9 = .ok (.ifCond .eq 21, 3) := dk_153 (c := cX9_row) (pc := 9) (a := 0) (b := 21) (dk_at bnames02cX9_row_0 9) (by decide)
theorem dX9_row_12 : decode cX9_row 12 = .ok (.iload_n 2, 1) := dk_28 (c := cX9_row) (pc := 12) (dk_at bnames02cX9_row_0 12)
theorem dX9_row_13 : decode cX9_row 13 = .ok (.i2l, 1) := dk_133 (c := cX9_row) (pc := 13) (dk_at bnames02cX9_row_0 13)
theorem dX9_row_14 : decode cX9_row 14 = .ok (.lconst 0, 1) := dk_9 (c := cX9_row) (pc := 14) (dk_at bnames02cX9_row_0 14)
theorem dX9_row_15 : decode cX9_row 15 = .ok (.ldc2_w 128, 3) := dk_20 (c := cX9_row) (pc := 15) (a := 0) (b := 128) (dk_at bnames02cX9_row_0 15) rfl
theorem dX9_row_18 : decode cX9_row 18 = .ok (.invokestatic 130, 3) := dk_184 (c := cX9_row) (pc := 18) (a := 0) (b := 130) (dk_at bnames02cX9_row_0 18) rfl
theorem dX9_row_21 : decode cX9_row 21 = .ok (.ifCond .eq 9, 3) := dk_153 (c := cX9_row) (pc := 21) (a := 0) (b := 9) (dk_at bnames02cX9_row_0 21) (by decide)
theorem dX9_row_24 : decode cX9_row 24 = .ok (.iload_n 3, 1) := dk_29 (c := cX9_row) (pc := 24) (dk_at bnames02cX9_row_0 24)
theorem dX9_row_25 : decode cX9_row 25 = .ok (.bipush 60, 2) := dk_16 (c := cX9_row) (pc := 25) (a := 60) (dk_at bnames02cX9_row_0 25) (by decide)
theorem dX9_row_27 : decode cX9_row 27 = .ok (.if_icmp .le 6, 3) := dk_164 (c := cX9_row) (pc := 27) (a := 0) (b := 6) (dk_at bnames02cX9_row_0 27) (by decide)
theorem dX9_row_30 : decode cX9_row 30 = .ok (.bipush (-2), 2) := dk_16 (c := cX9_row) (pc := 30) (a := 254) (dk_at bnames02cX9_row_0 30) (by decide)
theorem dX9_row_32 : decode cX9_row 32 = .ok (.ireturn, 1) := dk_172 (c := cX9_row) (pc := 32) (dk_at bnames02cX9_row_0 32)
theorem dX9_row_33 : decode cX9_row 33 = .ok (.iload_n 3, 1) := dk_29 (c := cX9_row) (pc := 33) (dk_at bnames02cX9_row_0 33)
theorem dX9_row_34 : decode cX9_row 34 = .ok (.ifCond .ge 6, 3) := dk_156 (c := cX9_row) (pc := 34) (a := 0) (b := 6) (dk_at bnames02cX9_row_0 34) (by decide)
theorem dX9_row_37 : decode cX9_row 37 = .ok (.bipush (-3), 2) := dk_16 (c := cX9_row) (pc := 37) (a := 253) (dk_at bnames02cX9_row_0 37) (by decide)
theorem dX9_row_39 : decode cX9_row 39 = .ok (.ireturn, 1) := dk_172 (c := cX9_row) (pc := 39) (dk_at bnames02cX9_row_0 39)
theorem dX9_row_40 : decode cX9_row 40 = .ok (.aload_n 0, 1) := dk_42 (c := cX9_row) (pc := 40) (dk_at bnames02cX9_row_0 40)
theorem dX9_row_41 : decode cX9_row 41 = .ok (.getfield 7, 3) := dk_180 (c := cX9_row) (pc := 41) (a := 0) (b := 7) (dk_at bnames02cX9_row_0 41) rfl
theorem dX9_row_44 : decode cX9_row 44 = .ok (.iload_n 1, 1) := dk_27 (c := cX9_row) (pc := 44) (dk_at bnames02cX9_row_0 44)
theorem dX9_row_45 : decode cX9_row 45 = .ok (.iload_n 2, 1) := dk_28 (c := cX9_row) (pc := 45) (dk_at bnames02cX9_row_0 45)
theorem dX9_row_46 : decode cX9_row 46 = .ok (.iastore, 1) := dk_79 (c := cX9_row) (pc := 46) (dk_at bnames02cX9_row_0 46)
theorem dX9_row_47 : decode cX9_row 47 = .ok (.aload_n 0, 1) := dk_42 (c := cX9_row) (pc := 47) (dk_at bnames02cX9_row_0 47)
theorem bnames02cX9_row_48 : ((dk_l cX9_row).drop 48).take 36 = [180, 0, 13, 27, 29, 79, 3, 54, 4, 21, 4, 29, 162, 0, 22, 42, 180, 0, 16, 16, 60, 27, 104, 21, 4, 96, 9, 80, 132, 4, 1, 167, 255, 234, 3, 172] := by decide +kernel
theorem dX9_row_48 : decode cX9_row 48 = .ok (.getfield 13, 3) := dk_180 (c := cX9_row) (pc := 48) (a := 0) (b := 13) (dk_at bnames02cX9_row_48 0) rfl
theorem dX9_row_51 : decode cX9_row 51 = .ok (.iload_n 1, 1) := dk_27 (c := cX9_row) (pc := 51) (dk_at bnames02cX9_row_48 3)
theorem dX9_row_52 : decode cX9_row 52 = .ok (.iload_n 3, 1) := dk_29 (c := cX9_row) (pc := 52) (dk_at bnames02cX9_row_48 4)
theorem dX9_row_53 : decode cX9_row 53 = .ok (.iastore, 1) := dk_79 (c := cX9_row) (pc := 53) (dk_at bnames02cX9_row_48 5)
theorem dX9_row_54 : decode cX9_row 54 = .ok (.iconst 0, 1) := dk_3 (c := cX9_row) (pc := 54) (dk_at bnames02cX9_row_48 6)
theorem dX9_row_55 : decode cX9_row 55 = .ok (.istore 4, 2) := dk_54 (c := cX9_row) (pc := 55) (a := 4) (dk_at bnames02cX9_row_48 7) rfl
theorem dX9_row_57 : decode cX9_row 57 = .ok (.iload 4, 2) := dk_21 (c := cX9_row) (pc := 57) (a := 4) (dk_at bnames02cX9_row_48 9) rfl
theorem dX9_row_59 : decode cX9_row 59 = .ok (.iload_n 3, 1) := dk_29 (c := cX9_row) (pc := 59) (dk_at bnames02cX9_row_48 11)
theorem dX9_row_60 : decode cX9_row 60 = .ok (.if_icmp .ge 22, 3) := dk_162 (c := cX9_row) (pc := 60) (a := 0) (b := 22) (dk_at bnames02cX9_row_48 12) (by decide)
theorem dX9_row_63 : decode cX9_row 63 = .ok (.aload_n 0, 1) := dk_42 (c := cX9_row) (pc := 63) (dk_at bnames02cX9_row_48 15)
theorem dX9_row_64 : decode cX9_row 64 = .ok (.getfield 16, 3) := dk_180 (c := cX9_row) (pc := 64) (a := 0) (b := 16) (dk_at bnames02cX9_row_48 16) rfl
theorem dX9_row_67 : decode cX9_row 67 = .ok (.bipush 60, 2) := dk_16 (c := cX9_row) (pc := 67) (a := 60) (dk_at bnames02cX9_row_48 19) (by decide)
theorem dX9_row_69 : decode cX9_row 69 = .ok (.iload_n 1, 1) := dk_27 (c := cX9_row) (pc := 69) (dk_at bnames02cX9_row_48 21)
theorem dX9_row_70 : decode cX9_row 70 = .ok (.imul, 1) := dk_104 (c := cX9_row) (pc := 70) (dk_at bnames02cX9_row_48 22)
theorem dX9_row_71 : decode cX9_row 71 = .ok (.iload 4, 2) := dk_21 (c := cX9_row) (pc := 71) (a := 4) (dk_at bnames02cX9_row_48 23) rfl
theorem dX9_row_73 : decode cX9_row 73 = .ok (.iadd, 1) := dk_96 (c := cX9_row) (pc := 73) (dk_at bnames02cX9_row_48 25)
theorem dX9_row_74 : decode cX9_row 74 = .ok (.lconst 0, 1) := dk_9 (c := cX9_row) (pc := 74) (dk_at bnames02cX9_row_48 26)
theorem dX9_row_75 : decode cX9_row 75 = .ok (.lastore, 1) := dk_80 (c := cX9_row) (pc := 75) (dk_at bnames02cX9_row_48 27)
theorem dX9_row_76 : decode cX9_row 76 = .ok (.iinc 4 1, 3) := dk_132 (c := cX9_row) (pc := 76) (a := 4) (b := 1) (dk_at bnames02cX9_row_48 28) rfl (by decide)
theorem dX9_row_79 : decode cX9_row 79 = .ok (.goto (-22), 3) := dk_167 (c := cX9_row) (pc := 79) (a := 255) (b := 234) (dk_at bnames02cX9_row_48 31) (by decide)
theorem dX9_row_82 : decode cX9_row 82 = .ok (.iconst 0, 1) := dk_3 (c := cX9_row) (pc := 82) (dk_at bnames02cX9_row_48 34)
theorem dX9_row_83 : decode cX9_row 83 = .ok (.ireturn, 1) := dk_172 (c := cX9_row) (pc := 83) (dk_at bnames02cX9_row_48 35)
theorem bnames02cX9_cut_0 : ((dk_l cX9_cut).drop 0).take 36 = [28, 154, 0, 10, 30, 136, 145, 133, 167, 0, 27, 28, 4, 160, 0, 10, 30, 136, 147, 133, 167, 0, 15, 28, 5, 160, 0, 9, 30, 136, 133, 167, 0, 4, 30, 173] := by decide +kernel
theorem dX9_cut_0 : decode cX9_cut 0 = .ok (.iload_n 2, 1) := dk_28 (c := cX9_cut) (pc := 0) (dk_at bnames02cX9_cut_0 0)
theorem dX9_cut_1 : decode cX9_cut 1 = .ok (.ifCond .ne 10, 3) := dk_154 (c := cX9_cut) (pc := 1) (a := 0) (b := 10) (dk_at bnames02cX9_cut_0 1) (by decide)
theorem dX9_cut_4 : decode cX9_cut 4 = .ok (.lload_n 0, 1) := dk_30 (c := cX9_cut) (pc := 4) (dk_at bnames02cX9_cut_0 4)
theorem dX9_cut_5 : decode cX9_cut 5 = .ok (.l2i, 1) := dk_136 (c := cX9_cut) (pc := 5) (dk_at bnames02cX9_cut_0 5)
theorem dX9_cut_6 : decode cX9_cut 6 = .ok (.i2b, 1) := dk_145 (c := cX9_cut) (pc := 6) (dk_at bnames02cX9_cut_0 6)
theorem dX9_cut_7 : decode cX9_cut 7 = .ok (.i2l, 1) := dk_133 (c := cX9_cut) (pc := 7) (dk_at bnames02cX9_cut_0 7)
theorem dX9_cut_8 : decode cX9_cut 8 = .ok (.goto 27, 3) := dk_167 (c := cX9_cut) (pc := 8) (a := 0) (b := 27) (dk_at bnames02cX9_cut_0 8) (by decide)
theorem dX9_cut_11 : decode cX9_cut 11 = .ok (.iload_n 2, 1) := dk_28 (c := cX9_cut) (pc := 11) (dk_at bnames02cX9_cut_0 11)
theorem dX9_cut_12 : decode cX9_cut 12 = .ok (.iconst 1, 1) := dk_4 (c := cX9_cut) (pc := 12) (dk_at bnames02cX9_cut_0 12)
theorem dX9_cut_13 : decode cX9_cut 13 = .ok (.if_icmp .ne 10, 3) := dk_160 (c := cX9_cut) (pc := 13) (a := 0) (b := 10) (dk_at bnames02cX9_cut_0 13) (by decide)
theorem dX9_cut_16 : decode cX9_cut 16 = .ok (.lload_n 0, 1) := dk_30 (c := cX9_cut) (pc := 16) (dk_at bnames02cX9_cut_0 16)
theorem dX9_cut_17 : decode cX9_cut 17 = .ok (.l2i, 1) := dk_136 (c := cX9_cut) (pc := 17) (dk_at bnames02cX9_cut_0 17)
theorem dX9_cut_18 : decode cX9_cut 18 = .ok (.i2s, 1) := dk_147 (c := cX9_cut) (pc := 18) (dk_at bnames02cX9_cut_0 18)
theorem dX9_cut_19 : decode cX9_cut 19 = .ok (.i2l, 1) := dk_133 (c := cX9_cut) (pc := 19) (dk_at bnames02cX9_cut_0 19)
theorem dX9_cut_20 : decode cX9_cut 20 = .ok (.goto 15, 3) := dk_167 (c := cX9_cut) (pc := 20) (a := 0) (b := 15) (dk_at bnames02cX9_cut_0 20) (by decide)
theorem dX9_cut_23 : decode cX9_cut 23 = .ok (.iload_n 2, 1) := dk_28 (c := cX9_cut) (pc := 23) (dk_at bnames02cX9_cut_0 23)
theorem dX9_cut_24 : decode cX9_cut 24 = .ok (.iconst 2, 1) := dk_5 (c := cX9_cut) (pc := 24) (dk_at bnames02cX9_cut_0 24)
theorem dX9_cut_25 : decode cX9_cut 25 = .ok (.if_icmp .ne 9, 3) := dk_160 (c := cX9_cut) (pc := 25) (a := 0) (b := 9) (dk_at bnames02cX9_cut_0 25) (by decide)
theorem dX9_cut_28 : decode cX9_cut 28 = .ok (.lload_n 0, 1) := dk_30 (c := cX9_cut) (pc := 28) (dk_at bnames02cX9_cut_0 28)
theorem dX9_cut_29 : decode cX9_cut 29 = .ok (.l2i, 1) := dk_136 (c := cX9_cut) (pc := 29) (dk_at bnames02cX9_cut_0 29)
theorem dX9_cut_30 : decode cX9_cut 30 = .ok (.i2l, 1) := dk_133 (c := cX9_cut) (pc := 30) (dk_at bnames02cX9_cut_0 30)
theorem dX9_cut_31 : decode cX9_cut 31 = .ok (.goto 4, 3) := dk_167 (c := cX9_cut) (pc := 31) (a := 0) (b := 4) (dk_at bnames02cX9_cut_0 31) (by decide)
theorem dX9_cut_34 : decode cX9_cut 34 = .ok (.lload_n 0, 1) := dk_30 (c := cX9_cut) (pc := 34) (dk_at bnames02cX9_cut_0 34)
theorem dX9_cut_35 : decode cX9_cut 35 = .ok (.lreturn, 1) := dk_173 (c := cX9_cut) (pc := 35) (dk_at bnames02cX9_cut_0 35)
set_option maxRecDepth 20000 in
theorem ggX9_write_X9_isSlot : GoodIn wsX9_write wsX9_isSlot := goodIn_r _ [8, 9, 10, 11, 7, 12] rfl (by decide +kernel)
set_option maxRecDepth 20000 in
theorem gX9_write_X9_isSlot : GoodIn wsX9_write (va_wsS RX9 134 yX9_isSlot wsX9_isSlot) := goodIn_app (goodIn_r _ [5, 6, 7] rfl (by decide +kernel)) ggX9_write_X9_isSlot
set_option maxRecDepth 20000 in
theorem ggX9_write_X9_in : GoodIn wsX9_write wsX9_in := goodIn_r _ [12] rfl (by decide +kernel)
set_option maxRecDepth 20000 in
theorem gX9_write_X9_in : GoodIn wsX9_write (va_wsS RX9 130 yX9_in wsX9_in) := goodIn_app (goodIn_r _ [10, 11, 7] rfl (by decide +kernel)) ggX9_write_X9_in
set_option maxRecDepth 20000 in
theorem ggX9_write_X9_cut : GoodIn wsX9_write wsX9_cut := goodIn_r _ [15] rfl (by decide +kernel)
set_option maxRecDepth 20000 in
theorem gX9_write_X9_cut : GoodIn wsX9_write (va_wsS RX9 138 yX9_cut wsX9_cut) := goodIn_app (goodIn_r _ [13, 14, 7] rfl (by decide +kernel)) ggX9_write_X9_cut
theorem bnames02cX9_write_0 : ((dk_l cX9_write).drop 0).take 52 = [42, 3, 181, 0, 125, 27, 184, 0, 134, 154, 0, 6, 16, 254, 172, 42, 180, 0, 7, 27, 46, 2, 160, 0, 6, 16, 250, 172, 28, 133, 9, 42, 180, 0, 13, 27, 46, 4, 100, 133, 184, 0, 130, 154, 0, 6, 16, 249, 172, 42, 180, 0] := by decide +kernel
theorem dX9_write_0 : decode cX9_write 0 = .ok (.aload_n 0, 1) := dk_42 (c := cX9_write) (pc := 0) (dk_at bnames02cX9_write_0 0)
theorem dX9_write_1 : decode cX9_write 1 = .ok (.iconst 0, 1) := dk_3 (c := cX9_write) (pc := 1) (dk_at bnames02cX9_write_0 1)
theorem dX9_write_2 : decode cX9_write 2 = .ok (.putfield 125, 3) := dk_181 (c := cX9_write) (pc := 2) (a := 0) (b := 125) (dk_at bnames02cX9_write_0 2) rfl
theorem dX9_write_5 : decode cX9_write 5 = .ok (.iload_n 1, 1) := dk_27 (c := cX9_write) (pc := 5) (dk_at bnames02cX9_write_0 5)
theorem dX9_write_6 : decode cX9_write 6 = .ok (.invokestatic 134, 3) := dk_184 (c := cX9_write) (pc := 6) (a := 0) (b := 134) (dk_at bnames02cX9_write_0 6) rfl
theorem dX9_write_9 : decode cX9_write 9 = .ok (.ifCond .ne 6, 3) := dk_154 (c := cX9_write) (pc := 9) (a := 0) (b := 6) (dk_at bnames02cX9_write_0 9) (by decide)
theorem dX9_write_12 : decode cX9_write 12 = .ok (.bipush (-2), 2) := dk_16 (c := cX9_write) (pc := 12) (a := 254) (dk_at bnames02cX9_write_0 12) (by decide)
theorem dX9_write_14 : decode cX9_write 14 = .ok (.ireturn, 1) := dk_172 (c := cX9_write) (pc := 14) (dk_at bnames02cX9_write_0 14)
theorem dX9_write_15 : decode cX9_write 15 = .ok (.aload_n 0, 1) := dk_42 (c := cX9_write) (pc := 15) (dk_at bnames02cX9_write_0 15)
theorem dX9_write_16 : decode cX9_write 16 = .ok (.getfield 7, 3) := dk_180 (c := cX9_write) (pc := 16) (a := 0) (b := 7) (dk_at bnames02cX9_write_0 16) rfl
theorem dX9_write_19 : decode cX9_write 19 = .ok (.iload_n 1, 1) := dk_27 (c := cX9_write) (pc := 19) (dk_at bnames02cX9_write_0 19)
theorem dX9_write_20 : decode cX9_write 20 = .ok (.iaload, 1) := dk_46 (c := cX9_write) (pc := 20) (dk_at bnames02cX9_write_0 20)
theorem dX9_write_21 : decode cX9_write 21 = .ok (.iconst (-1), 1) := dk_2 (c := cX9_write) (pc := 21) (dk_at bnames02cX9_write_0 21)
theorem dX9_write_22 : decode cX9_write 22 = .ok (.if_icmp .ne 6, 3) := dk_160 (c := cX9_write) (pc := 22) (a := 0) (b := 6) (dk_at bnames02cX9_write_0 22) (by decide)
theorem dX9_write_25 : decode cX9_write 25 = .ok (.bipush (-6), 2) := dk_16 (c := cX9_write) (pc := 25) (a := 250) (dk_at bnames02cX9_write_0 25) (by decide)
theorem dX9_write_27 : decode cX9_write 27 = .ok (.ireturn, 1) := dk_172 (c := cX9_write) (pc := 27) (dk_at bnames02cX9_write_0 27)
theorem dX9_write_28 : decode cX9_write 28 = .ok (.iload_n 2, 1) := dk_28 (c := cX9_write) (pc := 28) (dk_at bnames02cX9_write_0 28)
theorem dX9_write_29 : decode cX9_write 29 = .ok (.i2l, 1) := dk_133 (c := cX9_write) (pc := 29) (dk_at bnames02cX9_write_0 29)
theorem dX9_write_30 : decode cX9_write 30 = .ok (.lconst 0, 1) := dk_9 (c := cX9_write) (pc := 30) (dk_at bnames02cX9_write_0 30)
theorem dX9_write_31 : decode cX9_write 31 = .ok (.aload_n 0, 1) := dk_42 (c := cX9_write) (pc := 31) (dk_at bnames02cX9_write_0 31)
theorem dX9_write_32 : decode cX9_write 32 = .ok (.getfield 13, 3) := dk_180 (c := cX9_write) (pc := 32) (a := 0) (b := 13) (dk_at bnames02cX9_write_0 32) rfl
theorem dX9_write_35 : decode cX9_write 35 = .ok (.iload_n 1, 1) := dk_27 (c := cX9_write) (pc := 35) (dk_at bnames02cX9_write_0 35)
theorem dX9_write_36 : decode cX9_write 36 = .ok (.iaload, 1) := dk_46 (c := cX9_write) (pc := 36) (dk_at bnames02cX9_write_0 36)
theorem dX9_write_37 : decode cX9_write 37 = .ok (.iconst 1, 1) := dk_4 (c := cX9_write) (pc := 37) (dk_at bnames02cX9_write_0 37)
theorem dX9_write_38 : decode cX9_write 38 = .ok (.isub, 1) := dk_100 (c := cX9_write) (pc := 38) (dk_at bnames02cX9_write_0 38)
theorem dX9_write_39 : decode cX9_write 39 = .ok (.i2l, 1) := dk_133 (c := cX9_write) (pc := 39) (dk_at bnames02cX9_write_0 39)
theorem dX9_write_40 : decode cX9_write 40 = .ok (.invokestatic 130, 3) := dk_184 (c := cX9_write) (pc := 40) (a := 0) (b := 130) (dk_at bnames02cX9_write_0 40) rfl
theorem dX9_write_43 : decode cX9_write 43 = .ok (.ifCond .ne 6, 3) := dk_154 (c := cX9_write) (pc := 43) (a := 0) (b := 6) (dk_at bnames02cX9_write_0 43) (by decide)
theorem dX9_write_46 : decode cX9_write 46 = .ok (.bipush (-7), 2) := dk_16 (c := cX9_write) (pc := 46) (a := 249) (dk_at bnames02cX9_write_0 46) (by decide)
theorem bnames02cX9_write_48 : ((dk_l cX9_write).drop 48).take 24 = [172, 42, 180, 0, 16, 16, 60, 27, 104, 28, 96, 33, 42, 180, 0, 7, 27, 46, 184, 0, 138, 80, 3, 172] := by decide +kernel
theorem dX9_write_48 : decode cX9_write 48 = .ok (.ireturn, 1) := dk_172 (c := cX9_write) (pc := 48) (dk_at bnames02cX9_write_48 0)
theorem dX9_write_49 : decode cX9_write 49 = .ok (.aload_n 0, 1) := dk_42 (c := cX9_write) (pc := 49) (dk_at bnames02cX9_write_48 1)
theorem dX9_write_50 : decode cX9_write 50 = .ok (.getfield 16, 3) := dk_180 (c := cX9_write) (pc := 50) (a := 0) (b := 16) (dk_at bnames02cX9_write_48 2) rfl
theorem dX9_write_53 : decode cX9_write 53 = .ok (.bipush 60, 2) := dk_16 (c := cX9_write) (pc := 53) (a := 60) (dk_at bnames02cX9_write_48 5) (by decide)
theorem dX9_write_55 : decode cX9_write 55 = .ok (.iload_n 1, 1) := dk_27 (c := cX9_write) (pc := 55) (dk_at bnames02cX9_write_48 7)
theorem dX9_write_56 : decode cX9_write 56 = .ok (.imul, 1) := dk_104 (c := cX9_write) (pc := 56) (dk_at bnames02cX9_write_48 8)
theorem dX9_write_57 : decode cX9_write 57 = .ok (.iload_n 2, 1) := dk_28 (c := cX9_write) (pc := 57) (dk_at bnames02cX9_write_48 9)
theorem dX9_write_58 : decode cX9_write 58 = .ok (.iadd, 1) := dk_96 (c := cX9_write) (pc := 58) (dk_at bnames02cX9_write_48 10)
theorem dX9_write_59 : decode cX9_write 59 = .ok (.lload_n 3, 1) := dk_33 (c := cX9_write) (pc := 59) (dk_at bnames02cX9_write_48 11)
theorem dX9_write_60 : decode cX9_write 60 = .ok (.aload_n 0, 1) := dk_42 (c := cX9_write) (pc := 60) (dk_at bnames02cX9_write_48 12)
theorem dX9_write_61 : decode cX9_write 61 = .ok (.getfield 7, 3) := dk_180 (c := cX9_write) (pc := 61) (a := 0) (b := 7) (dk_at bnames02cX9_write_48 13) rfl
theorem dX9_write_64 : decode cX9_write 64 = .ok (.iload_n 1, 1) := dk_27 (c := cX9_write) (pc := 64) (dk_at bnames02cX9_write_48 16)
theorem dX9_write_65 : decode cX9_write 65 = .ok (.iaload, 1) := dk_46 (c := cX9_write) (pc := 65) (dk_at bnames02cX9_write_48 17)
theorem dX9_write_66 : decode cX9_write 66 = .ok (.invokestatic 138, 3) := dk_184 (c := cX9_write) (pc := 66) (a := 0) (b := 138) (dk_at bnames02cX9_write_48 18) rfl
theorem dX9_write_69 : decode cX9_write 69 = .ok (.lastore, 1) := dk_80 (c := cX9_write) (pc := 69) (dk_at bnames02cX9_write_48 21)
theorem dX9_write_70 : decode cX9_write 70 = .ok (.iconst 0, 1) := dk_3 (c := cX9_write) (pc := 70) (dk_at bnames02cX9_write_48 22)
theorem dX9_write_71 : decode cX9_write 71 = .ok (.ireturn, 1) := dk_172 (c := cX9_write) (pc := 71) (dk_at bnames02cX9_write_48 23)
set_option maxRecDepth 20000 in
theorem ggX9_paste_X9_isSlot : GoodIn wsX9_paste wsX9_isSlot := goodIn_r _ [9, 10, 11, 12, 8, 13] rfl (by decide +kernel)
set_option maxRecDepth 20000 in
theorem gX9_paste_X9_isSlot : GoodIn wsX9_paste (va_wsS RX9 134 yX9_isSlot wsX9_isSlot) := goodIn_app (goodIn_r _ [6, 7, 8] rfl (by decide +kernel)) ggX9_paste_X9_isSlot
theorem bnames02cX9_paste_0 : ((dk_l cX9_paste).drop 0).take 52 = [42, 3, 181, 0, 125, 27, 184, 0, 134, 153, 0, 10, 29, 184, 0, 134, 154, 0, 6, 16, 254, 172, 42, 180, 0, 7, 27, 46, 2, 159, 0, 13, 42, 180, 0, 7, 29, 46, 2, 160, 0, 6, 16, 250, 172, 42, 180, 0, 7, 27, 46, 42] := by decide +kernel
theorem dX9_paste_0 : decode cX9_paste 0 = .ok (.aload_n 0, 1) := dk_42 (c := cX9_paste) (pc := 0) (dk_at bnames02cX9_paste_0 0)
theorem dX9_paste_1 : decode cX9_paste 1 = .ok (.iconst 0, 1) := dk_3 (c := cX9_paste) (pc := 1) (dk_at bnames02cX9_paste_0 1)
theorem dX9_paste_2 : decode cX9_paste 2 = .ok (.putfield 125, 3) := dk_181 (c := cX9_paste) (pc := 2) (a := 0) (b := 125) (dk_at bnames02cX9_paste_0 2) rfl
theorem dX9_paste_5 : decode cX9_paste 5 = .ok (.iload_n 1, 1) := dk_27 (c := cX9_paste) (pc := 5) (dk_at bnames02cX9_paste_0 5)
theorem dX9_paste_6 : decode cX9_paste 6 = .ok (.invokestatic 134, 3) := dk_184 (c := cX9_paste) (pc := 6) (a := 0) (b := 134) (dk_at bnames02cX9_paste_0 6) rfl
theorem dX9_paste_9 : decode cX9_paste 9 = .ok (.ifCond .eq 10, 3) := dk_153 (c := cX9_paste) (pc := 9) (a := 0) (b := 10) (dk_at bnames02cX9_paste_0 9) (by decide)
theorem dX9_paste_12 : decode cX9_paste 12 = .ok (.iload_n 3, 1) := dk_29 (c := cX9_paste) (pc := 12) (dk_at bnames02cX9_paste_0 12)
theorem dX9_paste_13 : decode cX9_paste 13 = .ok (.invokestatic 134, 3) := dk_184 (c := cX9_paste) (pc := 13) (a := 0) (b := 134) (dk_at bnames02cX9_paste_0 13) rfl
theorem dX9_paste_16 : decode cX9_paste 16 = .ok (.ifCond .ne 6, 3) := dk_154 (c := cX9_paste) (pc := 16) (a := 0) (b := 6) (dk_at bnames02cX9_paste_0 16) (by decide)
theorem dX9_paste_19 : decode cX9_paste 19 = .ok (.bipush (-2), 2) := dk_16 (c := cX9_paste) (pc := 19) (a := 254) (dk_at bnames02cX9_paste_0 19) (by decide)
theorem dX9_paste_21 : decode cX9_paste 21 = .ok (.ireturn, 1) := dk_172 (c := cX9_paste) (pc := 21) (dk_at bnames02cX9_paste_0 21)
theorem dX9_paste_22 : decode cX9_paste 22 = .ok (.aload_n 0, 1) := dk_42 (c := cX9_paste) (pc := 22) (dk_at bnames02cX9_paste_0 22)
theorem dX9_paste_23 : decode cX9_paste 23 = .ok (.getfield 7, 3) := dk_180 (c := cX9_paste) (pc := 23) (a := 0) (b := 7) (dk_at bnames02cX9_paste_0 23) rfl
theorem dX9_paste_26 : decode cX9_paste 26 = .ok (.iload_n 1, 1) := dk_27 (c := cX9_paste) (pc := 26) (dk_at bnames02cX9_paste_0 26)
theorem dX9_paste_27 : decode cX9_paste 27 = .ok (.iaload, 1) := dk_46 (c := cX9_paste) (pc := 27) (dk_at bnames02cX9_paste_0 27)
theorem dX9_paste_28 : decode cX9_paste 28 = .ok (.iconst (-1), 1) := dk_2 (c := cX9_paste) (pc := 28) (dk_at bnames02cX9_paste_0 28)
theorem dX9_paste_29 : decode cX9_paste 29 = .ok (.if_icmp .eq 13, 3) := dk_159 (c := cX9_paste) (pc := 29) (a := 0) (b := 13) (dk_at bnames02cX9_paste_0 29) (by decide)
theorem dX9_paste_32 : decode cX9_paste 32 = .ok (.aload_n 0, 1) := dk_42 (c := cX9_paste) (pc := 32) (dk_at bnames02cX9_paste_0 32)
theorem dX9_paste_33 : decode cX9_paste 33 = .ok (.getfield 7, 3) := dk_180 (c := cX9_paste) (pc := 33) (a := 0) (b := 7) (dk_at bnames02cX9_paste_0 33) rfl
theorem dX9_paste_36 : decode cX9_paste 36 = .ok (.iload_n 3, 1) := dk_29 (c := cX9_paste) (pc := 36) (dk_at bnames02cX9_paste_0 36)
theorem dX9_paste_37 : decode cX9_paste 37 = .ok (.iaload, 1) := dk_46 (c := cX9_paste) (pc := 37) (dk_at bnames02cX9_paste_0 37)
theorem dX9_paste_38 : decode cX9_paste 38 = .ok (.iconst (-1), 1) := dk_2 (c := cX9_paste) (pc := 38) (dk_at bnames02cX9_paste_0 38)
theorem dX9_paste_39 : decode cX9_paste 39 = .ok (.if_icmp .ne 6, 3) := dk_160 (c := cX9_paste) (pc := 39) (a := 0) (b := 6) (dk_at bnames02cX9_paste_0 39) (by decide)
theorem dX9_paste_42 : decode cX9_paste 42 = .ok (.bipush (-6), 2) := dk_16 (c := cX9_paste) (pc := 42) (a := 250) (dk_at bnames02cX9_paste_0 42) (by decide)
theorem dX9_paste_44 : decode cX9_paste 44 = .ok (.ireturn, 1) := dk_172 (c := cX9_paste) (pc := 44) (dk_at bnames02cX9_paste_0 44)
theorem dX9_paste_45 : decode cX9_paste 45 = .ok (.aload_n 0, 1) := dk_42 (c := cX9_paste) (pc := 45) (dk_at bnames02cX9_paste_0 45)
theorem dX9_paste_46 : decode cX9_paste 46 = .ok (.getfield 7, 3) := dk_180 (c := cX9_paste) (pc := 46) (a := 0) (b := 7) (dk_at bnames02cX9_paste_0 46) rfl
theorem bnames02cX9_paste_48 : ((dk_l cX9_paste).drop 48).take 52 = [7, 27, 46, 42, 180, 0, 7, 29, 46, 159, 0, 6, 16, 248, 172, 28, 155, 0, 48, 21, 4, 155, 0, 43, 21, 5, 155, 0, 38, 28, 133, 21, 5, 133, 97, 42, 180, 0, 13, 27, 46, 133, 148, 157, 0, 21, 21, 4, 133, 21, 5, 133] := by decide +kernel
theorem dX9_paste_49 : decode cX9_paste 49 = .ok (.iload_n 1, 1) := dk_27 (c := cX9_paste) (pc := 49) (dk_at bnames02cX9_paste_48 1)
theorem dX9_paste_50 : decode cX9_paste 50 = .ok (.iaload, 1) := dk_46 (c := cX9_paste) (pc := 50) (dk_at bnames02cX9_paste_48 2)
theorem dX9_paste_51 : decode cX9_paste 51 = .ok (.aload_n 0, 1) := dk_42 (c := cX9_paste) (pc := 51) (dk_at bnames02cX9_paste_48 3)
theorem dX9_paste_52 : decode cX9_paste 52 = .ok (.getfield 7, 3) := dk_180 (c := cX9_paste) (pc := 52) (a := 0) (b := 7) (dk_at bnames02cX9_paste_48 4) rfl
theorem dX9_paste_55 : decode cX9_paste 55 = .ok (.iload_n 3, 1) := dk_29 (c := cX9_paste) (pc := 55) (dk_at bnames02cX9_paste_48 7)
theorem dX9_paste_56 : decode cX9_paste 56 = .ok (.iaload, 1) := dk_46 (c := cX9_paste) (pc := 56) (dk_at bnames02cX9_paste_48 8)
theorem dX9_paste_57 : decode cX9_paste 57 = .ok (.if_icmp .eq 6, 3) := dk_159 (c := cX9_paste) (pc := 57) (a := 0) (b := 6) (dk_at bnames02cX9_paste_48 9) (by decide)
theorem dX9_paste_60 : decode cX9_paste 60 = .ok (.bipush (-8), 2) := dk_16 (c := cX9_paste) (pc := 60) (a := 248) (dk_at bnames02cX9_paste_48 12) (by decide)
theorem dX9_paste_62 : decode cX9_paste 62 = .ok (.ireturn, 1) := dk_172 (c := cX9_paste) (pc := 62) (dk_at bnames02cX9_paste_48 14)
theorem dX9_paste_63 : decode cX9_paste 63 = .ok (.iload_n 2, 1) := dk_28 (c := cX9_paste) (pc := 63) (dk_at bnames02cX9_paste_48 15)
theorem dX9_paste_64 : decode cX9_paste 64 = .ok (.ifCond .lt 48, 3) := dk_155 (c := cX9_paste) (pc := 64) (a := 0) (b := 48) (dk_at bnames02cX9_paste_48 16) (by decide)
theorem dX9_paste_67 : decode cX9_paste 67 = .ok (.iload 4, 2) := dk_21 (c := cX9_paste) (pc := 67) (a := 4) (dk_at bnames02cX9_paste_48 19) rfl
theorem dX9_paste_69 : decode cX9_paste 69 = .ok (.ifCond .lt 43, 3) := dk_155 (c := cX9_paste) (pc := 69) (a := 0) (b := 43) (dk_at bnames02cX9_paste_48 21) (by decide)
theorem dX9_paste_72 : decode cX9_paste 72 = .ok (.iload 5, 2) := dk_21 (c := cX9_paste) (pc := 72) (a := 5) (dk_at bnames02cX9_paste_48 24) rfl
theorem dX9_paste_74 : decode cX9_paste 74 = .ok (.ifCond .lt 38, 3) := dk_155 (c := cX9_paste) (pc := 74) (a := 0) (b := 38) (dk_at bnames02cX9_paste_48 26) (by decide)
theorem dX9_paste_77 : decode cX9_paste 77 = .ok (.iload_n 2, 1) := dk_28 (c := cX9_paste) (pc := 77) (dk_at bnames02cX9_paste_48 29)
theorem dX9_paste_78 : decode cX9_paste 78 = .ok (.i2l, 1) := dk_133 (c := cX9_paste) (pc := 78) (dk_at bnames02cX9_paste_48 30)
theorem dX9_paste_79 : decode cX9_paste 79 = .ok (.iload 5, 2) := dk_21 (c := cX9_paste) (pc := 79) (a := 5) (dk_at bnames02cX9_paste_48 31) rfl
theorem dX9_paste_81 : decode cX9_paste 81 = .ok (.i2l, 1) := dk_133 (c := cX9_paste) (pc := 81) (dk_at bnames02cX9_paste_48 33)
theorem dX9_paste_82 : decode cX9_paste 82 = .ok (.ladd, 1) := dk_97 (c := cX9_paste) (pc := 82) (dk_at bnames02cX9_paste_48 34)
theorem dX9_paste_83 : decode cX9_paste 83 = .ok (.aload_n 0, 1) := dk_42 (c := cX9_paste) (pc := 83) (dk_at bnames02cX9_paste_48 35)
theorem dX9_paste_84 : decode cX9_paste 84 = .ok (.getfield 13, 3) := dk_180 (c := cX9_paste) (pc := 84) (a := 0) (b := 13) (dk_at bnames02cX9_paste_48 36) rfl
theorem dX9_paste_87 : decode cX9_paste 87 = .ok (.iload_n 1, 1) := dk_27 (c := cX9_paste) (pc := 87) (dk_at bnames02cX9_paste_48 39)
theorem dX9_paste_88 : decode cX9_paste 88 = .ok (.iaload, 1) := dk_46 (c := cX9_paste) (pc := 88) (dk_at bnames02cX9_paste_48 40)
theorem dX9_paste_89 : decode cX9_paste 89 = .ok (.i2l, 1) := dk_133 (c := cX9_paste) (pc := 89) (dk_at bnames02cX9_paste_48 41)
theorem dX9_paste_90 : decode cX9_paste 90 = .ok (.lcmp, 1) := dk_148 (c := cX9_paste) (pc := 90) (dk_at bnames02cX9_paste_48 42)
theorem dX9_paste_91 : decode cX9_paste 91 = .ok (.ifCond .gt 21, 3) := dk_157 (c := cX9_paste) (pc := 91) (a := 0) (b := 21) (dk_at bnames02cX9_paste_48 43) (by decide)
theorem dX9_paste_94 : decode cX9_paste 94 = .ok (.iload 4, 2) := dk_21 (c := cX9_paste) (pc := 94) (a := 4) (dk_at bnames02cX9_paste_48 46) rfl
theorem bnames02cX9_paste_96 : ((dk_l cX9_paste).drop 96).take 52 = [133, 21, 5, 133, 97, 42, 180, 0, 13, 29, 46, 133, 148, 158, 0, 6, 16, 249, 172, 3, 54, 6, 21, 6, 21, 5, 162, 0, 30, 42, 180, 0, 20, 21, 6, 42, 180, 0, 16, 16, 60, 27, 104, 28, 96, 21, 6, 96, 47, 80, 132, 6] := by decide +kernel
theorem dX9_paste_96 : decode cX9_paste 96 = .ok (.i2l, 1) := dk_133 (c := cX9_paste) (pc := 96) (dk_at bnames02cX9_paste_96 0)
theorem dX9_paste_97 : decode cX9_paste 97 = .ok (.iload 5, 2) := dk_21 (c := cX9_paste) (pc := 97) (a := 5) (dk_at bnames02cX9_paste_96 1) rfl
theorem dX9_paste_99 : decode cX9_paste 99 = .ok (.i2l, 1) := dk_133 (c := cX9_paste) (pc := 99) (dk_at bnames02cX9_paste_96 3)
theorem dX9_paste_100 : decode cX9_paste 100 = .ok (.ladd, 1) := dk_97 (c := cX9_paste) (pc := 100) (dk_at bnames02cX9_paste_96 4)
theorem dX9_paste_101 : decode cX9_paste 101 = .ok (.aload_n 0, 1) := dk_42 (c := cX9_paste) (pc := 101) (dk_at bnames02cX9_paste_96 5)
theorem dX9_paste_102 : decode cX9_paste 102 = .ok (.getfield 13, 3) := dk_180 (c := cX9_paste) (pc := 102) (a := 0) (b := 13) (dk_at bnames02cX9_paste_96 6) rfl
theorem dX9_paste_105 : decode cX9_paste 105 = .ok (.iload_n 3, 1) := dk_29 (c := cX9_paste) (pc := 105) (dk_at bnames02cX9_paste_96 9)
theorem dX9_paste_106 : decode cX9_paste 106 = .ok (.iaload, 1) := dk_46 (c := cX9_paste) (pc := 106) (dk_at bnames02cX9_paste_96 10)
theorem dX9_paste_107 : decode cX9_paste 107 = .ok (.i2l, 1) := dk_133 (c := cX9_paste) (pc := 107) (dk_at bnames02cX9_paste_96 11)
theorem dX9_paste_108 : decode cX9_paste 108 = .ok (.lcmp, 1) := dk_148 (c := cX9_paste) (pc := 108) (dk_at bnames02cX9_paste_96 12)
theorem dX9_paste_109 : decode cX9_paste 109 = .ok (.ifCond .le 6, 3) := dk_158 (c := cX9_paste) (pc := 109) (a := 0) (b := 6) (dk_at bnames02cX9_paste_96 13) (by decide)
theorem dX9_paste_112 : decode cX9_paste 112 = .ok (.bipush (-7), 2) := dk_16 (c := cX9_paste) (pc := 112) (a := 249) (dk_at bnames02cX9_paste_96 16) (by decide)
theorem dX9_paste_114 : decode cX9_paste 114 = .ok (.ireturn, 1) := dk_172 (c := cX9_paste) (pc := 114) (dk_at bnames02cX9_paste_96 18)
theorem dX9_paste_115 : decode cX9_paste 115 = .ok (.iconst 0, 1) := dk_3 (c := cX9_paste) (pc := 115) (dk_at bnames02cX9_paste_96 19)
theorem dX9_paste_116 : decode cX9_paste 116 = .ok (.istore 6, 2) := dk_54 (c := cX9_paste) (pc := 116) (a := 6) (dk_at bnames02cX9_paste_96 20) rfl
theorem dX9_paste_118 : decode cX9_paste 118 = .ok (.iload 6, 2) := dk_21 (c := cX9_paste) (pc := 118) (a := 6) (dk_at bnames02cX9_paste_96 22) rfl
theorem dX9_paste_120 : decode cX9_paste 120 = .ok (.iload 5, 2) := dk_21 (c := cX9_paste) (pc := 120) (a := 5) (dk_at bnames02cX9_paste_96 24) rfl
theorem dX9_paste_122 : decode cX9_paste 122 = .ok (.if_icmp .ge 30, 3) := dk_162 (c := cX9_paste) (pc := 122) (a := 0) (b := 30) (dk_at bnames02cX9_paste_96 26) (by decide)
theorem dX9_paste_125 : decode cX9_paste 125 = .ok (.aload_n 0, 1) := dk_42 (c := cX9_paste) (pc := 125) (dk_at bnames02cX9_paste_96 29)
theorem dX9_paste_126 : decode cX9_paste 126 = .ok (.getfield 20, 3) := dk_180 (c := cX9_paste) (pc := 126) (a := 0) (b := 20) (dk_at bnames02cX9_paste_96 30) rfl
theorem dX9_paste_129 : decode cX9_paste 129 = .ok (.iload 6, 2) := dk_21 (c := cX9_paste) (pc := 129) (a := 6) (dk_at bnames02cX9_paste_96 33) rfl
theorem dX9_paste_131 : decode cX9_paste 131 = .ok (.aload_n 0, 1) := dk_42 (c := cX9_paste) (pc := 131) (dk_at bnames02cX9_paste_96 35)
theorem dX9_paste_132 : decode cX9_paste 132 = .ok (.getfield 16, 3) := dk_180 (c := cX9_paste) (pc := 132) (a := 0) (b := 16) (dk_at bnames02cX9_paste_96 36) rfl
theorem dX9_paste_135 : decode cX9_paste 135 = .ok (.bipush 60, 2) := dk_16 (c := cX9_paste) (pc := 135) (a := 60) (dk_at bnames02cX9_paste_96 39) (by decide)
theorem dX9_paste_137 : decode cX9_paste 137 = .ok (.iload_n 1, 1) := dk_27 (c := cX9_paste) (pc := 137) (dk_at bnames02cX9_paste_96 41)
theorem dX9_paste_138 : decode cX9_paste 138 = .ok (.imul, 1) := dk_104 (c := cX9_paste) (pc := 138) (dk_at bnames02cX9_paste_96 42)
theorem dX9_paste_139 : decode cX9_paste 139 = .ok (.iload_n 2, 1) := dk_28 (c := cX9_paste) (pc := 139) (dk_at bnames02cX9_paste_96 43)
theorem dX9_paste_140 : decode cX9_paste 140 = .ok (.iadd, 1) := dk_96 (c := cX9_paste) (pc := 140) (dk_at bnames02cX9_paste_96 44)
theorem dX9_paste_141 : decode cX9_paste 141 = .ok (.iload 6, 2) := dk_21 (c := cX9_paste) (pc := 141) (a := 6) (dk_at bnames02cX9_paste_96 45) rfl
theorem dX9_paste_143 : decode cX9_paste 143 = .ok (.iadd, 1) := dk_96 (c := cX9_paste) (pc := 143) (dk_at bnames02cX9_paste_96 47)
theorem bnames02cX9_paste_144 : ((dk_l cX9_paste).drop 144).take 48 = [47, 80, 132, 6, 1, 167, 255, 225, 3, 54, 6, 21, 6, 21, 5, 162, 0, 31, 42, 180, 0, 16, 16, 60, 29, 104, 21, 4, 96, 21, 6, 96, 42, 180, 0, 20, 21, 6, 47, 80, 132, 6, 1, 167, 255, 224, 3, 172] := by decide +kernel
theorem dX9_paste_144 : decode cX9_paste 144 = .ok (.laload, 1) := dk_47 (c := cX9_paste) (pc := 144) (dk_at bnames02cX9_paste_144 0)
theorem dX9_paste_145 : decode cX9_paste 145 = .ok (.lastore, 1) := dk_80 (c := cX9_paste) (pc := 145) (dk_at bnames02cX9_paste_144 1)
theorem dX9_paste_146 : decode cX9_paste 146 = .ok (.iinc 6 1, 3) := dk_132 (c := cX9_paste) (pc := 146) (a := 6) (b := 1) (dk_at bnames02cX9_paste_144 2) rfl (by decide)
theorem dX9_paste_149 : decode cX9_paste 149 = .ok (.goto (-31), 3) := dk_167 (c := cX9_paste) (pc := 149) (a := 255) (b := 225) (dk_at bnames02cX9_paste_144 5) (by decide)
theorem dX9_paste_152 : decode cX9_paste 152 = .ok (.iconst 0, 1) := dk_3 (c := cX9_paste) (pc := 152) (dk_at bnames02cX9_paste_144 8)
theorem dX9_paste_153 : decode cX9_paste 153 = .ok (.istore 6, 2) := dk_54 (c := cX9_paste) (pc := 153) (a := 6) (dk_at bnames02cX9_paste_144 9) rfl
theorem dX9_paste_155 : decode cX9_paste 155 = .ok (.iload 6, 2) := dk_21 (c := cX9_paste) (pc := 155) (a := 6) (dk_at bnames02cX9_paste_144 11) rfl
theorem dX9_paste_157 : decode cX9_paste 157 = .ok (.iload 5, 2) := dk_21 (c := cX9_paste) (pc := 157) (a := 5) (dk_at bnames02cX9_paste_144 13) rfl
theorem dX9_paste_159 : decode cX9_paste 159 = .ok (.if_icmp .ge 31, 3) := dk_162 (c := cX9_paste) (pc := 159) (a := 0) (b := 31) (dk_at bnames02cX9_paste_144 15) (by decide)
theorem dX9_paste_162 : decode cX9_paste 162 = .ok (.aload_n 0, 1) := dk_42 (c := cX9_paste) (pc := 162) (dk_at bnames02cX9_paste_144 18)
theorem dX9_paste_163 : decode cX9_paste 163 = .ok (.getfield 16, 3) := dk_180 (c := cX9_paste) (pc := 163) (a := 0) (b := 16) (dk_at bnames02cX9_paste_144 19) rfl
theorem dX9_paste_166 : decode cX9_paste 166 = .ok (.bipush 60, 2) := dk_16 (c := cX9_paste) (pc := 166) (a := 60) (dk_at bnames02cX9_paste_144 22) (by decide)
theorem dX9_paste_168 : decode cX9_paste 168 = .ok (.iload_n 3, 1) := dk_29 (c := cX9_paste) (pc := 168) (dk_at bnames02cX9_paste_144 24)
theorem dX9_paste_169 : decode cX9_paste 169 = .ok (.imul, 1) := dk_104 (c := cX9_paste) (pc := 169) (dk_at bnames02cX9_paste_144 25)
theorem dX9_paste_170 : decode cX9_paste 170 = .ok (.iload 4, 2) := dk_21 (c := cX9_paste) (pc := 170) (a := 4) (dk_at bnames02cX9_paste_144 26) rfl
theorem dX9_paste_172 : decode cX9_paste 172 = .ok (.iadd, 1) := dk_96 (c := cX9_paste) (pc := 172) (dk_at bnames02cX9_paste_144 28)
theorem dX9_paste_173 : decode cX9_paste 173 = .ok (.iload 6, 2) := dk_21 (c := cX9_paste) (pc := 173) (a := 6) (dk_at bnames02cX9_paste_144 29) rfl
theorem dX9_paste_175 : decode cX9_paste 175 = .ok (.iadd, 1) := dk_96 (c := cX9_paste) (pc := 175) (dk_at bnames02cX9_paste_144 31)
theorem dX9_paste_176 : decode cX9_paste 176 = .ok (.aload_n 0, 1) := dk_42 (c := cX9_paste) (pc := 176) (dk_at bnames02cX9_paste_144 32)
theorem dX9_paste_177 : decode cX9_paste 177 = .ok (.getfield 20, 3) := dk_180 (c := cX9_paste) (pc := 177) (a := 0) (b := 20) (dk_at bnames02cX9_paste_144 33) rfl
theorem dX9_paste_180 : decode cX9_paste 180 = .ok (.iload 6, 2) := dk_21 (c := cX9_paste) (pc := 180) (a := 6) (dk_at bnames02cX9_paste_144 36) rfl
theorem dX9_paste_182 : decode cX9_paste 182 = .ok (.laload, 1) := dk_47 (c := cX9_paste) (pc := 182) (dk_at bnames02cX9_paste_144 38)
theorem dX9_paste_183 : decode cX9_paste 183 = .ok (.lastore, 1) := dk_80 (c := cX9_paste) (pc := 183) (dk_at bnames02cX9_paste_144 39)
theorem dX9_paste_184 : decode cX9_paste 184 = .ok (.iinc 6 1, 3) := dk_132 (c := cX9_paste) (pc := 184) (a := 6) (b := 1) (dk_at bnames02cX9_paste_144 40) rfl (by decide)
theorem dX9_paste_187 : decode cX9_paste 187 = .ok (.goto (-32), 3) := dk_167 (c := cX9_paste) (pc := 187) (a := 255) (b := 224) (dk_at bnames02cX9_paste_144 43) (by decide)
theorem dX9_paste_190 : decode cX9_paste 190 = .ok (.iconst 0, 1) := dk_3 (c := cX9_paste) (pc := 190) (dk_at bnames02cX9_paste_144 46)
theorem dX9_paste_191 : decode cX9_paste 191 = .ok (.ireturn, 1) := dk_172 (c := cX9_paste) (pc := 191) (dk_at bnames02cX9_paste_144 47)
set_option maxRecDepth 20000 in
theorem ggX9_feed_X9_four : GoodIn wsX9_feed wsX9_four := goodIn_r _ [7, 8, 2, 9, 10, 11, 12, 13, 14, 15, 16, 17, 18, 19, 20, 21, 22, 23, 24, 25, 26, 27, 28, 29, 30, 31, 32, 33, 34, 35, 36, 37, 38, 39, 40, 41, 42, 43, 44, 45, 46, 47, 48, 49, 50, 51, 52, 53, 54, 55, 56, 57, 58, 59, 60, 61, 62, 63, 64, 65, 66, 67, 68] rfl (by decide +kernel)
set_option maxRecDepth 20000 in
theorem gX9_feed_X9_four : GoodIn wsX9_feed (wsV RX9 145 RX9 yX9_four wsX9_four) := goodIn_app (goodIn_r _ [3, 4, 5, 6] rfl (by decide +kernel)) ggX9_feed_X9_four
theorem bnames02cX9_feed_0 : ((dk_l cX9_feed).drop 0).take 52 = [42, 3, 181, 0, 125, 42, 180, 0, 142, 16, 20, 96, 17, 2, 88, 164, 0, 5, 2, 172, 42, 27, 182, 0, 145, 42, 28, 182, 0, 145, 42, 29, 182, 0, 145, 42, 21, 4, 182, 0, 145, 42, 21, 5, 182, 0, 145, 42, 180, 0, 142, 172] := by decide +kernel
theorem dX9_feed_0 : decode cX9_feed 0 = .ok (.aload_n 0, 1) := dk_42 (c := cX9_feed) (pc := 0) (dk_at bnames02cX9_feed_0 0)
theorem dX9_feed_1 : decode cX9_feed 1 = .ok (.iconst 0, 1) := dk_3 (c := cX9_feed) (pc := 1) (dk_at bnames02cX9_feed_0 1)
theorem dX9_feed_2 : decode cX9_feed 2 = .ok (.putfield 125, 3) := dk_181 (c := cX9_feed) (pc := 2) (a := 0) (b := 125) (dk_at bnames02cX9_feed_0 2) rfl
theorem dX9_feed_5 : decode cX9_feed 5 = .ok (.aload_n 0, 1) := dk_42 (c := cX9_feed) (pc := 5) (dk_at bnames02cX9_feed_0 5)
theorem dX9_feed_6 : decode cX9_feed 6 = .ok (.getfield 142, 3) := dk_180 (c := cX9_feed) (pc := 6) (a := 0) (b := 142) (dk_at bnames02cX9_feed_0 6) rfl
theorem dX9_feed_9 : decode cX9_feed 9 = .ok (.bipush 20, 2) := dk_16 (c := cX9_feed) (pc := 9) (a := 20) (dk_at bnames02cX9_feed_0 9) (by decide)
theorem dX9_feed_11 : decode cX9_feed 11 = .ok (.iadd, 1) := dk_96 (c := cX9_feed) (pc := 11) (dk_at bnames02cX9_feed_0 11)
theorem dX9_feed_12 : decode cX9_feed 12 = .ok (.sipush 600, 3) := dk_17 (c := cX9_feed) (pc := 12) (a := 2) (b := 88) (dk_at bnames02cX9_feed_0 12) (by decide)
theorem dX9_feed_15 : decode cX9_feed 15 = .ok (.if_icmp .le 5, 3) := dk_164 (c := cX9_feed) (pc := 15) (a := 0) (b := 5) (dk_at bnames02cX9_feed_0 15) (by decide)
theorem dX9_feed_18 : decode cX9_feed 18 = .ok (.iconst (-1), 1) := dk_2 (c := cX9_feed) (pc := 18) (dk_at bnames02cX9_feed_0 18)
theorem dX9_feed_19 : decode cX9_feed 19 = .ok (.ireturn, 1) := dk_172 (c := cX9_feed) (pc := 19) (dk_at bnames02cX9_feed_0 19)
theorem dX9_feed_20 : decode cX9_feed 20 = .ok (.aload_n 0, 1) := dk_42 (c := cX9_feed) (pc := 20) (dk_at bnames02cX9_feed_0 20)
theorem dX9_feed_21 : decode cX9_feed 21 = .ok (.iload_n 1, 1) := dk_27 (c := cX9_feed) (pc := 21) (dk_at bnames02cX9_feed_0 21)
theorem dX9_feed_22 : decode cX9_feed 22 = .ok (.invokevirtual 145, 3) := dk_182 (c := cX9_feed) (pc := 22) (a := 0) (b := 145) (dk_at bnames02cX9_feed_0 22) rfl
theorem dX9_feed_25 : decode cX9_feed 25 = .ok (.aload_n 0, 1) := dk_42 (c := cX9_feed) (pc := 25) (dk_at bnames02cX9_feed_0 25)
theorem dX9_feed_26 : decode cX9_feed 26 = .ok (.iload_n 2, 1) := dk_28 (c := cX9_feed) (pc := 26) (dk_at bnames02cX9_feed_0 26)
theorem dX9_feed_27 : decode cX9_feed 27 = .ok (.invokevirtual 145, 3) := dk_182 (c := cX9_feed) (pc := 27) (a := 0) (b := 145) (dk_at bnames02cX9_feed_0 27) rfl
theorem dX9_feed_30 : decode cX9_feed 30 = .ok (.aload_n 0, 1) := dk_42 (c := cX9_feed) (pc := 30) (dk_at bnames02cX9_feed_0 30)
theorem dX9_feed_31 : decode cX9_feed 31 = .ok (.iload_n 3, 1) := dk_29 (c := cX9_feed) (pc := 31) (dk_at bnames02cX9_feed_0 31)
theorem dX9_feed_32 : decode cX9_feed 32 = .ok (.invokevirtual 145, 3) := dk_182 (c := cX9_feed) (pc := 32) (a := 0) (b := 145) (dk_at bnames02cX9_feed_0 32) rfl
theorem dX9_feed_35 : decode cX9_feed 35 = .ok (.aload_n 0, 1) := dk_42 (c := cX9_feed) (pc := 35) (dk_at bnames02cX9_feed_0 35)
theorem dX9_feed_36 : decode cX9_feed 36 = .ok (.iload 4, 2) := dk_21 (c := cX9_feed) (pc := 36) (a := 4) (dk_at bnames02cX9_feed_0 36) rfl
theorem dX9_feed_38 : decode cX9_feed 38 = .ok (.invokevirtual 145, 3) := dk_182 (c := cX9_feed) (pc := 38) (a := 0) (b := 145) (dk_at bnames02cX9_feed_0 38) rfl
theorem dX9_feed_41 : decode cX9_feed 41 = .ok (.aload_n 0, 1) := dk_42 (c := cX9_feed) (pc := 41) (dk_at bnames02cX9_feed_0 41)
theorem dX9_feed_42 : decode cX9_feed 42 = .ok (.iload 5, 2) := dk_21 (c := cX9_feed) (pc := 42) (a := 5) (dk_at bnames02cX9_feed_0 42) rfl
theorem dX9_feed_44 : decode cX9_feed 44 = .ok (.invokevirtual 145, 3) := dk_182 (c := cX9_feed) (pc := 44) (a := 0) (b := 145) (dk_at bnames02cX9_feed_0 44) rfl
theorem dX9_feed_47 : decode cX9_feed 47 = .ok (.aload_n 0, 1) := dk_42 (c := cX9_feed) (pc := 47) (dk_at bnames02cX9_feed_0 47)
theorem bnames02cX9_feed_48 : ((dk_l cX9_feed).drop 48).take 4 = [180, 0, 142, 172] := by decide +kernel
theorem dX9_feed_48 : decode cX9_feed 48 = .ok (.getfield 142, 3) := dk_180 (c := cX9_feed) (pc := 48) (a := 0) (b := 142) (dk_at bnames02cX9_feed_48 0) rfl
theorem dX9_feed_51 : decode cX9_feed 51 = .ok (.ireturn, 1) := dk_172 (c := cX9_feed) (pc := 51) (dk_at bnames02cX9_feed_48 3)
theorem bnames02cX9_four_0 : ((dk_l cX9_four).drop 0).take 37 = [16, 24, 61, 28, 155, 0, 32, 42, 180, 0, 23, 42, 180, 0, 142, 27, 28, 122, 145, 84, 42, 89, 180, 0, 142, 4, 96, 181, 0, 142, 132, 2, 248, 167, 255, 226, 177] := by decide +kernel
theorem dX9_four_0 : decode cX9_four 0 = .ok (.bipush 24, 2) := dk_16 (c := cX9_four) (pc := 0) (a := 24) (dk_at bnames02cX9_four_0 0) (by decide)
theorem dX9_four_2 : decode cX9_four 2 = .ok (.istore_n 2, 1) := dk_61 (c := cX9_four) (pc := 2) (dk_at bnames02cX9_four_0 2)
theorem dX9_four_3 : decode cX9_four 3 = .ok (.iload_n 2, 1) := dk_28 (c := cX9_four) (pc := 3) (dk_at bnames02cX9_four_0 3)
theorem dX9_four_4 : decode cX9_four 4 = .ok (.ifCond .lt 32, 3) := dk_155 (c := cX9_four) (pc := 4) (a := 0) (b := 32) (dk_at bnames02cX9_four_0 4) (by decide)
theorem dX9_four_7 : decode cX9_four 7 = .ok (.aload_n 0, 1) := dk_42 (c := cX9_four) (pc := 7) (dk_at bnames02cX9_four_0 7)
theorem dX9_four_8 : decode cX9_four 8 = .ok (.getfield 23, 3) := dk_180 (c := cX9_four) (pc := 8) (a := 0) (b := 23) (dk_at bnames02cX9_four_0 8) rfl
theorem dX9_four_11 : decode cX9_four 11 = .ok (.aload_n 0, 1) := dk_42 (c := cX9_four) (pc := 11) (dk_at bnames02cX9_four_0 11)
theorem dX9_four_12 : decode cX9_four 12 = .ok (.getfield 142, 3) := dk_180 (c := cX9_four) (pc := 12) (a := 0) (b := 142) (dk_at bnames02cX9_four_0 12) rfl
theorem dX9_four_15 : decode cX9_four 15 = .ok (.iload_n 1, 1) := dk_27 (c := cX9_four) (pc := 15) (dk_at bnames02cX9_four_0 15)
theorem dX9_four_16 : decode cX9_four 16 = .ok (.iload_n 2, 1) := dk_28 (c := cX9_four) (pc := 16) (dk_at bnames02cX9_four_0 16)
theorem dX9_four_17 : decode cX9_four 17 = .ok (.ishr, 1) := dk_122 (c := cX9_four) (pc := 17) (dk_at bnames02cX9_four_0 17)
theorem dX9_four_18 : decode cX9_four 18 = .ok (.i2b, 1) := dk_145 (c := cX9_four) (pc := 18) (dk_at bnames02cX9_four_0 18)
theorem dX9_four_19 : decode cX9_four 19 = .ok (.bastore, 1) := dk_84 (c := cX9_four) (pc := 19) (dk_at bnames02cX9_four_0 19)
theorem dX9_four_20 : decode cX9_four 20 = .ok (.aload_n 0, 1) := dk_42 (c := cX9_four) (pc := 20) (dk_at bnames02cX9_four_0 20)
theorem dX9_four_21 : decode cX9_four 21 = .ok (.dup, 1) := dk_89 (c := cX9_four) (pc := 21) (dk_at bnames02cX9_four_0 21)
theorem dX9_four_22 : decode cX9_four 22 = .ok (.getfield 142, 3) := dk_180 (c := cX9_four) (pc := 22) (a := 0) (b := 142) (dk_at bnames02cX9_four_0 22) rfl
theorem dX9_four_25 : decode cX9_four 25 = .ok (.iconst 1, 1) := dk_4 (c := cX9_four) (pc := 25) (dk_at bnames02cX9_four_0 25)
theorem dX9_four_26 : decode cX9_four 26 = .ok (.iadd, 1) := dk_96 (c := cX9_four) (pc := 26) (dk_at bnames02cX9_four_0 26)
theorem dX9_four_27 : decode cX9_four 27 = .ok (.putfield 142, 3) := dk_181 (c := cX9_four) (pc := 27) (a := 0) (b := 142) (dk_at bnames02cX9_four_0 27) rfl
theorem dX9_four_30 : decode cX9_four 30 = .ok (.iinc 2 (-8), 3) := dk_132 (c := cX9_four) (pc := 30) (a := 2) (b := 248) (dk_at bnames02cX9_four_0 30) rfl (by decide)
theorem dX9_four_33 : decode cX9_four 33 = .ok (.goto (-30), 3) := dk_167 (c := cX9_four) (pc := 33) (a := 255) (b := 226) (dk_at bnames02cX9_four_0 33) (by decide)
theorem dX9_four_36 : decode cX9_four 36 = .ok (.return_, 1) := dk_177 (c := cX9_four) (pc := 36) (dk_at bnames02cX9_four_0 36)
set_option maxRecDepth 20000 in
theorem ggX9_end_X9_in : GoodIn wsX9_end wsX9_in := goodIn_r _ [6] rfl (by decide +kernel)
set_option maxRecDepth 20000 in
theorem gX9_end_X9_in : GoodIn wsX9_end (va_wsS RX9 130 yX9_in wsX9_in) := goodIn_app (goodIn_r _ [3, 4, 5] rfl (by decide +kernel)) ggX9_end_X9_in
theorem bnames02cX9_end_0 : ((dk_l cX9_end).drop 0).take 28 = [42, 3, 181, 0, 125, 27, 133, 9, 42, 180, 0, 142, 133, 184, 0, 130, 154, 0, 5, 2, 172, 42, 27, 181, 0, 142, 27, 172] := by decide +kernel
theorem dX9_end_0 : decode cX9_end 0 = .ok (.aload_n 0, 1) := dk_42 (c := cX9_end) (pc := 0) (dk_at bnames02cX9_end_0 0)
theorem dX9_end_1 : decode cX9_end 1 = .ok (.iconst 0, 1) := dk_3 (c := cX9_end) (pc := 1) (dk_at bnames02cX9_end_0 1)
theorem dX9_end_2 : decode cX9_end 2 = .ok (.putfield 125, 3) := dk_181 (c := cX9_end) (pc := 2) (a := 0) (b := 125) (dk_at bnames02cX9_end_0 2) rfl
theorem dX9_end_5 : decode cX9_end 5 = .ok (.iload_n 1, 1) := dk_27 (c := cX9_end) (pc := 5) (dk_at bnames02cX9_end_0 5)
theorem dX9_end_6 : decode cX9_end 6 = .ok (.i2l, 1) := dk_133 (c := cX9_end) (pc := 6) (dk_at bnames02cX9_end_0 6)
theorem dX9_end_7 : decode cX9_end 7 = .ok (.lconst 0, 1) := dk_9 (c := cX9_end) (pc := 7) (dk_at bnames02cX9_end_0 7)
theorem dX9_end_8 : decode cX9_end 8 = .ok (.aload_n 0, 1) := dk_42 (c := cX9_end) (pc := 8) (dk_at bnames02cX9_end_0 8)
theorem dX9_end_9 : decode cX9_end 9 = .ok (.getfield 142, 3) := dk_180 (c := cX9_end) (pc := 9) (a := 0) (b := 142) (dk_at bnames02cX9_end_0 9) rfl
theorem dX9_end_12 : decode cX9_end 12 = .ok (.i2l, 1) := dk_133 (c := cX9_end) (pc := 12) (dk_at bnames02cX9_end_0 12)
theorem dX9_end_13 : decode cX9_end 13 = .ok (.invokestatic 130, 3) := dk_184 (c := cX9_end) (pc := 13) (a := 0) (b := 130) (dk_at bnames02cX9_end_0 13) rfl
theorem dX9_end_16 : decode cX9_end 16 = .ok (.ifCond .ne 5, 3) := dk_154 (c := cX9_end) (pc := 16) (a := 0) (b := 5) (dk_at bnames02cX9_end_0 16) (by decide)
theorem dX9_end_19 : decode cX9_end 19 = .ok (.iconst (-1), 1) := dk_2 (c := cX9_end) (pc := 19) (dk_at bnames02cX9_end_0 19)
theorem dX9_end_20 : decode cX9_end 20 = .ok (.ireturn, 1) := dk_172 (c := cX9_end) (pc := 20) (dk_at bnames02cX9_end_0 20)
theorem dX9_end_21 : decode cX9_end 21 = .ok (.aload_n 0, 1) := dk_42 (c := cX9_end) (pc := 21) (dk_at bnames02cX9_end_0 21)
theorem dX9_end_22 : decode cX9_end 22 = .ok (.iload_n 1, 1) := dk_27 (c := cX9_end) (pc := 22) (dk_at bnames02cX9_end_0 22)
theorem dX9_end_23 : decode cX9_end 23 = .ok (.putfield 142, 3) := dk_181 (c := cX9_end) (pc := 23) (a := 0) (b := 142) (dk_at bnames02cX9_end_0 23) rfl
theorem dX9_end_26 : decode cX9_end 26 = .ok (.iload_n 1, 1) := dk_27 (c := cX9_end) (pc := 26) (dk_at bnames02cX9_end_0 26)
theorem dX9_end_27 : decode cX9_end 27 = .ok (.ireturn, 1) := dk_172 (c := cX9_end) (pc := 27) (dk_at bnames02cX9_end_0 27)
theorem bnames02cX9_isByte_0 : ((dk_l cX9_isByte).drop 0).take 34 = [27, 42, 180, 0, 142, 162, 0, 27, 42, 180, 0, 23, 27, 51, 28, 161, 0, 17, 42, 180, 0, 23, 27, 51, 29, 163, 0, 7, 4, 167, 0, 4, 3, 172] := by decide +kernel
theorem dX9_isByte_0 : decode cX9_isByte 0 = .ok (.iload_n 1, 1) := dk_27 (c := cX9_isByte) (pc := 0) (dk_at bnames02cX9_isByte_0 0)
theorem dX9_isByte_1 : decode cX9_isByte 1 = .ok (.aload_n 0, 1) := dk_42 (c := cX9_isByte) (pc := 1) (dk_at bnames02cX9_isByte_0 1)
theorem dX9_isByte_2 : decode cX9_isByte 2 = .ok (.getfield 142, 3) := dk_180 (c := cX9_isByte) (pc := 2) (a := 0) (b := 142) (dk_at bnames02cX9_isByte_0 2) rfl
theorem dX9_isByte_5 : decode cX9_isByte 5 = .ok (.if_icmp .ge 27, 3) := dk_162 (c := cX9_isByte) (pc := 5) (a := 0) (b := 27) (dk_at bnames02cX9_isByte_0 5) (by decide)
theorem dX9_isByte_8 : decode cX9_isByte 8 = .ok (.aload_n 0, 1) := dk_42 (c := cX9_isByte) (pc := 8) (dk_at bnames02cX9_isByte_0 8)
theorem dX9_isByte_9 : decode cX9_isByte 9 = .ok (.getfield 23, 3) := dk_180 (c := cX9_isByte) (pc := 9) (a := 0) (b := 23) (dk_at bnames02cX9_isByte_0 9) rfl
theorem dX9_isByte_12 : decode cX9_isByte 12 = .ok (.iload_n 1, 1) := dk_27 (c := cX9_isByte) (pc := 12) (dk_at bnames02cX9_isByte_0 12)
theorem dX9_isByte_13 : decode cX9_isByte 13 = .ok (.baload, 1) := dk_51 (c := cX9_isByte) (pc := 13) (dk_at bnames02cX9_isByte_0 13)
theorem dX9_isByte_14 : decode cX9_isByte 14 = .ok (.iload_n 2, 1) := dk_28 (c := cX9_isByte) (pc := 14) (dk_at bnames02cX9_isByte_0 14)
theorem dX9_isByte_15 : decode cX9_isByte 15 = .ok (.if_icmp .lt 17, 3) := dk_161 (c := cX9_isByte) (pc := 15) (a := 0) (b := 17) (dk_at bnames02cX9_isByte_0 15) (by decide)
theorem dX9_isByte_18 : decode cX9_isByte 18 = .ok (.aload_n 0, 1) := dk_42 (c := cX9_isByte) (pc := 18) (dk_at bnames02cX9_isByte_0 18)
theorem dX9_isByte_19 : decode cX9_isByte 19 = .ok (.getfield 23, 3) := dk_180 (c := cX9_isByte) (pc := 19) (a := 0) (b := 23) (dk_at bnames02cX9_isByte_0 19) rfl
theorem dX9_isByte_22 : decode cX9_isByte 22 = .ok (.iload_n 1, 1) := dk_27 (c := cX9_isByte) (pc := 22) (dk_at bnames02cX9_isByte_0 22)
theorem dX9_isByte_23 : decode cX9_isByte 23 = .ok (.baload, 1) := dk_51 (c := cX9_isByte) (pc := 23) (dk_at bnames02cX9_isByte_0 23)
theorem dX9_isByte_24 : decode cX9_isByte 24 = .ok (.iload_n 3, 1) := dk_29 (c := cX9_isByte) (pc := 24) (dk_at bnames02cX9_isByte_0 24)
theorem dX9_isByte_25 : decode cX9_isByte 25 = .ok (.if_icmp .gt 7, 3) := dk_163 (c := cX9_isByte) (pc := 25) (a := 0) (b := 7) (dk_at bnames02cX9_isByte_0 25) (by decide)
theorem dX9_isByte_28 : decode cX9_isByte 28 = .ok (.iconst 1, 1) := dk_4 (c := cX9_isByte) (pc := 28) (dk_at bnames02cX9_isByte_0 28)
theorem dX9_isByte_29 : decode cX9_isByte 29 = .ok (.goto 4, 3) := dk_167 (c := cX9_isByte) (pc := 29) (a := 0) (b := 4) (dk_at bnames02cX9_isByte_0 29) (by decide)
theorem dX9_isByte_32 : decode cX9_isByte 32 = .ok (.iconst 0, 1) := dk_3 (c := cX9_isByte) (pc := 32) (dk_at bnames02cX9_isByte_0 32)
theorem dX9_isByte_33 : decode cX9_isByte 33 = .ok (.ireturn, 1) := dk_172 (c := cX9_isByte) (pc := 33) (dk_at bnames02cX9_isByte_0 33)
set_option maxRecDepth 20000 in
theorem ggX9_next_X9_isByte : GoodIn wsX9_next wsX9_isByte := goodIn_r _ [17, 5, 9, 18, 19, 20, 21, 22, 23, 24, 25, 26, 27, 28, 29, 30, 31, 32, 33, 34, 35, 36, 37, 38, 39, 40, 41, 42, 43, 44, 45, 46, 47, 48, 49, 50, 51, 52, 53, 54, 55, 56, 57, 58, 59, 60, 61, 62, 63, 64, 65, 66, 67, 68, 69, 70, 71, 72, 73, 74, 75, 76, 77] rfl (by decide +kernel)
set_option maxRecDepth 20000 in
theorem gX9_next_X9_isByte : GoodIn wsX9_next (wsV RX9 152 RX9 yX9_isByte wsX9_isByte) := goodIn_app (goodIn_r _ [13, 14, 15, 16] rfl (by decide +kernel)) ggX9_next_X9_isByte
theorem bnames02cX9_next_0 : ((dk_l cX9_next).drop 0).take 52 = [42, 42, 180, 0, 149, 16, 32, 16, 32, 182, 0, 152, 154, 0, 18, 42, 42, 180, 0, 149, 16, 10, 16, 10, 182, 0, 152, 153, 0, 16, 42, 89, 180, 0, 149, 4, 96, 181, 0, 149, 167, 255, 216, 42, 42, 180, 0, 149, 181, 0, 156, 42] := by decide +kernel
theorem dX9_next_0 : decode cX9_next 0 = .ok (.aload_n 0, 1) := dk_42 (c := cX9_next) (pc := 0) (dk_at bnames02cX9_next_0 0)
theorem dX9_next_1 : decode cX9_next 1 = .ok (.aload_n 0, 1) := dk_42 (c := cX9_next) (pc := 1) (dk_at bnames02cX9_next_0 1)
theorem dX9_next_2 : decode cX9_next 2 = .ok (.getfield 149, 3) := dk_180 (c := cX9_next) (pc := 2) (a := 0) (b := 149) (dk_at bnames02cX9_next_0 2) rfl
theorem dX9_next_5 : decode cX9_next 5 = .ok (.bipush 32, 2) := dk_16 (c := cX9_next) (pc := 5) (a := 32) (dk_at bnames02cX9_next_0 5) (by decide)
theorem dX9_next_7 : decode cX9_next 7 = .ok (.bipush 32, 2) := dk_16 (c := cX9_next) (pc := 7) (a := 32) (dk_at bnames02cX9_next_0 7) (by decide)
theorem dX9_next_9 : decode cX9_next 9 = .ok (.invokevirtual 152, 3) := dk_182 (c := cX9_next) (pc := 9) (a := 0) (b := 152) (dk_at bnames02cX9_next_0 9) rfl
theorem dX9_next_12 : decode cX9_next 12 = .ok (.ifCond .ne 18, 3) := dk_154 (c := cX9_next) (pc := 12) (a := 0) (b := 18) (dk_at bnames02cX9_next_0 12) (by decide)
theorem dX9_next_15 : decode cX9_next 15 = .ok (.aload_n 0, 1) := dk_42 (c := cX9_next) (pc := 15) (dk_at bnames02cX9_next_0 15)
theorem dX9_next_16 : decode cX9_next 16 = .ok (.aload_n 0, 1) := dk_42 (c := cX9_next) (pc := 16) (dk_at bnames02cX9_next_0 16)
theorem dX9_next_17 : decode cX9_next 17 = .ok (.getfield 149, 3) := dk_180 (c := cX9_next) (pc := 17) (a := 0) (b := 149) (dk_at bnames02cX9_next_0 17) rfl
theorem dX9_next_20 : decode cX9_next 20 = .ok (.bipush 10, 2) := dk_16 (c := cX9_next) (pc := 20) (a := 10) (dk_at bnames02cX9_next_0 20) (by decide)
theorem dX9_next_22 : decode cX9_next 22 = .ok (.bipush 10, 2) := dk_16 (c := cX9_next) (pc := 22) (a := 10) (dk_at bnames02cX9_next_0 22) (by decide)
theorem dX9_next_24 : decode cX9_next 24 = .ok (.invokevirtual 152, 3) := dk_182 (c := cX9_next) (pc := 24) (a := 0) (b := 152) (dk_at bnames02cX9_next_0 24) rfl
theorem dX9_next_27 : decode cX9_next 27 = .ok (.ifCond .eq 16, 3) := dk_153 (c := cX9_next) (pc := 27) (a := 0) (b := 16) (dk_at bnames02cX9_next_0 27) (by decide)
theorem dX9_next_30 : decode cX9_next 30 = .ok (.aload_n 0, 1) := dk_42 (c := cX9_next) (pc := 30) (dk_at bnames02cX9_next_0 30)
theorem dX9_next_31 : decode cX9_next 31 = .ok (.dup, 1) := dk_89 (c := cX9_next) (pc := 31) (dk_at bnames02cX9_next_0 31)
theorem dX9_next_32 : decode cX9_next 32 = .ok (.getfield 149, 3) := dk_180 (c := cX9_next) (pc := 32) (a := 0) (b := 149) (dk_at bnames02cX9_next_0 32) rfl
theorem dX9_next_35 : decode cX9_next 35 = .ok (.iconst 1, 1) := dk_4 (c := cX9_next) (pc := 35) (dk_at bnames02cX9_next_0 35)
theorem dX9_next_36 : decode cX9_next 36 = .ok (.iadd, 1) := dk_96 (c := cX9_next) (pc := 36) (dk_at bnames02cX9_next_0 36)
theorem dX9_next_37 : decode cX9_next 37 = .ok (.putfield 149, 3) := dk_181 (c := cX9_next) (pc := 37) (a := 0) (b := 149) (dk_at bnames02cX9_next_0 37) rfl
theorem dX9_next_40 : decode cX9_next 40 = .ok (.goto (-40), 3) := dk_167 (c := cX9_next) (pc := 40) (a := 255) (b := 216) (dk_at bnames02cX9_next_0 40) (by decide)
theorem dX9_next_43 : decode cX9_next 43 = .ok (.aload_n 0, 1) := dk_42 (c := cX9_next) (pc := 43) (dk_at bnames02cX9_next_0 43)
theorem dX9_next_44 : decode cX9_next 44 = .ok (.aload_n 0, 1) := dk_42 (c := cX9_next) (pc := 44) (dk_at bnames02cX9_next_0 44)
theorem dX9_next_45 : decode cX9_next 45 = .ok (.getfield 149, 3) := dk_180 (c := cX9_next) (pc := 45) (a := 0) (b := 149) (dk_at bnames02cX9_next_0 45) rfl
theorem bnames02cX9_next_48 : ((dk_l cX9_next).drop 48).take 52 = [181, 0, 156, 42, 3, 181, 0, 159, 42, 9, 181, 0, 162, 42, 180, 0, 149, 42, 180, 0, 142, 160, 0, 11, 42, 3, 181, 0, 166, 167, 0, 230, 42, 42, 180, 0, 149, 16, 97, 16, 122, 182, 0, 152, 153, 0, 96, 42, 4, 181, 0, 166] := by decide +kernel
theorem dX9_next_48 : decode cX9_next 48 = .ok (.putfield 156, 3) := dk_181 (c := cX9_next) (pc := 48) (a := 0) (b := 156) (dk_at bnames02cX9_next_48 0) rfl
theorem dX9_next_51 : decode cX9_next 51 = .ok (.aload_n 0, 1) := dk_42 (c := cX9_next) (pc := 51) (dk_at bnames02cX9_next_48 3)
theorem dX9_next_52 : decode cX9_next 52 = .ok (.iconst 0, 1) := dk_3 (c := cX9_next) (pc := 52) (dk_at bnames02cX9_next_48 4)
theorem dX9_next_53 : decode cX9_next 53 = .ok (.putfield 159, 3) := dk_181 (c := cX9_next) (pc := 53) (a := 0) (b := 159) (dk_at bnames02cX9_next_48 5) rfl
theorem dX9_next_56 : decode cX9_next 56 = .ok (.aload_n 0, 1) := dk_42 (c := cX9_next) (pc := 56) (dk_at bnames02cX9_next_48 8)
theorem dX9_next_57 : decode cX9_next 57 = .ok (.lconst 0, 1) := dk_9 (c := cX9_next) (pc := 57) (dk_at bnames02cX9_next_48 9)
theorem dX9_next_58 : decode cX9_next 58 = .ok (.putfield 162, 3) := dk_181 (c := cX9_next) (pc := 58) (a := 0) (b := 162) (dk_at bnames02cX9_next_48 10) rfl
theorem dX9_next_61 : decode cX9_next 61 = .ok (.aload_n 0, 1) := dk_42 (c := cX9_next) (pc := 61) (dk_at bnames02cX9_next_48 13)
theorem dX9_next_62 : decode cX9_next 62 = .ok (.getfield 149, 3) := dk_180 (c := cX9_next) (pc := 62) (a := 0) (b := 149) (dk_at bnames02cX9_next_48 14) rfl
theorem dX9_next_65 : decode cX9_next 65 = .ok (.aload_n 0, 1) := dk_42 (c := cX9_next) (pc := 65) (dk_at bnames02cX9_next_48 17)
theorem dX9_next_66 : decode cX9_next 66 = .ok (.getfield 142, 3) := dk_180 (c := cX9_next) (pc := 66) (a := 0) (b := 142) (dk_at bnames02cX9_next_48 18) rfl
theorem dX9_next_69 : decode cX9_next 69 = .ok (.if_icmp .ne 11, 3) := dk_160 (c := cX9_next) (pc := 69) (a := 0) (b := 11) (dk_at bnames02cX9_next_48 21) (by decide)
theorem dX9_next_72 : decode cX9_next 72 = .ok (.aload_n 0, 1) := dk_42 (c := cX9_next) (pc := 72) (dk_at bnames02cX9_next_48 24)
theorem dX9_next_73 : decode cX9_next 73 = .ok (.iconst 0, 1) := dk_3 (c := cX9_next) (pc := 73) (dk_at bnames02cX9_next_48 25)
theorem dX9_next_74 : decode cX9_next 74 = .ok (.putfield 166, 3) := dk_181 (c := cX9_next) (pc := 74) (a := 0) (b := 166) (dk_at bnames02cX9_next_48 26) rfl
theorem dX9_next_77 : decode cX9_next 77 = .ok (.goto 230, 3) := dk_167 (c := cX9_next) (pc := 77) (a := 0) (b := 230) (dk_at bnames02cX9_next_48 29) (by decide)
theorem dX9_next_80 : decode cX9_next 80 = .ok (.aload_n 0, 1) := dk_42 (c := cX9_next) (pc := 80) (dk_at bnames02cX9_next_48 32)
theorem dX9_next_81 : decode cX9_next 81 = .ok (.aload_n 0, 1) := dk_42 (c := cX9_next) (pc := 81) (dk_at bnames02cX9_next_48 33)
theorem dX9_next_82 : decode cX9_next 82 = .ok (.getfield 149, 3) := dk_180 (c := cX9_next) (pc := 82) (a := 0) (b := 149) (dk_at bnames02cX9_next_48 34) rfl
theorem dX9_next_85 : decode cX9_next 85 = .ok (.bipush 97, 2) := dk_16 (c := cX9_next) (pc := 85) (a := 97) (dk_at bnames02cX9_next_48 37) (by decide)
theorem dX9_next_87 : decode cX9_next 87 = .ok (.bipush 122, 2) := dk_16 (c := cX9_next) (pc := 87) (a := 122) (dk_at bnames02cX9_next_48 39) (by decide)
theorem dX9_next_89 : decode cX9_next 89 = .ok (.invokevirtual 152, 3) := dk_182 (c := cX9_next) (pc := 89) (a := 0) (b := 152) (dk_at bnames02cX9_next_48 41) rfl
theorem dX9_next_92 : decode cX9_next 92 = .ok (.ifCond .eq 96, 3) := dk_153 (c := cX9_next) (pc := 92) (a := 0) (b := 96) (dk_at bnames02cX9_next_48 44) (by decide)
theorem dX9_next_95 : decode cX9_next 95 = .ok (.aload_n 0, 1) := dk_42 (c := cX9_next) (pc := 95) (dk_at bnames02cX9_next_48 47)
theorem bnames02cX9_next_96 : ((dk_l cX9_next).drop 96).take 52 = [4, 181, 0, 166, 3, 60, 42, 42, 180, 0, 149, 16, 97, 16, 122, 182, 0, 152, 153, 0, 71, 42, 27, 16, 11, 164, 0, 9, 20, 0, 169, 167, 0, 26, 20, 0, 171, 42, 180, 0, 162, 105, 42, 180, 0, 23, 42, 180, 0, 149, 51, 133] := by decide +kernel
theorem dX9_next_96 : decode cX9_next 96 = .ok (.iconst 1, 1) := dk_4 (c := cX9_next) (pc := 96) (dk_at bnames02cX9_next_96 0)
theorem dX9_next_97 : decode cX9_next 97 = .ok (.putfield 166, 3) := dk_181 (c := cX9_next) (pc := 97) (a := 0) (b := 166) (dk_at bnames02cX9_next_96 1) rfl
theorem dX9_next_100 : decode cX9_next 100 = .ok (.iconst 0, 1) := dk_3 (c := cX9_next) (pc := 100) (dk_at bnames02cX9_next_96 4)
theorem dX9_next_101 : decode cX9_next 101 = .ok (.istore_n 1, 1) := dk_60 (c := cX9_next) (pc := 101) (dk_at bnames02cX9_next_96 5)
theorem dX9_next_102 : decode cX9_next 102 = .ok (.aload_n 0, 1) := dk_42 (c := cX9_next) (pc := 102) (dk_at bnames02cX9_next_96 6)
theorem dX9_next_103 : decode cX9_next 103 = .ok (.aload_n 0, 1) := dk_42 (c := cX9_next) (pc := 103) (dk_at bnames02cX9_next_96 7)
theorem dX9_next_104 : decode cX9_next 104 = .ok (.getfield 149, 3) := dk_180 (c := cX9_next) (pc := 104) (a := 0) (b := 149) (dk_at bnames02cX9_next_96 8) rfl
theorem dX9_next_107 : decode cX9_next 107 = .ok (.bipush 97, 2) := dk_16 (c := cX9_next) (pc := 107) (a := 97) (dk_at bnames02cX9_next_96 11) (by decide)
theorem dX9_next_109 : decode cX9_next 109 = .ok (.bipush 122, 2) := dk_16 (c := cX9_next) (pc := 109) (a := 122) (dk_at bnames02cX9_next_96 13) (by decide)
theorem dX9_next_111 : decode cX9_next 111 = .ok (.invokevirtual 152, 3) := dk_182 (c := cX9_next) (pc := 111) (a := 0) (b := 152) (dk_at bnames02cX9_next_96 15) rfl
theorem dX9_next_114 : decode cX9_next 114 = .ok (.ifCond .eq 71, 3) := dk_153 (c := cX9_next) (pc := 114) (a := 0) (b := 71) (dk_at bnames02cX9_next_96 18) (by decide)
theorem dX9_next_117 : decode cX9_next 117 = .ok (.aload_n 0, 1) := dk_42 (c := cX9_next) (pc := 117) (dk_at bnames02cX9_next_96 21)
theorem dX9_next_118 : decode cX9_next 118 = .ok (.iload_n 1, 1) := dk_27 (c := cX9_next) (pc := 118) (dk_at bnames02cX9_next_96 22)
theorem dX9_next_119 : decode cX9_next 119 = .ok (.bipush 11, 2) := dk_16 (c := cX9_next) (pc := 119) (a := 11) (dk_at bnames02cX9_next_96 23) (by decide)
theorem dX9_next_121 : decode cX9_next 121 = .ok (.if_icmp .le 9, 3) := dk_164 (c := cX9_next) (pc := 121) (a := 0) (b := 9) (dk_at bnames02cX9_next_96 25) (by decide)
theorem dX9_next_124 : decode cX9_next 124 = .ok (.ldc2_w 169, 3) := dk_20 (c := cX9_next) (pc := 124) (a := 0) (b := 169) (dk_at bnames02cX9_next_96 28) rfl
theorem dX9_next_127 : decode cX9_next 127 = .ok (.goto 26, 3) := dk_167 (c := cX9_next) (pc := 127) (a := 0) (b := 26) (dk_at bnames02cX9_next_96 31) (by decide)
theorem dX9_next_130 : decode cX9_next 130 = .ok (.ldc2_w 171, 3) := dk_20 (c := cX9_next) (pc := 130) (a := 0) (b := 171) (dk_at bnames02cX9_next_96 34) rfl
theorem dX9_next_133 : decode cX9_next 133 = .ok (.aload_n 0, 1) := dk_42 (c := cX9_next) (pc := 133) (dk_at bnames02cX9_next_96 37)
theorem dX9_next_134 : decode cX9_next 134 = .ok (.getfield 162, 3) := dk_180 (c := cX9_next) (pc := 134) (a := 0) (b := 162) (dk_at bnames02cX9_next_96 38) rfl
theorem dX9_next_137 : decode cX9_next 137 = .ok (.lmul, 1) := dk_105 (c := cX9_next) (pc := 137) (dk_at bnames02cX9_next_96 41)
theorem dX9_next_138 : decode cX9_next 138 = .ok (.aload_n 0, 1) := dk_42 (c := cX9_next) (pc := 138) (dk_at bnames02cX9_next_96 42)
theorem dX9_next_139 : decode cX9_next 139 = .ok (.getfield 23, 3) := dk_180 (c := cX9_next) (pc := 139) (a := 0) (b := 23) (dk_at bnames02cX9_next_96 43) rfl
theorem dX9_next_142 : decode cX9_next 142 = .ok (.aload_n 0, 1) := dk_42 (c := cX9_next) (pc := 142) (dk_at bnames02cX9_next_96 46)
theorem dX9_next_143 : decode cX9_next 143 = .ok (.getfield 149, 3) := dk_180 (c := cX9_next) (pc := 143) (a := 0) (b := 149) (dk_at bnames02cX9_next_96 47) rfl
theorem bnames02cX9_next_144 : ((dk_l cX9_next).drop 144).take 52 = [0, 149, 51, 133, 97, 20, 0, 173, 101, 181, 0, 162, 27, 16, 11, 164, 0, 10, 42, 20, 0, 169, 181, 0, 162, 42, 89, 180, 0, 149, 4, 96, 181, 0, 149, 132, 1, 1, 167, 255, 176, 167, 0, 122, 42, 42, 180, 0, 149, 16, 48, 16] := by decide +kernel
theorem dX9_next_146 : decode cX9_next 146 = .ok (.baload, 1) := dk_51 (c := cX9_next) (pc := 146) (dk_at bnames02cX9_next_144 2)
theorem dX9_next_147 : decode cX9_next 147 = .ok (.i2l, 1) := dk_133 (c := cX9_next) (pc := 147) (dk_at bnames02cX9_next_144 3)
theorem dX9_next_148 : decode cX9_next 148 = .ok (.ladd, 1) := dk_97 (c := cX9_next) (pc := 148) (dk_at bnames02cX9_next_144 4)
theorem dX9_next_149 : decode cX9_next 149 = .ok (.ldc2_w 173, 3) := dk_20 (c := cX9_next) (pc := 149) (a := 0) (b := 173) (dk_at bnames02cX9_next_144 5) rfl
theorem dX9_next_152 : decode cX9_next 152 = .ok (.lsub, 1) := dk_101 (c := cX9_next) (pc := 152) (dk_at bnames02cX9_next_144 8)
theorem dX9_next_153 : decode cX9_next 153 = .ok (.putfield 162, 3) := dk_181 (c := cX9_next) (pc := 153) (a := 0) (b := 162) (dk_at bnames02cX9_next_144 9) rfl
theorem dX9_next_156 : decode cX9_next 156 = .ok (.iload_n 1, 1) := dk_27 (c := cX9_next) (pc := 156) (dk_at bnames02cX9_next_144 12)
theorem dX9_next_157 : decode cX9_next 157 = .ok (.bipush 11, 2) := dk_16 (c := cX9_next) (pc := 157) (a := 11) (dk_at bnames02cX9_next_144 13) (by decide)
theorem dX9_next_159 : decode cX9_next 159 = .ok (.if_icmp .le 10, 3) := dk_164 (c := cX9_next) (pc := 159) (a := 0) (b := 10) (dk_at bnames02cX9_next_144 15) (by decide)
theorem dX9_next_162 : decode cX9_next 162 = .ok (.aload_n 0, 1) := dk_42 (c := cX9_next) (pc := 162) (dk_at bnames02cX9_next_144 18)
theorem dX9_next_163 : decode cX9_next 163 = .ok (.ldc2_w 169, 3) := dk_20 (c := cX9_next) (pc := 163) (a := 0) (b := 169) (dk_at bnames02cX9_next_144 19) rfl
theorem dX9_next_166 : decode cX9_next 166 = .ok (.putfield 162, 3) := dk_181 (c := cX9_next) (pc := 166) (a := 0) (b := 162) (dk_at bnames02cX9_next_144 22) rfl
theorem dX9_next_169 : decode cX9_next 169 = .ok (.aload_n 0, 1) := dk_42 (c := cX9_next) (pc := 169) (dk_at bnames02cX9_next_144 25)
theorem dX9_next_170 : decode cX9_next 170 = .ok (.dup, 1) := dk_89 (c := cX9_next) (pc := 170) (dk_at bnames02cX9_next_144 26)
theorem dX9_next_171 : decode cX9_next 171 = .ok (.getfield 149, 3) := dk_180 (c := cX9_next) (pc := 171) (a := 0) (b := 149) (dk_at bnames02cX9_next_144 27) rfl
theorem dX9_next_174 : decode cX9_next 174 = .ok (.iconst 1, 1) := dk_4 (c := cX9_next) (pc := 174) (dk_at bnames02cX9_next_144 30)
theorem dX9_next_175 : decode cX9_next 175 = .ok (.iadd, 1) := dk_96 (c := cX9_next) (pc := 175) (dk_at bnames02cX9_next_144 31)
theorem dX9_next_176 : decode cX9_next 176 = .ok (.putfield 149, 3) := dk_181 (c := cX9_next) (pc := 176) (a := 0) (b := 149) (dk_at bnames02cX9_next_144 32) rfl
theorem dX9_next_179 : decode cX9_next 179 = .ok (.iinc 1 1, 3) := dk_132 (c := cX9_next) (pc := 179) (a := 1) (b := 1) (dk_at bnames02cX9_next_144 35) rfl (by decide)
theorem dX9_next_182 : decode cX9_next 182 = .ok (.goto (-80), 3) := dk_167 (c := cX9_next) (pc := 182) (a := 255) (b := 176) (dk_at bnames02cX9_next_144 38) (by decide)
theorem dX9_next_185 : decode cX9_next 185 = .ok (.goto 122, 3) := dk_167 (c := cX9_next) (pc := 185) (a := 0) (b := 122) (dk_at bnames02cX9_next_144 41) (by decide)
theorem dX9_next_188 : decode cX9_next 188 = .ok (.aload_n 0, 1) := dk_42 (c := cX9_next) (pc := 188) (dk_at bnames02cX9_next_144 44)
theorem dX9_next_189 : decode cX9_next 189 = .ok (.aload_n 0, 1) := dk_42 (c := cX9_next) (pc := 189) (dk_at bnames02cX9_next_144 45)
theorem dX9_next_190 : decode cX9_next 190 = .ok (.getfield 149, 3) := dk_180 (c := cX9_next) (pc := 190) (a := 0) (b := 149) (dk_at bnames02cX9_next_144 46) rfl
theorem bnames02cX9_next_192 : ((dk_l cX9_next).drop 192).take 52 = [149, 16, 48, 16, 57, 182, 0, 152, 153, 0, 74, 42, 5, 181, 0, 166, 42, 42, 180, 0, 149, 16, 48, 16, 57, 182, 0, 152, 153, 0, 87, 42, 42, 180, 0, 159, 18, 175, 164, 0, 8, 18, 176, 167, 0, 23, 16, 10, 42, 180, 0, 159] := by decide +kernel
theorem dX9_next_193 : decode cX9_next 193 = .ok (.bipush 48, 2) := dk_16 (c := cX9_next) (pc := 193) (a := 48) (dk_at bnames02cX9_next_192 1) (by decide)
theorem dX9_next_195 : decode cX9_next 195 = .ok (.bipush 57, 2) := dk_16 (c := cX9_next) (pc := 195) (a := 57) (dk_at bnames02cX9_next_192 3) (by decide)
theorem dX9_next_197 : decode cX9_next 197 = .ok (.invokevirtual 152, 3) := dk_182 (c := cX9_next) (pc := 197) (a := 0) (b := 152) (dk_at bnames02cX9_next_192 5) rfl
theorem dX9_next_200 : decode cX9_next 200 = .ok (.ifCond .eq 74, 3) := dk_153 (c := cX9_next) (pc := 200) (a := 0) (b := 74) (dk_at bnames02cX9_next_192 8) (by decide)
theorem dX9_next_203 : decode cX9_next 203 = .ok (.aload_n 0, 1) := dk_42 (c := cX9_next) (pc := 203) (dk_at bnames02cX9_next_192 11)
theorem dX9_next_204 : decode cX9_next 204 = .ok (.iconst 2, 1) := dk_5 (c := cX9_next) (pc := 204) (dk_at bnames02cX9_next_192 12)
theorem dX9_next_205 : decode cX9_next 205 = .ok (.putfield 166, 3) := dk_181 (c := cX9_next) (pc := 205) (a := 0) (b := 166) (dk_at bnames02cX9_next_192 13) rfl
theorem dX9_next_208 : decode cX9_next 208 = .ok (.aload_n 0, 1) := dk_42 (c := cX9_next) (pc := 208) (dk_at bnames02cX9_next_192 16)
theorem dX9_next_209 : decode cX9_next 209 = .ok (.aload_n 0, 1) := dk_42 (c := cX9_next) (pc := 209) (dk_at bnames02cX9_next_192 17)
theorem dX9_next_210 : decode cX9_next 210 = .ok (.getfield 149, 3) := dk_180 (c := cX9_next) (pc := 210) (a := 0) (b := 149) (dk_at bnames02cX9_next_192 18) rfl
theorem dX9_next_213 : decode cX9_next 213 = .ok (.bipush 48, 2) := dk_16 (c := cX9_next) (pc := 213) (a := 48) (dk_at bnames02cX9_next_192 21) (by decide)
theorem dX9_next_215 : decode cX9_next 215 = .ok (.bipush 57, 2) := dk_16 (c := cX9_next) (pc := 215) (a := 57) (dk_at bnames02cX9_next_192 23) (by decide)
theorem dX9_next_217 : decode cX9_next 217 = .ok (.invokevirtual 152, 3) := dk_182 (c := cX9_next) (pc := 217) (a := 0) (b := 152) (dk_at bnames02cX9_next_192 25) rfl
theorem dX9_next_220 : decode cX9_next 220 = .ok (.ifCond .eq 87, 3) := dk_153 (c := cX9_next) (pc := 220) (a := 0) (b := 87) (dk_at bnames02cX9_next_192 28) (by decide)
theorem dX9_next_223 : decode cX9_next 223 = .ok (.aload_n 0, 1) := dk_42 (c := cX9_next) (pc := 223) (dk_at bnames02cX9_next_192 31)
theorem dX9_next_224 : decode cX9_next 224 = .ok (.aload_n 0, 1) := dk_42 (c := cX9_next) (pc := 224) (dk_at bnames02cX9_next_192 32)
theorem dX9_next_225 : decode cX9_next 225 = .ok (.getfield 159, 3) := dk_180 (c := cX9_next) (pc := 225) (a := 0) (b := 159) (dk_at bnames02cX9_next_192 33) rfl
theorem dX9_next_228 : decode cX9_next 228 = .ok (.ldc 175, 2) := dk_18 (c := cX9_next) (pc := 228) (a := 175) (dk_at bnames02cX9_next_192 36) rfl
theorem dX9_next_230 : decode cX9_next 230 = .ok (.if_icmp .le 8, 3) := dk_164 (c := cX9_next) (pc := 230) (a := 0) (b := 8) (dk_at bnames02cX9_next_192 38) (by decide)
theorem dX9_next_233 : decode cX9_next 233 = .ok (.ldc 176, 2) := dk_18 (c := cX9_next) (pc := 233) (a := 176) (dk_at bnames02cX9_next_192 41) rfl
theorem dX9_next_235 : decode cX9_next 235 = .ok (.goto 23, 3) := dk_167 (c := cX9_next) (pc := 235) (a := 0) (b := 23) (dk_at bnames02cX9_next_192 43) (by decide)
theorem dX9_next_238 : decode cX9_next 238 = .ok (.bipush 10, 2) := dk_16 (c := cX9_next) (pc := 238) (a := 10) (dk_at bnames02cX9_next_192 46) (by decide)
theorem bnames02cX9_next_240 : ((dk_l cX9_next).drop 240).take 52 = [42, 180, 0, 159, 104, 42, 180, 0, 23, 42, 180, 0, 149, 51, 96, 16, 48, 100, 181, 0, 159, 42, 89, 180, 0, 149, 4, 96, 181, 0, 149, 167, 255, 193, 42, 42, 180, 0, 23, 42, 180, 0, 149, 51, 16, 59, 160, 0, 7, 6, 167, 0] := by decide +kernel
theorem dX9_next_240 : decode cX9_next 240 = .ok (.aload_n 0, 1) := dk_42 (c := cX9_next) (pc := 240) (dk_at bnames02cX9_next_240 0)
theorem dX9_next_241 : decode cX9_next 241 = .ok (.getfield 159, 3) := dk_180 (c := cX9_next) (pc := 241) (a := 0) (b := 159) (dk_at bnames02cX9_next_240 1) rfl
theorem dX9_next_244 : decode cX9_next 244 = .ok (.imul, 1) := dk_104 (c := cX9_next) (pc := 244) (dk_at bnames02cX9_next_240 4)
theorem dX9_next_245 : decode cX9_next 245 = .ok (.aload_n 0, 1) := dk_42 (c := cX9_next) (pc := 245) (dk_at bnames02cX9_next_240 5)
theorem dX9_next_246 : decode cX9_next 246 = .ok (.getfield 23, 3) := dk_180 (c := cX9_next) (pc := 246) (a := 0) (b := 23) (dk_at bnames02cX9_next_240 6) rfl
theorem dX9_next_249 : decode cX9_next 249 = .ok (.aload_n 0, 1) := dk_42 (c := cX9_next) (pc := 249) (dk_at bnames02cX9_next_240 9)
theorem dX9_next_250 : decode cX9_next 250 = .ok (.getfield 149, 3) := dk_180 (c := cX9_next) (pc := 250) (a := 0) (b := 149) (dk_at bnames02cX9_next_240 10) rfl
theorem dX9_next_253 : decode cX9_next 253 = .ok (.baload, 1) := dk_51 (c := cX9_next) (pc := 253) (dk_at bnames02cX9_next_240 13)
theorem dX9_next_254 : decode cX9_next 254 = .ok (.iadd, 1) := dk_96 (c := cX9_next) (pc := 254) (dk_at bnames02cX9_next_240 14)
theorem dX9_next_255 : decode cX9_next 255 = .ok (.bipush 48, 2) := dk_16 (c := cX9_next) (pc := 255) (a := 48) (dk_at bnames02cX9_next_240 15) (by decide)
theorem dX9_next_257 : decode cX9_next 257 = .ok (.isub, 1) := dk_100 (c := cX9_next) (pc := 257) (dk_at bnames02cX9_next_240 17)
theorem dX9_next_258 : decode cX9_next 258 = .ok (.putfield 159, 3) := dk_181 (c := cX9_next) (pc := 258) (a := 0) (b := 159) (dk_at bnames02cX9_next_240 18) rfl
theorem dX9_next_261 : decode cX9_next 261 = .ok (.aload_n 0, 1) := dk_42 (c := cX9_next) (pc := 261) (dk_at bnames02cX9_next_240 21)
theorem dX9_next_262 : decode cX9_next 262 = .ok (.dup, 1) := dk_89 (c := cX9_next) (pc := 262) (dk_at bnames02cX9_next_240 22)
theorem dX9_next_263 : decode cX9_next 263 = .ok (.getfield 149, 3) := dk_180 (c := cX9_next) (pc := 263) (a := 0) (b := 149) (dk_at bnames02cX9_next_240 23) rfl
theorem dX9_next_266 : decode cX9_next 266 = .ok (.iconst 1, 1) := dk_4 (c := cX9_next) (pc := 266) (dk_at bnames02cX9_next_240 26)
theorem dX9_next_267 : decode cX9_next 267 = .ok (.iadd, 1) := dk_96 (c := cX9_next) (pc := 267) (dk_at bnames02cX9_next_240 27)
theorem dX9_next_268 : decode cX9_next 268 = .ok (.putfield 149, 3) := dk_181 (c := cX9_next) (pc := 268) (a := 0) (b := 149) (dk_at bnames02cX9_next_240 28) rfl
theorem dX9_next_271 : decode cX9_next 271 = .ok (.goto (-63), 3) := dk_167 (c := cX9_next) (pc := 271) (a := 255) (b := 193) (dk_at bnames02cX9_next_240 31) (by decide)
theorem dX9_next_274 : decode cX9_next 274 = .ok (.aload_n 0, 1) := dk_42 (c := cX9_next) (pc := 274) (dk_at bnames02cX9_next_240 34)
theorem dX9_next_275 : decode cX9_next 275 = .ok (.aload_n 0, 1) := dk_42 (c := cX9_next) (pc := 275) (dk_at bnames02cX9_next_240 35)
theorem dX9_next_276 : decode cX9_next 276 = .ok (.getfield 23, 3) := dk_180 (c := cX9_next) (pc := 276) (a := 0) (b := 23) (dk_at bnames02cX9_next_240 36) rfl
theorem dX9_next_279 : decode cX9_next 279 = .ok (.aload_n 0, 1) := dk_42 (c := cX9_next) (pc := 279) (dk_at bnames02cX9_next_240 39)
theorem dX9_next_280 : decode cX9_next 280 = .ok (.getfield 149, 3) := dk_180 (c := cX9_next) (pc := 280) (a := 0) (b := 149) (dk_at bnames02cX9_next_240 40) rfl
theorem dX9_next_283 : decode cX9_next 283 = .ok (.baload, 1) := dk_51 (c := cX9_next) (pc := 283) (dk_at bnames02cX9_next_240 43)
theorem dX9_next_284 : decode cX9_next 284 = .ok (.bipush 59, 2) := dk_16 (c := cX9_next) (pc := 284) (a := 59) (dk_at bnames02cX9_next_240 44) (by decide)
theorem dX9_next_286 : decode cX9_next 286 = .ok (.if_icmp .ne 7, 3) := dk_160 (c := cX9_next) (pc := 286) (a := 0) (b := 7) (dk_at bnames02cX9_next_240 46) (by decide)
theorem bnames02cX9_next_288 : ((dk_l cX9_next).drop 288).take 20 = [7, 6, 167, 0, 4, 7, 181, 0, 166, 42, 89, 180, 0, 149, 4, 96, 181, 0, 149, 177] := by decide +kernel
theorem dX9_next_289 : decode cX9_next 289 = .ok (.iconst 3, 1) := dk_6 (c := cX9_next) (pc := 289) (dk_at bnames02cX9_next_288 1)
theorem dX9_next_290 : decode cX9_next 290 = .ok (.goto 4, 3) := dk_167 (c := cX9_next) (pc := 290) (a := 0) (b := 4) (dk_at bnames02cX9_next_288 2) (by decide)
theorem dX9_next_293 : decode cX9_next 293 = .ok (.iconst 4, 1) := dk_7 (c := cX9_next) (pc := 293) (dk_at bnames02cX9_next_288 5)
theorem dX9_next_294 : decode cX9_next 294 = .ok (.putfield 166, 3) := dk_181 (c := cX9_next) (pc := 294) (a := 0) (b := 166) (dk_at bnames02cX9_next_288 6) rfl
theorem dX9_next_297 : decode cX9_next 297 = .ok (.aload_n 0, 1) := dk_42 (c := cX9_next) (pc := 297) (dk_at bnames02cX9_next_288 9)
theorem dX9_next_298 : decode cX9_next 298 = .ok (.dup, 1) := dk_89 (c := cX9_next) (pc := 298) (dk_at bnames02cX9_next_288 10)
theorem dX9_next_299 : decode cX9_next 299 = .ok (.getfield 149, 3) := dk_180 (c := cX9_next) (pc := 299) (a := 0) (b := 149) (dk_at bnames02cX9_next_288 11) rfl
theorem dX9_next_302 : decode cX9_next 302 = .ok (.iconst 1, 1) := dk_4 (c := cX9_next) (pc := 302) (dk_at bnames02cX9_next_288 14)
theorem dX9_next_303 : decode cX9_next 303 = .ok (.iadd, 1) := dk_96 (c := cX9_next) (pc := 303) (dk_at bnames02cX9_next_288 15)
theorem dX9_next_304 : decode cX9_next 304 = .ok (.putfield 149, 3) := dk_181 (c := cX9_next) (pc := 304) (a := 0) (b := 149) (dk_at bnames02cX9_next_288 16) rfl
theorem dX9_next_307 : decode cX9_next 307 = .ok (.return_, 1) := dk_177 (c := cX9_next) (pc := 307) (dk_at bnames02cX9_next_288 19)
theorem bnames02cX9_isGood_0 : ((dk_l cX9_isGood).drop 0).take 13 = [42, 180, 0, 177, 154, 0, 7, 4, 167, 0, 4, 3, 172] := by decide +kernel
theorem dX9_isGood_0 : decode cX9_isGood 0 = .ok (.aload_n 0, 1) := dk_42 (c := cX9_isGood) (pc := 0) (dk_at bnames02cX9_isGood_0 0)
theorem dX9_isGood_1 : decode cX9_isGood 1 = .ok (.getfield 177, 3) := dk_180 (c := cX9_isGood) (pc := 1) (a := 0) (b := 177) (dk_at bnames02cX9_isGood_0 1) rfl
theorem dX9_isGood_4 : decode cX9_isGood 4 = .ok (.ifCond .ne 7, 3) := dk_154 (c := cX9_isGood) (pc := 4) (a := 0) (b := 7) (dk_at bnames02cX9_isGood_0 4) (by decide)
theorem dX9_isGood_7 : decode cX9_isGood 7 = .ok (.iconst 1, 1) := dk_4 (c := cX9_isGood) (pc := 7) (dk_at bnames02cX9_isGood_0 7)
theorem dX9_isGood_8 : decode cX9_isGood 8 = .ok (.goto 4, 3) := dk_167 (c := cX9_isGood) (pc := 8) (a := 0) (b := 4) (dk_at bnames02cX9_isGood_0 8) (by decide)
theorem dX9_isGood_11 : decode cX9_isGood 11 = .ok (.iconst 0, 1) := dk_3 (c := cX9_isGood) (pc := 11) (dk_at bnames02cX9_isGood_0 11)
theorem dX9_isGood_12 : decode cX9_isGood 12 = .ok (.ireturn, 1) := dk_172 (c := cX9_isGood) (pc := 12) (dk_at bnames02cX9_isGood_0 12)
theorem bnames02cX9_fails_0 : ((dk_l cX9_fails).drop 0).take 22 = [42, 180, 0, 177, 153, 0, 4, 177, 42, 27, 181, 0, 177, 42, 42, 180, 0, 156, 181, 0, 180, 177] := by decide +kernel
theorem dX9_fails_0 : decode cX9_fails 0 = .ok (.aload_n 0, 1) := dk_42 (c := cX9_fails) (pc := 0) (dk_at bnames02cX9_fails_0 0)
theorem dX9_fails_1 : decode cX9_fails 1 = .ok (.getfield 177, 3) := dk_180 (c := cX9_fails) (pc := 1) (a := 0) (b := 177) (dk_at bnames02cX9_fails_0 1) rfl
theorem dX9_fails_4 : decode cX9_fails 4 = .ok (.ifCond .eq 4, 3) := dk_153 (c := cX9_fails) (pc := 4) (a := 0) (b := 4) (dk_at bnames02cX9_fails_0 4) (by decide)
theorem dX9_fails_7 : decode cX9_fails 7 = .ok (.return_, 1) := dk_177 (c := cX9_fails) (pc := 7) (dk_at bnames02cX9_fails_0 7)
theorem dX9_fails_8 : decode cX9_fails 8 = .ok (.aload_n 0, 1) := dk_42 (c := cX9_fails) (pc := 8) (dk_at bnames02cX9_fails_0 8)
theorem dX9_fails_9 : decode cX9_fails 9 = .ok (.iload_n 1, 1) := dk_27 (c := cX9_fails) (pc := 9) (dk_at bnames02cX9_fails_0 9)
theorem dX9_fails_10 : decode cX9_fails 10 = .ok (.putfield 177, 3) := dk_181 (c := cX9_fails) (pc := 10) (a := 0) (b := 177) (dk_at bnames02cX9_fails_0 10) rfl
theorem dX9_fails_13 : decode cX9_fails 13 = .ok (.aload_n 0, 1) := dk_42 (c := cX9_fails) (pc := 13) (dk_at bnames02cX9_fails_0 13)
theorem dX9_fails_14 : decode cX9_fails 14 = .ok (.aload_n 0, 1) := dk_42 (c := cX9_fails) (pc := 14) (dk_at bnames02cX9_fails_0 14)
theorem dX9_fails_15 : decode cX9_fails 15 = .ok (.getfield 156, 3) := dk_180 (c := cX9_fails) (pc := 15) (a := 0) (b := 156) (dk_at bnames02cX9_fails_0 15) rfl
theorem dX9_fails_18 : decode cX9_fails 18 = .ok (.putfield 180, 3) := dk_181 (c := cX9_fails) (pc := 18) (a := 0) (b := 180) (dk_at bnames02cX9_fails_0 18) rfl
theorem dX9_fails_21 : decode cX9_fails 21 = .ok (.return_, 1) := dk_177 (c := cX9_fails) (pc := 21) (dk_at bnames02cX9_fails_0 21)
theorem bnames02cX9_is_0 : ((dk_l cX9_is).drop 0).take 30 = [42, 180, 0, 177, 154, 0, 24, 42, 180, 0, 166, 4, 160, 0, 16, 42, 180, 0, 162, 31, 148, 154, 0, 7, 4, 167, 0, 4, 3, 172] := by decide +kernel
theorem dX9_is_0 : decode cX9_is 0 = .ok (.aload_n 0, 1) := dk_42 (c := cX9_is) (pc := 0) (dk_at bnames02cX9_is_0 0)
theorem dX9_is_1 : decode cX9_is 1 = .ok (.getfield 177, 3) := dk_180 (c := cX9_is) (pc := 1) (a := 0) (b := 177) (dk_at bnames02cX9_is_0 1) rfl
theorem dX9_is_4 : decode cX9_is 4 = .ok (.ifCond .ne 24, 3) := dk_154 (c := cX9_is) (pc := 4) (a := 0) (b := 24) (dk_at bnames02cX9_is_0 4) (by decide)
theorem dX9_is_7 : decode cX9_is 7 = .ok (.aload_n 0, 1) := dk_42 (c := cX9_is) (pc := 7) (dk_at bnames02cX9_is_0 7)
theorem dX9_is_8 : decode cX9_is 8 = .ok (.getfield 166, 3) := dk_180 (c := cX9_is) (pc := 8) (a := 0) (b := 166) (dk_at bnames02cX9_is_0 8) rfl
theorem dX9_is_11 : decode cX9_is 11 = .ok (.iconst 1, 1) := dk_4 (c := cX9_is) (pc := 11) (dk_at bnames02cX9_is_0 11)
theorem dX9_is_12 : decode cX9_is 12 = .ok (.if_icmp .ne 16, 3) := dk_160 (c := cX9_is) (pc := 12) (a := 0) (b := 16) (dk_at bnames02cX9_is_0 12) (by decide)
theorem dX9_is_15 : decode cX9_is 15 = .ok (.aload_n 0, 1) := dk_42 (c := cX9_is) (pc := 15) (dk_at bnames02cX9_is_0 15)
theorem dX9_is_16 : decode cX9_is 16 = .ok (.getfield 162, 3) := dk_180 (c := cX9_is) (pc := 16) (a := 0) (b := 162) (dk_at bnames02cX9_is_0 16) rfl
theorem dX9_is_19 : decode cX9_is 19 = .ok (.lload_n 1, 1) := dk_31 (c := cX9_is) (pc := 19) (dk_at bnames02cX9_is_0 19)
theorem dX9_is_20 : decode cX9_is 20 = .ok (.lcmp, 1) := dk_148 (c := cX9_is) (pc := 20) (dk_at bnames02cX9_is_0 20)
theorem dX9_is_21 : decode cX9_is 21 = .ok (.ifCond .ne 7, 3) := dk_154 (c := cX9_is) (pc := 21) (a := 0) (b := 7) (dk_at bnames02cX9_is_0 21) (by decide)
theorem dX9_is_24 : decode cX9_is 24 = .ok (.iconst 1, 1) := dk_4 (c := cX9_is) (pc := 24) (dk_at bnames02cX9_is_0 24)
theorem dX9_is_25 : decode cX9_is 25 = .ok (.goto 4, 3) := dk_167 (c := cX9_is) (pc := 25) (a := 0) (b := 4) (dk_at bnames02cX9_is_0 25) (by decide)
theorem dX9_is_28 : decode cX9_is 28 = .ok (.iconst 0, 1) := dk_3 (c := cX9_is) (pc := 28) (dk_at bnames02cX9_is_0 28)
theorem dX9_is_29 : decode cX9_is 29 = .ok (.ireturn, 1) := dk_172 (c := cX9_is) (pc := 29) (dk_at bnames02cX9_is_0 29)
set_option maxRecDepth 20000 in
theorem ggX9_takes_X9_is : GoodIn wsX9_takes wsX9_is := goodIn_r _ [5, 6, 7, 8, 27, 28, 29, 30, 31, 32, 33, 34, 35, 36, 37, 38, 39, 40, 41, 42, 43, 44, 45, 46, 47, 48, 49, 50, 51, 52, 53, 54, 55, 56, 57, 58, 59, 60, 61, 62, 63, 64, 65, 66, 67, 68, 69, 70, 71, 72, 73, 74, 75, 76, 77, 78, 79, 80, 81, 82, 83, 84, 85, 86] rfl (by decide +kernel)
set_option maxRecDepth 20000 in
theorem gX9_takes_X9_is : GoodIn wsX9_takes (wsV RX9 183 RX9 yX9_is wsX9_is) := goodIn_app (goodIn_r _ [1, 2, 3, 4] rfl (by decide +kernel)) ggX9_takes_X9_is
set_option maxRecDepth 20000 in
theorem ggX9_takes_X9_next : GoodIn wsX9_takes wsX9_next := goodIn_r _ [12, 13, 14, 15, 8, 16, 7, 17, 18, 19, 20, 21, 22, 23, 24, 25, 4, 26, 27, 28, 29, 30, 31, 32, 33, 34, 35, 36, 37, 38, 39, 40, 41, 42, 43, 44, 45, 46, 47, 48, 49, 50, 51, 52, 53, 54, 55, 56, 57, 58, 59, 60, 61, 62, 63, 64, 65, 66, 67, 68, 69, 70, 71, 72, 73, 74, 75, 76, 77, 78, 79, 80, 81, 82, 83, 84, 85, 86] rfl (by decide +kernel)
set_option maxRecDepth 20000 in
theorem gX9_takes_X9_next : GoodIn wsX9_takes (wsV RX9 187 RX9 yX9_next wsX9_next) := goodIn_app (goodIn_r _ [9, 10, 11, 4] rfl (by decide +kernel)) ggX9_takes_X9_next
theorem bnames02cX9_takes_0 : ((dk_l cX9_takes).drop 0).take 16 = [42, 31, 182, 0, 183, 154, 0, 5, 3, 172, 42, 182, 0, 187, 4, 172] := by decide +kernel
theorem dX9_takes_0 : decode cX9_takes 0 = .ok (.aload_n 0, 1) := dk_42 (c := cX9_takes) (pc := 0) (dk_at bnames02cX9_takes_0 0)
theorem dX9_takes_1 : decode cX9_takes 1 = .ok (.lload_n 1, 1) := dk_31 (c := cX9_takes) (pc := 1) (dk_at bnames02cX9_takes_0 1)
theorem dX9_takes_2 : decode cX9_takes 2 = .ok (.invokevirtual 183, 3) := dk_182 (c := cX9_takes) (pc := 2) (a := 0) (b := 183) (dk_at bnames02cX9_takes_0 2) rfl
theorem dX9_takes_5 : decode cX9_takes 5 = .ok (.ifCond .ne 5, 3) := dk_154 (c := cX9_takes) (pc := 5) (a := 0) (b := 5) (dk_at bnames02cX9_takes_0 5) (by decide)
theorem dX9_takes_8 : decode cX9_takes 8 = .ok (.iconst 0, 1) := dk_3 (c := cX9_takes) (pc := 8) (dk_at bnames02cX9_takes_0 8)
theorem dX9_takes_9 : decode cX9_takes 9 = .ok (.ireturn, 1) := dk_172 (c := cX9_takes) (pc := 9) (dk_at bnames02cX9_takes_0 9)
theorem dX9_takes_10 : decode cX9_takes 10 = .ok (.aload_n 0, 1) := dk_42 (c := cX9_takes) (pc := 10) (dk_at bnames02cX9_takes_0 10)
theorem dX9_takes_11 : decode cX9_takes 11 = .ok (.invokevirtual 187, 3) := dk_182 (c := cX9_takes) (pc := 11) (a := 0) (b := 187) (dk_at bnames02cX9_takes_0 11) rfl
theorem dX9_takes_14 : decode cX9_takes 14 = .ok (.iconst 1, 1) := dk_4 (c := cX9_takes) (pc := 14) (dk_at bnames02cX9_takes_0 14)
theorem dX9_takes_15 : decode cX9_takes 15 = .ok (.ireturn, 1) := dk_172 (c := cX9_takes) (pc := 15) (dk_at bnames02cX9_takes_0 15)
set_option maxRecDepth 20000 in
theorem ggX9_asks_X9_takes : GoodIn wsX9_asks wsX9_takes := goodIn_r _ [5, 6, 7, 8, 4, 9, 10, 11, 12, 13, 14, 15, 16, 17, 18, 19, 20, 21, 22, 23, 24, 25, 26, 27, 28, 29, 30, 36, 37, 38, 39, 40, 41, 42, 43, 44, 45, 46, 47, 48, 49, 50, 51, 52, 53, 54, 55, 56, 57, 58, 59, 60, 61, 62, 63, 64, 65, 66, 67, 68, 69, 70, 71, 72, 73, 74, 75, 76, 77, 78, 79, 80, 81, 82, 83, 84, 85, 86, 87, 88, 89, 90, 91, 92, 93, 94, 95] rfl (by decide +kernel)
set_option maxRecDepth 20000 in
theorem gX9_asks_X9_takes : GoodIn wsX9_asks (wsV RX9 190 RX9 yX9_takes wsX9_takes) := goodIn_app (goodIn_r _ [1, 2, 3, 4] rfl (by decide +kernel)) ggX9_asks_X9_takes
set_option maxRecDepth 20000 in
theorem ggX9_asks_X9_fails : GoodIn wsX9_asks wsX9_fails := goodIn_r _ [34, 10, 18, 35, 36, 37, 38, 39, 40, 41, 42, 43, 44, 45, 46, 47, 48, 49, 50, 51, 52, 53, 54, 55, 56, 57, 58, 59, 60, 61, 62, 63, 64, 65, 66, 67, 68, 69, 70, 71, 72, 73, 74, 75, 76, 77, 78, 79, 80, 81, 82, 83, 84, 85, 86, 87, 88, 89, 90, 91, 92, 93, 94, 95] rfl (by decide +kernel)
set_option maxRecDepth 20000 in
theorem gX9_asks_X9_fails : GoodIn wsX9_asks (wsV RX9 193 RX9 yX9_fails wsX9_fails) := goodIn_app (goodIn_r _ [31, 32, 33, 4] rfl (by decide +kernel)) ggX9_asks_X9_fails
theorem bnames02cX9_asks_0 : ((dk_l cX9_asks).drop 0).take 14 = [42, 31, 182, 0, 190, 154, 0, 8, 42, 4, 182, 0, 193, 177] := by decide +kernel
theorem dX9_asks_0 : decode cX9_asks 0 = .ok (.aload_n 0, 1) := dk_42 (c := cX9_asks) (pc := 0) (dk_at bnames02cX9_asks_0 0)
theorem dX9_asks_1 : decode cX9_asks 1 = .ok (.lload_n 1, 1) := dk_31 (c := cX9_asks) (pc := 1) (dk_at bnames02cX9_asks_0 1)
theorem dX9_asks_2 : decode cX9_asks 2 = .ok (.invokevirtual 190, 3) := dk_182 (c := cX9_asks) (pc := 2) (a := 0) (b := 190) (dk_at bnames02cX9_asks_0 2) rfl
theorem dX9_asks_5 : decode cX9_asks 5 = .ok (.ifCond .ne 8, 3) := dk_154 (c := cX9_asks) (pc := 5) (a := 0) (b := 8) (dk_at bnames02cX9_asks_0 5) (by decide)
theorem dX9_asks_8 : decode cX9_asks 8 = .ok (.aload_n 0, 1) := dk_42 (c := cX9_asks) (pc := 8) (dk_at bnames02cX9_asks_0 8)
theorem dX9_asks_9 : decode cX9_asks 9 = .ok (.iconst 1, 1) := dk_4 (c := cX9_asks) (pc := 9) (dk_at bnames02cX9_asks_0 9)
theorem dX9_asks_10 : decode cX9_asks 10 = .ok (.invokevirtual 193, 3) := dk_182 (c := cX9_asks) (pc := 10) (a := 0) (b := 193) (dk_at bnames02cX9_asks_0 10) rfl
theorem dX9_asks_13 : decode cX9_asks 13 = .ok (.return_, 1) := dk_177 (c := cX9_asks) (pc := 13) (dk_at bnames02cX9_asks_0 13)
set_option maxRecDepth 20000 in
theorem ggX9_number_X9_fails : GoodIn wsX9_number wsX9_fails := goodIn_r _ [8, 1, 9, 10, 31, 32, 33, 34, 35, 36, 37, 38, 39, 40, 41, 42, 43, 44, 45, 46, 47, 48, 49, 50, 51, 52, 53, 54, 55, 56, 57, 58, 59, 60, 61, 62, 63, 64, 65, 66, 67, 68, 69, 70, 71, 72, 73, 74, 75, 76, 77, 78, 79, 80, 81, 82, 83, 84, 85, 86, 87, 88, 89, 90] rfl (by decide +kernel)
set_option maxRecDepth 20000 in
theorem gX9_number_X9_fails : GoodIn wsX9_number (wsV RX9 193 RX9 yX9_fails wsX9_fails) := goodIn_app (goodIn_r _ [4, 5, 6, 7] rfl (by decide +kernel)) ggX9_number_X9_fails
set_option maxRecDepth 20000 in
theorem ggX9_number_X9_in : GoodIn wsX9_number wsX9_in := goodIn_r _ [13] rfl (by decide +kernel)
set_option maxRecDepth 20000 in
theorem gX9_number_X9_in : GoodIn wsX9_number (va_wsS RX9 130 yX9_in wsX9_in) := goodIn_app (goodIn_r _ [11, 12, 7] rfl (by decide +kernel)) ggX9_number_X9_in
set_option maxRecDepth 20000 in
theorem ggX9_number_X9_next : GoodIn wsX9_number wsX9_next := goodIn_r _ [17, 18, 9, 3, 19, 20, 2, 21, 22, 23, 24, 25, 26, 27, 28, 29, 7, 30, 31, 32, 33, 34, 35, 36, 37, 38, 39, 40, 41, 42, 43, 44, 45, 46, 47, 48, 49, 50, 51, 52, 53, 54, 55, 56, 57, 58, 59, 60, 61, 62, 63, 64, 65, 66, 67, 68, 69, 70, 71, 72, 73, 74, 75, 76, 77, 78, 79, 80, 81, 82, 83, 84, 85, 86, 87, 88, 89, 90] rfl (by decide +kernel)
set_option maxRecDepth 20000 in
theorem gX9_number_X9_next : GoodIn wsX9_number (wsV RX9 187 RX9 yX9_next wsX9_next) := goodIn_app (goodIn_r _ [14, 15, 16, 7] rfl (by decide +kernel)) ggX9_number_X9_next
theorem bnames02cX9_number_0 : ((dk_l cX9_number).drop 0).take 52 = [42, 180, 0, 177, 153, 0, 5, 27, 172, 42, 180, 0, 166, 5, 159, 0, 10, 42, 4, 182, 0, 193, 27, 172, 42, 180, 0, 159, 133, 27, 133, 28, 133, 184, 0, 130, 154, 0, 10, 42, 5, 182, 0, 193, 27, 172, 42, 180, 0, 159, 62, 42] := by decide +kernel
theorem dX9_number_0 : decode cX9_number 0 = .ok (.aload_n 0, 1) := dk_42 (c := cX9_number) (pc := 0) (dk_at bnames02cX9_number_0 0)
theorem dX9_number_1 : decode cX9_number 1 = .ok (.getfield 177, 3) := dk_180 (c := cX9_number) (pc := 1) (a := 0) (b := 177) (dk_at bnames02cX9_number_0 1) rfl
theorem dX9_number_4 : decode cX9_number 4 = .ok (.ifCond .eq 5, 3) := dk_153 (c := cX9_number) (pc := 4) (a := 0) (b := 5) (dk_at bnames02cX9_number_0 4) (by decide)
theorem dX9_number_7 : decode cX9_number 7 = .ok (.iload_n 1, 1) := dk_27 (c := cX9_number) (pc := 7) (dk_at bnames02cX9_number_0 7)
theorem dX9_number_8 : decode cX9_number 8 = .ok (.ireturn, 1) := dk_172 (c := cX9_number) (pc := 8) (dk_at bnames02cX9_number_0 8)
theorem dX9_number_9 : decode cX9_number 9 = .ok (.aload_n 0, 1) := dk_42 (c := cX9_number) (pc := 9) (dk_at bnames02cX9_number_0 9)
theorem dX9_number_10 : decode cX9_number 10 = .ok (.getfield 166, 3) := dk_180 (c := cX9_number) (pc := 10) (a := 0) (b := 166) (dk_at bnames02cX9_number_0 10) rfl
theorem dX9_number_13 : decode cX9_number 13 = .ok (.iconst 2, 1) := dk_5 (c := cX9_number) (pc := 13) (dk_at bnames02cX9_number_0 13)
theorem dX9_number_14 : decode cX9_number 14 = .ok (.if_icmp .eq 10, 3) := dk_159 (c := cX9_number) (pc := 14) (a := 0) (b := 10) (dk_at bnames02cX9_number_0 14) (by decide)
theorem dX9_number_17 : decode cX9_number 17 = .ok (.aload_n 0, 1) := dk_42 (c := cX9_number) (pc := 17) (dk_at bnames02cX9_number_0 17)
theorem dX9_number_18 : decode cX9_number 18 = .ok (.iconst 1, 1) := dk_4 (c := cX9_number) (pc := 18) (dk_at bnames02cX9_number_0 18)
theorem dX9_number_19 : decode cX9_number 19 = .ok (.invokevirtual 193, 3) := dk_182 (c := cX9_number) (pc := 19) (a := 0) (b := 193) (dk_at bnames02cX9_number_0 19) rfl
theorem dX9_number_22 : decode cX9_number 22 = .ok (.iload_n 1, 1) := dk_27 (c := cX9_number) (pc := 22) (dk_at bnames02cX9_number_0 22)
theorem dX9_number_23 : decode cX9_number 23 = .ok (.ireturn, 1) := dk_172 (c := cX9_number) (pc := 23) (dk_at bnames02cX9_number_0 23)
theorem dX9_number_24 : decode cX9_number 24 = .ok (.aload_n 0, 1) := dk_42 (c := cX9_number) (pc := 24) (dk_at bnames02cX9_number_0 24)
theorem dX9_number_25 : decode cX9_number 25 = .ok (.getfield 159, 3) := dk_180 (c := cX9_number) (pc := 25) (a := 0) (b := 159) (dk_at bnames02cX9_number_0 25) rfl
theorem dX9_number_28 : decode cX9_number 28 = .ok (.i2l, 1) := dk_133 (c := cX9_number) (pc := 28) (dk_at bnames02cX9_number_0 28)
theorem dX9_number_29 : decode cX9_number 29 = .ok (.iload_n 1, 1) := dk_27 (c := cX9_number) (pc := 29) (dk_at bnames02cX9_number_0 29)
theorem dX9_number_30 : decode cX9_number 30 = .ok (.i2l, 1) := dk_133 (c := cX9_number) (pc := 30) (dk_at bnames02cX9_number_0 30)
theorem dX9_number_31 : decode cX9_number 31 = .ok (.iload_n 2, 1) := dk_28 (c := cX9_number) (pc := 31) (dk_at bnames02cX9_number_0 31)
theorem dX9_number_32 : decode cX9_number 32 = .ok (.i2l, 1) := dk_133 (c := cX9_number) (pc := 32) (dk_at bnames02cX9_number_0 32)
theorem dX9_number_33 : decode cX9_number 33 = .ok (.invokestatic 130, 3) := dk_184 (c := cX9_number) (pc := 33) (a := 0) (b := 130) (dk_at bnames02cX9_number_0 33) rfl
theorem dX9_number_36 : decode cX9_number 36 = .ok (.ifCond .ne 10, 3) := dk_154 (c := cX9_number) (pc := 36) (a := 0) (b := 10) (dk_at bnames02cX9_number_0 36) (by decide)
theorem dX9_number_39 : decode cX9_number 39 = .ok (.aload_n 0, 1) := dk_42 (c := cX9_number) (pc := 39) (dk_at bnames02cX9_number_0 39)
theorem dX9_number_40 : decode cX9_number 40 = .ok (.iconst 2, 1) := dk_5 (c := cX9_number) (pc := 40) (dk_at bnames02cX9_number_0 40)
theorem dX9_number_41 : decode cX9_number 41 = .ok (.invokevirtual 193, 3) := dk_182 (c := cX9_number) (pc := 41) (a := 0) (b := 193) (dk_at bnames02cX9_number_0 41) rfl
theorem dX9_number_44 : decode cX9_number 44 = .ok (.iload_n 1, 1) := dk_27 (c := cX9_number) (pc := 44) (dk_at bnames02cX9_number_0 44)
theorem dX9_number_45 : decode cX9_number 45 = .ok (.ireturn, 1) := dk_172 (c := cX9_number) (pc := 45) (dk_at bnames02cX9_number_0 45)
theorem dX9_number_46 : decode cX9_number 46 = .ok (.aload_n 0, 1) := dk_42 (c := cX9_number) (pc := 46) (dk_at bnames02cX9_number_0 46)
theorem dX9_number_47 : decode cX9_number 47 = .ok (.getfield 159, 3) := dk_180 (c := cX9_number) (pc := 47) (a := 0) (b := 159) (dk_at bnames02cX9_number_0 47) rfl
theorem bnames02cX9_number_48 : ((dk_l cX9_number).drop 48).take 9 = [0, 159, 62, 42, 182, 0, 187, 29, 172] := by decide +kernel
theorem dX9_number_50 : decode cX9_number 50 = .ok (.istore_n 3, 1) := dk_62 (c := cX9_number) (pc := 50) (dk_at bnames02cX9_number_48 2)
theorem dX9_number_51 : decode cX9_number 51 = .ok (.aload_n 0, 1) := dk_42 (c := cX9_number) (pc := 51) (dk_at bnames02cX9_number_48 3)
theorem dX9_number_52 : decode cX9_number 52 = .ok (.invokevirtual 187, 3) := dk_182 (c := cX9_number) (pc := 52) (a := 0) (b := 187) (dk_at bnames02cX9_number_48 4) rfl
theorem dX9_number_55 : decode cX9_number 55 = .ok (.iload_n 3, 1) := dk_29 (c := cX9_number) (pc := 55) (dk_at bnames02cX9_number_48 7)
theorem dX9_number_56 : decode cX9_number 56 = .ok (.ireturn, 1) := dk_172 (c := cX9_number) (pc := 56) (dk_at bnames02cX9_number_48 8)
set_option maxRecDepth 20000 in
theorem ggX9_number__X9_asks : GoodIn wsX9_number_ wsX9_asks := goodIn_r _ [5, 6, 7, 8, 4, 9, 10, 11, 12, 13, 14, 15, 16, 17, 18, 19, 20, 21, 22, 23, 24, 25, 26, 27, 28, 29, 30, 31, 32, 33, 34, 35, 36, 37, 38, 39, 47, 48, 49, 50, 51, 52, 53, 54, 55, 56, 57, 58, 59, 60, 61, 62, 63, 64, 65, 66, 67, 68, 69, 70, 71, 72, 73, 74, 75, 76, 77, 78, 79, 80, 81, 82, 83, 84, 85, 86, 87, 88, 89, 90, 91, 92, 93, 94, 95, 96, 97, 98, 99, 100, 101, 102, 103, 104, 105, 106] rfl (by decide +kernel)
set_option maxRecDepth 20000 in
theorem gX9_number__X9_asks : GoodIn wsX9_number_ (wsV RX9 196 RX9 yX9_asks wsX9_asks) := goodIn_app (goodIn_r _ [1, 2, 3, 4] rfl (by decide +kernel)) ggX9_number__X9_asks
set_option maxRecDepth 20000 in
theorem ggX9_number__X9_number : GoodIn wsX9_number_ wsX9_number := goodIn_r _ [43, 14, 15, 23, 35, 36, 37, 4, 38, 22, 39, 44, 45, 46, 17, 18, 19, 20, 21, 16, 24, 25, 26, 27, 28, 29, 30, 31, 32, 33, 34, 47, 48, 49, 50, 51, 52, 53, 54, 55, 56, 57, 58, 59, 60, 61, 62, 63, 64, 65, 66, 67, 68, 69, 70, 71, 72, 73, 74, 75, 76, 77, 78, 79, 80, 81, 82, 83, 84, 85, 86, 87, 88, 89, 90, 91, 92, 93, 94, 95, 96, 97, 98, 99, 100, 101, 102, 103, 104, 105, 106] rfl (by decide +kernel)
set_option maxRecDepth 20000 in
theorem gX9_number__X9_number : GoodIn wsX9_number_ (wsV RX9 200 RX9 yX9_number wsX9_number) := goodIn_app (goodIn_r _ [40, 41, 42, 4] rfl (by decide +kernel)) ggX9_number__X9_number
theorem bnames02cX9_number__0 : ((dk_l cX9_number_).drop 0).take 13 = [42, 31, 182, 0, 196, 42, 29, 21, 4, 182, 0, 200, 172] := by decide +kernel
theorem dX9_number__0 : decode cX9_number_ 0 = .ok (.aload_n 0, 1) := dk_42 (c := cX9_number_) (pc := 0) (dk_at bnames02cX9_number__0 0)
theorem dX9_number__1 : decode cX9_number_ 1 = .ok (.lload_n 1, 1) := dk_31 (c := cX9_number_) (pc := 1) (dk_at bnames02cX9_number__0 1)
theorem dX9_number__2 : decode cX9_number_ 2 = .ok (.invokevirtual 196, 3) := dk_182 (c := cX9_number_) (pc := 2) (a := 0) (b := 196) (dk_at bnames02cX9_number__0 2) rfl
theorem dX9_number__5 : decode cX9_number_ 5 = .ok (.aload_n 0, 1) := dk_42 (c := cX9_number_) (pc := 5) (dk_at bnames02cX9_number__0 5)
theorem dX9_number__6 : decode cX9_number_ 6 = .ok (.iload_n 3, 1) := dk_29 (c := cX9_number_) (pc := 6) (dk_at bnames02cX9_number__0 6)
theorem dX9_number__7 : decode cX9_number_ 7 = .ok (.iload 4, 2) := dk_21 (c := cX9_number_) (pc := 7) (a := 4) (dk_at bnames02cX9_number__0 7) rfl
theorem dX9_number__9 : decode cX9_number_ 9 = .ok (.invokevirtual 200, 3) := dk_182 (c := cX9_number_) (pc := 9) (a := 0) (b := 200) (dk_at bnames02cX9_number__0 9) rfl
theorem dX9_number__12 : decode cX9_number_ 12 = .ok (.ireturn, 1) := dk_172 (c := cX9_number_) (pc := 12) (dk_at bnames02cX9_number__0 12)
set_option maxRecDepth 20000 in
theorem ggX9_ends_X9_fails : GoodIn wsX9_ends wsX9_fails := goodIn_r _ [7, 2, 8, 9, 28, 29, 30, 31, 32, 33, 34, 35, 36, 37, 38, 39, 40, 41, 42, 43, 44, 45, 46, 47, 48, 49, 50, 51, 52, 53, 54, 55, 56, 57, 58, 59, 60, 61, 62, 63, 64, 65, 66, 67, 68, 69, 70, 71, 72, 73, 74, 75, 76, 77, 78, 79, 80, 81, 82, 83, 84, 85, 86, 87] rfl (by decide +kernel)
set_option maxRecDepth 20000 in
theorem gX9_ends_X9_fails : GoodIn wsX9_ends (wsV RX9 193 RX9 yX9_fails wsX9_fails) := goodIn_app (goodIn_r _ [3, 4, 5, 6] rfl (by decide +kernel)) ggX9_ends_X9_fails
set_option maxRecDepth 20000 in
theorem ggX9_ends_X9_next : GoodIn wsX9_ends wsX9_next := goodIn_r _ [13, 14, 8, 15, 16, 17, 1, 18, 19, 20, 21, 22, 23, 24, 25, 26, 6, 27, 28, 29, 30, 31, 32, 33, 34, 35, 36, 37, 38, 39, 40, 41, 42, 43, 44, 45, 46, 47, 48, 49, 50, 51, 52, 53, 54, 55, 56, 57, 58, 59, 60, 61, 62, 63, 64, 65, 66, 67, 68, 69, 70, 71, 72, 73, 74, 75, 76, 77, 78, 79, 80, 81, 82, 83, 84, 85, 86, 87] rfl (by decide +kernel)
set_option maxRecDepth 20000 in
theorem gX9_ends_X9_next : GoodIn wsX9_ends (wsV RX9 187 RX9 yX9_next wsX9_next) := goodIn_app (goodIn_r _ [10, 11, 12, 6] rfl (by decide +kernel)) ggX9_ends_X9_next
theorem bnames02cX9_ends_0 : ((dk_l cX9_ends).drop 0).take 25 = [42, 180, 0, 166, 6, 159, 0, 8, 42, 4, 182, 0, 193, 42, 180, 0, 177, 154, 0, 7, 42, 182, 0, 187, 177] := by decide +kernel
theorem dX9_ends_0 : decode cX9_ends 0 = .ok (.aload_n 0, 1) := dk_42 (c := cX9_ends) (pc := 0) (dk_at bnames02cX9_ends_0 0)
theorem dX9_ends_1 : decode cX9_ends 1 = .ok (.getfield 166, 3) := dk_180 (c := cX9_ends) (pc := 1) (a := 0) (b := 166) (dk_at bnames02cX9_ends_0 1) rfl
theorem dX9_ends_4 : decode cX9_ends 4 = .ok (.iconst 3, 1) := dk_6 (c := cX9_ends) (pc := 4) (dk_at bnames02cX9_ends_0 4)
theorem dX9_ends_5 : decode cX9_ends 5 = .ok (.if_icmp .eq 8, 3) := dk_159 (c := cX9_ends) (pc := 5) (a := 0) (b := 8) (dk_at bnames02cX9_ends_0 5) (by decide)
theorem dX9_ends_8 : decode cX9_ends 8 = .ok (.aload_n 0, 1) := dk_42 (c := cX9_ends) (pc := 8) (dk_at bnames02cX9_ends_0 8)
theorem dX9_ends_9 : decode cX9_ends 9 = .ok (.iconst 1, 1) := dk_4 (c := cX9_ends) (pc := 9) (dk_at bnames02cX9_ends_0 9)
theorem dX9_ends_10 : decode cX9_ends 10 = .ok (.invokevirtual 193, 3) := dk_182 (c := cX9_ends) (pc := 10) (a := 0) (b := 193) (dk_at bnames02cX9_ends_0 10) rfl
theorem dX9_ends_13 : decode cX9_ends 13 = .ok (.aload_n 0, 1) := dk_42 (c := cX9_ends) (pc := 13) (dk_at bnames02cX9_ends_0 13)
theorem dX9_ends_14 : decode cX9_ends 14 = .ok (.getfield 177, 3) := dk_180 (c := cX9_ends) (pc := 14) (a := 0) (b := 177) (dk_at bnames02cX9_ends_0 14) rfl
theorem dX9_ends_17 : decode cX9_ends 17 = .ok (.ifCond .ne 7, 3) := dk_154 (c := cX9_ends) (pc := 17) (a := 0) (b := 7) (dk_at bnames02cX9_ends_0 17) (by decide)
theorem dX9_ends_20 : decode cX9_ends 20 = .ok (.aload_n 0, 1) := dk_42 (c := cX9_ends) (pc := 20) (dk_at bnames02cX9_ends_0 20)
theorem dX9_ends_21 : decode cX9_ends 21 = .ok (.invokevirtual 187, 3) := dk_182 (c := cX9_ends) (pc := 21) (a := 0) (b := 187) (dk_at bnames02cX9_ends_0 21) rfl
theorem dX9_ends_24 : decode cX9_ends 24 = .ok (.return_, 1) := dk_177 (c := cX9_ends) (pc := 24) (dk_at bnames02cX9_ends_0 24)
set_option maxRecDepth 20000 in
theorem ggX9_begins_X9_next : GoodIn wsX9_begins wsX9_next := goodIn_r _ [8, 3, 9, 10, 11, 12, 13, 14, 15, 16, 17, 18, 19, 20, 21, 22, 7, 23, 24, 25, 26, 27, 28, 29, 30, 31, 32, 33, 34, 35, 36, 37, 38, 39, 40, 41, 42, 43, 44, 45, 46, 47, 48, 49, 50, 51, 52, 53, 54, 55, 56, 57, 58, 59, 60, 61, 62, 63, 64, 65, 66, 67, 68, 69, 70, 71, 72, 73, 74, 75, 76, 77, 78, 79, 80, 81, 82, 83] rfl (by decide +kernel)
set_option maxRecDepth 20000 in
theorem gX9_begins_X9_next : GoodIn wsX9_begins (wsV RX9 187 RX9 yX9_next wsX9_next) := goodIn_app (goodIn_r _ [4, 5, 6, 7] rfl (by decide +kernel)) ggX9_begins_X9_next
theorem bnames02cX9_begins_0 : ((dk_l cX9_begins).drop 0).take 20 = [42, 3, 181, 0, 177, 42, 2, 181, 0, 180, 42, 3, 181, 0, 149, 42, 182, 0, 187, 177] := by decide +kernel
theorem dX9_begins_0 : decode cX9_begins 0 = .ok (.aload_n 0, 1) := dk_42 (c := cX9_begins) (pc := 0) (dk_at bnames02cX9_begins_0 0)
theorem dX9_begins_1 : decode cX9_begins 1 = .ok (.iconst 0, 1) := dk_3 (c := cX9_begins) (pc := 1) (dk_at bnames02cX9_begins_0 1)
theorem dX9_begins_2 : decode cX9_begins 2 = .ok (.putfield 177, 3) := dk_181 (c := cX9_begins) (pc := 2) (a := 0) (b := 177) (dk_at bnames02cX9_begins_0 2) rfl
theorem dX9_begins_5 : decode cX9_begins 5 = .ok (.aload_n 0, 1) := dk_42 (c := cX9_begins) (pc := 5) (dk_at bnames02cX9_begins_0 5)
theorem dX9_begins_6 : decode cX9_begins 6 = .ok (.iconst (-1), 1) := dk_2 (c := cX9_begins) (pc := 6) (dk_at bnames02cX9_begins_0 6)
theorem dX9_begins_7 : decode cX9_begins 7 = .ok (.putfield 180, 3) := dk_181 (c := cX9_begins) (pc := 7) (a := 0) (b := 180) (dk_at bnames02cX9_begins_0 7) rfl
theorem dX9_begins_10 : decode cX9_begins 10 = .ok (.aload_n 0, 1) := dk_42 (c := cX9_begins) (pc := 10) (dk_at bnames02cX9_begins_0 10)
theorem dX9_begins_11 : decode cX9_begins 11 = .ok (.iconst 0, 1) := dk_3 (c := cX9_begins) (pc := 11) (dk_at bnames02cX9_begins_0 11)
theorem dX9_begins_12 : decode cX9_begins 12 = .ok (.putfield 149, 3) := dk_181 (c := cX9_begins) (pc := 12) (a := 0) (b := 149) (dk_at bnames02cX9_begins_0 12) rfl
theorem dX9_begins_15 : decode cX9_begins 15 = .ok (.aload_n 0, 1) := dk_42 (c := cX9_begins) (pc := 15) (dk_at bnames02cX9_begins_0 15)
theorem dX9_begins_16 : decode cX9_begins 16 = .ok (.invokevirtual 187, 3) := dk_182 (c := cX9_begins) (pc := 16) (a := 0) (b := 187) (dk_at bnames02cX9_begins_0 16) rfl
theorem dX9_begins_19 : decode cX9_begins 19 = .ok (.return_, 1) := dk_177 (c := cX9_begins) (pc := 19) (dk_at bnames02cX9_begins_0 19)
theorem bnames02cX9_isOver_0 : ((dk_l cX9_isOver).drop 0).take 33 = [42, 3, 181, 0, 142, 42, 42, 180, 0, 177, 181, 0, 204, 42, 42, 180, 0, 177, 154, 0, 7, 2, 167, 0, 7, 42, 180, 0, 180, 181, 0, 27, 177] := by decide +kernel
theorem dX9_isOver_0 : decode cX9_isOver 0 = .ok (.aload_n 0, 1) := dk_42 (c := cX9_isOver) (pc := 0) (dk_at bnames02cX9_isOver_0 0)
theorem dX9_isOver_1 : decode cX9_isOver 1 = .ok (.iconst 0, 1) := dk_3 (c := cX9_isOver) (pc := 1) (dk_at bnames02cX9_isOver_0 1)
theorem dX9_isOver_2 : decode cX9_isOver 2 = .ok (.putfield 142, 3) := dk_181 (c := cX9_isOver) (pc := 2) (a := 0) (b := 142) (dk_at bnames02cX9_isOver_0 2) rfl
theorem dX9_isOver_5 : decode cX9_isOver 5 = .ok (.aload_n 0, 1) := dk_42 (c := cX9_isOver) (pc := 5) (dk_at bnames02cX9_isOver_0 5)
theorem dX9_isOver_6 : decode cX9_isOver 6 = .ok (.aload_n 0, 1) := dk_42 (c := cX9_isOver) (pc := 6) (dk_at bnames02cX9_isOver_0 6)
theorem dX9_isOver_7 : decode cX9_isOver 7 = .ok (.getfield 177, 3) := dk_180 (c := cX9_isOver) (pc := 7) (a := 0) (b := 177) (dk_at bnames02cX9_isOver_0 7) rfl
theorem dX9_isOver_10 : decode cX9_isOver 10 = .ok (.putfield 204, 3) := dk_181 (c := cX9_isOver) (pc := 10) (a := 0) (b := 204) (dk_at bnames02cX9_isOver_0 10) rfl
theorem dX9_isOver_13 : decode cX9_isOver 13 = .ok (.aload_n 0, 1) := dk_42 (c := cX9_isOver) (pc := 13) (dk_at bnames02cX9_isOver_0 13)
theorem dX9_isOver_14 : decode cX9_isOver 14 = .ok (.aload_n 0, 1) := dk_42 (c := cX9_isOver) (pc := 14) (dk_at bnames02cX9_isOver_0 14)
theorem dX9_isOver_15 : decode cX9_isOver 15 = .ok (.getfield 177, 3) := dk_180 (c := cX9_isOver) (pc := 15) (a := 0) (b := 177) (dk_at bnames02cX9_isOver_0 15) rfl
theorem dX9_isOver_18 : decode cX9_isOver 18 = .ok (.ifCond .ne 7, 3) := dk_154 (c := cX9_isOver) (pc := 18) (a := 0) (b := 7) (dk_at bnames02cX9_isOver_0 18) (by decide)
theorem dX9_isOver_21 : decode cX9_isOver 21 = .ok (.iconst (-1), 1) := dk_2 (c := cX9_isOver) (pc := 21) (dk_at bnames02cX9_isOver_0 21)
theorem dX9_isOver_22 : decode cX9_isOver 22 = .ok (.goto 7, 3) := dk_167 (c := cX9_isOver) (pc := 22) (a := 0) (b := 7) (dk_at bnames02cX9_isOver_0 22) (by decide)
theorem dX9_isOver_25 : decode cX9_isOver 25 = .ok (.aload_n 0, 1) := dk_42 (c := cX9_isOver) (pc := 25) (dk_at bnames02cX9_isOver_0 25)
theorem dX9_isOver_26 : decode cX9_isOver 26 = .ok (.getfield 180, 3) := dk_180 (c := cX9_isOver) (pc := 26) (a := 0) (b := 180) (dk_at bnames02cX9_isOver_0 26) rfl
theorem dX9_isOver_29 : decode cX9_isOver 29 = .ok (.putfield 27, 3) := dk_181 (c := cX9_isOver) (pc := 29) (a := 0) (b := 27) (dk_at bnames02cX9_isOver_0 29) rfl
theorem dX9_isOver_32 : decode cX9_isOver 32 = .ok (.return_, 1) := dk_177 (c := cX9_isOver) (pc := 32) (dk_at bnames02cX9_isOver_0 32)
theorem bnames02cX9_fault_0 : ((dk_l cX9_fault).drop 0).take 30 = [42, 3, 181, 0, 125, 27, 154, 0, 10, 42, 180, 0, 204, 167, 0, 16, 27, 4, 160, 0, 10, 42, 180, 0, 27, 167, 0, 4, 2, 172] := by decide +kernel
theorem dX9_fault_0 : decode cX9_fault 0 = .ok (.aload_n 0, 1) := dk_42 (c := cX9_fault) (pc := 0) (dk_at bnames02cX9_fault_0 0)
theorem dX9_fault_1 : decode cX9_fault 1 = .ok (.iconst 0, 1) := dk_3 (c := cX9_fault) (pc := 1) (dk_at bnames02cX9_fault_0 1)
theorem dX9_fault_2 : decode cX9_fault 2 = .ok (.putfield 125, 3) := dk_181 (c := cX9_fault) (pc := 2) (a := 0) (b := 125) (dk_at bnames02cX9_fault_0 2) rfl
theorem dX9_fault_5 : decode cX9_fault 5 = .ok (.iload_n 1, 1) := dk_27 (c := cX9_fault) (pc := 5) (dk_at bnames02cX9_fault_0 5)
theorem dX9_fault_6 : decode cX9_fault 6 = .ok (.ifCond .ne 10, 3) := dk_154 (c := cX9_fault) (pc := 6) (a := 0) (b := 10) (dk_at bnames02cX9_fault_0 6) (by decide)
theorem dX9_fault_9 : decode cX9_fault 9 = .ok (.aload_n 0, 1) := dk_42 (c := cX9_fault) (pc := 9) (dk_at bnames02cX9_fault_0 9)
theorem dX9_fault_10 : decode cX9_fault 10 = .ok (.getfield 204, 3) := dk_180 (c := cX9_fault) (pc := 10) (a := 0) (b := 204) (dk_at bnames02cX9_fault_0 10) rfl
theorem dX9_fault_13 : decode cX9_fault 13 = .ok (.goto 16, 3) := dk_167 (c := cX9_fault) (pc := 13) (a := 0) (b := 16) (dk_at bnames02cX9_fault_0 13) (by decide)
theorem dX9_fault_16 : decode cX9_fault 16 = .ok (.iload_n 1, 1) := dk_27 (c := cX9_fault) (pc := 16) (dk_at bnames02cX9_fault_0 16)
theorem dX9_fault_17 : decode cX9_fault 17 = .ok (.iconst 1, 1) := dk_4 (c := cX9_fault) (pc := 17) (dk_at bnames02cX9_fault_0 17)
theorem dX9_fault_18 : decode cX9_fault 18 = .ok (.if_icmp .ne 10, 3) := dk_160 (c := cX9_fault) (pc := 18) (a := 0) (b := 10) (dk_at bnames02cX9_fault_0 18) (by decide)
theorem dX9_fault_21 : decode cX9_fault 21 = .ok (.aload_n 0, 1) := dk_42 (c := cX9_fault) (pc := 21) (dk_at bnames02cX9_fault_0 21)
theorem dX9_fault_22 : decode cX9_fault 22 = .ok (.getfield 27, 3) := dk_180 (c := cX9_fault) (pc := 22) (a := 0) (b := 27) (dk_at bnames02cX9_fault_0 22) rfl
theorem dX9_fault_25 : decode cX9_fault 25 = .ok (.goto 4, 3) := dk_167 (c := cX9_fault) (pc := 25) (a := 0) (b := 4) (dk_at bnames02cX9_fault_0 25) (by decide)
theorem dX9_fault_28 : decode cX9_fault 28 = .ok (.iconst (-1), 1) := dk_2 (c := cX9_fault) (pc := 28) (dk_at bnames02cX9_fault_0 28)
theorem dX9_fault_29 : decode cX9_fault 29 = .ok (.ireturn, 1) := dk_172 (c := cX9_fault) (pc := 29) (dk_at bnames02cX9_fault_0 29)
set_option maxRecDepth 20000 in
theorem ggX9_lawLine_X9_number_ : GoodIn wsX9_lawLine wsX9_number_ := goodIn_r _ [10, 11, 12, 13, 9, 14, 15, 16, 17, 18, 19, 20, 21, 22, 23, 24, 25, 26, 27, 28, 29, 30, 31, 32, 33, 34, 35, 36, 37, 38, 39, 40, 41, 42, 43, 44, 45, 46, 47, 48, 49, 50, 51, 52, 53, 54, 55, 56, 57, 58, 59, 60, 61, 62, 63, 64, 65, 66, 67, 68, 69, 70, 71, 72, 73, 74, 75, 76, 77, 78, 79, 80, 81, 82, 83, 84, 85, 86, 87, 88, 89, 90, 91, 92, 93, 94, 95, 96, 97, 98, 99, 100, 101, 102, 103, 104, 105, 106, 107, 108, 109, 110, 111, 112, 113, 114, 115] rfl (by decide +kernel)
set_option maxRecDepth 20000 in
theorem gX9_lawLine_X9_number_ : GoodIn wsX9_lawLine (wsV RX9 209 RX9 yX9_number_ wsX9_number_) := goodIn_app (goodIn_r _ [6, 7, 8, 9] rfl (by decide +kernel)) ggX9_lawLine_X9_number_
theorem bnames02cX9_lawLine_0 : ((dk_l cX9_lawLine).drop 0).take 52 = [42, 180, 0, 37, 16, 24, 42, 180, 0, 34, 7, 46, 96, 42, 20, 0, 207, 7, 16, 9, 182, 0, 209, 79, 42, 180, 0, 40, 16, 24, 42, 180, 0, 34, 7, 46, 96, 42, 20, 0, 212, 16, 10, 16, 20, 182, 0, 209, 79, 42, 180, 0] := by decide +kernel
theorem dX9_lawLine_0 : decode cX9_lawLine 0 = .ok (.aload_n 0, 1) := dk_42 (c := cX9_lawLine) (pc := 0) (dk_at bnames02cX9_lawLine_0 0)
theorem dX9_lawLine_1 : decode cX9_lawLine 1 = .ok (.getfield 37, 3) := dk_180 (c := cX9_lawLine) (pc := 1) (a := 0) (b := 37) (dk_at bnames02cX9_lawLine_0 1) rfl
theorem dX9_lawLine_4 : decode cX9_lawLine 4 = .ok (.bipush 24, 2) := dk_16 (c := cX9_lawLine) (pc := 4) (a := 24) (dk_at bnames02cX9_lawLine_0 4) (by decide)
theorem dX9_lawLine_6 : decode cX9_lawLine 6 = .ok (.aload_n 0, 1) := dk_42 (c := cX9_lawLine) (pc := 6) (dk_at bnames02cX9_lawLine_0 6)
theorem dX9_lawLine_7 : decode cX9_lawLine 7 = .ok (.getfield 34, 3) := dk_180 (c := cX9_lawLine) (pc := 7) (a := 0) (b := 34) (dk_at bnames02cX9_lawLine_0 7) rfl
theorem dX9_lawLine_10 : decode cX9_lawLine 10 = .ok (.iconst 4, 1) := dk_7 (c := cX9_lawLine) (pc := 10) (dk_at bnames02cX9_lawLine_0 10)
theorem dX9_lawLine_11 : decode cX9_lawLine 11 = .ok (.iaload, 1) := dk_46 (c := cX9_lawLine) (pc := 11) (dk_at bnames02cX9_lawLine_0 11)
theorem dX9_lawLine_12 : decode cX9_lawLine 12 = .ok (.iadd, 1) := dk_96 (c := cX9_lawLine) (pc := 12) (dk_at bnames02cX9_lawLine_0 12)
theorem dX9_lawLine_13 : decode cX9_lawLine 13 = .ok (.aload_n 0, 1) := dk_42 (c := cX9_lawLine) (pc := 13) (dk_at bnames02cX9_lawLine_0 13)
theorem dX9_lawLine_14 : decode cX9_lawLine 14 = .ok (.ldc2_w 207, 3) := dk_20 (c := cX9_lawLine) (pc := 14) (a := 0) (b := 207) (dk_at bnames02cX9_lawLine_0 14) rfl
theorem dX9_lawLine_17 : decode cX9_lawLine 17 = .ok (.iconst 4, 1) := dk_7 (c := cX9_lawLine) (pc := 17) (dk_at bnames02cX9_lawLine_0 17)
theorem dX9_lawLine_18 : decode cX9_lawLine 18 = .ok (.bipush 9, 2) := dk_16 (c := cX9_lawLine) (pc := 18) (a := 9) (dk_at bnames02cX9_lawLine_0 18) (by decide)
theorem dX9_lawLine_20 : decode cX9_lawLine 20 = .ok (.invokevirtual 209, 3) := dk_182 (c := cX9_lawLine) (pc := 20) (a := 0) (b := 209) (dk_at bnames02cX9_lawLine_0 20) rfl
theorem dX9_lawLine_23 : decode cX9_lawLine 23 = .ok (.iastore, 1) := dk_79 (c := cX9_lawLine) (pc := 23) (dk_at bnames02cX9_lawLine_0 23)
theorem dX9_lawLine_24 : decode cX9_lawLine 24 = .ok (.aload_n 0, 1) := dk_42 (c := cX9_lawLine) (pc := 24) (dk_at bnames02cX9_lawLine_0 24)
theorem dX9_lawLine_25 : decode cX9_lawLine 25 = .ok (.getfield 40, 3) := dk_180 (c := cX9_lawLine) (pc := 25) (a := 0) (b := 40) (dk_at bnames02cX9_lawLine_0 25) rfl
theorem dX9_lawLine_28 : decode cX9_lawLine 28 = .ok (.bipush 24, 2) := dk_16 (c := cX9_lawLine) (pc := 28) (a := 24) (dk_at bnames02cX9_lawLine_0 28) (by decide)
theorem dX9_lawLine_30 : decode cX9_lawLine 30 = .ok (.aload_n 0, 1) := dk_42 (c := cX9_lawLine) (pc := 30) (dk_at bnames02cX9_lawLine_0 30)
theorem dX9_lawLine_31 : decode cX9_lawLine 31 = .ok (.getfield 34, 3) := dk_180 (c := cX9_lawLine) (pc := 31) (a := 0) (b := 34) (dk_at bnames02cX9_lawLine_0 31) rfl
theorem dX9_lawLine_34 : decode cX9_lawLine 34 = .ok (.iconst 4, 1) := dk_7 (c := cX9_lawLine) (pc := 34) (dk_at bnames02cX9_lawLine_0 34)
theorem dX9_lawLine_35 : decode cX9_lawLine 35 = .ok (.iaload, 1) := dk_46 (c := cX9_lawLine) (pc := 35) (dk_at bnames02cX9_lawLine_0 35)
theorem dX9_lawLine_36 : decode cX9_lawLine 36 = .ok (.iadd, 1) := dk_96 (c := cX9_lawLine) (pc := 36) (dk_at bnames02cX9_lawLine_0 36)
theorem dX9_lawLine_37 : decode cX9_lawLine 37 = .ok (.aload_n 0, 1) := dk_42 (c := cX9_lawLine) (pc := 37) (dk_at bnames02cX9_lawLine_0 37)
theorem dX9_lawLine_38 : decode cX9_lawLine 38 = .ok (.ldc2_w 212, 3) := dk_20 (c := cX9_lawLine) (pc := 38) (a := 0) (b := 212) (dk_at bnames02cX9_lawLine_0 38) rfl
theorem dX9_lawLine_41 : decode cX9_lawLine 41 = .ok (.bipush 10, 2) := dk_16 (c := cX9_lawLine) (pc := 41) (a := 10) (dk_at bnames02cX9_lawLine_0 41) (by decide)
