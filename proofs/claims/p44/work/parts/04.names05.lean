theorem bnames05cX9_usuals_0 : ((dk_l cX9_usuals).drop 0).take 52 = [42, 182, 1, 177, 65, 42, 180, 1, 146, 153, 0, 30, 42, 180, 0, 89, 3, 46, 6, 161, 0, 20, 32, 20, 1, 150, 109, 20, 1, 219, 20, 1, 221, 184, 0, 130, 154, 0, 5, 3, 172, 42, 32, 20, 1, 150, 109, 136, 182, 1, 213, 42] := by decide +kernel
theorem dX9_usuals_6 : decode cX9_usuals 6 = .ok (.getfield 402, 3) := dk_180 (c := cX9_usuals) (pc := 6) (a := 1) (b := 146) (dk_at bnames05cX9_usuals_0 6) rfl
theorem dX9_usuals_9 : decode cX9_usuals 9 = .ok (.ifCond .eq 30, 3) := dk_153 (c := cX9_usuals) (pc := 9) (a := 0) (b := 30) (dk_at bnames05cX9_usuals_0 9) (by decide)
theorem dX9_usuals_12 : decode cX9_usuals 12 = .ok (.aload_n 0, 1) := dk_42 (c := cX9_usuals) (pc := 12) (dk_at bnames05cX9_usuals_0 12)
theorem dX9_usuals_13 : decode cX9_usuals 13 = .ok (.getfield 89, 3) := dk_180 (c := cX9_usuals) (pc := 13) (a := 0) (b := 89) (dk_at bnames05cX9_usuals_0 13) rfl
theorem dX9_usuals_16 : decode cX9_usuals 16 = .ok (.iconst 0, 1) := dk_3 (c := cX9_usuals) (pc := 16) (dk_at bnames05cX9_usuals_0 16)
theorem dX9_usuals_17 : decode cX9_usuals 17 = .ok (.iaload, 1) := dk_46 (c := cX9_usuals) (pc := 17) (dk_at bnames05cX9_usuals_0 17)
theorem dX9_usuals_18 : decode cX9_usuals 18 = .ok (.iconst 3, 1) := dk_6 (c := cX9_usuals) (pc := 18) (dk_at bnames05cX9_usuals_0 18)
theorem dX9_usuals_19 : decode cX9_usuals 19 = .ok (.if_icmp .lt 20, 3) := dk_161 (c := cX9_usuals) (pc := 19) (a := 0) (b := 20) (dk_at bnames05cX9_usuals_0 19) (by decide)
theorem dX9_usuals_22 : decode cX9_usuals 22 = .ok (.lload_n 2, 1) := dk_32 (c := cX9_usuals) (pc := 22) (dk_at bnames05cX9_usuals_0 22)
theorem dX9_usuals_23 : decode cX9_usuals 23 = .ok (.ldc2_w 406, 3) := dk_20 (c := cX9_usuals) (pc := 23) (a := 1) (b := 150) (dk_at bnames05cX9_usuals_0 23) rfl
theorem dX9_usuals_26 : decode cX9_usuals 26 = .ok (.ldiv, 1) := dk_109 (c := cX9_usuals) (pc := 26) (dk_at bnames05cX9_usuals_0 26)
theorem dX9_usuals_27 : decode cX9_usuals 27 = .ok (.ldc2_w 475, 3) := dk_20 (c := cX9_usuals) (pc := 27) (a := 1) (b := 219) (dk_at bnames05cX9_usuals_0 27) rfl
theorem dX9_usuals_30 : decode cX9_usuals 30 = .ok (.ldc2_w 477, 3) := dk_20 (c := cX9_usuals) (pc := 30) (a := 1) (b := 221) (dk_at bnames05cX9_usuals_0 30) rfl
theorem dX9_usuals_33 : decode cX9_usuals 33 = .ok (.invokestatic 130, 3) := dk_184 (c := cX9_usuals) (pc := 33) (a := 0) (b := 130) (dk_at bnames05cX9_usuals_0 33) rfl
theorem dX9_usuals_36 : decode cX9_usuals 36 = .ok (.ifCond .ne 5, 3) := dk_154 (c := cX9_usuals) (pc := 36) (a := 0) (b := 5) (dk_at bnames05cX9_usuals_0 36) (by decide)
theorem dX9_usuals_39 : decode cX9_usuals 39 = .ok (.iconst 0, 1) := dk_3 (c := cX9_usuals) (pc := 39) (dk_at bnames05cX9_usuals_0 39)
theorem dX9_usuals_40 : decode cX9_usuals 40 = .ok (.ireturn, 1) := dk_172 (c := cX9_usuals) (pc := 40) (dk_at bnames05cX9_usuals_0 40)
theorem dX9_usuals_41 : decode cX9_usuals 41 = .ok (.aload_n 0, 1) := dk_42 (c := cX9_usuals) (pc := 41) (dk_at bnames05cX9_usuals_0 41)
theorem dX9_usuals_42 : decode cX9_usuals 42 = .ok (.lload_n 2, 1) := dk_32 (c := cX9_usuals) (pc := 42) (dk_at bnames05cX9_usuals_0 42)
theorem dX9_usuals_43 : decode cX9_usuals 43 = .ok (.ldc2_w 406, 3) := dk_20 (c := cX9_usuals) (pc := 43) (a := 1) (b := 150) (dk_at bnames05cX9_usuals_0 43) rfl
theorem dX9_usuals_46 : decode cX9_usuals 46 = .ok (.ldiv, 1) := dk_109 (c := cX9_usuals) (pc := 46) (dk_at bnames05cX9_usuals_0 46)
theorem dX9_usuals_47 : decode cX9_usuals 47 = .ok (.l2i, 1) := dk_136 (c := cX9_usuals) (pc := 47) (dk_at bnames05cX9_usuals_0 47)
theorem bnames05cX9_usuals_48 : ((dk_l cX9_usuals).drop 48).take 52 = [182, 1, 213, 42, 27, 182, 1, 216, 55, 4, 16, 157, 54, 6, 21, 6, 16, 99, 163, 0, 45, 42, 21, 6, 182, 1, 213, 42, 180, 0, 122, 16, 99, 21, 6, 96, 42, 180, 1, 207, 42, 180, 1, 207, 105, 22, 4, 148, 157, 0, 7, 4] := by decide +kernel
theorem dX9_usuals_48 : decode cX9_usuals 48 = .ok (.invokevirtual 469, 3) := dk_182 (c := cX9_usuals) (pc := 48) (a := 1) (b := 213) (dk_at bnames05cX9_usuals_48 0) rfl
theorem dX9_usuals_51 : decode cX9_usuals 51 = .ok (.aload_n 0, 1) := dk_42 (c := cX9_usuals) (pc := 51) (dk_at bnames05cX9_usuals_48 3)
theorem dX9_usuals_52 : decode cX9_usuals 52 = .ok (.iload_n 1, 1) := dk_27 (c := cX9_usuals) (pc := 52) (dk_at bnames05cX9_usuals_48 4)
theorem dX9_usuals_53 : decode cX9_usuals 53 = .ok (.invokevirtual 472, 3) := dk_182 (c := cX9_usuals) (pc := 53) (a := 1) (b := 216) (dk_at bnames05cX9_usuals_48 5) rfl
theorem dX9_usuals_56 : decode cX9_usuals 56 = .ok (.lstore 4, 2) := dk_55 (c := cX9_usuals) (pc := 56) (a := 4) (dk_at bnames05cX9_usuals_48 8) rfl
theorem dX9_usuals_58 : decode cX9_usuals 58 = .ok (.bipush (-99), 2) := dk_16 (c := cX9_usuals) (pc := 58) (a := 157) (dk_at bnames05cX9_usuals_48 10) (by decide)
theorem dX9_usuals_60 : decode cX9_usuals 60 = .ok (.istore 6, 2) := dk_54 (c := cX9_usuals) (pc := 60) (a := 6) (dk_at bnames05cX9_usuals_48 12) rfl
theorem dX9_usuals_62 : decode cX9_usuals 62 = .ok (.iload 6, 2) := dk_21 (c := cX9_usuals) (pc := 62) (a := 6) (dk_at bnames05cX9_usuals_48 14) rfl
theorem dX9_usuals_64 : decode cX9_usuals 64 = .ok (.bipush 99, 2) := dk_16 (c := cX9_usuals) (pc := 64) (a := 99) (dk_at bnames05cX9_usuals_48 16) (by decide)
theorem dX9_usuals_66 : decode cX9_usuals 66 = .ok (.if_icmp .gt 45, 3) := dk_163 (c := cX9_usuals) (pc := 66) (a := 0) (b := 45) (dk_at bnames05cX9_usuals_48 18) (by decide)
theorem dX9_usuals_69 : decode cX9_usuals 69 = .ok (.aload_n 0, 1) := dk_42 (c := cX9_usuals) (pc := 69) (dk_at bnames05cX9_usuals_48 21)
theorem dX9_usuals_70 : decode cX9_usuals 70 = .ok (.iload 6, 2) := dk_21 (c := cX9_usuals) (pc := 70) (a := 6) (dk_at bnames05cX9_usuals_48 22) rfl
theorem dX9_usuals_72 : decode cX9_usuals 72 = .ok (.invokevirtual 469, 3) := dk_182 (c := cX9_usuals) (pc := 72) (a := 1) (b := 213) (dk_at bnames05cX9_usuals_48 24) rfl
theorem dX9_usuals_75 : decode cX9_usuals 75 = .ok (.aload_n 0, 1) := dk_42 (c := cX9_usuals) (pc := 75) (dk_at bnames05cX9_usuals_48 27)
theorem dX9_usuals_76 : decode cX9_usuals 76 = .ok (.getfield 122, 3) := dk_180 (c := cX9_usuals) (pc := 76) (a := 0) (b := 122) (dk_at bnames05cX9_usuals_48 28) rfl
theorem dX9_usuals_79 : decode cX9_usuals 79 = .ok (.bipush 99, 2) := dk_16 (c := cX9_usuals) (pc := 79) (a := 99) (dk_at bnames05cX9_usuals_48 31) (by decide)
theorem dX9_usuals_81 : decode cX9_usuals 81 = .ok (.iload 6, 2) := dk_21 (c := cX9_usuals) (pc := 81) (a := 6) (dk_at bnames05cX9_usuals_48 33) rfl
theorem dX9_usuals_83 : decode cX9_usuals 83 = .ok (.iadd, 1) := dk_96 (c := cX9_usuals) (pc := 83) (dk_at bnames05cX9_usuals_48 35)
theorem dX9_usuals_84 : decode cX9_usuals 84 = .ok (.aload_n 0, 1) := dk_42 (c := cX9_usuals) (pc := 84) (dk_at bnames05cX9_usuals_48 36)
theorem dX9_usuals_85 : decode cX9_usuals 85 = .ok (.getfield 463, 3) := dk_180 (c := cX9_usuals) (pc := 85) (a := 1) (b := 207) (dk_at bnames05cX9_usuals_48 37) rfl
theorem dX9_usuals_88 : decode cX9_usuals 88 = .ok (.aload_n 0, 1) := dk_42 (c := cX9_usuals) (pc := 88) (dk_at bnames05cX9_usuals_48 40)
theorem dX9_usuals_89 : decode cX9_usuals 89 = .ok (.getfield 463, 3) := dk_180 (c := cX9_usuals) (pc := 89) (a := 1) (b := 207) (dk_at bnames05cX9_usuals_48 41) rfl
theorem dX9_usuals_92 : decode cX9_usuals 92 = .ok (.lmul, 1) := dk_105 (c := cX9_usuals) (pc := 92) (dk_at bnames05cX9_usuals_48 44)
theorem dX9_usuals_93 : decode cX9_usuals 93 = .ok (.lload 4, 2) := dk_22 (c := cX9_usuals) (pc := 93) (a := 4) (dk_at bnames05cX9_usuals_48 45) rfl
theorem dX9_usuals_95 : decode cX9_usuals 95 = .ok (.lcmp, 1) := dk_148 (c := cX9_usuals) (pc := 95) (dk_at bnames05cX9_usuals_48 47)
theorem bnames05cX9_usuals_96 : ((dk_l cX9_usuals).drop 96).take 17 = [157, 0, 7, 4, 167, 0, 4, 3, 84, 132, 6, 1, 167, 255, 210, 4, 172] := by decide +kernel
theorem dX9_usuals_96 : decode cX9_usuals 96 = .ok (.ifCond .gt 7, 3) := dk_157 (c := cX9_usuals) (pc := 96) (a := 0) (b := 7) (dk_at bnames05cX9_usuals_96 0) (by decide)
theorem dX9_usuals_99 : decode cX9_usuals 99 = .ok (.iconst 1, 1) := dk_4 (c := cX9_usuals) (pc := 99) (dk_at bnames05cX9_usuals_96 3)
theorem dX9_usuals_100 : decode cX9_usuals 100 = .ok (.goto 4, 3) := dk_167 (c := cX9_usuals) (pc := 100) (a := 0) (b := 4) (dk_at bnames05cX9_usuals_96 4) (by decide)
theorem dX9_usuals_103 : decode cX9_usuals 103 = .ok (.iconst 0, 1) := dk_3 (c := cX9_usuals) (pc := 103) (dk_at bnames05cX9_usuals_96 7)
theorem dX9_usuals_104 : decode cX9_usuals 104 = .ok (.bastore, 1) := dk_84 (c := cX9_usuals) (pc := 104) (dk_at bnames05cX9_usuals_96 8)
theorem dX9_usuals_105 : decode cX9_usuals 105 = .ok (.iinc 6 1, 3) := dk_132 (c := cX9_usuals) (pc := 105) (a := 6) (b := 1) (dk_at bnames05cX9_usuals_96 9) rfl (by decide)
theorem dX9_usuals_108 : decode cX9_usuals 108 = .ok (.goto (-46), 3) := dk_167 (c := cX9_usuals) (pc := 108) (a := 255) (b := 210) (dk_at bnames05cX9_usuals_96 12) (by decide)
theorem dX9_usuals_111 : decode cX9_usuals 111 = .ok (.iconst 1, 1) := dk_4 (c := cX9_usuals) (pc := 111) (dk_at bnames05cX9_usuals_96 15)
theorem dX9_usuals_112 : decode cX9_usuals 112 = .ok (.ireturn, 1) := dk_172 (c := cX9_usuals) (pc := 112) (dk_at bnames05cX9_usuals_96 16)
theorem bnames05cX9_spanTold_0 : ((dk_l cX9_spanTold).drop 0).take 52 = [3, 61, 19, 1, 113, 62, 19, 1, 113, 54, 4, 16, 157, 54, 5, 21, 5, 16, 99, 163, 0, 46, 42, 180, 0, 122, 16, 99, 21, 5, 96, 51, 154, 0, 6, 167, 0, 24, 132, 2, 1, 29, 19, 1, 113, 160, 0, 8, 21, 5, 167, 0] := by decide +kernel
theorem dX9_spanTold_0 : decode cX9_spanTold 0 = .ok (.iconst 0, 1) := dk_3 (c := cX9_spanTold) (pc := 0) (dk_at bnames05cX9_spanTold_0 0)
theorem dX9_spanTold_1 : decode cX9_spanTold 1 = .ok (.istore_n 2, 1) := dk_61 (c := cX9_spanTold) (pc := 1) (dk_at bnames05cX9_spanTold_0 1)
theorem dX9_spanTold_2 : decode cX9_spanTold 2 = .ok (.ldc_w 369, 3) := dk_19 (c := cX9_spanTold) (pc := 2) (a := 1) (b := 113) (dk_at bnames05cX9_spanTold_0 2) rfl
theorem dX9_spanTold_5 : decode cX9_spanTold 5 = .ok (.istore_n 3, 1) := dk_62 (c := cX9_spanTold) (pc := 5) (dk_at bnames05cX9_spanTold_0 5)
theorem dX9_spanTold_6 : decode cX9_spanTold 6 = .ok (.ldc_w 369, 3) := dk_19 (c := cX9_spanTold) (pc := 6) (a := 1) (b := 113) (dk_at bnames05cX9_spanTold_0 6) rfl
theorem dX9_spanTold_9 : decode cX9_spanTold 9 = .ok (.istore 4, 2) := dk_54 (c := cX9_spanTold) (pc := 9) (a := 4) (dk_at bnames05cX9_spanTold_0 9) rfl
theorem dX9_spanTold_11 : decode cX9_spanTold 11 = .ok (.bipush (-99), 2) := dk_16 (c := cX9_spanTold) (pc := 11) (a := 157) (dk_at bnames05cX9_spanTold_0 11) (by decide)
theorem dX9_spanTold_13 : decode cX9_spanTold 13 = .ok (.istore 5, 2) := dk_54 (c := cX9_spanTold) (pc := 13) (a := 5) (dk_at bnames05cX9_spanTold_0 13) rfl
theorem dX9_spanTold_15 : decode cX9_spanTold 15 = .ok (.iload 5, 2) := dk_21 (c := cX9_spanTold) (pc := 15) (a := 5) (dk_at bnames05cX9_spanTold_0 15) rfl
theorem dX9_spanTold_17 : decode cX9_spanTold 17 = .ok (.bipush 99, 2) := dk_16 (c := cX9_spanTold) (pc := 17) (a := 99) (dk_at bnames05cX9_spanTold_0 17) (by decide)
theorem dX9_spanTold_19 : decode cX9_spanTold 19 = .ok (.if_icmp .gt 46, 3) := dk_163 (c := cX9_spanTold) (pc := 19) (a := 0) (b := 46) (dk_at bnames05cX9_spanTold_0 19) (by decide)
theorem dX9_spanTold_22 : decode cX9_spanTold 22 = .ok (.aload_n 0, 1) := dk_42 (c := cX9_spanTold) (pc := 22) (dk_at bnames05cX9_spanTold_0 22)
theorem dX9_spanTold_23 : decode cX9_spanTold 23 = .ok (.getfield 122, 3) := dk_180 (c := cX9_spanTold) (pc := 23) (a := 0) (b := 122) (dk_at bnames05cX9_spanTold_0 23) rfl
theorem dX9_spanTold_26 : decode cX9_spanTold 26 = .ok (.bipush 99, 2) := dk_16 (c := cX9_spanTold) (pc := 26) (a := 99) (dk_at bnames05cX9_spanTold_0 26) (by decide)
theorem dX9_spanTold_28 : decode cX9_spanTold 28 = .ok (.iload 5, 2) := dk_21 (c := cX9_spanTold) (pc := 28) (a := 5) (dk_at bnames05cX9_spanTold_0 28) rfl
theorem dX9_spanTold_30 : decode cX9_spanTold 30 = .ok (.iadd, 1) := dk_96 (c := cX9_spanTold) (pc := 30) (dk_at bnames05cX9_spanTold_0 30)
theorem dX9_spanTold_31 : decode cX9_spanTold 31 = .ok (.baload, 1) := dk_51 (c := cX9_spanTold) (pc := 31) (dk_at bnames05cX9_spanTold_0 31)
theorem dX9_spanTold_32 : decode cX9_spanTold 32 = .ok (.ifCond .ne 6, 3) := dk_154 (c := cX9_spanTold) (pc := 32) (a := 0) (b := 6) (dk_at bnames05cX9_spanTold_0 32) (by decide)
theorem dX9_spanTold_35 : decode cX9_spanTold 35 = .ok (.goto 24, 3) := dk_167 (c := cX9_spanTold) (pc := 35) (a := 0) (b := 24) (dk_at bnames05cX9_spanTold_0 35) (by decide)
theorem dX9_spanTold_38 : decode cX9_spanTold 38 = .ok (.iinc 2 1, 3) := dk_132 (c := cX9_spanTold) (pc := 38) (a := 2) (b := 1) (dk_at bnames05cX9_spanTold_0 38) rfl (by decide)
theorem dX9_spanTold_41 : decode cX9_spanTold 41 = .ok (.iload_n 3, 1) := dk_29 (c := cX9_spanTold) (pc := 41) (dk_at bnames05cX9_spanTold_0 41)
theorem dX9_spanTold_42 : decode cX9_spanTold 42 = .ok (.ldc_w 369, 3) := dk_19 (c := cX9_spanTold) (pc := 42) (a := 1) (b := 113) (dk_at bnames05cX9_spanTold_0 42) rfl
theorem dX9_spanTold_45 : decode cX9_spanTold 45 = .ok (.if_icmp .ne 8, 3) := dk_160 (c := cX9_spanTold) (pc := 45) (a := 0) (b := 8) (dk_at bnames05cX9_spanTold_0 45) (by decide)
theorem bnames05cX9_spanTold_48 : ((dk_l cX9_spanTold).drop 48).take 52 = [21, 5, 167, 0, 4, 29, 62, 21, 5, 54, 4, 132, 5, 1, 167, 255, 209, 27, 154, 0, 7, 28, 167, 0, 41, 27, 4, 160, 0, 7, 29, 167, 0, 32, 27, 5, 160, 0, 8, 21, 4, 167, 0, 22, 28, 158, 0, 17, 21, 4, 29, 100] := by decide +kernel
theorem dX9_spanTold_48 : decode cX9_spanTold 48 = .ok (.iload 5, 2) := dk_21 (c := cX9_spanTold) (pc := 48) (a := 5) (dk_at bnames05cX9_spanTold_48 0) rfl
theorem dX9_spanTold_50 : decode cX9_spanTold 50 = .ok (.goto 4, 3) := dk_167 (c := cX9_spanTold) (pc := 50) (a := 0) (b := 4) (dk_at bnames05cX9_spanTold_48 2) (by decide)
theorem dX9_spanTold_53 : decode cX9_spanTold 53 = .ok (.iload_n 3, 1) := dk_29 (c := cX9_spanTold) (pc := 53) (dk_at bnames05cX9_spanTold_48 5)
theorem dX9_spanTold_54 : decode cX9_spanTold 54 = .ok (.istore_n 3, 1) := dk_62 (c := cX9_spanTold) (pc := 54) (dk_at bnames05cX9_spanTold_48 6)
theorem dX9_spanTold_55 : decode cX9_spanTold 55 = .ok (.iload 5, 2) := dk_21 (c := cX9_spanTold) (pc := 55) (a := 5) (dk_at bnames05cX9_spanTold_48 7) rfl
theorem dX9_spanTold_57 : decode cX9_spanTold 57 = .ok (.istore 4, 2) := dk_54 (c := cX9_spanTold) (pc := 57) (a := 4) (dk_at bnames05cX9_spanTold_48 9) rfl
theorem dX9_spanTold_59 : decode cX9_spanTold 59 = .ok (.iinc 5 1, 3) := dk_132 (c := cX9_spanTold) (pc := 59) (a := 5) (b := 1) (dk_at bnames05cX9_spanTold_48 11) rfl (by decide)
theorem dX9_spanTold_62 : decode cX9_spanTold 62 = .ok (.goto (-47), 3) := dk_167 (c := cX9_spanTold) (pc := 62) (a := 255) (b := 209) (dk_at bnames05cX9_spanTold_48 14) (by decide)
theorem dX9_spanTold_65 : decode cX9_spanTold 65 = .ok (.iload_n 1, 1) := dk_27 (c := cX9_spanTold) (pc := 65) (dk_at bnames05cX9_spanTold_48 17)
theorem dX9_spanTold_66 : decode cX9_spanTold 66 = .ok (.ifCond .ne 7, 3) := dk_154 (c := cX9_spanTold) (pc := 66) (a := 0) (b := 7) (dk_at bnames05cX9_spanTold_48 18) (by decide)
theorem dX9_spanTold_69 : decode cX9_spanTold 69 = .ok (.iload_n 2, 1) := dk_28 (c := cX9_spanTold) (pc := 69) (dk_at bnames05cX9_spanTold_48 21)
theorem dX9_spanTold_70 : decode cX9_spanTold 70 = .ok (.goto 41, 3) := dk_167 (c := cX9_spanTold) (pc := 70) (a := 0) (b := 41) (dk_at bnames05cX9_spanTold_48 22) (by decide)
theorem dX9_spanTold_73 : decode cX9_spanTold 73 = .ok (.iload_n 1, 1) := dk_27 (c := cX9_spanTold) (pc := 73) (dk_at bnames05cX9_spanTold_48 25)
theorem dX9_spanTold_74 : decode cX9_spanTold 74 = .ok (.iconst 1, 1) := dk_4 (c := cX9_spanTold) (pc := 74) (dk_at bnames05cX9_spanTold_48 26)
theorem dX9_spanTold_75 : decode cX9_spanTold 75 = .ok (.if_icmp .ne 7, 3) := dk_160 (c := cX9_spanTold) (pc := 75) (a := 0) (b := 7) (dk_at bnames05cX9_spanTold_48 27) (by decide)
theorem dX9_spanTold_78 : decode cX9_spanTold 78 = .ok (.iload_n 3, 1) := dk_29 (c := cX9_spanTold) (pc := 78) (dk_at bnames05cX9_spanTold_48 30)
theorem dX9_spanTold_79 : decode cX9_spanTold 79 = .ok (.goto 32, 3) := dk_167 (c := cX9_spanTold) (pc := 79) (a := 0) (b := 32) (dk_at bnames05cX9_spanTold_48 31) (by decide)
theorem dX9_spanTold_82 : decode cX9_spanTold 82 = .ok (.iload_n 1, 1) := dk_27 (c := cX9_spanTold) (pc := 82) (dk_at bnames05cX9_spanTold_48 34)
theorem dX9_spanTold_83 : decode cX9_spanTold 83 = .ok (.iconst 2, 1) := dk_5 (c := cX9_spanTold) (pc := 83) (dk_at bnames05cX9_spanTold_48 35)
theorem dX9_spanTold_84 : decode cX9_spanTold 84 = .ok (.if_icmp .ne 8, 3) := dk_160 (c := cX9_spanTold) (pc := 84) (a := 0) (b := 8) (dk_at bnames05cX9_spanTold_48 36) (by decide)
theorem dX9_spanTold_87 : decode cX9_spanTold 87 = .ok (.iload 4, 2) := dk_21 (c := cX9_spanTold) (pc := 87) (a := 4) (dk_at bnames05cX9_spanTold_48 39) rfl
theorem dX9_spanTold_89 : decode cX9_spanTold 89 = .ok (.goto 22, 3) := dk_167 (c := cX9_spanTold) (pc := 89) (a := 0) (b := 22) (dk_at bnames05cX9_spanTold_48 41) (by decide)
theorem dX9_spanTold_92 : decode cX9_spanTold 92 = .ok (.iload_n 2, 1) := dk_28 (c := cX9_spanTold) (pc := 92) (dk_at bnames05cX9_spanTold_48 44)
theorem dX9_spanTold_93 : decode cX9_spanTold 93 = .ok (.ifCond .le 17, 3) := dk_158 (c := cX9_spanTold) (pc := 93) (a := 0) (b := 17) (dk_at bnames05cX9_spanTold_48 45) (by decide)
theorem bnames05cX9_spanTold_96 : ((dk_l cX9_spanTold).drop 96).take 16 = [21, 4, 29, 100, 4, 96, 28, 160, 0, 7, 4, 167, 0, 4, 3, 172] := by decide +kernel
theorem dX9_spanTold_96 : decode cX9_spanTold 96 = .ok (.iload 4, 2) := dk_21 (c := cX9_spanTold) (pc := 96) (a := 4) (dk_at bnames05cX9_spanTold_96 0) rfl
theorem dX9_spanTold_98 : decode cX9_spanTold 98 = .ok (.iload_n 3, 1) := dk_29 (c := cX9_spanTold) (pc := 98) (dk_at bnames05cX9_spanTold_96 2)
theorem dX9_spanTold_99 : decode cX9_spanTold 99 = .ok (.isub, 1) := dk_100 (c := cX9_spanTold) (pc := 99) (dk_at bnames05cX9_spanTold_96 3)
theorem dX9_spanTold_100 : decode cX9_spanTold 100 = .ok (.iconst 1, 1) := dk_4 (c := cX9_spanTold) (pc := 100) (dk_at bnames05cX9_spanTold_96 4)
theorem dX9_spanTold_101 : decode cX9_spanTold 101 = .ok (.iadd, 1) := dk_96 (c := cX9_spanTold) (pc := 101) (dk_at bnames05cX9_spanTold_96 5)
theorem dX9_spanTold_102 : decode cX9_spanTold 102 = .ok (.iload_n 2, 1) := dk_28 (c := cX9_spanTold) (pc := 102) (dk_at bnames05cX9_spanTold_96 6)
theorem dX9_spanTold_103 : decode cX9_spanTold 103 = .ok (.if_icmp .ne 7, 3) := dk_160 (c := cX9_spanTold) (pc := 103) (a := 0) (b := 7) (dk_at bnames05cX9_spanTold_96 7) (by decide)
theorem dX9_spanTold_106 : decode cX9_spanTold 106 = .ok (.iconst 1, 1) := dk_4 (c := cX9_spanTold) (pc := 106) (dk_at bnames05cX9_spanTold_96 10)
theorem dX9_spanTold_107 : decode cX9_spanTold 107 = .ok (.goto 4, 3) := dk_167 (c := cX9_spanTold) (pc := 107) (a := 0) (b := 4) (dk_at bnames05cX9_spanTold_96 11) (by decide)
theorem dX9_spanTold_110 : decode cX9_spanTold 110 = .ok (.iconst 0, 1) := dk_3 (c := cX9_spanTold) (pc := 110) (dk_at bnames05cX9_spanTold_96 14)
theorem dX9_spanTold_111 : decode cX9_spanTold 111 = .ok (.ireturn, 1) := dk_172 (c := cX9_spanTold) (pc := 111) (dk_at bnames05cX9_spanTold_96 15)
set_option maxRecDepth 20000 in
theorem ggX9_isSpan_X9_isPush : GoodIn wsX9_isSpan wsX9_isPush := goodIn_r _ [5, 6, 7, 8, 4, 9] rfl (by decide +kernel)
set_option maxRecDepth 20000 in
theorem gX9_isSpan_X9_isPush : GoodIn wsX9_isSpan (va_wsS RX9 430 yX9_isPush wsX9_isPush) := goodIn_app (goodIn_r _ [2, 3, 4] rfl (by decide +kernel)) ggX9_isSpan_X9_isPush
set_option maxRecDepth 20000 in
theorem ggX9_isSpan_X9_in : GoodIn wsX9_isSpan wsX9_in := goodIn_r _ [9] rfl (by decide +kernel)
set_option maxRecDepth 20000 in
theorem gX9_isSpan_X9_in : GoodIn wsX9_isSpan (va_wsS RX9 130 yX9_in wsX9_in) := goodIn_app (goodIn_r _ [7, 8, 4] rfl (by decide +kernel)) ggX9_isSpan_X9_in
theorem bnames05cX9_isSpan_0 : ((dk_l cX9_isSpan).drop 0).take 25 = [26, 184, 1, 174, 153, 0, 19, 27, 133, 10, 20, 1, 223, 184, 0, 130, 153, 0, 7, 4, 167, 0, 4, 3, 172] := by decide +kernel
theorem dX9_isSpan_0 : decode cX9_isSpan 0 = .ok (.iload_n 0, 1) := dk_26 (c := cX9_isSpan) (pc := 0) (dk_at bnames05cX9_isSpan_0 0)
theorem dX9_isSpan_1 : decode cX9_isSpan 1 = .ok (.invokestatic 430, 3) := dk_184 (c := cX9_isSpan) (pc := 1) (a := 1) (b := 174) (dk_at bnames05cX9_isSpan_0 1) rfl
theorem dX9_isSpan_4 : decode cX9_isSpan 4 = .ok (.ifCond .eq 19, 3) := dk_153 (c := cX9_isSpan) (pc := 4) (a := 0) (b := 19) (dk_at bnames05cX9_isSpan_0 4) (by decide)
theorem dX9_isSpan_7 : decode cX9_isSpan 7 = .ok (.iload_n 1, 1) := dk_27 (c := cX9_isSpan) (pc := 7) (dk_at bnames05cX9_isSpan_0 7)
theorem dX9_isSpan_8 : decode cX9_isSpan 8 = .ok (.i2l, 1) := dk_133 (c := cX9_isSpan) (pc := 8) (dk_at bnames05cX9_isSpan_0 8)
theorem dX9_isSpan_9 : decode cX9_isSpan 9 = .ok (.lconst 1, 1) := dk_10 (c := cX9_isSpan) (pc := 9) (dk_at bnames05cX9_isSpan_0 9)
theorem dX9_isSpan_10 : decode cX9_isSpan 10 = .ok (.ldc2_w 479, 3) := dk_20 (c := cX9_isSpan) (pc := 10) (a := 1) (b := 223) (dk_at bnames05cX9_isSpan_0 10) rfl
theorem dX9_isSpan_13 : decode cX9_isSpan 13 = .ok (.invokestatic 130, 3) := dk_184 (c := cX9_isSpan) (pc := 13) (a := 0) (b := 130) (dk_at bnames05cX9_isSpan_0 13) rfl
theorem dX9_isSpan_16 : decode cX9_isSpan 16 = .ok (.ifCond .eq 7, 3) := dk_153 (c := cX9_isSpan) (pc := 16) (a := 0) (b := 7) (dk_at bnames05cX9_isSpan_0 16) (by decide)
theorem dX9_isSpan_19 : decode cX9_isSpan 19 = .ok (.iconst 1, 1) := dk_4 (c := cX9_isSpan) (pc := 19) (dk_at bnames05cX9_isSpan_0 19)
theorem dX9_isSpan_20 : decode cX9_isSpan 20 = .ok (.goto 4, 3) := dk_167 (c := cX9_isSpan) (pc := 20) (a := 0) (b := 4) (dk_at bnames05cX9_isSpan_0 20) (by decide)
theorem dX9_isSpan_23 : decode cX9_isSpan 23 = .ok (.iconst 0, 1) := dk_3 (c := cX9_isSpan) (pc := 23) (dk_at bnames05cX9_isSpan_0 23)
theorem dX9_isSpan_24 : decode cX9_isSpan 24 = .ok (.ireturn, 1) := dk_172 (c := cX9_isSpan) (pc := 24) (dk_at bnames05cX9_isSpan_0 24)
set_option maxRecDepth 20000 in
theorem ggX9_span_X9_isSpan : GoodIn wsX9_span wsX9_isSpan := goodIn_r _ [7, 8, 9, 10, 6, 11, 12, 13, 14, 15] rfl (by decide +kernel)
set_option maxRecDepth 20000 in
theorem gX9_span_X9_isSpan : GoodIn wsX9_span (va_wsS RX9 481 yX9_isSpan wsX9_isSpan) := goodIn_app (goodIn_r _ [4, 5, 6] rfl (by decide +kernel)) ggX9_span_X9_isSpan
set_option maxRecDepth 20000 in
theorem ggX9_span_X9_in : GoodIn wsX9_span wsX9_in := goodIn_r _ [15] rfl (by decide +kernel)
set_option maxRecDepth 20000 in
theorem gX9_span_X9_in : GoodIn wsX9_span (va_wsS RX9 130 yX9_in wsX9_in) := goodIn_app (goodIn_r _ [13, 14, 6] rfl (by decide +kernel)) ggX9_span_X9_in
set_option maxRecDepth 20000 in
theorem ggX9_span_X9_pushes : GoodIn wsX9_span wsX9_pushes := goodIn_r _ [19, 20, 21, 22, 23, 62, 63, 64, 65, 66, 67, 68, 69, 70, 71, 72, 73, 74, 75, 76, 77, 78, 79, 80, 81, 82, 83, 84, 85, 86, 87, 88, 89, 90, 91, 92, 93, 94, 95, 96, 97, 98, 99, 100, 101, 102, 103, 104, 105, 106, 107, 108, 109, 110, 111, 112, 113, 114, 115, 116, 117, 118, 119, 120, 121] rfl (by decide +kernel)
set_option maxRecDepth 20000 in
theorem gX9_span_X9_pushes : GoodIn wsX9_span (wsV RX9 410 RX9 yX9_pushes wsX9_pushes) := goodIn_app (goodIn_r _ [16, 17, 18, 6] rfl (by decide +kernel)) ggX9_span_X9_pushes
set_option maxRecDepth 20000 in
theorem ggX9_span_X9_spans : GoodIn wsX9_span wsX9_spans := goodIn_r _ [27, 20, 28, 29, 30, 31, 32, 6, 33, 34, 35, 36, 37, 38, 39, 40, 41, 23, 42, 43, 21, 44, 45, 46, 47, 48, 49, 50, 51, 52, 53, 54, 55, 56, 57, 62, 63, 64, 65, 66, 67, 68, 69, 70, 71, 72, 73, 74, 75, 76, 77, 78, 79, 80, 81, 82, 83, 84, 85, 86, 87, 88, 89, 90, 91, 92, 93, 94, 95, 96, 97, 98, 99, 100, 101, 102, 103, 104, 105, 106, 107, 108, 109, 110, 111, 112, 113, 114, 115, 116, 117, 118, 119, 120, 121] rfl (by decide +kernel)
set_option maxRecDepth 20000 in
theorem gX9_span_X9_spans : GoodIn wsX9_span (wsV RX9 485 RX9 yX9_spans wsX9_spans) := goodIn_app (goodIn_r _ [24, 25, 26, 6] rfl (by decide +kernel)) ggX9_span_X9_spans
set_option maxRecDepth 20000 in
theorem ggX9_span_X9_spanTold : GoodIn wsX9_span wsX9_spanTold := goodIn_r _ [61, 3, 28, 62, 63, 64, 65, 66, 67, 68, 69, 70, 71, 72, 73, 74, 75, 76, 77, 78, 79, 80, 81, 82, 83, 84, 85, 86, 87, 88, 89, 90, 91, 92, 93, 94, 95, 96, 97, 98, 99, 100, 101, 102, 103, 104, 105, 106, 107, 108, 109, 110, 111, 112, 113, 114, 115, 116, 117, 118, 119, 120, 121] rfl (by decide +kernel)
set_option maxRecDepth 20000 in
theorem gX9_span_X9_spanTold : GoodIn wsX9_span (wsV RX9 488 RX9 yX9_spanTold wsX9_spanTold) := goodIn_app (goodIn_r _ [58, 59, 60, 6] rfl (by decide +kernel)) ggX9_span_X9_spanTold
theorem bnames05cX9_span_0 : ((dk_l cX9_span).drop 0).take 52 = [42, 3, 181, 0, 125, 27, 28, 184, 1, 225, 153, 0, 15, 29, 133, 9, 20, 0, 128, 184, 0, 130, 154, 0, 7, 19, 1, 113, 172, 42, 27, 182, 1, 154, 42, 28, 182, 1, 229, 153, 0, 11, 42, 29, 182, 1, 232, 167, 0, 6, 19, 1] := by decide +kernel
theorem dX9_span_0 : decode cX9_span 0 = .ok (.aload_n 0, 1) := dk_42 (c := cX9_span) (pc := 0) (dk_at bnames05cX9_span_0 0)
theorem dX9_span_1 : decode cX9_span 1 = .ok (.iconst 0, 1) := dk_3 (c := cX9_span) (pc := 1) (dk_at bnames05cX9_span_0 1)
theorem dX9_span_2 : decode cX9_span 2 = .ok (.putfield 125, 3) := dk_181 (c := cX9_span) (pc := 2) (a := 0) (b := 125) (dk_at bnames05cX9_span_0 2) rfl
theorem dX9_span_5 : decode cX9_span 5 = .ok (.iload_n 1, 1) := dk_27 (c := cX9_span) (pc := 5) (dk_at bnames05cX9_span_0 5)
theorem dX9_span_6 : decode cX9_span 6 = .ok (.iload_n 2, 1) := dk_28 (c := cX9_span) (pc := 6) (dk_at bnames05cX9_span_0 6)
theorem dX9_span_7 : decode cX9_span 7 = .ok (.invokestatic 481, 3) := dk_184 (c := cX9_span) (pc := 7) (a := 1) (b := 225) (dk_at bnames05cX9_span_0 7) rfl
theorem dX9_span_10 : decode cX9_span 10 = .ok (.ifCond .eq 15, 3) := dk_153 (c := cX9_span) (pc := 10) (a := 0) (b := 15) (dk_at bnames05cX9_span_0 10) (by decide)
theorem dX9_span_13 : decode cX9_span 13 = .ok (.iload_n 3, 1) := dk_29 (c := cX9_span) (pc := 13) (dk_at bnames05cX9_span_0 13)
theorem dX9_span_14 : decode cX9_span 14 = .ok (.i2l, 1) := dk_133 (c := cX9_span) (pc := 14) (dk_at bnames05cX9_span_0 14)
theorem dX9_span_15 : decode cX9_span 15 = .ok (.lconst 0, 1) := dk_9 (c := cX9_span) (pc := 15) (dk_at bnames05cX9_span_0 15)
theorem dX9_span_16 : decode cX9_span 16 = .ok (.ldc2_w 128, 3) := dk_20 (c := cX9_span) (pc := 16) (a := 0) (b := 128) (dk_at bnames05cX9_span_0 16) rfl
theorem dX9_span_19 : decode cX9_span 19 = .ok (.invokestatic 130, 3) := dk_184 (c := cX9_span) (pc := 19) (a := 0) (b := 130) (dk_at bnames05cX9_span_0 19) rfl
theorem dX9_span_22 : decode cX9_span 22 = .ok (.ifCond .ne 7, 3) := dk_154 (c := cX9_span) (pc := 22) (a := 0) (b := 7) (dk_at bnames05cX9_span_0 22) (by decide)
theorem dX9_span_25 : decode cX9_span 25 = .ok (.ldc_w 369, 3) := dk_19 (c := cX9_span) (pc := 25) (a := 1) (b := 113) (dk_at bnames05cX9_span_0 25) rfl
theorem dX9_span_28 : decode cX9_span 28 = .ok (.ireturn, 1) := dk_172 (c := cX9_span) (pc := 28) (dk_at bnames05cX9_span_0 28)
theorem dX9_span_29 : decode cX9_span 29 = .ok (.aload_n 0, 1) := dk_42 (c := cX9_span) (pc := 29) (dk_at bnames05cX9_span_0 29)
theorem dX9_span_30 : decode cX9_span 30 = .ok (.iload_n 1, 1) := dk_27 (c := cX9_span) (pc := 30) (dk_at bnames05cX9_span_0 30)
theorem dX9_span_31 : decode cX9_span 31 = .ok (.invokevirtual 410, 3) := dk_182 (c := cX9_span) (pc := 31) (a := 1) (b := 154) (dk_at bnames05cX9_span_0 31) rfl
theorem dX9_span_34 : decode cX9_span 34 = .ok (.aload_n 0, 1) := dk_42 (c := cX9_span) (pc := 34) (dk_at bnames05cX9_span_0 34)
theorem dX9_span_35 : decode cX9_span 35 = .ok (.iload_n 2, 1) := dk_28 (c := cX9_span) (pc := 35) (dk_at bnames05cX9_span_0 35)
theorem dX9_span_36 : decode cX9_span 36 = .ok (.invokevirtual 485, 3) := dk_182 (c := cX9_span) (pc := 36) (a := 1) (b := 229) (dk_at bnames05cX9_span_0 36) rfl
theorem dX9_span_39 : decode cX9_span 39 = .ok (.ifCond .eq 11, 3) := dk_153 (c := cX9_span) (pc := 39) (a := 0) (b := 11) (dk_at bnames05cX9_span_0 39) (by decide)
theorem dX9_span_42 : decode cX9_span 42 = .ok (.aload_n 0, 1) := dk_42 (c := cX9_span) (pc := 42) (dk_at bnames05cX9_span_0 42)
theorem dX9_span_43 : decode cX9_span 43 = .ok (.iload_n 3, 1) := dk_29 (c := cX9_span) (pc := 43) (dk_at bnames05cX9_span_0 43)
theorem dX9_span_44 : decode cX9_span 44 = .ok (.invokevirtual 488, 3) := dk_182 (c := cX9_span) (pc := 44) (a := 1) (b := 232) (dk_at bnames05cX9_span_0 44) rfl
theorem dX9_span_47 : decode cX9_span 47 = .ok (.goto 6, 3) := dk_167 (c := cX9_span) (pc := 47) (a := 0) (b := 6) (dk_at bnames05cX9_span_0 47) (by decide)
theorem bnames05cX9_span_48 : ((dk_l cX9_span).drop 48).take 6 = [0, 6, 19, 1, 113, 172] := by decide +kernel
theorem dX9_span_50 : decode cX9_span 50 = .ok (.ldc_w 369, 3) := dk_19 (c := cX9_span) (pc := 50) (a := 1) (b := 113) (dk_at bnames05cX9_span_48 2) rfl
theorem dX9_span_53 : decode cX9_span 53 = .ok (.ireturn, 1) := dk_172 (c := cX9_span) (pc := 53) (dk_at bnames05cX9_span_48 5)
set_option maxRecDepth 20000 in
theorem ggX9_usual_X9_isSpan : GoodIn wsX9_usual wsX9_isSpan := goodIn_r _ [7, 8, 9, 10, 6, 11, 12, 13, 14, 15] rfl (by decide +kernel)
set_option maxRecDepth 20000 in
theorem gX9_usual_X9_isSpan : GoodIn wsX9_usual (va_wsS RX9 481 yX9_isSpan wsX9_isSpan) := goodIn_app (goodIn_r _ [4, 5, 6] rfl (by decide +kernel)) ggX9_usual_X9_isSpan
set_option maxRecDepth 20000 in
theorem ggX9_usual_X9_in : GoodIn wsX9_usual wsX9_in := goodIn_r _ [15] rfl (by decide +kernel)
set_option maxRecDepth 20000 in
theorem gX9_usual_X9_in : GoodIn wsX9_usual (va_wsS RX9 130 yX9_in wsX9_in) := goodIn_app (goodIn_r _ [13, 14, 6] rfl (by decide +kernel)) ggX9_usual_X9_in
set_option maxRecDepth 20000 in
theorem ggX9_usual_X9_pushes : GoodIn wsX9_usual wsX9_pushes := goodIn_r _ [19, 20, 21, 22, 23, 79, 80, 81, 82, 83, 84, 85, 86, 87, 88, 89, 90, 91, 92, 93, 94, 95, 96, 97, 98, 99, 100, 101, 102, 103, 104, 105, 106, 107, 108, 109, 110, 111, 112, 113, 114, 115, 116, 117, 118, 119, 120, 121, 122, 123, 124, 125, 126, 127, 128, 129, 130, 131, 132, 133, 134, 135, 136, 137, 138] rfl (by decide +kernel)
set_option maxRecDepth 20000 in
theorem gX9_usual_X9_pushes : GoodIn wsX9_usual (wsV RX9 410 RX9 yX9_pushes wsX9_pushes) := goodIn_app (goodIn_r _ [16, 17, 18, 6] rfl (by decide +kernel)) ggX9_usual_X9_pushes
set_option maxRecDepth 20000 in
theorem ggX9_usual_X9_usuals : GoodIn wsX9_usual wsX9_usuals := goodIn_r _ [27, 28, 20, 29, 30, 31, 32, 33, 34, 35, 36, 6, 37, 38, 39, 40, 41, 42, 43, 44, 45, 46, 47, 48, 49, 23, 50, 51, 21, 52, 53, 54, 55, 56, 57, 58, 59, 60, 61, 62, 63, 64, 13, 14, 15, 65, 66, 67, 68, 69, 70, 71, 72, 73, 74, 79, 80, 81, 82, 83, 84, 85, 86, 87, 88, 89, 90, 91, 92, 93, 94, 95, 96, 97, 98, 99, 100, 101, 102, 103, 104, 105, 106, 107, 108, 109, 110, 111, 112, 113, 114, 115, 116, 117, 118, 119, 120, 121, 122, 123, 124, 125, 126, 127, 128, 129, 130, 131, 132, 133, 134, 135, 136, 137, 138] rfl (by decide +kernel)
set_option maxRecDepth 20000 in
theorem gX9_usual_X9_usuals : GoodIn wsX9_usual (wsV RX9 491 RX9 yX9_usuals wsX9_usuals) := goodIn_app (goodIn_r _ [24, 25, 26, 6] rfl (by decide +kernel)) ggX9_usual_X9_usuals
set_option maxRecDepth 20000 in
theorem ggX9_usual_X9_spanTold : GoodIn wsX9_usual wsX9_spanTold := goodIn_r _ [78, 3, 32, 79, 80, 81, 82, 83, 84, 85, 86, 87, 88, 89, 90, 91, 92, 93, 94, 95, 96, 97, 98, 99, 100, 101, 102, 103, 104, 105, 106, 107, 108, 109, 110, 111, 112, 113, 114, 115, 116, 117, 118, 119, 120, 121, 122, 123, 124, 125, 126, 127, 128, 129, 130, 131, 132, 133, 134, 135, 136, 137, 138] rfl (by decide +kernel)
set_option maxRecDepth 20000 in
theorem gX9_usual_X9_spanTold : GoodIn wsX9_usual (wsV RX9 488 RX9 yX9_spanTold wsX9_spanTold) := goodIn_app (goodIn_r _ [75, 76, 77, 6] rfl (by decide +kernel)) ggX9_usual_X9_spanTold
theorem bnames05cX9_usual_0 : ((dk_l cX9_usual).drop 0).take 52 = [42, 3, 181, 0, 125, 27, 28, 184, 1, 225, 153, 0, 15, 29, 133, 9, 20, 0, 128, 184, 0, 130, 154, 0, 7, 19, 1, 113, 172, 42, 27, 182, 1, 154, 42, 28, 182, 1, 235, 153, 0, 11, 42, 29, 182, 1, 232, 167, 0, 6, 19, 1] := by decide +kernel
theorem dX9_usual_0 : decode cX9_usual 0 = .ok (.aload_n 0, 1) := dk_42 (c := cX9_usual) (pc := 0) (dk_at bnames05cX9_usual_0 0)
theorem dX9_usual_1 : decode cX9_usual 1 = .ok (.iconst 0, 1) := dk_3 (c := cX9_usual) (pc := 1) (dk_at bnames05cX9_usual_0 1)
theorem dX9_usual_2 : decode cX9_usual 2 = .ok (.putfield 125, 3) := dk_181 (c := cX9_usual) (pc := 2) (a := 0) (b := 125) (dk_at bnames05cX9_usual_0 2) rfl
theorem dX9_usual_5 : decode cX9_usual 5 = .ok (.iload_n 1, 1) := dk_27 (c := cX9_usual) (pc := 5) (dk_at bnames05cX9_usual_0 5)
theorem dX9_usual_6 : decode cX9_usual 6 = .ok (.iload_n 2, 1) := dk_28 (c := cX9_usual) (pc := 6) (dk_at bnames05cX9_usual_0 6)
theorem dX9_usual_7 : decode cX9_usual 7 = .ok (.invokestatic 481, 3) := dk_184 (c := cX9_usual) (pc := 7) (a := 1) (b := 225) (dk_at bnames05cX9_usual_0 7) rfl
theorem dX9_usual_10 : decode cX9_usual 10 = .ok (.ifCond .eq 15, 3) := dk_153 (c := cX9_usual) (pc := 10) (a := 0) (b := 15) (dk_at bnames05cX9_usual_0 10) (by decide)
theorem dX9_usual_13 : decode cX9_usual 13 = .ok (.iload_n 3, 1) := dk_29 (c := cX9_usual) (pc := 13) (dk_at bnames05cX9_usual_0 13)
theorem dX9_usual_14 : decode cX9_usual 14 = .ok (.i2l, 1) := dk_133 (c := cX9_usual) (pc := 14) (dk_at bnames05cX9_usual_0 14)
theorem dX9_usual_15 : decode cX9_usual 15 = .ok (.lconst 0, 1) := dk_9 (c := cX9_usual) (pc := 15) (dk_at bnames05cX9_usual_0 15)
theorem dX9_usual_16 : decode cX9_usual 16 = .ok (.ldc2_w 128, 3) := dk_20 (c := cX9_usual) (pc := 16) (a := 0) (b := 128) (dk_at bnames05cX9_usual_0 16) rfl
theorem dX9_usual_19 : decode cX9_usual 19 = .ok (.invokestatic 130, 3) := dk_184 (c := cX9_usual) (pc := 19) (a := 0) (b := 130) (dk_at bnames05cX9_usual_0 19) rfl
theorem dX9_usual_22 : decode cX9_usual 22 = .ok (.ifCond .ne 7, 3) := dk_154 (c := cX9_usual) (pc := 22) (a := 0) (b := 7) (dk_at bnames05cX9_usual_0 22) (by decide)
theorem dX9_usual_25 : decode cX9_usual 25 = .ok (.ldc_w 369, 3) := dk_19 (c := cX9_usual) (pc := 25) (a := 1) (b := 113) (dk_at bnames05cX9_usual_0 25) rfl
theorem dX9_usual_28 : decode cX9_usual 28 = .ok (.ireturn, 1) := dk_172 (c := cX9_usual) (pc := 28) (dk_at bnames05cX9_usual_0 28)
theorem dX9_usual_29 : decode cX9_usual 29 = .ok (.aload_n 0, 1) := dk_42 (c := cX9_usual) (pc := 29) (dk_at bnames05cX9_usual_0 29)
theorem dX9_usual_30 : decode cX9_usual 30 = .ok (.iload_n 1, 1) := dk_27 (c := cX9_usual) (pc := 30) (dk_at bnames05cX9_usual_0 30)
theorem dX9_usual_31 : decode cX9_usual 31 = .ok (.invokevirtual 410, 3) := dk_182 (c := cX9_usual) (pc := 31) (a := 1) (b := 154) (dk_at bnames05cX9_usual_0 31) rfl
theorem dX9_usual_34 : decode cX9_usual 34 = .ok (.aload_n 0, 1) := dk_42 (c := cX9_usual) (pc := 34) (dk_at bnames05cX9_usual_0 34)
theorem dX9_usual_35 : decode cX9_usual 35 = .ok (.iload_n 2, 1) := dk_28 (c := cX9_usual) (pc := 35) (dk_at bnames05cX9_usual_0 35)
theorem dX9_usual_36 : decode cX9_usual 36 = .ok (.invokevirtual 491, 3) := dk_182 (c := cX9_usual) (pc := 36) (a := 1) (b := 235) (dk_at bnames05cX9_usual_0 36) rfl
theorem dX9_usual_39 : decode cX9_usual 39 = .ok (.ifCond .eq 11, 3) := dk_153 (c := cX9_usual) (pc := 39) (a := 0) (b := 11) (dk_at bnames05cX9_usual_0 39) (by decide)
theorem dX9_usual_42 : decode cX9_usual 42 = .ok (.aload_n 0, 1) := dk_42 (c := cX9_usual) (pc := 42) (dk_at bnames05cX9_usual_0 42)
theorem dX9_usual_43 : decode cX9_usual 43 = .ok (.iload_n 3, 1) := dk_29 (c := cX9_usual) (pc := 43) (dk_at bnames05cX9_usual_0 43)
theorem dX9_usual_44 : decode cX9_usual 44 = .ok (.invokevirtual 488, 3) := dk_182 (c := cX9_usual) (pc := 44) (a := 1) (b := 232) (dk_at bnames05cX9_usual_0 44) rfl
theorem dX9_usual_47 : decode cX9_usual 47 = .ok (.goto 6, 3) := dk_167 (c := cX9_usual) (pc := 47) (a := 0) (b := 6) (dk_at bnames05cX9_usual_0 47) (by decide)
theorem bnames05cX9_usual_48 : ((dk_l cX9_usual).drop 48).take 6 = [0, 6, 19, 1, 113, 172] := by decide +kernel
theorem dX9_usual_50 : decode cX9_usual 50 = .ok (.ldc_w 369, 3) := dk_19 (c := cX9_usual) (pc := 50) (a := 1) (b := 113) (dk_at bnames05cX9_usual_48 2) rfl
theorem dX9_usual_53 : decode cX9_usual 53 = .ok (.ireturn, 1) := dk_172 (c := cX9_usual) (pc := 53) (dk_at bnames05cX9_usual_48 5)
set_option maxRecDepth 20000 in
theorem ggX9_kept_X9_isSpan : GoodIn wsX9_kept wsX9_isSpan := goodIn_r _ [8, 9, 10, 11, 7, 12, 13, 14, 15, 16] rfl (by decide +kernel)
set_option maxRecDepth 20000 in
theorem gX9_kept_X9_isSpan : GoodIn wsX9_kept (va_wsS RX9 481 yX9_isSpan wsX9_isSpan) := goodIn_app (goodIn_r _ [5, 6, 7] rfl (by decide +kernel)) ggX9_kept_X9_isSpan
set_option maxRecDepth 20000 in
theorem ggX9_kept_X9_in : GoodIn wsX9_kept wsX9_in := goodIn_r _ [16] rfl (by decide +kernel)
set_option maxRecDepth 20000 in
theorem gX9_kept_X9_in : GoodIn wsX9_kept (va_wsS RX9 130 yX9_in wsX9_in) := goodIn_app (goodIn_r _ [14, 15, 7] rfl (by decide +kernel)) ggX9_kept_X9_in
set_option maxRecDepth 20000 in
theorem ggX9_kept_X9_pushes : GoodIn wsX9_kept wsX9_pushes := goodIn_r _ [20, 21, 22, 23, 24, 58, 59, 60, 61, 62, 63, 64, 65, 66, 67, 68, 69, 70, 71, 72, 73, 74, 75, 76, 77, 78, 79, 80, 81, 82, 83, 84, 85, 86, 87, 88, 89, 90, 91, 92, 93, 94, 95, 96, 97, 98, 99, 100, 101, 102, 103, 104, 105, 106, 107, 108, 109, 110, 111, 112, 113, 114, 115, 116, 117] rfl (by decide +kernel)
set_option maxRecDepth 20000 in
theorem gX9_kept_X9_pushes : GoodIn wsX9_kept (wsV RX9 410 RX9 yX9_pushes wsX9_pushes) := goodIn_app (goodIn_r _ [17, 18, 19, 7] rfl (by decide +kernel)) ggX9_kept_X9_pushes
set_option maxRecDepth 20000 in
theorem ggX9_kept_X9_spans : GoodIn wsX9_kept wsX9_spans := goodIn_r _ [28, 21, 4, 29, 30, 31, 32, 7, 33, 34, 35, 36, 37, 38, 39, 40, 41, 24, 42, 43, 22, 44, 45, 46, 47, 48, 49, 50, 51, 52, 53, 54, 55, 56, 57, 58, 59, 60, 61, 62, 63, 64, 65, 66, 67, 68, 69, 70, 71, 72, 73, 74, 75, 76, 77, 78, 79, 80, 81, 82, 83, 84, 85, 86, 87, 88, 89, 90, 91, 92, 93, 94, 95, 96, 97, 98, 99, 100, 101, 102, 103, 104, 105, 106, 107, 108, 109, 110, 111, 112, 113, 114, 115, 116, 117] rfl (by decide +kernel)
set_option maxRecDepth 20000 in
theorem gX9_kept_X9_spans : GoodIn wsX9_kept (wsV RX9 485 RX9 yX9_spans wsX9_spans) := goodIn_app (goodIn_r _ [25, 26, 27, 7] rfl (by decide +kernel)) ggX9_kept_X9_spans
theorem bnames05cX9_kept_0 : ((dk_l cX9_kept).drop 0).take 52 = [42, 3, 181, 0, 125, 27, 28, 184, 1, 225, 153, 0, 17, 29, 133, 20, 1, 219, 20, 1, 221, 184, 0, 130, 154, 0, 6, 16, 254, 172, 42, 27, 182, 1, 154, 42, 28, 182, 1, 229, 154, 0, 8, 16, 254, 167, 0, 20, 42, 180, 0, 122] := by decide +kernel
theorem dX9_kept_0 : decode cX9_kept 0 = .ok (.aload_n 0, 1) := dk_42 (c := cX9_kept) (pc := 0) (dk_at bnames05cX9_kept_0 0)
theorem dX9_kept_1 : decode cX9_kept 1 = .ok (.iconst 0, 1) := dk_3 (c := cX9_kept) (pc := 1) (dk_at bnames05cX9_kept_0 1)
theorem dX9_kept_2 : decode cX9_kept 2 = .ok (.putfield 125, 3) := dk_181 (c := cX9_kept) (pc := 2) (a := 0) (b := 125) (dk_at bnames05cX9_kept_0 2) rfl
theorem dX9_kept_5 : decode cX9_kept 5 = .ok (.iload_n 1, 1) := dk_27 (c := cX9_kept) (pc := 5) (dk_at bnames05cX9_kept_0 5)
theorem dX9_kept_6 : decode cX9_kept 6 = .ok (.iload_n 2, 1) := dk_28 (c := cX9_kept) (pc := 6) (dk_at bnames05cX9_kept_0 6)
theorem dX9_kept_7 : decode cX9_kept 7 = .ok (.invokestatic 481, 3) := dk_184 (c := cX9_kept) (pc := 7) (a := 1) (b := 225) (dk_at bnames05cX9_kept_0 7) rfl
theorem dX9_kept_10 : decode cX9_kept 10 = .ok (.ifCond .eq 17, 3) := dk_153 (c := cX9_kept) (pc := 10) (a := 0) (b := 17) (dk_at bnames05cX9_kept_0 10) (by decide)
theorem dX9_kept_13 : decode cX9_kept 13 = .ok (.iload_n 3, 1) := dk_29 (c := cX9_kept) (pc := 13) (dk_at bnames05cX9_kept_0 13)
theorem dX9_kept_14 : decode cX9_kept 14 = .ok (.i2l, 1) := dk_133 (c := cX9_kept) (pc := 14) (dk_at bnames05cX9_kept_0 14)
theorem dX9_kept_15 : decode cX9_kept 15 = .ok (.ldc2_w 475, 3) := dk_20 (c := cX9_kept) (pc := 15) (a := 1) (b := 219) (dk_at bnames05cX9_kept_0 15) rfl
theorem dX9_kept_18 : decode cX9_kept 18 = .ok (.ldc2_w 477, 3) := dk_20 (c := cX9_kept) (pc := 18) (a := 1) (b := 221) (dk_at bnames05cX9_kept_0 18) rfl
theorem dX9_kept_21 : decode cX9_kept 21 = .ok (.invokestatic 130, 3) := dk_184 (c := cX9_kept) (pc := 21) (a := 0) (b := 130) (dk_at bnames05cX9_kept_0 21) rfl
theorem dX9_kept_24 : decode cX9_kept 24 = .ok (.ifCond .ne 6, 3) := dk_154 (c := cX9_kept) (pc := 24) (a := 0) (b := 6) (dk_at bnames05cX9_kept_0 24) (by decide)
theorem dX9_kept_27 : decode cX9_kept 27 = .ok (.bipush (-2), 2) := dk_16 (c := cX9_kept) (pc := 27) (a := 254) (dk_at bnames05cX9_kept_0 27) (by decide)
theorem dX9_kept_29 : decode cX9_kept 29 = .ok (.ireturn, 1) := dk_172 (c := cX9_kept) (pc := 29) (dk_at bnames05cX9_kept_0 29)
theorem dX9_kept_30 : decode cX9_kept 30 = .ok (.aload_n 0, 1) := dk_42 (c := cX9_kept) (pc := 30) (dk_at bnames05cX9_kept_0 30)
theorem dX9_kept_31 : decode cX9_kept 31 = .ok (.iload_n 1, 1) := dk_27 (c := cX9_kept) (pc := 31) (dk_at bnames05cX9_kept_0 31)
theorem dX9_kept_32 : decode cX9_kept 32 = .ok (.invokevirtual 410, 3) := dk_182 (c := cX9_kept) (pc := 32) (a := 1) (b := 154) (dk_at bnames05cX9_kept_0 32) rfl
theorem dX9_kept_35 : decode cX9_kept 35 = .ok (.aload_n 0, 1) := dk_42 (c := cX9_kept) (pc := 35) (dk_at bnames05cX9_kept_0 35)
theorem dX9_kept_36 : decode cX9_kept 36 = .ok (.iload_n 2, 1) := dk_28 (c := cX9_kept) (pc := 36) (dk_at bnames05cX9_kept_0 36)
theorem dX9_kept_37 : decode cX9_kept 37 = .ok (.invokevirtual 485, 3) := dk_182 (c := cX9_kept) (pc := 37) (a := 1) (b := 229) (dk_at bnames05cX9_kept_0 37) rfl
theorem dX9_kept_40 : decode cX9_kept 40 = .ok (.ifCond .ne 8, 3) := dk_154 (c := cX9_kept) (pc := 40) (a := 0) (b := 8) (dk_at bnames05cX9_kept_0 40) (by decide)
theorem dX9_kept_43 : decode cX9_kept 43 = .ok (.bipush (-2), 2) := dk_16 (c := cX9_kept) (pc := 43) (a := 254) (dk_at bnames05cX9_kept_0 43) (by decide)
theorem dX9_kept_45 : decode cX9_kept 45 = .ok (.goto 20, 3) := dk_167 (c := cX9_kept) (pc := 45) (a := 0) (b := 20) (dk_at bnames05cX9_kept_0 45) (by decide)
theorem bnames05cX9_kept_48 : ((dk_l cX9_kept).drop 48).take 18 = [42, 180, 0, 122, 16, 99, 29, 96, 51, 153, 0, 7, 4, 167, 0, 4, 3, 172] := by decide +kernel
theorem dX9_kept_48 : decode cX9_kept 48 = .ok (.aload_n 0, 1) := dk_42 (c := cX9_kept) (pc := 48) (dk_at bnames05cX9_kept_48 0)
theorem dX9_kept_49 : decode cX9_kept 49 = .ok (.getfield 122, 3) := dk_180 (c := cX9_kept) (pc := 49) (a := 0) (b := 122) (dk_at bnames05cX9_kept_48 1) rfl
theorem dX9_kept_52 : decode cX9_kept 52 = .ok (.bipush 99, 2) := dk_16 (c := cX9_kept) (pc := 52) (a := 99) (dk_at bnames05cX9_kept_48 4) (by decide)
theorem dX9_kept_54 : decode cX9_kept 54 = .ok (.iload_n 3, 1) := dk_29 (c := cX9_kept) (pc := 54) (dk_at bnames05cX9_kept_48 6)
theorem dX9_kept_55 : decode cX9_kept 55 = .ok (.iadd, 1) := dk_96 (c := cX9_kept) (pc := 55) (dk_at bnames05cX9_kept_48 7)
theorem dX9_kept_56 : decode cX9_kept 56 = .ok (.baload, 1) := dk_51 (c := cX9_kept) (pc := 56) (dk_at bnames05cX9_kept_48 8)
theorem dX9_kept_57 : decode cX9_kept 57 = .ok (.ifCond .eq 7, 3) := dk_153 (c := cX9_kept) (pc := 57) (a := 0) (b := 7) (dk_at bnames05cX9_kept_48 9) (by decide)
theorem dX9_kept_60 : decode cX9_kept 60 = .ok (.iconst 1, 1) := dk_4 (c := cX9_kept) (pc := 60) (dk_at bnames05cX9_kept_48 12)
theorem dX9_kept_61 : decode cX9_kept 61 = .ok (.goto 4, 3) := dk_167 (c := cX9_kept) (pc := 61) (a := 0) (b := 4) (dk_at bnames05cX9_kept_48 13) (by decide)
theorem dX9_kept_64 : decode cX9_kept 64 = .ok (.iconst 0, 1) := dk_3 (c := cX9_kept) (pc := 64) (dk_at bnames05cX9_kept_48 16)
theorem dX9_kept_65 : decode cX9_kept 65 = .ok (.ireturn, 1) := dk_172 (c := cX9_kept) (pc := 65) (dk_at bnames05cX9_kept_48 17)
set_option maxRecDepth 20000 in
theorem ggX9_hats_X9_isSeed : GoodIn wsX9_hats wsX9_isSeed := goodIn_r _ [17, 18, 19, 20, 16, 21] rfl (by decide +kernel)
set_option maxRecDepth 20000 in
theorem gX9_hats_X9_isSeed : GoodIn wsX9_hats (va_wsS RX9 347 yX9_isSeed wsX9_isSeed) := goodIn_app (goodIn_r _ [14, 15, 16] rfl (by decide +kernel)) ggX9_hats_X9_isSeed
set_option maxRecDepth 20000 in
theorem ggX9_hats_X9_in : GoodIn wsX9_hats wsX9_in := goodIn_r _ [21] rfl (by decide +kernel)
set_option maxRecDepth 20000 in
theorem gX9_hats_X9_in : GoodIn wsX9_hats (va_wsS RX9 130 yX9_in wsX9_in) := goodIn_app (goodIn_r _ [19, 20, 16] rfl (by decide +kernel)) ggX9_hats_X9_in
set_option maxRecDepth 20000 in
theorem ggX9_hats_X9_plainOf : GoodIn wsX9_hats wsX9_plainOf := goodIn_r _ [25, 26, 27, 28, 29, 30, 31, 32, 33, 16, 34, 8, 9, 35, 10, 36, 37, 38, 39, 40, 41, 42, 43, 44, 45, 46, 47, 48, 5, 13, 49, 86, 87, 88, 89, 90, 91, 92, 93, 94, 95, 96, 97, 98, 99, 100, 101, 102, 103, 104, 105, 106, 107, 108, 109, 110, 111, 112, 113, 114, 115, 116, 117, 118, 119, 120, 121, 122, 123, 124, 125, 126, 127, 128, 129, 130, 131, 132, 133, 134, 135, 136, 137, 138, 139, 140, 141, 142, 143, 144, 145] rfl (by decide +kernel)
set_option maxRecDepth 20000 in
theorem gX9_hats_X9_plainOf : GoodIn wsX9_hats (wsV RX9 420 RX9 yX9_plainOf wsX9_plainOf) := goodIn_app (goodIn_r _ [22, 23, 24, 16] rfl (by decide +kernel)) ggX9_hats_X9_plainOf
set_option maxRecDepth 20000 in
theorem ggX9_hats_X9_drawn : GoodIn wsX9_hats wsX9_drawn := goodIn_r _ [53, 54, 7, 55, 56, 57, 86, 87, 88, 89, 90, 91, 92, 93, 94, 95, 96, 97, 98, 99, 100, 101, 102, 103, 104, 105, 106, 107, 108, 109, 110, 111, 112, 113, 114, 115, 116, 117, 118, 119, 120, 121, 122, 123, 124, 125, 126, 127, 128, 129, 130, 131, 132, 133, 134, 135, 136, 137, 138, 139, 140, 141, 142, 143, 144, 145] rfl (by decide +kernel)
set_option maxRecDepth 20000 in
theorem gX9_hats_X9_drawn : GoodIn wsX9_hats (wsV RX9 337 RX9 yX9_drawn wsX9_drawn) := goodIn_app (goodIn_r _ [50, 51, 52, 16] rfl (by decide +kernel)) ggX9_hats_X9_drawn
set_option maxRecDepth 20000 in
theorem ggX9_hats_X9_byMoved : GoodIn wsX9_hats wsX9_byMoved := goodIn_r _ [61, 42, 26, 29, 40, 41, 28, 36, 37, 38, 16, 39, 30, 27, 10, 43, 44, 9, 62, 63, 64, 65, 45, 46, 47, 48, 5, 13, 49, 66, 67, 68, 69, 86, 87, 88, 89, 90, 91, 92, 93, 94, 95, 96, 97, 98, 99, 100, 101, 102, 103, 104, 105, 106, 107, 108, 109, 110, 111, 112, 113, 114, 115, 116, 117, 118, 119, 120, 121, 122, 123, 124, 125, 126, 127, 128, 129, 130, 131, 132, 133, 134, 135, 136, 137, 138, 139, 140, 141, 142, 143, 144, 145] rfl (by decide +kernel)
set_option maxRecDepth 20000 in
theorem gX9_hats_X9_byMoved : GoodIn wsX9_hats (wsV RX9 433 RX9 yX9_byMoved wsX9_byMoved) := goodIn_app (goodIn_r _ [58, 59, 60, 16] rfl (by decide +kernel)) ggX9_hats_X9_byMoved
set_option maxRecDepth 20000 in
theorem ggX9_hats_X9_usuals : GoodIn wsX9_hats wsX9_usuals := goodIn_r _ [73, 5, 8, 13, 74, 75, 11, 76, 58, 59, 60, 16, 61, 42, 26, 29, 40, 41, 28, 36, 37, 38, 39, 30, 27, 10, 43, 44, 9, 62, 63, 64, 65, 45, 46, 47, 48, 49, 66, 67, 68, 69, 19, 20, 21, 77, 78, 79, 80, 81, 82, 83, 84, 85, 4, 86, 87, 88, 89, 90, 91, 92, 93, 94, 95, 96, 97, 98, 99, 100, 101, 102, 103, 104, 105, 106, 107, 108, 109, 110, 111, 112, 113, 114, 115, 116, 117, 118, 119, 120, 121, 122, 123, 124, 125, 126, 127, 128, 129, 130, 131, 132, 133, 134, 135, 136, 137, 138, 139, 140, 141, 142, 143, 144, 145] rfl (by decide +kernel)
set_option maxRecDepth 20000 in
theorem gX9_hats_X9_usuals : GoodIn wsX9_hats (wsV RX9 491 RX9 yX9_usuals wsX9_usuals) := goodIn_app (goodIn_r _ [70, 71, 72, 16] rfl (by decide +kernel)) ggX9_hats_X9_usuals
theorem bnames05cX9_hats_0 : ((dk_l cX9_hats).drop 0).take 52 = [42, 3, 181, 0, 125, 27, 184, 1, 91, 153, 0, 40, 28, 133, 10, 20, 1, 238, 184, 0, 130, 153, 0, 28, 29, 133, 10, 20, 1, 223, 184, 0, 130, 153, 0, 16, 21, 4, 133, 9, 20, 1, 199, 184, 0, 130, 154, 0, 6, 16, 254, 172] := by decide +kernel
theorem dX9_hats_0 : decode cX9_hats 0 = .ok (.aload_n 0, 1) := dk_42 (c := cX9_hats) (pc := 0) (dk_at bnames05cX9_hats_0 0)
theorem dX9_hats_1 : decode cX9_hats 1 = .ok (.iconst 0, 1) := dk_3 (c := cX9_hats) (pc := 1) (dk_at bnames05cX9_hats_0 1)
theorem dX9_hats_2 : decode cX9_hats 2 = .ok (.putfield 125, 3) := dk_181 (c := cX9_hats) (pc := 2) (a := 0) (b := 125) (dk_at bnames05cX9_hats_0 2) rfl
theorem dX9_hats_5 : decode cX9_hats 5 = .ok (.iload_n 1, 1) := dk_27 (c := cX9_hats) (pc := 5) (dk_at bnames05cX9_hats_0 5)
theorem dX9_hats_6 : decode cX9_hats 6 = .ok (.invokestatic 347, 3) := dk_184 (c := cX9_hats) (pc := 6) (a := 1) (b := 91) (dk_at bnames05cX9_hats_0 6) rfl
theorem dX9_hats_9 : decode cX9_hats 9 = .ok (.ifCond .eq 40, 3) := dk_153 (c := cX9_hats) (pc := 9) (a := 0) (b := 40) (dk_at bnames05cX9_hats_0 9) (by decide)
theorem dX9_hats_12 : decode cX9_hats 12 = .ok (.iload_n 2, 1) := dk_28 (c := cX9_hats) (pc := 12) (dk_at bnames05cX9_hats_0 12)
theorem dX9_hats_13 : decode cX9_hats 13 = .ok (.i2l, 1) := dk_133 (c := cX9_hats) (pc := 13) (dk_at bnames05cX9_hats_0 13)
theorem dX9_hats_14 : decode cX9_hats 14 = .ok (.lconst 1, 1) := dk_10 (c := cX9_hats) (pc := 14) (dk_at bnames05cX9_hats_0 14)
theorem dX9_hats_15 : decode cX9_hats 15 = .ok (.ldc2_w 494, 3) := dk_20 (c := cX9_hats) (pc := 15) (a := 1) (b := 238) (dk_at bnames05cX9_hats_0 15) rfl
theorem dX9_hats_18 : decode cX9_hats 18 = .ok (.invokestatic 130, 3) := dk_184 (c := cX9_hats) (pc := 18) (a := 0) (b := 130) (dk_at bnames05cX9_hats_0 18) rfl
theorem dX9_hats_21 : decode cX9_hats 21 = .ok (.ifCond .eq 28, 3) := dk_153 (c := cX9_hats) (pc := 21) (a := 0) (b := 28) (dk_at bnames05cX9_hats_0 21) (by decide)
theorem dX9_hats_24 : decode cX9_hats 24 = .ok (.iload_n 3, 1) := dk_29 (c := cX9_hats) (pc := 24) (dk_at bnames05cX9_hats_0 24)
theorem dX9_hats_25 : decode cX9_hats 25 = .ok (.i2l, 1) := dk_133 (c := cX9_hats) (pc := 25) (dk_at bnames05cX9_hats_0 25)
theorem dX9_hats_26 : decode cX9_hats 26 = .ok (.lconst 1, 1) := dk_10 (c := cX9_hats) (pc := 26) (dk_at bnames05cX9_hats_0 26)
theorem dX9_hats_27 : decode cX9_hats 27 = .ok (.ldc2_w 479, 3) := dk_20 (c := cX9_hats) (pc := 27) (a := 1) (b := 223) (dk_at bnames05cX9_hats_0 27) rfl
theorem dX9_hats_30 : decode cX9_hats 30 = .ok (.invokestatic 130, 3) := dk_184 (c := cX9_hats) (pc := 30) (a := 0) (b := 130) (dk_at bnames05cX9_hats_0 30) rfl
theorem dX9_hats_33 : decode cX9_hats 33 = .ok (.ifCond .eq 16, 3) := dk_153 (c := cX9_hats) (pc := 33) (a := 0) (b := 16) (dk_at bnames05cX9_hats_0 33) (by decide)
theorem dX9_hats_36 : decode cX9_hats 36 = .ok (.iload 4, 2) := dk_21 (c := cX9_hats) (pc := 36) (a := 4) (dk_at bnames05cX9_hats_0 36) rfl
theorem dX9_hats_38 : decode cX9_hats 38 = .ok (.i2l, 1) := dk_133 (c := cX9_hats) (pc := 38) (dk_at bnames05cX9_hats_0 38)
theorem dX9_hats_39 : decode cX9_hats 39 = .ok (.lconst 0, 1) := dk_9 (c := cX9_hats) (pc := 39) (dk_at bnames05cX9_hats_0 39)
theorem dX9_hats_40 : decode cX9_hats 40 = .ok (.ldc2_w 455, 3) := dk_20 (c := cX9_hats) (pc := 40) (a := 1) (b := 199) (dk_at bnames05cX9_hats_0 40) rfl
theorem dX9_hats_43 : decode cX9_hats 43 = .ok (.invokestatic 130, 3) := dk_184 (c := cX9_hats) (pc := 43) (a := 0) (b := 130) (dk_at bnames05cX9_hats_0 43) rfl
theorem dX9_hats_46 : decode cX9_hats 46 = .ok (.ifCond .ne 6, 3) := dk_154 (c := cX9_hats) (pc := 46) (a := 0) (b := 6) (dk_at bnames05cX9_hats_0 46) (by decide)
theorem bnames05cX9_hats_48 : ((dk_l cX9_hats).drop 48).take 52 = [6, 16, 254, 172, 42, 182, 1, 164, 55, 5, 21, 4, 4, 160, 0, 14, 42, 180, 1, 146, 154, 0, 7, 19, 1, 113, 172, 42, 27, 133, 181, 1, 72, 3, 54, 7, 3, 54, 8, 21, 8, 28, 162, 0, 142, 3, 54, 9, 21, 9, 42, 180] := by decide +kernel
theorem dX9_hats_49 : decode cX9_hats 49 = .ok (.bipush (-2), 2) := dk_16 (c := cX9_hats) (pc := 49) (a := 254) (dk_at bnames05cX9_hats_48 1) (by decide)
theorem dX9_hats_51 : decode cX9_hats 51 = .ok (.ireturn, 1) := dk_172 (c := cX9_hats) (pc := 51) (dk_at bnames05cX9_hats_48 3)
theorem dX9_hats_52 : decode cX9_hats 52 = .ok (.aload_n 0, 1) := dk_42 (c := cX9_hats) (pc := 52) (dk_at bnames05cX9_hats_48 4)
theorem dX9_hats_53 : decode cX9_hats 53 = .ok (.invokevirtual 420, 3) := dk_182 (c := cX9_hats) (pc := 53) (a := 1) (b := 164) (dk_at bnames05cX9_hats_48 5) rfl
theorem dX9_hats_56 : decode cX9_hats 56 = .ok (.lstore 5, 2) := dk_55 (c := cX9_hats) (pc := 56) (a := 5) (dk_at bnames05cX9_hats_48 8) rfl
theorem dX9_hats_58 : decode cX9_hats 58 = .ok (.iload 4, 2) := dk_21 (c := cX9_hats) (pc := 58) (a := 4) (dk_at bnames05cX9_hats_48 10) rfl
theorem dX9_hats_60 : decode cX9_hats 60 = .ok (.iconst 1, 1) := dk_4 (c := cX9_hats) (pc := 60) (dk_at bnames05cX9_hats_48 12)
theorem dX9_hats_61 : decode cX9_hats 61 = .ok (.if_icmp .ne 14, 3) := dk_160 (c := cX9_hats) (pc := 61) (a := 0) (b := 14) (dk_at bnames05cX9_hats_48 13) (by decide)
theorem dX9_hats_64 : decode cX9_hats 64 = .ok (.aload_n 0, 1) := dk_42 (c := cX9_hats) (pc := 64) (dk_at bnames05cX9_hats_48 16)
theorem dX9_hats_65 : decode cX9_hats 65 = .ok (.getfield 402, 3) := dk_180 (c := cX9_hats) (pc := 65) (a := 1) (b := 146) (dk_at bnames05cX9_hats_48 17) rfl
theorem dX9_hats_68 : decode cX9_hats 68 = .ok (.ifCond .ne 7, 3) := dk_154 (c := cX9_hats) (pc := 68) (a := 0) (b := 7) (dk_at bnames05cX9_hats_48 20) (by decide)
theorem dX9_hats_71 : decode cX9_hats 71 = .ok (.ldc_w 369, 3) := dk_19 (c := cX9_hats) (pc := 71) (a := 1) (b := 113) (dk_at bnames05cX9_hats_48 23) rfl
theorem dX9_hats_74 : decode cX9_hats 74 = .ok (.ireturn, 1) := dk_172 (c := cX9_hats) (pc := 74) (dk_at bnames05cX9_hats_48 26)
theorem dX9_hats_75 : decode cX9_hats 75 = .ok (.aload_n 0, 1) := dk_42 (c := cX9_hats) (pc := 75) (dk_at bnames05cX9_hats_48 27)
theorem dX9_hats_76 : decode cX9_hats 76 = .ok (.iload_n 1, 1) := dk_27 (c := cX9_hats) (pc := 76) (dk_at bnames05cX9_hats_48 28)
theorem dX9_hats_77 : decode cX9_hats 77 = .ok (.i2l, 1) := dk_133 (c := cX9_hats) (pc := 77) (dk_at bnames05cX9_hats_48 29)
theorem dX9_hats_78 : decode cX9_hats 78 = .ok (.putfield 328, 3) := dk_181 (c := cX9_hats) (pc := 78) (a := 1) (b := 72) (dk_at bnames05cX9_hats_48 30) rfl
theorem dX9_hats_81 : decode cX9_hats 81 = .ok (.iconst 0, 1) := dk_3 (c := cX9_hats) (pc := 81) (dk_at bnames05cX9_hats_48 33)
theorem dX9_hats_82 : decode cX9_hats 82 = .ok (.istore 7, 2) := dk_54 (c := cX9_hats) (pc := 82) (a := 7) (dk_at bnames05cX9_hats_48 34) rfl
theorem dX9_hats_84 : decode cX9_hats 84 = .ok (.iconst 0, 1) := dk_3 (c := cX9_hats) (pc := 84) (dk_at bnames05cX9_hats_48 36)
theorem dX9_hats_85 : decode cX9_hats 85 = .ok (.istore 8, 2) := dk_54 (c := cX9_hats) (pc := 85) (a := 8) (dk_at bnames05cX9_hats_48 37) rfl
theorem dX9_hats_87 : decode cX9_hats 87 = .ok (.iload 8, 2) := dk_21 (c := cX9_hats) (pc := 87) (a := 8) (dk_at bnames05cX9_hats_48 39) rfl
theorem dX9_hats_89 : decode cX9_hats 89 = .ok (.iload_n 2, 1) := dk_28 (c := cX9_hats) (pc := 89) (dk_at bnames05cX9_hats_48 41)
theorem dX9_hats_90 : decode cX9_hats 90 = .ok (.if_icmp .ge 142, 3) := dk_162 (c := cX9_hats) (pc := 90) (a := 0) (b := 142) (dk_at bnames05cX9_hats_48 42) (by decide)
theorem dX9_hats_93 : decode cX9_hats 93 = .ok (.iconst 0, 1) := dk_3 (c := cX9_hats) (pc := 93) (dk_at bnames05cX9_hats_48 45)
theorem dX9_hats_94 : decode cX9_hats 94 = .ok (.istore 9, 2) := dk_54 (c := cX9_hats) (pc := 94) (a := 9) (dk_at bnames05cX9_hats_48 46) rfl
theorem bnames05cX9_hats_96 : ((dk_l cX9_hats).drop 96).take 52 = [21, 9, 42, 180, 0, 89, 3, 46, 162, 0, 30, 42, 180, 0, 110, 21, 9, 42, 5, 182, 1, 81, 4, 160, 0, 7, 4, 167, 0, 4, 3, 84, 132, 9, 1, 167, 255, 221, 42, 42, 180, 0, 89, 3, 46, 181, 1, 119, 42, 182, 1, 177] := by decide +kernel
theorem dX9_hats_96 : decode cX9_hats 96 = .ok (.iload 9, 2) := dk_21 (c := cX9_hats) (pc := 96) (a := 9) (dk_at bnames05cX9_hats_96 0) rfl
theorem dX9_hats_98 : decode cX9_hats 98 = .ok (.aload_n 0, 1) := dk_42 (c := cX9_hats) (pc := 98) (dk_at bnames05cX9_hats_96 2)
theorem dX9_hats_99 : decode cX9_hats 99 = .ok (.getfield 89, 3) := dk_180 (c := cX9_hats) (pc := 99) (a := 0) (b := 89) (dk_at bnames05cX9_hats_96 3) rfl
theorem dX9_hats_102 : decode cX9_hats 102 = .ok (.iconst 0, 1) := dk_3 (c := cX9_hats) (pc := 102) (dk_at bnames05cX9_hats_96 6)
theorem dX9_hats_103 : decode cX9_hats 103 = .ok (.iaload, 1) := dk_46 (c := cX9_hats) (pc := 103) (dk_at bnames05cX9_hats_96 7)
theorem dX9_hats_104 : decode cX9_hats 104 = .ok (.if_icmp .ge 30, 3) := dk_162 (c := cX9_hats) (pc := 104) (a := 0) (b := 30) (dk_at bnames05cX9_hats_96 8) (by decide)
theorem dX9_hats_107 : decode cX9_hats 107 = .ok (.aload_n 0, 1) := dk_42 (c := cX9_hats) (pc := 107) (dk_at bnames05cX9_hats_96 11)
theorem dX9_hats_108 : decode cX9_hats 108 = .ok (.getfield 110, 3) := dk_180 (c := cX9_hats) (pc := 108) (a := 0) (b := 110) (dk_at bnames05cX9_hats_96 12) rfl
theorem dX9_hats_111 : decode cX9_hats 111 = .ok (.iload 9, 2) := dk_21 (c := cX9_hats) (pc := 111) (a := 9) (dk_at bnames05cX9_hats_96 15) rfl
theorem dX9_hats_113 : decode cX9_hats 113 = .ok (.aload_n 0, 1) := dk_42 (c := cX9_hats) (pc := 113) (dk_at bnames05cX9_hats_96 17)
theorem dX9_hats_114 : decode cX9_hats 114 = .ok (.iconst 2, 1) := dk_5 (c := cX9_hats) (pc := 114) (dk_at bnames05cX9_hats_96 18)
theorem dX9_hats_115 : decode cX9_hats 115 = .ok (.invokevirtual 337, 3) := dk_182 (c := cX9_hats) (pc := 115) (a := 1) (b := 81) (dk_at bnames05cX9_hats_96 19) rfl
theorem dX9_hats_118 : decode cX9_hats 118 = .ok (.iconst 1, 1) := dk_4 (c := cX9_hats) (pc := 118) (dk_at bnames05cX9_hats_96 22)
theorem dX9_hats_119 : decode cX9_hats 119 = .ok (.if_icmp .ne 7, 3) := dk_160 (c := cX9_hats) (pc := 119) (a := 0) (b := 7) (dk_at bnames05cX9_hats_96 23) (by decide)
theorem dX9_hats_122 : decode cX9_hats 122 = .ok (.iconst 1, 1) := dk_4 (c := cX9_hats) (pc := 122) (dk_at bnames05cX9_hats_96 26)
theorem dX9_hats_123 : decode cX9_hats 123 = .ok (.goto 4, 3) := dk_167 (c := cX9_hats) (pc := 123) (a := 0) (b := 4) (dk_at bnames05cX9_hats_96 27) (by decide)
theorem dX9_hats_126 : decode cX9_hats 126 = .ok (.iconst 0, 1) := dk_3 (c := cX9_hats) (pc := 126) (dk_at bnames05cX9_hats_96 30)
theorem dX9_hats_127 : decode cX9_hats 127 = .ok (.bastore, 1) := dk_84 (c := cX9_hats) (pc := 127) (dk_at bnames05cX9_hats_96 31)
theorem dX9_hats_128 : decode cX9_hats 128 = .ok (.iinc 9 1, 3) := dk_132 (c := cX9_hats) (pc := 128) (a := 9) (b := 1) (dk_at bnames05cX9_hats_96 32) rfl (by decide)
theorem dX9_hats_131 : decode cX9_hats 131 = .ok (.goto (-35), 3) := dk_167 (c := cX9_hats) (pc := 131) (a := 255) (b := 221) (dk_at bnames05cX9_hats_96 35) (by decide)
theorem dX9_hats_134 : decode cX9_hats 134 = .ok (.aload_n 0, 1) := dk_42 (c := cX9_hats) (pc := 134) (dk_at bnames05cX9_hats_96 38)
theorem dX9_hats_135 : decode cX9_hats 135 = .ok (.aload_n 0, 1) := dk_42 (c := cX9_hats) (pc := 135) (dk_at bnames05cX9_hats_96 39)
theorem dX9_hats_136 : decode cX9_hats 136 = .ok (.getfield 89, 3) := dk_180 (c := cX9_hats) (pc := 136) (a := 0) (b := 89) (dk_at bnames05cX9_hats_96 40) rfl
theorem dX9_hats_139 : decode cX9_hats 139 = .ok (.iconst 0, 1) := dk_3 (c := cX9_hats) (pc := 139) (dk_at bnames05cX9_hats_96 43)
theorem dX9_hats_140 : decode cX9_hats 140 = .ok (.iaload, 1) := dk_46 (c := cX9_hats) (pc := 140) (dk_at bnames05cX9_hats_96 44)
theorem dX9_hats_141 : decode cX9_hats 141 = .ok (.putfield 375, 3) := dk_181 (c := cX9_hats) (pc := 141) (a := 1) (b := 119) (dk_at bnames05cX9_hats_96 45) rfl
theorem bnames05cX9_hats_144 : ((dk_l cX9_hats).drop 144).take 52 = [42, 182, 1, 177, 55, 9, 21, 4, 5, 160, 0, 34, 21, 7, 42, 29, 182, 1, 235, 153, 0, 17, 42, 180, 0, 122, 16, 99, 51, 154, 0, 7, 4, 167, 0, 4, 3, 96, 54, 7, 167, 0, 42, 21, 7, 42, 180, 1, 146, 153, 0, 29] := by decide +kernel
theorem dX9_hats_144 : decode cX9_hats 144 = .ok (.aload_n 0, 1) := dk_42 (c := cX9_hats) (pc := 144) (dk_at bnames05cX9_hats_144 0)
theorem dX9_hats_145 : decode cX9_hats 145 = .ok (.invokevirtual 433, 3) := dk_182 (c := cX9_hats) (pc := 145) (a := 1) (b := 177) (dk_at bnames05cX9_hats_144 1) rfl
theorem dX9_hats_148 : decode cX9_hats 148 = .ok (.lstore 9, 2) := dk_55 (c := cX9_hats) (pc := 148) (a := 9) (dk_at bnames05cX9_hats_144 4) rfl
theorem dX9_hats_150 : decode cX9_hats 150 = .ok (.iload 4, 2) := dk_21 (c := cX9_hats) (pc := 150) (a := 4) (dk_at bnames05cX9_hats_144 6) rfl
theorem dX9_hats_152 : decode cX9_hats 152 = .ok (.iconst 2, 1) := dk_5 (c := cX9_hats) (pc := 152) (dk_at bnames05cX9_hats_144 8)
theorem dX9_hats_153 : decode cX9_hats 153 = .ok (.if_icmp .ne 34, 3) := dk_160 (c := cX9_hats) (pc := 153) (a := 0) (b := 34) (dk_at bnames05cX9_hats_144 9) (by decide)
theorem dX9_hats_156 : decode cX9_hats 156 = .ok (.iload 7, 2) := dk_21 (c := cX9_hats) (pc := 156) (a := 7) (dk_at bnames05cX9_hats_144 12) rfl
theorem dX9_hats_158 : decode cX9_hats 158 = .ok (.aload_n 0, 1) := dk_42 (c := cX9_hats) (pc := 158) (dk_at bnames05cX9_hats_144 14)
theorem dX9_hats_159 : decode cX9_hats 159 = .ok (.iload_n 3, 1) := dk_29 (c := cX9_hats) (pc := 159) (dk_at bnames05cX9_hats_144 15)
theorem dX9_hats_160 : decode cX9_hats 160 = .ok (.invokevirtual 491, 3) := dk_182 (c := cX9_hats) (pc := 160) (a := 1) (b := 235) (dk_at bnames05cX9_hats_144 16) rfl
theorem dX9_hats_163 : decode cX9_hats 163 = .ok (.ifCond .eq 17, 3) := dk_153 (c := cX9_hats) (pc := 163) (a := 0) (b := 17) (dk_at bnames05cX9_hats_144 19) (by decide)
theorem dX9_hats_166 : decode cX9_hats 166 = .ok (.aload_n 0, 1) := dk_42 (c := cX9_hats) (pc := 166) (dk_at bnames05cX9_hats_144 22)
theorem dX9_hats_167 : decode cX9_hats 167 = .ok (.getfield 122, 3) := dk_180 (c := cX9_hats) (pc := 167) (a := 0) (b := 122) (dk_at bnames05cX9_hats_144 23) rfl
theorem dX9_hats_170 : decode cX9_hats 170 = .ok (.bipush 99, 2) := dk_16 (c := cX9_hats) (pc := 170) (a := 99) (dk_at bnames05cX9_hats_144 26) (by decide)
theorem dX9_hats_172 : decode cX9_hats 172 = .ok (.baload, 1) := dk_51 (c := cX9_hats) (pc := 172) (dk_at bnames05cX9_hats_144 28)
theorem dX9_hats_173 : decode cX9_hats 173 = .ok (.ifCond .ne 7, 3) := dk_154 (c := cX9_hats) (pc := 173) (a := 0) (b := 7) (dk_at bnames05cX9_hats_144 29) (by decide)
theorem dX9_hats_176 : decode cX9_hats 176 = .ok (.iconst 1, 1) := dk_4 (c := cX9_hats) (pc := 176) (dk_at bnames05cX9_hats_144 32)
theorem dX9_hats_177 : decode cX9_hats 177 = .ok (.goto 4, 3) := dk_167 (c := cX9_hats) (pc := 177) (a := 0) (b := 4) (dk_at bnames05cX9_hats_144 33) (by decide)
theorem dX9_hats_180 : decode cX9_hats 180 = .ok (.iconst 0, 1) := dk_3 (c := cX9_hats) (pc := 180) (dk_at bnames05cX9_hats_144 36)
theorem dX9_hats_181 : decode cX9_hats 181 = .ok (.iadd, 1) := dk_96 (c := cX9_hats) (pc := 181) (dk_at bnames05cX9_hats_144 37)
theorem dX9_hats_182 : decode cX9_hats 182 = .ok (.istore 7, 2) := dk_54 (c := cX9_hats) (pc := 182) (a := 7) (dk_at bnames05cX9_hats_144 38) rfl
theorem dX9_hats_184 : decode cX9_hats 184 = .ok (.goto 42, 3) := dk_167 (c := cX9_hats) (pc := 184) (a := 0) (b := 42) (dk_at bnames05cX9_hats_144 40) (by decide)
theorem dX9_hats_187 : decode cX9_hats 187 = .ok (.iload 7, 2) := dk_21 (c := cX9_hats) (pc := 187) (a := 7) (dk_at bnames05cX9_hats_144 43) rfl
theorem dX9_hats_189 : decode cX9_hats 189 = .ok (.aload_n 0, 1) := dk_42 (c := cX9_hats) (pc := 189) (dk_at bnames05cX9_hats_144 45)
theorem dX9_hats_190 : decode cX9_hats 190 = .ok (.getfield 402, 3) := dk_180 (c := cX9_hats) (pc := 190) (a := 1) (b := 146) (dk_at bnames05cX9_hats_144 46) rfl
theorem bnames05cX9_hats_192 : ((dk_l cX9_hats).drop 192).take 43 = [146, 153, 0, 29, 21, 4, 153, 0, 20, 22, 9, 22, 5, 101, 20, 1, 240, 20, 1, 150, 184, 0, 130, 153, 0, 7, 4, 167, 0, 4, 3, 96, 54, 7, 132, 8, 1, 167, 255, 114, 21, 7, 172] := by decide +kernel
theorem dX9_hats_193 : decode cX9_hats 193 = .ok (.ifCond .eq 29, 3) := dk_153 (c := cX9_hats) (pc := 193) (a := 0) (b := 29) (dk_at bnames05cX9_hats_192 1) (by decide)
theorem dX9_hats_196 : decode cX9_hats 196 = .ok (.iload 4, 2) := dk_21 (c := cX9_hats) (pc := 196) (a := 4) (dk_at bnames05cX9_hats_192 4) rfl
theorem dX9_hats_198 : decode cX9_hats 198 = .ok (.ifCond .eq 20, 3) := dk_153 (c := cX9_hats) (pc := 198) (a := 0) (b := 20) (dk_at bnames05cX9_hats_192 6) (by decide)
theorem dX9_hats_201 : decode cX9_hats 201 = .ok (.lload 9, 2) := dk_22 (c := cX9_hats) (pc := 201) (a := 9) (dk_at bnames05cX9_hats_192 9) rfl
theorem dX9_hats_203 : decode cX9_hats 203 = .ok (.lload 5, 2) := dk_22 (c := cX9_hats) (pc := 203) (a := 5) (dk_at bnames05cX9_hats_192 11) rfl
theorem dX9_hats_205 : decode cX9_hats 205 = .ok (.lsub, 1) := dk_101 (c := cX9_hats) (pc := 205) (dk_at bnames05cX9_hats_192 13)
theorem dX9_hats_206 : decode cX9_hats 206 = .ok (.ldc2_w 496, 3) := dk_20 (c := cX9_hats) (pc := 206) (a := 1) (b := 240) (dk_at bnames05cX9_hats_192 14) rfl
theorem dX9_hats_209 : decode cX9_hats 209 = .ok (.ldc2_w 406, 3) := dk_20 (c := cX9_hats) (pc := 209) (a := 1) (b := 150) (dk_at bnames05cX9_hats_192 17) rfl
theorem dX9_hats_212 : decode cX9_hats 212 = .ok (.invokestatic 130, 3) := dk_184 (c := cX9_hats) (pc := 212) (a := 0) (b := 130) (dk_at bnames05cX9_hats_192 20) rfl
theorem dX9_hats_215 : decode cX9_hats 215 = .ok (.ifCond .eq 7, 3) := dk_153 (c := cX9_hats) (pc := 215) (a := 0) (b := 7) (dk_at bnames05cX9_hats_192 23) (by decide)
theorem dX9_hats_218 : decode cX9_hats 218 = .ok (.iconst 1, 1) := dk_4 (c := cX9_hats) (pc := 218) (dk_at bnames05cX9_hats_192 26)
theorem dX9_hats_219 : decode cX9_hats 219 = .ok (.goto 4, 3) := dk_167 (c := cX9_hats) (pc := 219) (a := 0) (b := 4) (dk_at bnames05cX9_hats_192 27) (by decide)
theorem dX9_hats_222 : decode cX9_hats 222 = .ok (.iconst 0, 1) := dk_3 (c := cX9_hats) (pc := 222) (dk_at bnames05cX9_hats_192 30)
theorem dX9_hats_223 : decode cX9_hats 223 = .ok (.iadd, 1) := dk_96 (c := cX9_hats) (pc := 223) (dk_at bnames05cX9_hats_192 31)
theorem dX9_hats_224 : decode cX9_hats 224 = .ok (.istore 7, 2) := dk_54 (c := cX9_hats) (pc := 224) (a := 7) (dk_at bnames05cX9_hats_192 32) rfl
theorem dX9_hats_226 : decode cX9_hats 226 = .ok (.iinc 8 1, 3) := dk_132 (c := cX9_hats) (pc := 226) (a := 8) (b := 1) (dk_at bnames05cX9_hats_192 34) rfl (by decide)
theorem dX9_hats_229 : decode cX9_hats 229 = .ok (.goto (-142), 3) := dk_167 (c := cX9_hats) (pc := 229) (a := 255) (b := 114) (dk_at bnames05cX9_hats_192 37) (by decide)
theorem dX9_hats_232 : decode cX9_hats 232 = .ok (.iload 7, 2) := dk_21 (c := cX9_hats) (pc := 232) (a := 7) (dk_at bnames05cX9_hats_192 40) rfl
theorem dX9_hats_234 : decode cX9_hats 234 = .ok (.ireturn, 1) := dk_172 (c := cX9_hats) (pc := 234) (dk_at bnames05cX9_hats_192 42)
set_option maxRecDepth 20000 in
theorem ggX9_whom_X9_in : GoodIn wsX9_whom wsX9_in := goodIn_r _ [6] rfl (by decide +kernel)
set_option maxRecDepth 20000 in
theorem gX9_whom_X9_in : GoodIn wsX9_whom (va_wsS RX9 130 yX9_in wsX9_in) := goodIn_app (goodIn_r _ [3, 4, 5] rfl (by decide +kernel)) ggX9_whom_X9_in
set_option maxRecDepth 20000 in
theorem ggX9_whom_X9_isHeld : GoodIn wsX9_whom wsX9_isHeld := goodIn_r _ [10, 11, 12, 13, 14, 15, 16, 5, 17, 18, 19, 20, 21, 2, 3, 4, 6, 22, 23, 24, 25, 26, 27, 28, 29, 30, 31, 32, 33, 34, 35, 36, 57, 58, 59, 60, 61, 62, 63, 64, 65, 66, 67, 68, 69, 70, 71, 72, 73, 74, 75, 76, 77, 78, 79, 80, 81, 82, 83, 84, 85, 86, 87, 88, 89, 90, 91, 92, 93, 94, 95, 96, 97, 98, 99, 100, 101, 102, 103, 104, 105, 106, 107, 108, 109, 110, 111, 112, 113, 114, 115, 116] rfl (by decide +kernel)
set_option maxRecDepth 20000 in
theorem gX9_whom_X9_isHeld : GoodIn wsX9_whom (wsV RX9 370 RX9 yX9_isHeld wsX9_isHeld) := goodIn_app (goodIn_r _ [7, 8, 9, 5] rfl (by decide +kernel)) ggX9_whom_X9_isHeld
set_option maxRecDepth 20000 in
theorem ggX9_whom_X9_worthOf : GoodIn wsX9_whom wsX9_worthOf := goodIn_r _ [40, 41, 42, 12, 11, 43, 44, 45, 5, 46, 47, 48, 49, 50, 51, 52, 32, 33, 34, 35, 36, 27, 28, 29, 30, 31, 53, 54, 55, 56, 57, 58, 59, 60, 61, 62, 63, 64, 65, 66, 67, 68, 69, 70, 71, 72, 73, 74, 75, 76, 77, 78, 79, 80, 81, 82, 83, 84, 85, 86, 87, 88, 89, 90, 91, 92, 93, 94, 95, 96, 97, 98, 99, 100, 101, 102, 103, 104, 105, 106, 107, 108, 109, 110, 111, 112, 113, 114, 115, 116] rfl (by decide +kernel)
set_option maxRecDepth 20000 in
theorem gX9_whom_X9_worthOf : GoodIn wsX9_whom (wsV RX9 366 RX9 yX9_worthOf wsX9_worthOf) := goodIn_app (goodIn_r _ [37, 38, 39, 5] rfl (by decide +kernel)) ggX9_whom_X9_worthOf
theorem bnames05cX9_whom_0 : ((dk_l cX9_whom).drop 0).take 52 = [42, 3, 181, 0, 125, 27, 133, 9, 10, 184, 0, 130, 154, 0, 5, 2, 172, 3, 61, 3, 62, 29, 42, 180, 0, 89, 3, 46, 162, 0, 37, 28, 42, 29, 182, 1, 114, 153, 0, 19, 27, 153, 0, 11, 42, 29, 182, 1, 110, 153, 0, 7] := by decide +kernel
theorem dX9_whom_0 : decode cX9_whom 0 = .ok (.aload_n 0, 1) := dk_42 (c := cX9_whom) (pc := 0) (dk_at bnames05cX9_whom_0 0)
theorem dX9_whom_1 : decode cX9_whom 1 = .ok (.iconst 0, 1) := dk_3 (c := cX9_whom) (pc := 1) (dk_at bnames05cX9_whom_0 1)
theorem dX9_whom_2 : decode cX9_whom 2 = .ok (.putfield 125, 3) := dk_181 (c := cX9_whom) (pc := 2) (a := 0) (b := 125) (dk_at bnames05cX9_whom_0 2) rfl
theorem dX9_whom_5 : decode cX9_whom 5 = .ok (.iload_n 1, 1) := dk_27 (c := cX9_whom) (pc := 5) (dk_at bnames05cX9_whom_0 5)
theorem dX9_whom_6 : decode cX9_whom 6 = .ok (.i2l, 1) := dk_133 (c := cX9_whom) (pc := 6) (dk_at bnames05cX9_whom_0 6)
theorem dX9_whom_7 : decode cX9_whom 7 = .ok (.lconst 0, 1) := dk_9 (c := cX9_whom) (pc := 7) (dk_at bnames05cX9_whom_0 7)
theorem dX9_whom_8 : decode cX9_whom 8 = .ok (.lconst 1, 1) := dk_10 (c := cX9_whom) (pc := 8) (dk_at bnames05cX9_whom_0 8)
theorem dX9_whom_9 : decode cX9_whom 9 = .ok (.invokestatic 130, 3) := dk_184 (c := cX9_whom) (pc := 9) (a := 0) (b := 130) (dk_at bnames05cX9_whom_0 9) rfl
theorem dX9_whom_12 : decode cX9_whom 12 = .ok (.ifCond .ne 5, 3) := dk_154 (c := cX9_whom) (pc := 12) (a := 0) (b := 5) (dk_at bnames05cX9_whom_0 12) (by decide)
theorem dX9_whom_15 : decode cX9_whom 15 = .ok (.iconst (-1), 1) := dk_2 (c := cX9_whom) (pc := 15) (dk_at bnames05cX9_whom_0 15)
theorem dX9_whom_16 : decode cX9_whom 16 = .ok (.ireturn, 1) := dk_172 (c := cX9_whom) (pc := 16) (dk_at bnames05cX9_whom_0 16)
theorem dX9_whom_17 : decode cX9_whom 17 = .ok (.iconst 0, 1) := dk_3 (c := cX9_whom) (pc := 17) (dk_at bnames05cX9_whom_0 17)
theorem dX9_whom_18 : decode cX9_whom 18 = .ok (.istore_n 2, 1) := dk_61 (c := cX9_whom) (pc := 18) (dk_at bnames05cX9_whom_0 18)
theorem dX9_whom_19 : decode cX9_whom 19 = .ok (.iconst 0, 1) := dk_3 (c := cX9_whom) (pc := 19) (dk_at bnames05cX9_whom_0 19)
theorem dX9_whom_20 : decode cX9_whom 20 = .ok (.istore_n 3, 1) := dk_62 (c := cX9_whom) (pc := 20) (dk_at bnames05cX9_whom_0 20)
theorem dX9_whom_21 : decode cX9_whom 21 = .ok (.iload_n 3, 1) := dk_29 (c := cX9_whom) (pc := 21) (dk_at bnames05cX9_whom_0 21)
theorem dX9_whom_22 : decode cX9_whom 22 = .ok (.aload_n 0, 1) := dk_42 (c := cX9_whom) (pc := 22) (dk_at bnames05cX9_whom_0 22)
theorem dX9_whom_23 : decode cX9_whom 23 = .ok (.getfield 89, 3) := dk_180 (c := cX9_whom) (pc := 23) (a := 0) (b := 89) (dk_at bnames05cX9_whom_0 23) rfl
theorem dX9_whom_26 : decode cX9_whom 26 = .ok (.iconst 0, 1) := dk_3 (c := cX9_whom) (pc := 26) (dk_at bnames05cX9_whom_0 26)
theorem dX9_whom_27 : decode cX9_whom 27 = .ok (.iaload, 1) := dk_46 (c := cX9_whom) (pc := 27) (dk_at bnames05cX9_whom_0 27)
theorem dX9_whom_28 : decode cX9_whom 28 = .ok (.if_icmp .ge 37, 3) := dk_162 (c := cX9_whom) (pc := 28) (a := 0) (b := 37) (dk_at bnames05cX9_whom_0 28) (by decide)
theorem dX9_whom_31 : decode cX9_whom 31 = .ok (.iload_n 2, 1) := dk_28 (c := cX9_whom) (pc := 31) (dk_at bnames05cX9_whom_0 31)
theorem dX9_whom_32 : decode cX9_whom 32 = .ok (.aload_n 0, 1) := dk_42 (c := cX9_whom) (pc := 32) (dk_at bnames05cX9_whom_0 32)
theorem dX9_whom_33 : decode cX9_whom 33 = .ok (.iload_n 3, 1) := dk_29 (c := cX9_whom) (pc := 33) (dk_at bnames05cX9_whom_0 33)
theorem dX9_whom_34 : decode cX9_whom 34 = .ok (.invokevirtual 370, 3) := dk_182 (c := cX9_whom) (pc := 34) (a := 1) (b := 114) (dk_at bnames05cX9_whom_0 34) rfl
theorem dX9_whom_37 : decode cX9_whom 37 = .ok (.ifCond .eq 19, 3) := dk_153 (c := cX9_whom) (pc := 37) (a := 0) (b := 19) (dk_at bnames05cX9_whom_0 37) (by decide)
theorem dX9_whom_40 : decode cX9_whom 40 = .ok (.iload_n 1, 1) := dk_27 (c := cX9_whom) (pc := 40) (dk_at bnames05cX9_whom_0 40)
theorem dX9_whom_41 : decode cX9_whom 41 = .ok (.ifCond .eq 11, 3) := dk_153 (c := cX9_whom) (pc := 41) (a := 0) (b := 11) (dk_at bnames05cX9_whom_0 41) (by decide)
theorem dX9_whom_44 : decode cX9_whom 44 = .ok (.aload_n 0, 1) := dk_42 (c := cX9_whom) (pc := 44) (dk_at bnames05cX9_whom_0 44)
theorem dX9_whom_45 : decode cX9_whom 45 = .ok (.iload_n 3, 1) := dk_29 (c := cX9_whom) (pc := 45) (dk_at bnames05cX9_whom_0 45)
theorem dX9_whom_46 : decode cX9_whom 46 = .ok (.invokevirtual 366, 3) := dk_182 (c := cX9_whom) (pc := 46) (a := 1) (b := 110) (dk_at bnames05cX9_whom_0 46) rfl
theorem bnames05cX9_whom_48 : ((dk_l cX9_whom).drop 48).take 19 = [110, 153, 0, 7, 4, 167, 0, 4, 3, 96, 61, 132, 3, 1, 167, 255, 215, 28, 172] := by decide +kernel
theorem dX9_whom_49 : decode cX9_whom 49 = .ok (.ifCond .eq 7, 3) := dk_153 (c := cX9_whom) (pc := 49) (a := 0) (b := 7) (dk_at bnames05cX9_whom_48 1) (by decide)
theorem dX9_whom_52 : decode cX9_whom 52 = .ok (.iconst 1, 1) := dk_4 (c := cX9_whom) (pc := 52) (dk_at bnames05cX9_whom_48 4)
theorem dX9_whom_53 : decode cX9_whom 53 = .ok (.goto 4, 3) := dk_167 (c := cX9_whom) (pc := 53) (a := 0) (b := 4) (dk_at bnames05cX9_whom_48 5) (by decide)
theorem dX9_whom_56 : decode cX9_whom 56 = .ok (.iconst 0, 1) := dk_3 (c := cX9_whom) (pc := 56) (dk_at bnames05cX9_whom_48 8)
theorem dX9_whom_57 : decode cX9_whom 57 = .ok (.iadd, 1) := dk_96 (c := cX9_whom) (pc := 57) (dk_at bnames05cX9_whom_48 9)
theorem dX9_whom_58 : decode cX9_whom 58 = .ok (.istore_n 2, 1) := dk_61 (c := cX9_whom) (pc := 58) (dk_at bnames05cX9_whom_48 10)
theorem dX9_whom_59 : decode cX9_whom 59 = .ok (.iinc 3 1, 3) := dk_132 (c := cX9_whom) (pc := 59) (a := 3) (b := 1) (dk_at bnames05cX9_whom_48 11) rfl (by decide)
theorem dX9_whom_62 : decode cX9_whom 62 = .ok (.goto (-41), 3) := dk_167 (c := cX9_whom) (pc := 62) (a := 255) (b := 215) (dk_at bnames05cX9_whom_48 14) (by decide)
theorem dX9_whom_65 : decode cX9_whom 65 = .ok (.iload_n 2, 1) := dk_28 (c := cX9_whom) (pc := 65) (dk_at bnames05cX9_whom_48 17)
theorem dX9_whom_66 : decode cX9_whom 66 = .ok (.ireturn, 1) := dk_172 (c := cX9_whom) (pc := 66) (dk_at bnames05cX9_whom_48 18)
set_option maxRecDepth 20000 in
theorem ggX9_truthOf_X9_isHeld : GoodIn wsX9_truthOf wsX9_isHeld := goodIn_r _ [6, 7, 8, 9, 10, 11, 12, 5, 13, 14, 15, 16, 17, 1, 18, 19, 20, 21, 22, 23, 24, 25, 26, 27, 28, 29, 30, 31, 32, 33, 34, 35, 67, 68, 69, 70, 71, 72, 73, 74, 75, 76, 77, 78, 79, 80, 81, 82, 83, 84, 85, 86, 87, 88, 89, 90, 91, 92, 93, 94, 95, 96, 97, 98, 99, 100, 101, 102, 103, 104, 105, 106, 107, 108, 109, 110, 111, 112, 113, 114, 115, 116, 117, 118, 119, 120, 121, 122, 123, 124, 125, 126] rfl (by decide +kernel)
set_option maxRecDepth 20000 in
theorem gX9_truthOf_X9_isHeld : GoodIn wsX9_truthOf (wsV RX9 370 RX9 yX9_isHeld wsX9_isHeld) := goodIn_app (goodIn_r _ [2, 3, 4, 5] rfl (by decide +kernel)) ggX9_truthOf_X9_isHeld
set_option maxRecDepth 20000 in
theorem ggX9_truthOf_X9_isThere : GoodIn wsX9_truthOf wsX9_isThere := goodIn_r _ [13, 7, 14, 15, 16, 5, 17, 1, 18, 19, 20, 21, 22, 23, 24, 25, 67, 68, 69, 70, 71, 72, 73, 74, 75, 76, 77, 78, 79, 80, 81, 82, 83, 84, 85, 86, 87, 88, 89, 90, 91, 92, 93, 94, 95, 96, 97, 98, 99, 100, 101, 102, 103, 104, 105, 106, 107, 108, 109, 110, 111, 112, 113, 114, 115, 116, 117, 118, 119, 120, 121, 122, 123, 124, 125, 126] rfl (by decide +kernel)
set_option maxRecDepth 20000 in
theorem gX9_truthOf_X9_isThere : GoodIn wsX9_truthOf (wsV RX9 363 RX9 yX9_isThere wsX9_isThere) := goodIn_app (goodIn_r _ [10, 11, 12, 5] rfl (by decide +kernel)) ggX9_truthOf_X9_isThere
set_option maxRecDepth 20000 in
theorem ggX9_truthOf_X9_untold : GoodIn wsX9_truthOf wsX9_untold := goodIn_r _ [39, 40, 41, 67, 68, 69, 70, 71, 72, 73, 74, 75, 76, 77, 78, 79, 80, 81, 82, 83, 84, 85, 86, 87, 88, 89, 90, 91, 92, 93, 94, 95, 96, 97, 98, 99, 100, 101, 102, 103, 104, 105, 106, 107, 108, 109, 110, 111, 112, 113, 114, 115, 116, 117, 118, 119, 120, 121, 122, 123, 124, 125, 126] rfl (by decide +kernel)
set_option maxRecDepth 20000 in
theorem gX9_truthOf_X9_untold : GoodIn wsX9_truthOf (wsV RX9 427 RX9 yX9_untold wsX9_untold) := goodIn_app (goodIn_r _ [36, 37, 38, 5] rfl (by decide +kernel)) ggX9_truthOf_X9_untold
set_option maxRecDepth 20000 in
theorem ggX9_truthOf_X9_worthOf : GoodIn wsX9_truthOf wsX9_worthOf := goodIn_r _ [45, 46, 47, 8, 7, 48, 49, 50, 5, 51, 52, 53, 54, 55, 56, 57, 31, 32, 33, 34, 35, 26, 27, 28, 29, 30, 58, 59, 60, 61, 67, 68, 69, 70, 71, 72, 73, 74, 75, 76, 77, 78, 79, 80, 81, 82, 83, 84, 85, 86, 87, 88, 89, 90, 91, 92, 93, 94, 95, 96, 97, 98, 99, 100, 101, 102, 103, 104, 105, 106, 107, 108, 109, 110, 111, 112, 113, 114, 115, 116, 117, 118, 119, 120, 121, 122, 123, 124, 125, 126] rfl (by decide +kernel)
set_option maxRecDepth 20000 in
theorem gX9_truthOf_X9_worthOf : GoodIn wsX9_truthOf (wsV RX9 366 RX9 yX9_worthOf wsX9_worthOf) := goodIn_app (goodIn_r _ [42, 43, 44, 5] rfl (by decide +kernel)) ggX9_truthOf_X9_worthOf
set_option maxRecDepth 20000 in
theorem ggX9_truthOf_X9_ratio : GoodIn wsX9_truthOf wsX9_ratio := goodIn_r _ [65, 40, 66, 41, 67, 68, 69, 70, 71, 72, 73, 74, 75, 76, 77, 78, 79, 80, 81, 82, 83, 84, 85, 86, 87, 88, 89, 90, 91, 92, 93, 94, 95, 96, 97, 98, 99, 100, 101, 102, 103, 104, 105, 106, 107, 108, 109, 110, 111, 112, 113, 114, 115, 116, 117, 118, 119, 120, 121, 122, 123, 124, 125, 126] rfl (by decide +kernel)
set_option maxRecDepth 20000 in
theorem gX9_truthOf_X9_ratio : GoodIn wsX9_truthOf (wsV RX9 416 RX9 yX9_ratio wsX9_ratio) := goodIn_app (goodIn_r _ [62, 63, 64, 5] rfl (by decide +kernel)) ggX9_truthOf_X9_ratio
theorem bnames05cX9_truthOf_0 : ((dk_l cX9_truthOf).drop 0).take 52 = [9, 65, 9, 55, 4, 3, 54, 6, 21, 6, 42, 180, 0, 89, 3, 46, 162, 0, 55, 27, 153, 0, 15, 42, 21, 6, 182, 1, 114, 154, 0, 6, 167, 0, 33, 42, 21, 6, 182, 1, 107, 154, 0, 8, 42, 182, 1, 171, 173, 32, 42, 21] := by decide +kernel
theorem dX9_truthOf_0 : decode cX9_truthOf 0 = .ok (.lconst 0, 1) := dk_9 (c := cX9_truthOf) (pc := 0) (dk_at bnames05cX9_truthOf_0 0)
theorem dX9_truthOf_1 : decode cX9_truthOf 1 = .ok (.lstore_n 2, 1) := dk_65 (c := cX9_truthOf) (pc := 1) (dk_at bnames05cX9_truthOf_0 1)
theorem dX9_truthOf_2 : decode cX9_truthOf 2 = .ok (.lconst 0, 1) := dk_9 (c := cX9_truthOf) (pc := 2) (dk_at bnames05cX9_truthOf_0 2)
theorem dX9_truthOf_3 : decode cX9_truthOf 3 = .ok (.lstore 4, 2) := dk_55 (c := cX9_truthOf) (pc := 3) (a := 4) (dk_at bnames05cX9_truthOf_0 3) rfl
theorem dX9_truthOf_5 : decode cX9_truthOf 5 = .ok (.iconst 0, 1) := dk_3 (c := cX9_truthOf) (pc := 5) (dk_at bnames05cX9_truthOf_0 5)
theorem dX9_truthOf_6 : decode cX9_truthOf 6 = .ok (.istore 6, 2) := dk_54 (c := cX9_truthOf) (pc := 6) (a := 6) (dk_at bnames05cX9_truthOf_0 6) rfl
theorem dX9_truthOf_8 : decode cX9_truthOf 8 = .ok (.iload 6, 2) := dk_21 (c := cX9_truthOf) (pc := 8) (a := 6) (dk_at bnames05cX9_truthOf_0 8) rfl
theorem dX9_truthOf_10 : decode cX9_truthOf 10 = .ok (.aload_n 0, 1) := dk_42 (c := cX9_truthOf) (pc := 10) (dk_at bnames05cX9_truthOf_0 10)
theorem dX9_truthOf_11 : decode cX9_truthOf 11 = .ok (.getfield 89, 3) := dk_180 (c := cX9_truthOf) (pc := 11) (a := 0) (b := 89) (dk_at bnames05cX9_truthOf_0 11) rfl
theorem dX9_truthOf_14 : decode cX9_truthOf 14 = .ok (.iconst 0, 1) := dk_3 (c := cX9_truthOf) (pc := 14) (dk_at bnames05cX9_truthOf_0 14)
theorem dX9_truthOf_15 : decode cX9_truthOf 15 = .ok (.iaload, 1) := dk_46 (c := cX9_truthOf) (pc := 15) (dk_at bnames05cX9_truthOf_0 15)
theorem dX9_truthOf_16 : decode cX9_truthOf 16 = .ok (.if_icmp .ge 55, 3) := dk_162 (c := cX9_truthOf) (pc := 16) (a := 0) (b := 55) (dk_at bnames05cX9_truthOf_0 16) (by decide)
theorem dX9_truthOf_19 : decode cX9_truthOf 19 = .ok (.iload_n 1, 1) := dk_27 (c := cX9_truthOf) (pc := 19) (dk_at bnames05cX9_truthOf_0 19)
theorem dX9_truthOf_20 : decode cX9_truthOf 20 = .ok (.ifCond .eq 15, 3) := dk_153 (c := cX9_truthOf) (pc := 20) (a := 0) (b := 15) (dk_at bnames05cX9_truthOf_0 20) (by decide)
theorem dX9_truthOf_23 : decode cX9_truthOf 23 = .ok (.aload_n 0, 1) := dk_42 (c := cX9_truthOf) (pc := 23) (dk_at bnames05cX9_truthOf_0 23)
theorem dX9_truthOf_24 : decode cX9_truthOf 24 = .ok (.iload 6, 2) := dk_21 (c := cX9_truthOf) (pc := 24) (a := 6) (dk_at bnames05cX9_truthOf_0 24) rfl
theorem dX9_truthOf_26 : decode cX9_truthOf 26 = .ok (.invokevirtual 370, 3) := dk_182 (c := cX9_truthOf) (pc := 26) (a := 1) (b := 114) (dk_at bnames05cX9_truthOf_0 26) rfl
theorem dX9_truthOf_29 : decode cX9_truthOf 29 = .ok (.ifCond .ne 6, 3) := dk_154 (c := cX9_truthOf) (pc := 29) (a := 0) (b := 6) (dk_at bnames05cX9_truthOf_0 29) (by decide)
theorem dX9_truthOf_32 : decode cX9_truthOf 32 = .ok (.goto 33, 3) := dk_167 (c := cX9_truthOf) (pc := 32) (a := 0) (b := 33) (dk_at bnames05cX9_truthOf_0 32) (by decide)
theorem dX9_truthOf_35 : decode cX9_truthOf 35 = .ok (.aload_n 0, 1) := dk_42 (c := cX9_truthOf) (pc := 35) (dk_at bnames05cX9_truthOf_0 35)
theorem dX9_truthOf_36 : decode cX9_truthOf 36 = .ok (.iload 6, 2) := dk_21 (c := cX9_truthOf) (pc := 36) (a := 6) (dk_at bnames05cX9_truthOf_0 36) rfl
theorem dX9_truthOf_38 : decode cX9_truthOf 38 = .ok (.invokevirtual 363, 3) := dk_182 (c := cX9_truthOf) (pc := 38) (a := 1) (b := 107) (dk_at bnames05cX9_truthOf_0 38) rfl
theorem dX9_truthOf_41 : decode cX9_truthOf 41 = .ok (.ifCond .ne 8, 3) := dk_154 (c := cX9_truthOf) (pc := 41) (a := 0) (b := 8) (dk_at bnames05cX9_truthOf_0 41) (by decide)
theorem dX9_truthOf_44 : decode cX9_truthOf 44 = .ok (.aload_n 0, 1) := dk_42 (c := cX9_truthOf) (pc := 44) (dk_at bnames05cX9_truthOf_0 44)
theorem dX9_truthOf_45 : decode cX9_truthOf 45 = .ok (.invokevirtual 427, 3) := dk_182 (c := cX9_truthOf) (pc := 45) (a := 1) (b := 171) (dk_at bnames05cX9_truthOf_0 45) rfl
theorem bnames05cX9_truthOf_48 : ((dk_l cX9_truthOf).drop 48).take 31 = [173, 32, 42, 21, 6, 182, 1, 110, 133, 97, 65, 22, 4, 10, 97, 55, 4, 132, 6, 1, 167, 255, 196, 42, 32, 22, 4, 182, 1, 160, 173] := by decide +kernel
theorem dX9_truthOf_48 : decode cX9_truthOf 48 = .ok (.lreturn, 1) := dk_173 (c := cX9_truthOf) (pc := 48) (dk_at bnames05cX9_truthOf_48 0)
theorem dX9_truthOf_49 : decode cX9_truthOf 49 = .ok (.lload_n 2, 1) := dk_32 (c := cX9_truthOf) (pc := 49) (dk_at bnames05cX9_truthOf_48 1)
theorem dX9_truthOf_50 : decode cX9_truthOf 50 = .ok (.aload_n 0, 1) := dk_42 (c := cX9_truthOf) (pc := 50) (dk_at bnames05cX9_truthOf_48 2)
theorem dX9_truthOf_51 : decode cX9_truthOf 51 = .ok (.iload 6, 2) := dk_21 (c := cX9_truthOf) (pc := 51) (a := 6) (dk_at bnames05cX9_truthOf_48 3) rfl
theorem dX9_truthOf_53 : decode cX9_truthOf 53 = .ok (.invokevirtual 366, 3) := dk_182 (c := cX9_truthOf) (pc := 53) (a := 1) (b := 110) (dk_at bnames05cX9_truthOf_48 5) rfl
theorem dX9_truthOf_56 : decode cX9_truthOf 56 = .ok (.i2l, 1) := dk_133 (c := cX9_truthOf) (pc := 56) (dk_at bnames05cX9_truthOf_48 8)
theorem dX9_truthOf_57 : decode cX9_truthOf 57 = .ok (.ladd, 1) := dk_97 (c := cX9_truthOf) (pc := 57) (dk_at bnames05cX9_truthOf_48 9)
theorem dX9_truthOf_58 : decode cX9_truthOf 58 = .ok (.lstore_n 2, 1) := dk_65 (c := cX9_truthOf) (pc := 58) (dk_at bnames05cX9_truthOf_48 10)
theorem dX9_truthOf_59 : decode cX9_truthOf 59 = .ok (.lload 4, 2) := dk_22 (c := cX9_truthOf) (pc := 59) (a := 4) (dk_at bnames05cX9_truthOf_48 11) rfl
theorem dX9_truthOf_61 : decode cX9_truthOf 61 = .ok (.lconst 1, 1) := dk_10 (c := cX9_truthOf) (pc := 61) (dk_at bnames05cX9_truthOf_48 13)
theorem dX9_truthOf_62 : decode cX9_truthOf 62 = .ok (.ladd, 1) := dk_97 (c := cX9_truthOf) (pc := 62) (dk_at bnames05cX9_truthOf_48 14)
theorem dX9_truthOf_63 : decode cX9_truthOf 63 = .ok (.lstore 4, 2) := dk_55 (c := cX9_truthOf) (pc := 63) (a := 4) (dk_at bnames05cX9_truthOf_48 15) rfl
theorem dX9_truthOf_65 : decode cX9_truthOf 65 = .ok (.iinc 6 1, 3) := dk_132 (c := cX9_truthOf) (pc := 65) (a := 6) (b := 1) (dk_at bnames05cX9_truthOf_48 17) rfl (by decide)
theorem dX9_truthOf_68 : decode cX9_truthOf 68 = .ok (.goto (-60), 3) := dk_167 (c := cX9_truthOf) (pc := 68) (a := 255) (b := 196) (dk_at bnames05cX9_truthOf_48 20) (by decide)
theorem dX9_truthOf_71 : decode cX9_truthOf 71 = .ok (.aload_n 0, 1) := dk_42 (c := cX9_truthOf) (pc := 71) (dk_at bnames05cX9_truthOf_48 23)
theorem dX9_truthOf_72 : decode cX9_truthOf 72 = .ok (.lload_n 2, 1) := dk_32 (c := cX9_truthOf) (pc := 72) (dk_at bnames05cX9_truthOf_48 24)
theorem dX9_truthOf_73 : decode cX9_truthOf 73 = .ok (.lload 4, 2) := dk_22 (c := cX9_truthOf) (pc := 73) (a := 4) (dk_at bnames05cX9_truthOf_48 25) rfl
theorem dX9_truthOf_75 : decode cX9_truthOf 75 = .ok (.invokevirtual 416, 3) := dk_182 (c := cX9_truthOf) (pc := 75) (a := 1) (b := 160) (dk_at bnames05cX9_truthOf_48 27) rfl
theorem dX9_truthOf_78 : decode cX9_truthOf 78 = .ok (.lreturn, 1) := dk_173 (c := cX9_truthOf) (pc := 78) (dk_at bnames05cX9_truthOf_48 30)
set_option maxRecDepth 20000 in
theorem ggX9_truth_X9_truthOf : GoodIn wsX9_truth wsX9_truthOf := goodIn_r _ [6, 7, 8, 9, 10, 5, 11, 12, 13, 14, 15, 16, 17, 18, 19, 20, 21, 22, 23, 24, 25, 26, 27, 28, 29, 30, 31, 32, 33, 34, 35, 36, 37, 38, 39, 40, 41, 42, 43, 44, 45, 46, 47, 48, 49, 50, 51, 52, 53, 54, 55, 56, 57, 58, 59, 60, 61, 62, 63, 64, 65, 66, 67, 68, 69, 70, 71, 72, 73, 74, 75, 76, 77, 78, 79, 80, 81, 82, 83, 84, 85, 86, 87, 88, 89, 90, 91, 92, 93, 94, 95, 96, 97, 98, 99, 100, 101, 102, 103, 104, 105, 106, 107, 108, 109, 110, 111, 112, 113, 114, 115, 116, 117, 118, 119, 120, 121, 122, 123, 124, 125, 126, 127, 128, 129, 130, 131] rfl (by decide +kernel)
set_option maxRecDepth 20000 in
theorem gX9_truth_X9_truthOf : GoodIn wsX9_truth (wsV RX9 498 RX9 yX9_truthOf wsX9_truthOf) := goodIn_app (goodIn_r _ [2, 3, 4, 5] rfl (by decide +kernel)) ggX9_truth_X9_truthOf
theorem bnames05cX9_truth_0 : ((dk_l cX9_truth).drop 0).take 11 = [42, 3, 181, 0, 125, 42, 27, 182, 1, 242, 173] := by decide +kernel
theorem dX9_truth_0 : decode cX9_truth 0 = .ok (.aload_n 0, 1) := dk_42 (c := cX9_truth) (pc := 0) (dk_at bnames05cX9_truth_0 0)
theorem dX9_truth_1 : decode cX9_truth 1 = .ok (.iconst 0, 1) := dk_3 (c := cX9_truth) (pc := 1) (dk_at bnames05cX9_truth_0 1)
theorem dX9_truth_2 : decode cX9_truth 2 = .ok (.putfield 125, 3) := dk_181 (c := cX9_truth) (pc := 2) (a := 0) (b := 125) (dk_at bnames05cX9_truth_0 2) rfl
theorem dX9_truth_5 : decode cX9_truth 5 = .ok (.aload_n 0, 1) := dk_42 (c := cX9_truth) (pc := 5) (dk_at bnames05cX9_truth_0 5)
theorem dX9_truth_6 : decode cX9_truth 6 = .ok (.iload_n 1, 1) := dk_27 (c := cX9_truth) (pc := 6) (dk_at bnames05cX9_truth_0 6)
theorem dX9_truth_7 : decode cX9_truth 7 = .ok (.invokevirtual 498, 3) := dk_182 (c := cX9_truth) (pc := 7) (a := 1) (b := 242) (dk_at bnames05cX9_truth_0 7) rfl
theorem dX9_truth_10 : decode cX9_truth 10 = .ok (.lreturn, 1) := dk_173 (c := cX9_truth) (pc := 10) (dk_at bnames05cX9_truth_0 10)
set_option maxRecDepth 20000 in
theorem ggX9_leansBy_X9_plainOf : GoodIn wsX9_leansBy wsX9_plainOf := goodIn_r _ [7, 8, 9, 10, 11, 12, 13, 14, 15, 6, 16, 17, 18, 19, 20, 21, 22, 23, 24, 25, 26, 27, 28, 29, 30, 31, 32, 33, 1, 34, 2, 121, 122, 123, 124, 125, 126, 127, 128, 129, 130, 131, 132, 133, 134, 135, 136, 137, 138, 139, 140, 141, 142, 143, 144, 145, 146, 147, 148, 149, 150, 151, 152, 153, 154, 155, 156, 157, 158, 159, 160, 161, 162, 163, 164, 165, 166, 167, 168, 169, 170, 171, 172, 173, 174, 175, 176, 177, 178, 179, 180] rfl (by decide +kernel)
set_option maxRecDepth 20000 in
theorem gX9_leansBy_X9_plainOf : GoodIn wsX9_leansBy (wsV RX9 420 RX9 yX9_plainOf wsX9_plainOf) := goodIn_app (goodIn_r _ [3, 4, 5, 6] rfl (by decide +kernel)) ggX9_leansBy_X9_plainOf
set_option maxRecDepth 20000 in
theorem ggX9_leansBy_X9_byOf : GoodIn wsX9_leansBy wsX9_byOf := goodIn_r _ [38, 39, 40, 6, 41, 42, 43, 44, 45, 46, 47, 48, 49, 1, 2, 13, 14, 15, 16, 17, 18, 19, 20, 50, 51, 52, 53, 27, 8, 11, 25, 26, 10, 21, 22, 23, 24, 12, 9, 28, 29, 54, 55, 56, 57, 30, 31, 32, 33, 34, 121, 122, 123, 124, 125, 126, 127, 128, 129, 130, 131, 132, 133, 134, 135, 136, 137, 138, 139, 140, 141, 142, 143, 144, 145, 146, 147, 148, 149, 150, 151, 152, 153, 154, 155, 156, 157, 158, 159, 160, 161, 162, 163, 164, 165, 166, 167, 168, 169, 170, 171, 172, 173, 174, 175, 176, 177, 178, 179, 180] rfl (by decide +kernel)
set_option maxRecDepth 20000 in
theorem gX9_leansBy_X9_byOf : GoodIn wsX9_leansBy (wsV RX9 436 RX9 yX9_byOf wsX9_byOf) := goodIn_app (goodIn_r _ [35, 36, 37, 6] rfl (by decide +kernel)) ggX9_leansBy_X9_byOf
set_option maxRecDepth 20000 in
theorem ggX9_leansBy_X9_manyOf : GoodIn wsX9_leansBy wsX9_manyOf := goodIn_r _ [61, 62, 63, 64, 8, 10, 11, 13, 14, 15, 6, 16, 17, 18, 19, 20, 21, 22, 23, 24, 25, 26, 27, 12, 9, 28, 29, 65, 66, 67, 68, 69, 30, 31, 32, 33, 1, 34, 2, 121, 122, 123, 124, 125, 126, 127, 128, 129, 130, 131, 132, 133, 134, 135, 136, 137, 138, 139, 140, 141, 142, 143, 144, 145, 146, 147, 148, 149, 150, 151, 152, 153, 154, 155, 156, 157, 158, 159, 160, 161, 162, 163, 164, 165, 166, 167, 168, 169, 170, 171, 172, 173, 174, 175, 176, 177, 178, 179, 180] rfl (by decide +kernel)
set_option maxRecDepth 20000 in
theorem gX9_leansBy_X9_manyOf : GoodIn wsX9_leansBy (wsV RX9 444 RX9 yX9_manyOf wsX9_manyOf) := goodIn_app (goodIn_r _ [58, 59, 60, 6] rfl (by decide +kernel)) ggX9_leansBy_X9_manyOf
set_option maxRecDepth 20000 in
theorem ggX9_leansBy_X9_truthOf : GoodIn wsX9_leansBy wsX9_truthOf := goodIn_r _ [73, 17, 74, 75, 76, 6, 77, 69, 19, 78, 79, 80, 81, 82, 83, 84, 85, 86, 43, 44, 45, 87, 88, 89, 90, 91, 92, 93, 94, 95, 96, 97, 98, 99, 100, 101, 46, 47, 48, 49, 1, 2, 102, 103, 104, 105, 28, 106, 107, 108, 109, 110, 111, 112, 113, 114, 115, 116, 117, 118, 119, 120, 30, 31, 32, 33, 34, 121, 122, 123, 124, 125, 126, 127, 128, 129, 130, 131, 132, 133, 134, 135, 136, 137, 138, 139, 140, 141, 142, 143, 144, 145, 146, 147, 148, 149, 150, 151, 152, 153, 154, 155, 156, 157, 158, 159, 160, 161, 162, 163, 164, 165, 166, 167, 168, 169, 170, 171, 172, 173, 174, 175, 176, 177, 178, 179, 180] rfl (by decide +kernel)
set_option maxRecDepth 20000 in
theorem gX9_leansBy_X9_truthOf : GoodIn wsX9_leansBy (wsV RX9 498 RX9 yX9_truthOf wsX9_truthOf) := goodIn_app (goodIn_r _ [70, 71, 72, 6] rfl (by decide +kernel)) ggX9_leansBy_X9_truthOf
theorem bnames05cX9_leansBy_0 : ((dk_l cX9_leansBy).drop 0).take 52 = [27, 154, 0, 10, 42, 182, 1, 164, 167, 0, 20, 27, 4, 160, 0, 11, 42, 28, 182, 1, 180, 167, 0, 7, 42, 182, 1, 188, 66, 42, 180, 1, 146, 154, 0, 7, 20, 1, 152, 173, 42, 4, 182, 1, 242, 55, 5, 42, 180, 1, 146, 153] := by decide +kernel
theorem dX9_leansBy_0 : decode cX9_leansBy 0 = .ok (.iload_n 1, 1) := dk_27 (c := cX9_leansBy) (pc := 0) (dk_at bnames05cX9_leansBy_0 0)
theorem dX9_leansBy_1 : decode cX9_leansBy 1 = .ok (.ifCond .ne 10, 3) := dk_154 (c := cX9_leansBy) (pc := 1) (a := 0) (b := 10) (dk_at bnames05cX9_leansBy_0 1) (by decide)
theorem dX9_leansBy_4 : decode cX9_leansBy 4 = .ok (.aload_n 0, 1) := dk_42 (c := cX9_leansBy) (pc := 4) (dk_at bnames05cX9_leansBy_0 4)
theorem dX9_leansBy_5 : decode cX9_leansBy 5 = .ok (.invokevirtual 420, 3) := dk_182 (c := cX9_leansBy) (pc := 5) (a := 1) (b := 164) (dk_at bnames05cX9_leansBy_0 5) rfl
theorem dX9_leansBy_8 : decode cX9_leansBy 8 = .ok (.goto 20, 3) := dk_167 (c := cX9_leansBy) (pc := 8) (a := 0) (b := 20) (dk_at bnames05cX9_leansBy_0 8) (by decide)
theorem dX9_leansBy_11 : decode cX9_leansBy 11 = .ok (.iload_n 1, 1) := dk_27 (c := cX9_leansBy) (pc := 11) (dk_at bnames05cX9_leansBy_0 11)
theorem dX9_leansBy_12 : decode cX9_leansBy 12 = .ok (.iconst 1, 1) := dk_4 (c := cX9_leansBy) (pc := 12) (dk_at bnames05cX9_leansBy_0 12)
theorem dX9_leansBy_13 : decode cX9_leansBy 13 = .ok (.if_icmp .ne 11, 3) := dk_160 (c := cX9_leansBy) (pc := 13) (a := 0) (b := 11) (dk_at bnames05cX9_leansBy_0 13) (by decide)
theorem dX9_leansBy_16 : decode cX9_leansBy 16 = .ok (.aload_n 0, 1) := dk_42 (c := cX9_leansBy) (pc := 16) (dk_at bnames05cX9_leansBy_0 16)
theorem dX9_leansBy_17 : decode cX9_leansBy 17 = .ok (.iload_n 2, 1) := dk_28 (c := cX9_leansBy) (pc := 17) (dk_at bnames05cX9_leansBy_0 17)
theorem dX9_leansBy_18 : decode cX9_leansBy 18 = .ok (.invokevirtual 436, 3) := dk_182 (c := cX9_leansBy) (pc := 18) (a := 1) (b := 180) (dk_at bnames05cX9_leansBy_0 18) rfl
theorem dX9_leansBy_21 : decode cX9_leansBy 21 = .ok (.goto 7, 3) := dk_167 (c := cX9_leansBy) (pc := 21) (a := 0) (b := 7) (dk_at bnames05cX9_leansBy_0 21) (by decide)
theorem dX9_leansBy_24 : decode cX9_leansBy 24 = .ok (.aload_n 0, 1) := dk_42 (c := cX9_leansBy) (pc := 24) (dk_at bnames05cX9_leansBy_0 24)
theorem dX9_leansBy_25 : decode cX9_leansBy 25 = .ok (.invokevirtual 444, 3) := dk_182 (c := cX9_leansBy) (pc := 25) (a := 1) (b := 188) (dk_at bnames05cX9_leansBy_0 25) rfl
theorem dX9_leansBy_28 : decode cX9_leansBy 28 = .ok (.lstore_n 3, 1) := dk_66 (c := cX9_leansBy) (pc := 28) (dk_at bnames05cX9_leansBy_0 28)
theorem dX9_leansBy_29 : decode cX9_leansBy 29 = .ok (.aload_n 0, 1) := dk_42 (c := cX9_leansBy) (pc := 29) (dk_at bnames05cX9_leansBy_0 29)
theorem dX9_leansBy_30 : decode cX9_leansBy 30 = .ok (.getfield 402, 3) := dk_180 (c := cX9_leansBy) (pc := 30) (a := 1) (b := 146) (dk_at bnames05cX9_leansBy_0 30) rfl
theorem dX9_leansBy_33 : decode cX9_leansBy 33 = .ok (.ifCond .ne 7, 3) := dk_154 (c := cX9_leansBy) (pc := 33) (a := 0) (b := 7) (dk_at bnames05cX9_leansBy_0 33) (by decide)
theorem dX9_leansBy_36 : decode cX9_leansBy 36 = .ok (.ldc2_w 408, 3) := dk_20 (c := cX9_leansBy) (pc := 36) (a := 1) (b := 152) (dk_at bnames05cX9_leansBy_0 36) rfl
theorem dX9_leansBy_39 : decode cX9_leansBy 39 = .ok (.lreturn, 1) := dk_173 (c := cX9_leansBy) (pc := 39) (dk_at bnames05cX9_leansBy_0 39)
theorem dX9_leansBy_40 : decode cX9_leansBy 40 = .ok (.aload_n 0, 1) := dk_42 (c := cX9_leansBy) (pc := 40) (dk_at bnames05cX9_leansBy_0 40)
theorem dX9_leansBy_41 : decode cX9_leansBy 41 = .ok (.iconst 1, 1) := dk_4 (c := cX9_leansBy) (pc := 41) (dk_at bnames05cX9_leansBy_0 41)
theorem dX9_leansBy_42 : decode cX9_leansBy 42 = .ok (.invokevirtual 498, 3) := dk_182 (c := cX9_leansBy) (pc := 42) (a := 1) (b := 242) (dk_at bnames05cX9_leansBy_0 42) rfl
theorem dX9_leansBy_45 : decode cX9_leansBy 45 = .ok (.lstore 5, 2) := dk_55 (c := cX9_leansBy) (pc := 45) (a := 5) (dk_at bnames05cX9_leansBy_0 45) rfl
theorem dX9_leansBy_47 : decode cX9_leansBy 47 = .ok (.aload_n 0, 1) := dk_42 (c := cX9_leansBy) (pc := 47) (dk_at bnames05cX9_leansBy_0 47)
theorem bnames05cX9_leansBy_48 : ((dk_l cX9_leansBy).drop 48).take 17 = [180, 1, 146, 153, 0, 10, 33, 22, 5, 101, 167, 0, 6, 20, 1, 152, 173] := by decide +kernel
theorem dX9_leansBy_48 : decode cX9_leansBy 48 = .ok (.getfield 402, 3) := dk_180 (c := cX9_leansBy) (pc := 48) (a := 1) (b := 146) (dk_at bnames05cX9_leansBy_48 0) rfl
theorem dX9_leansBy_51 : decode cX9_leansBy 51 = .ok (.ifCond .eq 10, 3) := dk_153 (c := cX9_leansBy) (pc := 51) (a := 0) (b := 10) (dk_at bnames05cX9_leansBy_48 3) (by decide)
theorem dX9_leansBy_54 : decode cX9_leansBy 54 = .ok (.lload_n 3, 1) := dk_33 (c := cX9_leansBy) (pc := 54) (dk_at bnames05cX9_leansBy_48 6)
theorem dX9_leansBy_55 : decode cX9_leansBy 55 = .ok (.lload 5, 2) := dk_22 (c := cX9_leansBy) (pc := 55) (a := 5) (dk_at bnames05cX9_leansBy_48 7) rfl
theorem dX9_leansBy_57 : decode cX9_leansBy 57 = .ok (.lsub, 1) := dk_101 (c := cX9_leansBy) (pc := 57) (dk_at bnames05cX9_leansBy_48 9)
theorem dX9_leansBy_58 : decode cX9_leansBy 58 = .ok (.goto 6, 3) := dk_167 (c := cX9_leansBy) (pc := 58) (a := 0) (b := 6) (dk_at bnames05cX9_leansBy_48 10) (by decide)
theorem dX9_leansBy_61 : decode cX9_leansBy 61 = .ok (.ldc2_w 408, 3) := dk_20 (c := cX9_leansBy) (pc := 61) (a := 1) (b := 152) (dk_at bnames05cX9_leansBy_48 13) rfl
theorem dX9_leansBy_64 : decode cX9_leansBy 64 = .ok (.lreturn, 1) := dk_173 (c := cX9_leansBy) (pc := 64) (dk_at bnames05cX9_leansBy_48 16)
set_option maxRecDepth 20000 in
theorem ggX9_leans_X9_in : GoodIn wsX9_leans wsX9_in := goodIn_r _ [7] rfl (by decide +kernel)
set_option maxRecDepth 20000 in
theorem gX9_leans_X9_in : GoodIn wsX9_leans (va_wsS RX9 130 yX9_in wsX9_in) := goodIn_app (goodIn_r _ [4, 5, 6] rfl (by decide +kernel)) ggX9_leans_X9_in
set_option maxRecDepth 20000 in
theorem ggX9_leans_X9_leansBy : GoodIn wsX9_leans wsX9_leansBy := goodIn_r _ [11, 12, 3, 13, 14, 15, 6, 16, 17, 18, 19, 20, 21, 22, 23, 24, 25, 26, 27, 28, 29, 30, 31, 32, 33, 34, 35, 36, 37, 38, 39, 40, 41, 42, 43, 44, 45, 46, 47, 48, 49, 50, 51, 4, 5, 7, 52, 53, 54, 55, 56, 57, 58, 59, 60, 61, 62, 63, 64, 65, 66, 67, 68, 69, 70, 71, 72, 73, 74, 75, 76, 77, 78, 79, 80, 81, 82, 83, 84, 85, 86, 87, 88, 89, 90, 91, 92, 93, 94, 95, 96, 97, 98, 99, 100, 101, 102, 103, 104, 105, 106, 107, 108, 109, 110, 111, 112, 113, 114, 115, 116, 117, 118, 119, 120, 121, 122, 123, 124, 125, 126, 127, 128, 129, 130, 131, 132, 133, 134, 135, 136, 137, 138, 139, 140, 141, 142, 143, 144, 145, 146, 147, 148, 149, 150, 151, 152, 153, 154, 155, 156, 157, 158, 159, 160, 161, 162, 163, 164, 165, 166, 167, 168, 169, 170, 171, 172, 173, 174, 175, 176, 177, 178, 179, 180, 181, 182, 183, 184, 185, 186] rfl (by decide +kernel)
set_option maxRecDepth 20000 in
theorem gX9_leans_X9_leansBy : GoodIn wsX9_leans (wsV RX9 502 RX9 yX9_leansBy wsX9_leansBy) := goodIn_app (goodIn_r _ [8, 9, 10, 6] rfl (by decide +kernel)) ggX9_leans_X9_leansBy
theorem bnames05cX9_leans_0 : ((dk_l cX9_leans).drop 0).take 30 = [42, 3, 181, 0, 125, 27, 133, 9, 20, 1, 199, 184, 0, 130, 153, 0, 12, 42, 27, 28, 182, 1, 246, 167, 0, 6, 20, 1, 152, 173] := by decide +kernel
theorem dX9_leans_0 : decode cX9_leans 0 = .ok (.aload_n 0, 1) := dk_42 (c := cX9_leans) (pc := 0) (dk_at bnames05cX9_leans_0 0)
theorem dX9_leans_1 : decode cX9_leans 1 = .ok (.iconst 0, 1) := dk_3 (c := cX9_leans) (pc := 1) (dk_at bnames05cX9_leans_0 1)
theorem dX9_leans_2 : decode cX9_leans 2 = .ok (.putfield 125, 3) := dk_181 (c := cX9_leans) (pc := 2) (a := 0) (b := 125) (dk_at bnames05cX9_leans_0 2) rfl
theorem dX9_leans_5 : decode cX9_leans 5 = .ok (.iload_n 1, 1) := dk_27 (c := cX9_leans) (pc := 5) (dk_at bnames05cX9_leans_0 5)
theorem dX9_leans_6 : decode cX9_leans 6 = .ok (.i2l, 1) := dk_133 (c := cX9_leans) (pc := 6) (dk_at bnames05cX9_leans_0 6)
theorem dX9_leans_7 : decode cX9_leans 7 = .ok (.lconst 0, 1) := dk_9 (c := cX9_leans) (pc := 7) (dk_at bnames05cX9_leans_0 7)
theorem dX9_leans_8 : decode cX9_leans 8 = .ok (.ldc2_w 455, 3) := dk_20 (c := cX9_leans) (pc := 8) (a := 1) (b := 199) (dk_at bnames05cX9_leans_0 8) rfl
theorem dX9_leans_11 : decode cX9_leans 11 = .ok (.invokestatic 130, 3) := dk_184 (c := cX9_leans) (pc := 11) (a := 0) (b := 130) (dk_at bnames05cX9_leans_0 11) rfl
theorem dX9_leans_14 : decode cX9_leans 14 = .ok (.ifCond .eq 12, 3) := dk_153 (c := cX9_leans) (pc := 14) (a := 0) (b := 12) (dk_at bnames05cX9_leans_0 14) (by decide)
theorem dX9_leans_17 : decode cX9_leans 17 = .ok (.aload_n 0, 1) := dk_42 (c := cX9_leans) (pc := 17) (dk_at bnames05cX9_leans_0 17)
theorem dX9_leans_18 : decode cX9_leans 18 = .ok (.iload_n 1, 1) := dk_27 (c := cX9_leans) (pc := 18) (dk_at bnames05cX9_leans_0 18)
theorem dX9_leans_19 : decode cX9_leans 19 = .ok (.iload_n 2, 1) := dk_28 (c := cX9_leans) (pc := 19) (dk_at bnames05cX9_leans_0 19)
theorem dX9_leans_20 : decode cX9_leans 20 = .ok (.invokevirtual 502, 3) := dk_182 (c := cX9_leans) (pc := 20) (a := 1) (b := 246) (dk_at bnames05cX9_leans_0 20) rfl
theorem dX9_leans_23 : decode cX9_leans 23 = .ok (.goto 6, 3) := dk_167 (c := cX9_leans) (pc := 23) (a := 0) (b := 6) (dk_at bnames05cX9_leans_0 23) (by decide)
theorem dX9_leans_26 : decode cX9_leans 26 = .ok (.ldc2_w 408, 3) := dk_20 (c := cX9_leans) (pc := 26) (a := 1) (b := 152) (dk_at bnames05cX9_leans_0 26) rfl
theorem dX9_leans_29 : decode cX9_leans 29 = .ok (.lreturn, 1) := dk_173 (c := cX9_leans) (pc := 29) (dk_at bnames05cX9_leans_0 29)
set_option maxRecDepth 20000 in
theorem ggX9_least_X9_leansBy : GoodIn wsX9_least wsX9_leansBy := goodIn_r _ [7, 2, 8, 9, 10, 11, 6, 12, 13, 14, 15, 16, 17, 18, 19, 20, 21, 22, 23, 24, 25, 26, 27, 28, 29, 30, 31, 32, 33, 34, 35, 36, 37, 38, 39, 40, 41, 42, 43, 44, 45, 46, 47, 48, 49, 50, 51, 52, 53, 54, 55, 56, 57, 58, 59, 60, 61, 62, 63, 64, 65, 66, 67, 68, 69, 70, 71, 72, 73, 74, 75, 76, 77, 78, 79, 80, 81, 82, 83, 84, 85, 86, 87, 88, 89, 90, 91, 92, 93, 94, 95, 96, 97, 98, 99, 100, 101, 102, 103, 104, 105, 106, 107, 108, 109, 110, 111, 112, 113, 114, 115, 116, 117, 118, 119, 120, 121, 122, 123, 124, 125, 126, 127, 128, 129, 130, 131, 132, 133, 134, 135, 136, 137, 138, 139, 140, 141, 142, 143, 144, 145, 146, 147, 148, 149, 150, 151, 152, 153, 154, 155, 156, 157, 158, 159, 160, 161, 162, 163, 164, 165, 166, 167, 168, 169, 170, 171, 172, 173, 174, 175, 176, 177, 178, 179, 180, 181, 182, 183, 184, 185] rfl (by decide +kernel)
set_option maxRecDepth 20000 in
theorem gX9_least_X9_leansBy : GoodIn wsX9_least (wsV RX9 502 RX9 yX9_leansBy wsX9_leansBy) := goodIn_app (goodIn_r _ [3, 4, 5, 6] rfl (by decide +kernel)) ggX9_least_X9_leansBy
theorem bnames05cX9_least_0 : ((dk_l cX9_least).drop 0).take 52 = [42, 3, 181, 0, 125, 2, 61, 9, 66, 3, 54, 5, 21, 5, 6, 162, 0, 66, 42, 21, 5, 27, 182, 1, 246, 55, 6, 42, 180, 1, 146, 154, 0, 6, 167, 0, 41, 22, 6, 9, 148, 156, 0, 9, 22, 6, 117, 167, 0, 5, 22, 6] := by decide +kernel
theorem dX9_least_0 : decode cX9_least 0 = .ok (.aload_n 0, 1) := dk_42 (c := cX9_least) (pc := 0) (dk_at bnames05cX9_least_0 0)
theorem dX9_least_1 : decode cX9_least 1 = .ok (.iconst 0, 1) := dk_3 (c := cX9_least) (pc := 1) (dk_at bnames05cX9_least_0 1)
theorem dX9_least_2 : decode cX9_least 2 = .ok (.putfield 125, 3) := dk_181 (c := cX9_least) (pc := 2) (a := 0) (b := 125) (dk_at bnames05cX9_least_0 2) rfl
theorem dX9_least_5 : decode cX9_least 5 = .ok (.iconst (-1), 1) := dk_2 (c := cX9_least) (pc := 5) (dk_at bnames05cX9_least_0 5)
theorem dX9_least_6 : decode cX9_least 6 = .ok (.istore_n 2, 1) := dk_61 (c := cX9_least) (pc := 6) (dk_at bnames05cX9_least_0 6)
theorem dX9_least_7 : decode cX9_least 7 = .ok (.lconst 0, 1) := dk_9 (c := cX9_least) (pc := 7) (dk_at bnames05cX9_least_0 7)
theorem dX9_least_8 : decode cX9_least 8 = .ok (.lstore_n 3, 1) := dk_66 (c := cX9_least) (pc := 8) (dk_at bnames05cX9_least_0 8)
theorem dX9_least_9 : decode cX9_least 9 = .ok (.iconst 0, 1) := dk_3 (c := cX9_least) (pc := 9) (dk_at bnames05cX9_least_0 9)
theorem dX9_least_10 : decode cX9_least 10 = .ok (.istore 5, 2) := dk_54 (c := cX9_least) (pc := 10) (a := 5) (dk_at bnames05cX9_least_0 10) rfl
theorem dX9_least_12 : decode cX9_least 12 = .ok (.iload 5, 2) := dk_21 (c := cX9_least) (pc := 12) (a := 5) (dk_at bnames05cX9_least_0 12) rfl
theorem dX9_least_14 : decode cX9_least 14 = .ok (.iconst 3, 1) := dk_6 (c := cX9_least) (pc := 14) (dk_at bnames05cX9_least_0 14)
theorem dX9_least_15 : decode cX9_least 15 = .ok (.if_icmp .ge 66, 3) := dk_162 (c := cX9_least) (pc := 15) (a := 0) (b := 66) (dk_at bnames05cX9_least_0 15) (by decide)
theorem dX9_least_18 : decode cX9_least 18 = .ok (.aload_n 0, 1) := dk_42 (c := cX9_least) (pc := 18) (dk_at bnames05cX9_least_0 18)
theorem dX9_least_19 : decode cX9_least 19 = .ok (.iload 5, 2) := dk_21 (c := cX9_least) (pc := 19) (a := 5) (dk_at bnames05cX9_least_0 19) rfl
theorem dX9_least_21 : decode cX9_least 21 = .ok (.iload_n 1, 1) := dk_27 (c := cX9_least) (pc := 21) (dk_at bnames05cX9_least_0 21)
theorem dX9_least_22 : decode cX9_least 22 = .ok (.invokevirtual 502, 3) := dk_182 (c := cX9_least) (pc := 22) (a := 1) (b := 246) (dk_at bnames05cX9_least_0 22) rfl
theorem dX9_least_25 : decode cX9_least 25 = .ok (.lstore 6, 2) := dk_55 (c := cX9_least) (pc := 25) (a := 6) (dk_at bnames05cX9_least_0 25) rfl
theorem dX9_least_27 : decode cX9_least 27 = .ok (.aload_n 0, 1) := dk_42 (c := cX9_least) (pc := 27) (dk_at bnames05cX9_least_0 27)
theorem dX9_least_28 : decode cX9_least 28 = .ok (.getfield 402, 3) := dk_180 (c := cX9_least) (pc := 28) (a := 1) (b := 146) (dk_at bnames05cX9_least_0 28) rfl
theorem dX9_least_31 : decode cX9_least 31 = .ok (.ifCond .ne 6, 3) := dk_154 (c := cX9_least) (pc := 31) (a := 0) (b := 6) (dk_at bnames05cX9_least_0 31) (by decide)
theorem dX9_least_34 : decode cX9_least 34 = .ok (.goto 41, 3) := dk_167 (c := cX9_least) (pc := 34) (a := 0) (b := 41) (dk_at bnames05cX9_least_0 34) (by decide)
theorem dX9_least_37 : decode cX9_least 37 = .ok (.lload 6, 2) := dk_22 (c := cX9_least) (pc := 37) (a := 6) (dk_at bnames05cX9_least_0 37) rfl
theorem dX9_least_39 : decode cX9_least 39 = .ok (.lconst 0, 1) := dk_9 (c := cX9_least) (pc := 39) (dk_at bnames05cX9_least_0 39)
theorem dX9_least_40 : decode cX9_least 40 = .ok (.lcmp, 1) := dk_148 (c := cX9_least) (pc := 40) (dk_at bnames05cX9_least_0 40)
theorem dX9_least_41 : decode cX9_least 41 = .ok (.ifCond .ge 9, 3) := dk_156 (c := cX9_least) (pc := 41) (a := 0) (b := 9) (dk_at bnames05cX9_least_0 41) (by decide)
theorem dX9_least_44 : decode cX9_least 44 = .ok (.lload 6, 2) := dk_22 (c := cX9_least) (pc := 44) (a := 6) (dk_at bnames05cX9_least_0 44) rfl
theorem dX9_least_46 : decode cX9_least 46 = .ok (.lneg, 1) := dk_117 (c := cX9_least) (pc := 46) (dk_at bnames05cX9_least_0 46)
theorem dX9_least_47 : decode cX9_least 47 = .ok (.goto 5, 3) := dk_167 (c := cX9_least) (pc := 47) (a := 0) (b := 5) (dk_at bnames05cX9_least_0 47) (by decide)
theorem bnames05cX9_least_48 : ((dk_l cX9_least).drop 48).take 35 = [0, 5, 22, 6, 55, 8, 28, 2, 159, 0, 13, 22, 8, 33, 148, 155, 0, 6, 167, 0, 9, 21, 5, 61, 22, 8, 66, 132, 5, 1, 167, 255, 190, 28, 172] := by decide +kernel
theorem dX9_least_50 : decode cX9_least 50 = .ok (.lload 6, 2) := dk_22 (c := cX9_least) (pc := 50) (a := 6) (dk_at bnames05cX9_least_48 2) rfl
theorem dX9_least_52 : decode cX9_least 52 = .ok (.lstore 8, 2) := dk_55 (c := cX9_least) (pc := 52) (a := 8) (dk_at bnames05cX9_least_48 4) rfl
theorem dX9_least_54 : decode cX9_least 54 = .ok (.iload_n 2, 1) := dk_28 (c := cX9_least) (pc := 54) (dk_at bnames05cX9_least_48 6)
theorem dX9_least_55 : decode cX9_least 55 = .ok (.iconst (-1), 1) := dk_2 (c := cX9_least) (pc := 55) (dk_at bnames05cX9_least_48 7)
theorem dX9_least_56 : decode cX9_least 56 = .ok (.if_icmp .eq 13, 3) := dk_159 (c := cX9_least) (pc := 56) (a := 0) (b := 13) (dk_at bnames05cX9_least_48 8) (by decide)
theorem dX9_least_59 : decode cX9_least 59 = .ok (.lload 8, 2) := dk_22 (c := cX9_least) (pc := 59) (a := 8) (dk_at bnames05cX9_least_48 11) rfl
theorem dX9_least_61 : decode cX9_least 61 = .ok (.lload_n 3, 1) := dk_33 (c := cX9_least) (pc := 61) (dk_at bnames05cX9_least_48 13)
theorem dX9_least_62 : decode cX9_least 62 = .ok (.lcmp, 1) := dk_148 (c := cX9_least) (pc := 62) (dk_at bnames05cX9_least_48 14)
theorem dX9_least_63 : decode cX9_least 63 = .ok (.ifCond .lt 6, 3) := dk_155 (c := cX9_least) (pc := 63) (a := 0) (b := 6) (dk_at bnames05cX9_least_48 15) (by decide)
theorem dX9_least_66 : decode cX9_least 66 = .ok (.goto 9, 3) := dk_167 (c := cX9_least) (pc := 66) (a := 0) (b := 9) (dk_at bnames05cX9_least_48 18) (by decide)
theorem dX9_least_69 : decode cX9_least 69 = .ok (.iload 5, 2) := dk_21 (c := cX9_least) (pc := 69) (a := 5) (dk_at bnames05cX9_least_48 21) rfl
theorem dX9_least_71 : decode cX9_least 71 = .ok (.istore_n 2, 1) := dk_61 (c := cX9_least) (pc := 71) (dk_at bnames05cX9_least_48 23)
theorem dX9_least_72 : decode cX9_least 72 = .ok (.lload 8, 2) := dk_22 (c := cX9_least) (pc := 72) (a := 8) (dk_at bnames05cX9_least_48 24) rfl
theorem dX9_least_74 : decode cX9_least 74 = .ok (.lstore_n 3, 1) := dk_66 (c := cX9_least) (pc := 74) (dk_at bnames05cX9_least_48 26)
theorem dX9_least_75 : decode cX9_least 75 = .ok (.iinc 5 1, 3) := dk_132 (c := cX9_least) (pc := 75) (a := 5) (b := 1) (dk_at bnames05cX9_least_48 27) rfl (by decide)
theorem dX9_least_78 : decode cX9_least 78 = .ok (.goto (-66), 3) := dk_167 (c := cX9_least) (pc := 78) (a := 255) (b := 190) (dk_at bnames05cX9_least_48 30) (by decide)
theorem dX9_least_81 : decode cX9_least 81 = .ok (.iload_n 2, 1) := dk_28 (c := cX9_least) (pc := 81) (dk_at bnames05cX9_least_48 33)
theorem dX9_least_82 : decode cX9_least 82 = .ok (.ireturn, 1) := dk_172 (c := cX9_least) (pc := 82) (dk_at bnames05cX9_least_48 34)
set_option maxRecDepth 20000 in
theorem ggX9_beside_X9_isThere : GoodIn wsX9_beside wsX9_isThere := goodIn_r _ [11, 5, 12, 13, 14, 10, 15, 16, 17, 18, 19, 20, 21, 22, 23, 24, 53, 54, 55, 56, 57, 58, 59, 60, 61, 62, 63, 64, 65, 66, 67, 68, 69, 70, 71, 72, 73, 74, 75, 76, 77, 78, 79, 80, 81, 82, 83, 84, 85, 86, 87, 88, 89, 90, 91, 92, 93, 94, 95, 96, 97, 98, 99, 100, 101, 102, 103, 104, 105, 106, 107, 108, 109, 110, 111, 112] rfl (by decide +kernel)
set_option maxRecDepth 20000 in
theorem gX9_beside_X9_isThere : GoodIn wsX9_beside (wsV RX9 363 RX9 yX9_isThere wsX9_isThere) := goodIn_app (goodIn_r _ [7, 8, 9, 10] rfl (by decide +kernel)) ggX9_beside_X9_isThere
set_option maxRecDepth 20000 in
theorem ggX9_beside_X9_isMonth : GoodIn wsX9_beside wsX9_isMonth := goodIn_r _ [27, 28, 17, 18, 10, 19] rfl (by decide +kernel)
set_option maxRecDepth 20000 in
theorem gX9_beside_X9_isMonth : GoodIn wsX9_beside (va_wsS RX9 299 yX9_isMonth wsX9_isMonth) := goodIn_app (goodIn_r _ [25, 26, 10] rfl (by decide +kernel)) ggX9_beside_X9_isMonth
set_option maxRecDepth 20000 in
theorem ggX9_beside_X9_wageOf : GoodIn wsX9_beside wsX9_wageOf := goodIn_r _ [32, 33, 34, 35, 36, 37, 38, 39, 40, 41, 10, 42, 43, 44, 45, 46, 47, 48, 49, 50, 51, 52, 53, 54, 55, 56, 57, 58, 59, 60, 61, 62, 63, 64, 65, 66, 67, 68, 69, 70, 71, 72, 73, 74, 75, 76, 77, 78, 79, 80, 81, 82, 83, 84, 85, 86, 87, 88, 89, 90, 91, 92, 93, 94, 95, 96, 97, 98, 99, 100, 101, 102, 103, 104, 105, 106, 107, 108, 109, 110, 111, 112] rfl (by decide +kernel)
set_option maxRecDepth 20000 in
theorem gX9_beside_X9_wageOf : GoodIn wsX9_beside (wsV RX9 319 RX9 yX9_wageOf wsX9_wageOf) := goodIn_app (goodIn_r _ [29, 30, 31, 10] rfl (by decide +kernel)) ggX9_beside_X9_wageOf
theorem bnames05cX9_beside_0 : ((dk_l cX9_beside).drop 0).take 52 = [42, 3, 181, 0, 125, 42, 27, 182, 1, 107, 153, 0, 10, 28, 184, 1, 43, 154, 0, 7, 19, 1, 113, 172, 42, 42, 180, 0, 98, 27, 46, 42, 180, 0, 104, 27, 46, 28, 42, 180, 0, 92, 27, 46, 182, 1, 63, 42, 42, 180, 0, 98] := by decide +kernel
theorem dX9_beside_0 : decode cX9_beside 0 = .ok (.aload_n 0, 1) := dk_42 (c := cX9_beside) (pc := 0) (dk_at bnames05cX9_beside_0 0)
theorem dX9_beside_1 : decode cX9_beside 1 = .ok (.iconst 0, 1) := dk_3 (c := cX9_beside) (pc := 1) (dk_at bnames05cX9_beside_0 1)
theorem dX9_beside_2 : decode cX9_beside 2 = .ok (.putfield 125, 3) := dk_181 (c := cX9_beside) (pc := 2) (a := 0) (b := 125) (dk_at bnames05cX9_beside_0 2) rfl
theorem dX9_beside_5 : decode cX9_beside 5 = .ok (.aload_n 0, 1) := dk_42 (c := cX9_beside) (pc := 5) (dk_at bnames05cX9_beside_0 5)
theorem dX9_beside_6 : decode cX9_beside 6 = .ok (.iload_n 1, 1) := dk_27 (c := cX9_beside) (pc := 6) (dk_at bnames05cX9_beside_0 6)
theorem dX9_beside_7 : decode cX9_beside 7 = .ok (.invokevirtual 363, 3) := dk_182 (c := cX9_beside) (pc := 7) (a := 1) (b := 107) (dk_at bnames05cX9_beside_0 7) rfl
theorem dX9_beside_10 : decode cX9_beside 10 = .ok (.ifCond .eq 10, 3) := dk_153 (c := cX9_beside) (pc := 10) (a := 0) (b := 10) (dk_at bnames05cX9_beside_0 10) (by decide)
theorem dX9_beside_13 : decode cX9_beside 13 = .ok (.iload_n 2, 1) := dk_28 (c := cX9_beside) (pc := 13) (dk_at bnames05cX9_beside_0 13)
theorem dX9_beside_14 : decode cX9_beside 14 = .ok (.invokestatic 299, 3) := dk_184 (c := cX9_beside) (pc := 14) (a := 1) (b := 43) (dk_at bnames05cX9_beside_0 14) rfl
theorem dX9_beside_17 : decode cX9_beside 17 = .ok (.ifCond .ne 7, 3) := dk_154 (c := cX9_beside) (pc := 17) (a := 0) (b := 7) (dk_at bnames05cX9_beside_0 17) (by decide)
theorem dX9_beside_20 : decode cX9_beside 20 = .ok (.ldc_w 369, 3) := dk_19 (c := cX9_beside) (pc := 20) (a := 1) (b := 113) (dk_at bnames05cX9_beside_0 20) rfl
theorem dX9_beside_23 : decode cX9_beside 23 = .ok (.ireturn, 1) := dk_172 (c := cX9_beside) (pc := 23) (dk_at bnames05cX9_beside_0 23)
theorem dX9_beside_24 : decode cX9_beside 24 = .ok (.aload_n 0, 1) := dk_42 (c := cX9_beside) (pc := 24) (dk_at bnames05cX9_beside_0 24)
theorem dX9_beside_25 : decode cX9_beside 25 = .ok (.aload_n 0, 1) := dk_42 (c := cX9_beside) (pc := 25) (dk_at bnames05cX9_beside_0 25)
theorem dX9_beside_26 : decode cX9_beside 26 = .ok (.getfield 98, 3) := dk_180 (c := cX9_beside) (pc := 26) (a := 0) (b := 98) (dk_at bnames05cX9_beside_0 26) rfl
theorem dX9_beside_29 : decode cX9_beside 29 = .ok (.iload_n 1, 1) := dk_27 (c := cX9_beside) (pc := 29) (dk_at bnames05cX9_beside_0 29)
theorem dX9_beside_30 : decode cX9_beside 30 = .ok (.iaload, 1) := dk_46 (c := cX9_beside) (pc := 30) (dk_at bnames05cX9_beside_0 30)
theorem dX9_beside_31 : decode cX9_beside 31 = .ok (.aload_n 0, 1) := dk_42 (c := cX9_beside) (pc := 31) (dk_at bnames05cX9_beside_0 31)
theorem dX9_beside_32 : decode cX9_beside 32 = .ok (.getfield 104, 3) := dk_180 (c := cX9_beside) (pc := 32) (a := 0) (b := 104) (dk_at bnames05cX9_beside_0 32) rfl
theorem dX9_beside_35 : decode cX9_beside 35 = .ok (.iload_n 1, 1) := dk_27 (c := cX9_beside) (pc := 35) (dk_at bnames05cX9_beside_0 35)
theorem dX9_beside_36 : decode cX9_beside 36 = .ok (.iaload, 1) := dk_46 (c := cX9_beside) (pc := 36) (dk_at bnames05cX9_beside_0 36)
theorem dX9_beside_37 : decode cX9_beside 37 = .ok (.iload_n 2, 1) := dk_28 (c := cX9_beside) (pc := 37) (dk_at bnames05cX9_beside_0 37)
theorem dX9_beside_38 : decode cX9_beside 38 = .ok (.aload_n 0, 1) := dk_42 (c := cX9_beside) (pc := 38) (dk_at bnames05cX9_beside_0 38)
theorem dX9_beside_39 : decode cX9_beside 39 = .ok (.getfield 92, 3) := dk_180 (c := cX9_beside) (pc := 39) (a := 0) (b := 92) (dk_at bnames05cX9_beside_0 39) rfl
theorem dX9_beside_42 : decode cX9_beside 42 = .ok (.iload_n 1, 1) := dk_27 (c := cX9_beside) (pc := 42) (dk_at bnames05cX9_beside_0 42)
theorem dX9_beside_43 : decode cX9_beside 43 = .ok (.iaload, 1) := dk_46 (c := cX9_beside) (pc := 43) (dk_at bnames05cX9_beside_0 43)
theorem dX9_beside_44 : decode cX9_beside 44 = .ok (.invokevirtual 319, 3) := dk_182 (c := cX9_beside) (pc := 44) (a := 1) (b := 63) (dk_at bnames05cX9_beside_0 44) rfl
theorem dX9_beside_47 : decode cX9_beside 47 = .ok (.aload_n 0, 1) := dk_42 (c := cX9_beside) (pc := 47) (dk_at bnames05cX9_beside_0 47)
theorem bnames05cX9_beside_48 : ((dk_l cX9_beside).drop 48).take 29 = [42, 180, 0, 98, 27, 46, 42, 180, 0, 104, 27, 46, 42, 180, 0, 95, 27, 46, 42, 180, 0, 92, 27, 46, 182, 1, 63, 100, 172] := by decide +kernel
theorem dX9_beside_48 : decode cX9_beside 48 = .ok (.aload_n 0, 1) := dk_42 (c := cX9_beside) (pc := 48) (dk_at bnames05cX9_beside_48 0)
theorem dX9_beside_49 : decode cX9_beside 49 = .ok (.getfield 98, 3) := dk_180 (c := cX9_beside) (pc := 49) (a := 0) (b := 98) (dk_at bnames05cX9_beside_48 1) rfl
theorem dX9_beside_52 : decode cX9_beside 52 = .ok (.iload_n 1, 1) := dk_27 (c := cX9_beside) (pc := 52) (dk_at bnames05cX9_beside_48 4)
theorem dX9_beside_53 : decode cX9_beside 53 = .ok (.iaload, 1) := dk_46 (c := cX9_beside) (pc := 53) (dk_at bnames05cX9_beside_48 5)
theorem dX9_beside_54 : decode cX9_beside 54 = .ok (.aload_n 0, 1) := dk_42 (c := cX9_beside) (pc := 54) (dk_at bnames05cX9_beside_48 6)
theorem dX9_beside_55 : decode cX9_beside 55 = .ok (.getfield 104, 3) := dk_180 (c := cX9_beside) (pc := 55) (a := 0) (b := 104) (dk_at bnames05cX9_beside_48 7) rfl
theorem dX9_beside_58 : decode cX9_beside 58 = .ok (.iload_n 1, 1) := dk_27 (c := cX9_beside) (pc := 58) (dk_at bnames05cX9_beside_48 10)
theorem dX9_beside_59 : decode cX9_beside 59 = .ok (.iaload, 1) := dk_46 (c := cX9_beside) (pc := 59) (dk_at bnames05cX9_beside_48 11)
theorem dX9_beside_60 : decode cX9_beside 60 = .ok (.aload_n 0, 1) := dk_42 (c := cX9_beside) (pc := 60) (dk_at bnames05cX9_beside_48 12)
theorem dX9_beside_61 : decode cX9_beside 61 = .ok (.getfield 95, 3) := dk_180 (c := cX9_beside) (pc := 61) (a := 0) (b := 95) (dk_at bnames05cX9_beside_48 13) rfl
theorem dX9_beside_64 : decode cX9_beside 64 = .ok (.iload_n 1, 1) := dk_27 (c := cX9_beside) (pc := 64) (dk_at bnames05cX9_beside_48 16)
theorem dX9_beside_65 : decode cX9_beside 65 = .ok (.iaload, 1) := dk_46 (c := cX9_beside) (pc := 65) (dk_at bnames05cX9_beside_48 17)
theorem dX9_beside_66 : decode cX9_beside 66 = .ok (.aload_n 0, 1) := dk_42 (c := cX9_beside) (pc := 66) (dk_at bnames05cX9_beside_48 18)
theorem dX9_beside_67 : decode cX9_beside 67 = .ok (.getfield 92, 3) := dk_180 (c := cX9_beside) (pc := 67) (a := 0) (b := 92) (dk_at bnames05cX9_beside_48 19) rfl
theorem dX9_beside_70 : decode cX9_beside 70 = .ok (.iload_n 1, 1) := dk_27 (c := cX9_beside) (pc := 70) (dk_at bnames05cX9_beside_48 22)
theorem dX9_beside_71 : decode cX9_beside 71 = .ok (.iaload, 1) := dk_46 (c := cX9_beside) (pc := 71) (dk_at bnames05cX9_beside_48 23)
theorem dX9_beside_72 : decode cX9_beside 72 = .ok (.invokevirtual 319, 3) := dk_182 (c := cX9_beside) (pc := 72) (a := 1) (b := 63) (dk_at bnames05cX9_beside_48 24) rfl
theorem dX9_beside_75 : decode cX9_beside 75 = .ok (.isub, 1) := dk_100 (c := cX9_beside) (pc := 75) (dk_at bnames05cX9_beside_48 27)
theorem dX9_beside_76 : decode cX9_beside 76 = .ok (.ireturn, 1) := dk_172 (c := cX9_beside) (pc := 76) (dk_at bnames05cX9_beside_48 28)
set_option maxRecDepth 20000 in
theorem ggX9_isCounted_X9_strongBy : GoodIn wsX9_isCounted wsX9_strongBy := goodIn_r _ [12, 2, 13, 14, 15, 16, 17, 18, 19, 20, 21, 22, 23, 11, 24, 25, 26, 27, 28, 29, 30, 31, 32, 1, 33, 34, 35, 36, 37, 38, 39, 40, 41, 42, 43, 44, 45, 46, 47, 130, 131, 132, 133, 134, 135, 136, 137, 138, 139, 140, 141, 142, 143, 144, 145, 146, 147, 148, 149, 150, 151, 152, 153, 154, 155, 156, 157, 158, 159, 160, 161, 162, 163, 164, 165, 166, 167, 168, 169, 170, 171, 172, 173, 174, 175, 176, 177, 178, 179, 180, 181, 182, 183, 184, 185, 186, 187, 188, 189] rfl (by decide +kernel)
set_option maxRecDepth 20000 in
theorem gX9_isCounted_X9_strongBy : GoodIn wsX9_isCounted (wsV RX9 457 RX9 yX9_strongBy wsX9_strongBy) := goodIn_app (goodIn_r _ [8, 9, 10, 11] rfl (by decide +kernel)) ggX9_isCounted_X9_strongBy
set_option maxRecDepth 20000 in
theorem ggX9_isCounted_X9_truthOf : GoodIn wsX9_isCounted wsX9_truthOf := goodIn_r _ [51, 1, 52, 53, 54, 11, 55, 56, 34, 57, 58, 59, 60, 61, 62, 63, 64, 65, 26, 27, 28, 66, 67, 68, 69, 70, 71, 72, 73, 74, 75, 76, 77, 78, 79, 80, 81, 82, 83, 84, 4, 2, 85, 86, 87, 88, 42, 89, 90, 91, 92, 93, 94, 95, 96, 97, 98, 99, 100, 101, 102, 103, 104, 105, 106, 107, 3, 130, 131, 132, 133, 134, 135, 136, 137, 138, 139, 140, 141, 142, 143, 144, 145, 146, 147, 148, 149, 150, 151, 152, 153, 154, 155, 156, 157, 158, 159, 160, 161, 162, 163, 164, 165, 166, 167, 168, 169, 170, 171, 172, 173, 174, 175, 176, 177, 178, 179, 180, 181, 182, 183, 184, 185, 186, 187, 188, 189] rfl (by decide +kernel)
set_option maxRecDepth 20000 in
theorem gX9_isCounted_X9_truthOf : GoodIn wsX9_isCounted (wsV RX9 498 RX9 yX9_truthOf wsX9_truthOf) := goodIn_app (goodIn_r _ [48, 49, 50, 11] rfl (by decide +kernel)) ggX9_isCounted_X9_truthOf
set_option maxRecDepth 20000 in
theorem ggX9_isCounted_X9_pushes : GoodIn wsX9_isCounted wsX9_pushes := goodIn_r _ [32, 1, 33, 34, 13, 130, 131, 132, 133, 134, 135, 136, 137, 138, 139, 140, 141, 142, 143, 144, 145, 146, 147, 148, 149, 150, 151, 152, 153, 154, 155, 156, 157, 158, 159, 160, 161, 162, 163, 164, 165, 166, 167, 168, 169, 170, 171, 172, 173, 174, 175, 176, 177, 178, 179, 180, 181, 182, 183, 184, 185, 186, 187, 188, 189] rfl (by decide +kernel)
set_option maxRecDepth 20000 in
theorem gX9_isCounted_X9_pushes : GoodIn wsX9_isCounted (wsV RX9 410 RX9 yX9_pushes wsX9_pushes) := goodIn_app (goodIn_r _ [29, 30, 31, 11] rfl (by decide +kernel)) ggX9_isCounted_X9_pushes
set_option maxRecDepth 20000 in
theorem ggX9_isCounted_X9_spans : GoodIn wsX9_isCounted wsX9_spans := goodIn_r _ [111, 1, 7, 112, 35, 36, 37, 11, 38, 17, 15, 14, 16, 39, 40, 18, 41, 13, 42, 43, 33, 44, 45, 46, 47, 113, 114, 115, 116, 117, 118, 119, 120, 121, 21, 130, 131, 132, 133, 134, 135, 136, 137, 138, 139, 140, 141, 142, 143, 144, 145, 146, 147, 148, 149, 150, 151, 152, 153, 154, 155, 156, 157, 158, 159, 160, 161, 162, 163, 164, 165, 166, 167, 168, 169, 170, 171, 172, 173, 174, 175, 176, 177, 178, 179, 180, 181, 182, 183, 184, 185, 186, 187, 188, 189] rfl (by decide +kernel)
set_option maxRecDepth 20000 in
theorem gX9_isCounted_X9_spans : GoodIn wsX9_isCounted (wsV RX9 485 RX9 yX9_spans wsX9_spans) := goodIn_app (goodIn_r _ [108, 109, 110, 11] rfl (by decide +kernel)) ggX9_isCounted_X9_spans
set_option maxRecDepth 20000 in
theorem ggX9_isCounted_X9_usuals : GoodIn wsX9_isCounted wsX9_usuals := goodIn_r _ [125, 4, 1, 3, 5, 6, 7, 112, 126, 127, 128, 11, 129, 39, 15, 40, 17, 14, 16, 35, 36, 37, 38, 18, 41, 13, 42, 43, 33, 44, 45, 46, 47, 104, 105, 106, 107, 2, 81, 82, 83, 84, 26, 27, 28, 113, 114, 115, 116, 117, 118, 119, 120, 121, 21, 130, 131, 132, 133, 134, 135, 136, 137, 138, 139, 140, 141, 142, 143, 144, 145, 146, 147, 148, 149, 150, 151, 152, 153, 154, 155, 156, 157, 158, 159, 160, 161, 162, 163, 164, 165, 166, 167, 168, 169, 170, 171, 172, 173, 174, 175, 176, 177, 178, 179, 180, 181, 182, 183, 184, 185, 186, 187, 188, 189] rfl (by decide +kernel)
set_option maxRecDepth 20000 in
theorem gX9_isCounted_X9_usuals : GoodIn wsX9_isCounted (wsV RX9 491 RX9 yX9_usuals wsX9_usuals) := goodIn_app (goodIn_r _ [122, 123, 124, 11] rfl (by decide +kernel)) ggX9_isCounted_X9_usuals
set_option maxRecDepth 20000 in
theorem ggX9_isCounted_X9_in : GoodIn wsX9_isCounted wsX9_in := goodIn_r _ [28] rfl (by decide +kernel)
set_option maxRecDepth 20000 in
theorem gX9_isCounted_X9_in : GoodIn wsX9_isCounted (va_wsS RX9 130 yX9_in wsX9_in) := goodIn_app (goodIn_r _ [26, 27, 11] rfl (by decide +kernel)) ggX9_isCounted_X9_in
theorem bnames05cX9_isCounted_0 : ((dk_l cX9_isCounted).drop 0).take 52 = [29, 5, 160, 0, 40, 42, 27, 42, 180, 0, 89, 3, 46, 182, 1, 201, 55, 4, 22, 4, 20, 1, 152, 148, 153, 0, 16, 22, 4, 20, 1, 150, 148, 155, 0, 7, 4, 167, 0, 4, 3, 172, 42, 4, 182, 1, 242, 55, 4, 42, 180, 1] := by decide +kernel
theorem dX9_isCounted_0 : decode cX9_isCounted 0 = .ok (.iload_n 3, 1) := dk_29 (c := cX9_isCounted) (pc := 0) (dk_at bnames05cX9_isCounted_0 0)
theorem dX9_isCounted_1 : decode cX9_isCounted 1 = .ok (.iconst 2, 1) := dk_5 (c := cX9_isCounted) (pc := 1) (dk_at bnames05cX9_isCounted_0 1)
theorem dX9_isCounted_2 : decode cX9_isCounted 2 = .ok (.if_icmp .ne 40, 3) := dk_160 (c := cX9_isCounted) (pc := 2) (a := 0) (b := 40) (dk_at bnames05cX9_isCounted_0 2) (by decide)
theorem dX9_isCounted_5 : decode cX9_isCounted 5 = .ok (.aload_n 0, 1) := dk_42 (c := cX9_isCounted) (pc := 5) (dk_at bnames05cX9_isCounted_0 5)
theorem dX9_isCounted_6 : decode cX9_isCounted 6 = .ok (.iload_n 1, 1) := dk_27 (c := cX9_isCounted) (pc := 6) (dk_at bnames05cX9_isCounted_0 6)
theorem dX9_isCounted_7 : decode cX9_isCounted 7 = .ok (.aload_n 0, 1) := dk_42 (c := cX9_isCounted) (pc := 7) (dk_at bnames05cX9_isCounted_0 7)
theorem dX9_isCounted_8 : decode cX9_isCounted 8 = .ok (.getfield 89, 3) := dk_180 (c := cX9_isCounted) (pc := 8) (a := 0) (b := 89) (dk_at bnames05cX9_isCounted_0 8) rfl
theorem dX9_isCounted_11 : decode cX9_isCounted 11 = .ok (.iconst 0, 1) := dk_3 (c := cX9_isCounted) (pc := 11) (dk_at bnames05cX9_isCounted_0 11)
theorem dX9_isCounted_12 : decode cX9_isCounted 12 = .ok (.iaload, 1) := dk_46 (c := cX9_isCounted) (pc := 12) (dk_at bnames05cX9_isCounted_0 12)
theorem dX9_isCounted_13 : decode cX9_isCounted 13 = .ok (.invokevirtual 457, 3) := dk_182 (c := cX9_isCounted) (pc := 13) (a := 1) (b := 201) (dk_at bnames05cX9_isCounted_0 13) rfl
theorem dX9_isCounted_16 : decode cX9_isCounted 16 = .ok (.lstore 4, 2) := dk_55 (c := cX9_isCounted) (pc := 16) (a := 4) (dk_at bnames05cX9_isCounted_0 16) rfl
theorem dX9_isCounted_18 : decode cX9_isCounted 18 = .ok (.lload 4, 2) := dk_22 (c := cX9_isCounted) (pc := 18) (a := 4) (dk_at bnames05cX9_isCounted_0 18) rfl
theorem dX9_isCounted_20 : decode cX9_isCounted 20 = .ok (.ldc2_w 408, 3) := dk_20 (c := cX9_isCounted) (pc := 20) (a := 1) (b := 152) (dk_at bnames05cX9_isCounted_0 20) rfl
theorem dX9_isCounted_23 : decode cX9_isCounted 23 = .ok (.lcmp, 1) := dk_148 (c := cX9_isCounted) (pc := 23) (dk_at bnames05cX9_isCounted_0 23)
theorem dX9_isCounted_24 : decode cX9_isCounted 24 = .ok (.ifCond .eq 16, 3) := dk_153 (c := cX9_isCounted) (pc := 24) (a := 0) (b := 16) (dk_at bnames05cX9_isCounted_0 24) (by decide)
theorem dX9_isCounted_27 : decode cX9_isCounted 27 = .ok (.lload 4, 2) := dk_22 (c := cX9_isCounted) (pc := 27) (a := 4) (dk_at bnames05cX9_isCounted_0 27) rfl
theorem dX9_isCounted_29 : decode cX9_isCounted 29 = .ok (.ldc2_w 406, 3) := dk_20 (c := cX9_isCounted) (pc := 29) (a := 1) (b := 150) (dk_at bnames05cX9_isCounted_0 29) rfl
theorem dX9_isCounted_32 : decode cX9_isCounted 32 = .ok (.lcmp, 1) := dk_148 (c := cX9_isCounted) (pc := 32) (dk_at bnames05cX9_isCounted_0 32)
theorem dX9_isCounted_33 : decode cX9_isCounted 33 = .ok (.ifCond .lt 7, 3) := dk_155 (c := cX9_isCounted) (pc := 33) (a := 0) (b := 7) (dk_at bnames05cX9_isCounted_0 33) (by decide)
theorem dX9_isCounted_36 : decode cX9_isCounted 36 = .ok (.iconst 1, 1) := dk_4 (c := cX9_isCounted) (pc := 36) (dk_at bnames05cX9_isCounted_0 36)
theorem dX9_isCounted_37 : decode cX9_isCounted 37 = .ok (.goto 4, 3) := dk_167 (c := cX9_isCounted) (pc := 37) (a := 0) (b := 4) (dk_at bnames05cX9_isCounted_0 37) (by decide)
theorem dX9_isCounted_40 : decode cX9_isCounted 40 = .ok (.iconst 0, 1) := dk_3 (c := cX9_isCounted) (pc := 40) (dk_at bnames05cX9_isCounted_0 40)
theorem dX9_isCounted_41 : decode cX9_isCounted 41 = .ok (.ireturn, 1) := dk_172 (c := cX9_isCounted) (pc := 41) (dk_at bnames05cX9_isCounted_0 41)
theorem dX9_isCounted_42 : decode cX9_isCounted 42 = .ok (.aload_n 0, 1) := dk_42 (c := cX9_isCounted) (pc := 42) (dk_at bnames05cX9_isCounted_0 42)
theorem dX9_isCounted_43 : decode cX9_isCounted 43 = .ok (.iconst 1, 1) := dk_4 (c := cX9_isCounted) (pc := 43) (dk_at bnames05cX9_isCounted_0 43)
theorem dX9_isCounted_44 : decode cX9_isCounted 44 = .ok (.invokevirtual 498, 3) := dk_182 (c := cX9_isCounted) (pc := 44) (a := 1) (b := 242) (dk_at bnames05cX9_isCounted_0 44) rfl
theorem dX9_isCounted_47 : decode cX9_isCounted 47 = .ok (.lstore 4, 2) := dk_55 (c := cX9_isCounted) (pc := 47) (a := 4) (dk_at bnames05cX9_isCounted_0 47) rfl
theorem bnames05cX9_isCounted_48 : ((dk_l cX9_isCounted).drop 48).take 52 = [4, 42, 180, 1, 146, 54, 6, 42, 27, 182, 1, 154, 29, 154, 0, 11, 42, 28, 182, 1, 229, 167, 0, 8, 42, 28, 182, 1, 235, 54, 7, 21, 7, 153, 0, 48, 21, 6, 153, 0, 43, 22, 4, 20, 1, 150, 109, 20, 1, 219, 20, 1] := by decide +kernel
theorem dX9_isCounted_49 : decode cX9_isCounted 49 = .ok (.aload_n 0, 1) := dk_42 (c := cX9_isCounted) (pc := 49) (dk_at bnames05cX9_isCounted_48 1)
theorem dX9_isCounted_50 : decode cX9_isCounted 50 = .ok (.getfield 402, 3) := dk_180 (c := cX9_isCounted) (pc := 50) (a := 1) (b := 146) (dk_at bnames05cX9_isCounted_48 2) rfl
theorem dX9_isCounted_53 : decode cX9_isCounted 53 = .ok (.istore 6, 2) := dk_54 (c := cX9_isCounted) (pc := 53) (a := 6) (dk_at bnames05cX9_isCounted_48 5) rfl
theorem dX9_isCounted_55 : decode cX9_isCounted 55 = .ok (.aload_n 0, 1) := dk_42 (c := cX9_isCounted) (pc := 55) (dk_at bnames05cX9_isCounted_48 7)
theorem dX9_isCounted_56 : decode cX9_isCounted 56 = .ok (.iload_n 1, 1) := dk_27 (c := cX9_isCounted) (pc := 56) (dk_at bnames05cX9_isCounted_48 8)
theorem dX9_isCounted_57 : decode cX9_isCounted 57 = .ok (.invokevirtual 410, 3) := dk_182 (c := cX9_isCounted) (pc := 57) (a := 1) (b := 154) (dk_at bnames05cX9_isCounted_48 9) rfl
theorem dX9_isCounted_60 : decode cX9_isCounted 60 = .ok (.iload_n 3, 1) := dk_29 (c := cX9_isCounted) (pc := 60) (dk_at bnames05cX9_isCounted_48 12)
theorem dX9_isCounted_61 : decode cX9_isCounted 61 = .ok (.ifCond .ne 11, 3) := dk_154 (c := cX9_isCounted) (pc := 61) (a := 0) (b := 11) (dk_at bnames05cX9_isCounted_48 13) (by decide)
theorem dX9_isCounted_64 : decode cX9_isCounted 64 = .ok (.aload_n 0, 1) := dk_42 (c := cX9_isCounted) (pc := 64) (dk_at bnames05cX9_isCounted_48 16)
theorem dX9_isCounted_65 : decode cX9_isCounted 65 = .ok (.iload_n 2, 1) := dk_28 (c := cX9_isCounted) (pc := 65) (dk_at bnames05cX9_isCounted_48 17)
theorem dX9_isCounted_66 : decode cX9_isCounted 66 = .ok (.invokevirtual 485, 3) := dk_182 (c := cX9_isCounted) (pc := 66) (a := 1) (b := 229) (dk_at bnames05cX9_isCounted_48 18) rfl
theorem dX9_isCounted_69 : decode cX9_isCounted 69 = .ok (.goto 8, 3) := dk_167 (c := cX9_isCounted) (pc := 69) (a := 0) (b := 8) (dk_at bnames05cX9_isCounted_48 21) (by decide)
theorem dX9_isCounted_72 : decode cX9_isCounted 72 = .ok (.aload_n 0, 1) := dk_42 (c := cX9_isCounted) (pc := 72) (dk_at bnames05cX9_isCounted_48 24)
theorem dX9_isCounted_73 : decode cX9_isCounted 73 = .ok (.iload_n 2, 1) := dk_28 (c := cX9_isCounted) (pc := 73) (dk_at bnames05cX9_isCounted_48 25)
theorem dX9_isCounted_74 : decode cX9_isCounted 74 = .ok (.invokevirtual 491, 3) := dk_182 (c := cX9_isCounted) (pc := 74) (a := 1) (b := 235) (dk_at bnames05cX9_isCounted_48 26) rfl
theorem dX9_isCounted_77 : decode cX9_isCounted 77 = .ok (.istore 7, 2) := dk_54 (c := cX9_isCounted) (pc := 77) (a := 7) (dk_at bnames05cX9_isCounted_48 29) rfl
theorem dX9_isCounted_79 : decode cX9_isCounted 79 = .ok (.iload 7, 2) := dk_21 (c := cX9_isCounted) (pc := 79) (a := 7) (dk_at bnames05cX9_isCounted_48 31) rfl
theorem dX9_isCounted_81 : decode cX9_isCounted 81 = .ok (.ifCond .eq 48, 3) := dk_153 (c := cX9_isCounted) (pc := 81) (a := 0) (b := 48) (dk_at bnames05cX9_isCounted_48 33) (by decide)
theorem dX9_isCounted_84 : decode cX9_isCounted 84 = .ok (.iload 6, 2) := dk_21 (c := cX9_isCounted) (pc := 84) (a := 6) (dk_at bnames05cX9_isCounted_48 36) rfl
theorem dX9_isCounted_86 : decode cX9_isCounted 86 = .ok (.ifCond .eq 43, 3) := dk_153 (c := cX9_isCounted) (pc := 86) (a := 0) (b := 43) (dk_at bnames05cX9_isCounted_48 38) (by decide)
theorem dX9_isCounted_89 : decode cX9_isCounted 89 = .ok (.lload 4, 2) := dk_22 (c := cX9_isCounted) (pc := 89) (a := 4) (dk_at bnames05cX9_isCounted_48 41) rfl
theorem dX9_isCounted_91 : decode cX9_isCounted 91 = .ok (.ldc2_w 406, 3) := dk_20 (c := cX9_isCounted) (pc := 91) (a := 1) (b := 150) (dk_at bnames05cX9_isCounted_48 43) rfl
theorem dX9_isCounted_94 : decode cX9_isCounted 94 = .ok (.ldiv, 1) := dk_109 (c := cX9_isCounted) (pc := 94) (dk_at bnames05cX9_isCounted_48 46)
theorem dX9_isCounted_95 : decode cX9_isCounted 95 = .ok (.ldc2_w 475, 3) := dk_20 (c := cX9_isCounted) (pc := 95) (a := 1) (b := 219) (dk_at bnames05cX9_isCounted_48 47) rfl
theorem bnames05cX9_isCounted_96 : ((dk_l cX9_isCounted).drop 96).take 35 = [1, 219, 20, 1, 221, 184, 0, 130, 153, 0, 25, 42, 180, 0, 122, 16, 99, 22, 4, 20, 1, 150, 109, 136, 96, 51, 153, 0, 7, 4, 167, 0, 4, 3, 172] := by decide +kernel
theorem dX9_isCounted_98 : decode cX9_isCounted 98 = .ok (.ldc2_w 477, 3) := dk_20 (c := cX9_isCounted) (pc := 98) (a := 1) (b := 221) (dk_at bnames05cX9_isCounted_96 2) rfl
theorem dX9_isCounted_101 : decode cX9_isCounted 101 = .ok (.invokestatic 130, 3) := dk_184 (c := cX9_isCounted) (pc := 101) (a := 0) (b := 130) (dk_at bnames05cX9_isCounted_96 5) rfl
theorem dX9_isCounted_104 : decode cX9_isCounted 104 = .ok (.ifCond .eq 25, 3) := dk_153 (c := cX9_isCounted) (pc := 104) (a := 0) (b := 25) (dk_at bnames05cX9_isCounted_96 8) (by decide)
theorem dX9_isCounted_107 : decode cX9_isCounted 107 = .ok (.aload_n 0, 1) := dk_42 (c := cX9_isCounted) (pc := 107) (dk_at bnames05cX9_isCounted_96 11)
theorem dX9_isCounted_108 : decode cX9_isCounted 108 = .ok (.getfield 122, 3) := dk_180 (c := cX9_isCounted) (pc := 108) (a := 0) (b := 122) (dk_at bnames05cX9_isCounted_96 12) rfl
theorem dX9_isCounted_111 : decode cX9_isCounted 111 = .ok (.bipush 99, 2) := dk_16 (c := cX9_isCounted) (pc := 111) (a := 99) (dk_at bnames05cX9_isCounted_96 15) (by decide)
theorem dX9_isCounted_113 : decode cX9_isCounted 113 = .ok (.lload 4, 2) := dk_22 (c := cX9_isCounted) (pc := 113) (a := 4) (dk_at bnames05cX9_isCounted_96 17) rfl
theorem dX9_isCounted_115 : decode cX9_isCounted 115 = .ok (.ldc2_w 406, 3) := dk_20 (c := cX9_isCounted) (pc := 115) (a := 1) (b := 150) (dk_at bnames05cX9_isCounted_96 19) rfl
theorem dX9_isCounted_118 : decode cX9_isCounted 118 = .ok (.ldiv, 1) := dk_109 (c := cX9_isCounted) (pc := 118) (dk_at bnames05cX9_isCounted_96 22)
theorem dX9_isCounted_119 : decode cX9_isCounted 119 = .ok (.l2i, 1) := dk_136 (c := cX9_isCounted) (pc := 119) (dk_at bnames05cX9_isCounted_96 23)
theorem dX9_isCounted_120 : decode cX9_isCounted 120 = .ok (.iadd, 1) := dk_96 (c := cX9_isCounted) (pc := 120) (dk_at bnames05cX9_isCounted_96 24)
theorem dX9_isCounted_121 : decode cX9_isCounted 121 = .ok (.baload, 1) := dk_51 (c := cX9_isCounted) (pc := 121) (dk_at bnames05cX9_isCounted_96 25)
theorem dX9_isCounted_122 : decode cX9_isCounted 122 = .ok (.ifCond .eq 7, 3) := dk_153 (c := cX9_isCounted) (pc := 122) (a := 0) (b := 7) (dk_at bnames05cX9_isCounted_96 26) (by decide)
theorem dX9_isCounted_125 : decode cX9_isCounted 125 = .ok (.iconst 1, 1) := dk_4 (c := cX9_isCounted) (pc := 125) (dk_at bnames05cX9_isCounted_96 29)
theorem dX9_isCounted_126 : decode cX9_isCounted 126 = .ok (.goto 4, 3) := dk_167 (c := cX9_isCounted) (pc := 126) (a := 0) (b := 4) (dk_at bnames05cX9_isCounted_96 30) (by decide)
theorem dX9_isCounted_129 : decode cX9_isCounted 129 = .ok (.iconst 0, 1) := dk_3 (c := cX9_isCounted) (pc := 129) (dk_at bnames05cX9_isCounted_96 33)
theorem dX9_isCounted_130 : decode cX9_isCounted 130 = .ok (.ireturn, 1) := dk_172 (c := cX9_isCounted) (pc := 130) (dk_at bnames05cX9_isCounted_96 34)
set_option maxRecDepth 20000 in
theorem ggX9_worlds_X9_isSpan : GoodIn wsX9_worlds wsX9_isSpan := goodIn_r _ [10, 11, 12, 13, 9, 14, 15, 16, 17, 18] rfl (by decide +kernel)
set_option maxRecDepth 20000 in
theorem gX9_worlds_X9_isSpan : GoodIn wsX9_worlds (va_wsS RX9 481 yX9_isSpan wsX9_isSpan) := goodIn_app (goodIn_r _ [7, 8, 9] rfl (by decide +kernel)) ggX9_worlds_X9_isSpan
set_option maxRecDepth 20000 in
theorem ggX9_worlds_X9_isSeed : GoodIn wsX9_worlds wsX9_isSeed := goodIn_r _ [21, 22, 16, 17, 9, 18] rfl (by decide +kernel)
set_option maxRecDepth 20000 in
theorem gX9_worlds_X9_isSeed : GoodIn wsX9_worlds (va_wsS RX9 347 yX9_isSeed wsX9_isSeed) := goodIn_app (goodIn_r _ [19, 20, 9] rfl (by decide +kernel)) ggX9_worlds_X9_isSeed
set_option maxRecDepth 20000 in
theorem ggX9_worlds_X9_in : GoodIn wsX9_worlds wsX9_in := goodIn_r _ [18] rfl (by decide +kernel)
set_option maxRecDepth 20000 in
theorem gX9_worlds_X9_in : GoodIn wsX9_worlds (va_wsS RX9 130 yX9_in wsX9_in) := goodIn_app (goodIn_r _ [16, 17, 9] rfl (by decide +kernel)) ggX9_worlds_X9_in
set_option maxRecDepth 20000 in
theorem ggX9_worlds_X9_copySheets : GoodIn wsX9_worlds wsX9_copySheets := goodIn_r _ [26, 6, 27, 28, 29, 9, 30, 31, 32, 33, 34, 35, 36, 176, 177, 178, 179, 180, 181, 182, 183, 184, 185, 186, 187, 188, 189, 190, 191, 192, 193, 194, 195, 196, 197, 198, 199, 200, 201, 202, 203, 204, 205, 206, 207, 208, 209, 210, 211, 212, 213, 214, 215, 216, 217, 218, 219, 220, 221, 222, 223, 224, 225, 226, 227, 228, 229, 230, 231, 232, 233, 234, 235] rfl (by decide +kernel)
set_option maxRecDepth 20000 in
theorem gX9_worlds_X9_copySheets : GoodIn wsX9_worlds (wsV RX9 507 RX9 yX9_copySheets wsX9_copySheets) := goodIn_app (goodIn_r _ [23, 24, 25, 9] rfl (by decide +kernel)) ggX9_worlds_X9_copySheets
set_option maxRecDepth 20000 in
theorem ggX9_worlds_X9_draws : GoodIn wsX9_worlds wsX9_draws := goodIn_r _ [40, 41, 5, 42, 4, 31, 32, 36, 43, 44, 35, 45, 46, 33, 34, 47, 6, 48, 49, 50, 9, 51, 52, 53, 54, 55, 56, 57, 58, 59, 60, 61, 62, 63, 64, 65, 66, 67, 68, 69, 70, 71, 72, 73, 74, 75, 76, 77, 78, 79, 80, 81, 82, 83, 176, 177, 178, 179, 180, 181, 182, 183, 184, 185, 186, 187, 188, 189, 190, 191, 192, 193, 194, 195, 196, 197, 198, 199, 200, 201, 202, 203, 204, 205, 206, 207, 208, 209, 210, 211, 212, 213, 214, 215, 216, 217, 218, 219, 220, 221, 222, 223, 224, 225, 226, 227, 228, 229, 230, 231, 232, 233, 234, 235] rfl (by decide +kernel)
set_option maxRecDepth 20000 in
theorem gX9_worlds_X9_draws : GoodIn wsX9_worlds (wsV RX9 352 RX9 yX9_draws wsX9_draws) := goodIn_app (goodIn_r _ [37, 38, 39, 9] rfl (by decide +kernel)) ggX9_worlds_X9_draws
set_option maxRecDepth 20000 in
theorem ggX9_worlds_X9_isCounted : GoodIn wsX9_worlds wsX9_isCounted := goodIn_r _ [87, 6, 88, 89, 90, 91, 92, 93, 94, 95, 96, 9, 97, 98, 99, 100, 101, 102, 103, 104, 105, 3, 12, 13, 14, 15, 16, 17, 18, 106, 107, 108, 109, 110, 32, 111, 112, 113, 114, 115, 116, 117, 33, 34, 118, 119, 120, 121, 122, 123, 124, 125, 126, 127, 128, 129, 31, 36, 130, 131, 132, 133, 134, 135, 136, 137, 138, 139, 140, 141, 4, 60, 61, 62, 63, 64, 65, 66, 67, 68, 69, 142, 143, 144, 145, 146, 147, 148, 149, 35, 70, 71, 72, 73, 74, 75, 76, 77, 78, 79, 80, 81, 82, 83, 150, 151, 152, 153, 154, 155, 156, 157, 158, 159, 160, 161, 162, 163, 164, 165, 166, 167, 168, 169, 170, 171, 172, 173, 174, 175, 176, 177, 178, 179, 180, 181, 182, 183, 184, 185, 186, 187, 188, 189, 190, 191, 192, 193, 194, 195, 196, 197, 198, 199, 200, 201, 202, 203, 204, 205, 206, 207, 208, 209, 210, 211, 212, 213, 214, 215, 216, 217, 218, 219, 220, 221, 222, 223, 224, 225, 226, 227, 228, 229, 230, 231, 232, 233, 234, 235] rfl (by decide +kernel)
set_option maxRecDepth 20000 in
theorem gX9_worlds_X9_isCounted : GoodIn wsX9_worlds (wsV RX9 510 RX9 yX9_isCounted wsX9_isCounted) := goodIn_app (goodIn_r _ [84, 85, 86, 9] rfl (by decide +kernel)) ggX9_worlds_X9_isCounted
theorem bnames05cX9_worlds_0 : ((dk_l cX9_worlds).drop 0).take 52 = [42, 3, 181, 0, 125, 27, 21, 4, 184, 1, 225, 153, 0, 35, 28, 184, 1, 91, 153, 0, 28, 29, 133, 10, 20, 1, 249, 184, 0, 130, 153, 0, 16, 21, 5, 133, 9, 20, 1, 199, 184, 0, 130, 154, 0, 6, 16, 254, 172, 42, 180, 0] := by decide +kernel
theorem dX9_worlds_0 : decode cX9_worlds 0 = .ok (.aload_n 0, 1) := dk_42 (c := cX9_worlds) (pc := 0) (dk_at bnames05cX9_worlds_0 0)
theorem dX9_worlds_1 : decode cX9_worlds 1 = .ok (.iconst 0, 1) := dk_3 (c := cX9_worlds) (pc := 1) (dk_at bnames05cX9_worlds_0 1)
theorem dX9_worlds_2 : decode cX9_worlds 2 = .ok (.putfield 125, 3) := dk_181 (c := cX9_worlds) (pc := 2) (a := 0) (b := 125) (dk_at bnames05cX9_worlds_0 2) rfl
theorem dX9_worlds_5 : decode cX9_worlds 5 = .ok (.iload_n 1, 1) := dk_27 (c := cX9_worlds) (pc := 5) (dk_at bnames05cX9_worlds_0 5)
theorem dX9_worlds_6 : decode cX9_worlds 6 = .ok (.iload 4, 2) := dk_21 (c := cX9_worlds) (pc := 6) (a := 4) (dk_at bnames05cX9_worlds_0 6) rfl
theorem dX9_worlds_8 : decode cX9_worlds 8 = .ok (.invokestatic 481, 3) := dk_184 (c := cX9_worlds) (pc := 8) (a := 1) (b := 225) (dk_at bnames05cX9_worlds_0 8) rfl
theorem dX9_worlds_11 : decode cX9_worlds 11 = .ok (.ifCond .eq 35, 3) := dk_153 (c := cX9_worlds) (pc := 11) (a := 0) (b := 35) (dk_at bnames05cX9_worlds_0 11) (by decide)
theorem dX9_worlds_14 : decode cX9_worlds 14 = .ok (.iload_n 2, 1) := dk_28 (c := cX9_worlds) (pc := 14) (dk_at bnames05cX9_worlds_0 14)
theorem dX9_worlds_15 : decode cX9_worlds 15 = .ok (.invokestatic 347, 3) := dk_184 (c := cX9_worlds) (pc := 15) (a := 1) (b := 91) (dk_at bnames05cX9_worlds_0 15) rfl
theorem dX9_worlds_18 : decode cX9_worlds 18 = .ok (.ifCond .eq 28, 3) := dk_153 (c := cX9_worlds) (pc := 18) (a := 0) (b := 28) (dk_at bnames05cX9_worlds_0 18) (by decide)
theorem dX9_worlds_21 : decode cX9_worlds 21 = .ok (.iload_n 3, 1) := dk_29 (c := cX9_worlds) (pc := 21) (dk_at bnames05cX9_worlds_0 21)
theorem dX9_worlds_22 : decode cX9_worlds 22 = .ok (.i2l, 1) := dk_133 (c := cX9_worlds) (pc := 22) (dk_at bnames05cX9_worlds_0 22)
theorem dX9_worlds_23 : decode cX9_worlds 23 = .ok (.lconst 1, 1) := dk_10 (c := cX9_worlds) (pc := 23) (dk_at bnames05cX9_worlds_0 23)
theorem dX9_worlds_24 : decode cX9_worlds 24 = .ok (.ldc2_w 505, 3) := dk_20 (c := cX9_worlds) (pc := 24) (a := 1) (b := 249) (dk_at bnames05cX9_worlds_0 24) rfl
theorem dX9_worlds_27 : decode cX9_worlds 27 = .ok (.invokestatic 130, 3) := dk_184 (c := cX9_worlds) (pc := 27) (a := 0) (b := 130) (dk_at bnames05cX9_worlds_0 27) rfl
theorem dX9_worlds_30 : decode cX9_worlds 30 = .ok (.ifCond .eq 16, 3) := dk_153 (c := cX9_worlds) (pc := 30) (a := 0) (b := 16) (dk_at bnames05cX9_worlds_0 30) (by decide)
theorem dX9_worlds_33 : decode cX9_worlds 33 = .ok (.iload 5, 2) := dk_21 (c := cX9_worlds) (pc := 33) (a := 5) (dk_at bnames05cX9_worlds_0 33) rfl
theorem dX9_worlds_35 : decode cX9_worlds 35 = .ok (.i2l, 1) := dk_133 (c := cX9_worlds) (pc := 35) (dk_at bnames05cX9_worlds_0 35)
theorem dX9_worlds_36 : decode cX9_worlds 36 = .ok (.lconst 0, 1) := dk_9 (c := cX9_worlds) (pc := 36) (dk_at bnames05cX9_worlds_0 36)
theorem dX9_worlds_37 : decode cX9_worlds 37 = .ok (.ldc2_w 455, 3) := dk_20 (c := cX9_worlds) (pc := 37) (a := 1) (b := 199) (dk_at bnames05cX9_worlds_0 37) rfl
theorem dX9_worlds_40 : decode cX9_worlds 40 = .ok (.invokestatic 130, 3) := dk_184 (c := cX9_worlds) (pc := 40) (a := 0) (b := 130) (dk_at bnames05cX9_worlds_0 40) rfl
theorem dX9_worlds_43 : decode cX9_worlds 43 = .ok (.ifCond .ne 6, 3) := dk_154 (c := cX9_worlds) (pc := 43) (a := 0) (b := 6) (dk_at bnames05cX9_worlds_0 43) (by decide)
theorem dX9_worlds_46 : decode cX9_worlds 46 = .ok (.bipush (-2), 2) := dk_16 (c := cX9_worlds) (pc := 46) (a := 254) (dk_at bnames05cX9_worlds_0 46) (by decide)
theorem bnames05cX9_worlds_48 : ((dk_l cX9_worlds).drop 48).take 52 = [172, 42, 180, 0, 34, 3, 46, 153, 0, 21, 42, 180, 0, 43, 3, 46, 153, 0, 12, 42, 180, 0, 89, 3, 46, 154, 0, 6, 16, 250, 172, 42, 3, 7, 182, 1, 251, 3, 54, 6, 3, 54, 7, 21, 7, 29, 162, 0, 47, 42, 28, 133] := by decide +kernel
theorem dX9_worlds_48 : decode cX9_worlds 48 = .ok (.ireturn, 1) := dk_172 (c := cX9_worlds) (pc := 48) (dk_at bnames05cX9_worlds_48 0)
theorem dX9_worlds_49 : decode cX9_worlds 49 = .ok (.aload_n 0, 1) := dk_42 (c := cX9_worlds) (pc := 49) (dk_at bnames05cX9_worlds_48 1)
theorem dX9_worlds_50 : decode cX9_worlds 50 = .ok (.getfield 34, 3) := dk_180 (c := cX9_worlds) (pc := 50) (a := 0) (b := 34) (dk_at bnames05cX9_worlds_48 2) rfl
theorem dX9_worlds_53 : decode cX9_worlds 53 = .ok (.iconst 0, 1) := dk_3 (c := cX9_worlds) (pc := 53) (dk_at bnames05cX9_worlds_48 5)
theorem dX9_worlds_54 : decode cX9_worlds 54 = .ok (.iaload, 1) := dk_46 (c := cX9_worlds) (pc := 54) (dk_at bnames05cX9_worlds_48 6)
theorem dX9_worlds_55 : decode cX9_worlds 55 = .ok (.ifCond .eq 21, 3) := dk_153 (c := cX9_worlds) (pc := 55) (a := 0) (b := 21) (dk_at bnames05cX9_worlds_48 7) (by decide)
theorem dX9_worlds_58 : decode cX9_worlds 58 = .ok (.aload_n 0, 1) := dk_42 (c := cX9_worlds) (pc := 58) (dk_at bnames05cX9_worlds_48 10)
theorem dX9_worlds_59 : decode cX9_worlds 59 = .ok (.getfield 43, 3) := dk_180 (c := cX9_worlds) (pc := 59) (a := 0) (b := 43) (dk_at bnames05cX9_worlds_48 11) rfl
theorem dX9_worlds_62 : decode cX9_worlds 62 = .ok (.iconst 0, 1) := dk_3 (c := cX9_worlds) (pc := 62) (dk_at bnames05cX9_worlds_48 14)
theorem dX9_worlds_63 : decode cX9_worlds 63 = .ok (.iaload, 1) := dk_46 (c := cX9_worlds) (pc := 63) (dk_at bnames05cX9_worlds_48 15)
theorem dX9_worlds_64 : decode cX9_worlds 64 = .ok (.ifCond .eq 12, 3) := dk_153 (c := cX9_worlds) (pc := 64) (a := 0) (b := 12) (dk_at bnames05cX9_worlds_48 16) (by decide)
theorem dX9_worlds_67 : decode cX9_worlds 67 = .ok (.aload_n 0, 1) := dk_42 (c := cX9_worlds) (pc := 67) (dk_at bnames05cX9_worlds_48 19)
theorem dX9_worlds_68 : decode cX9_worlds 68 = .ok (.getfield 89, 3) := dk_180 (c := cX9_worlds) (pc := 68) (a := 0) (b := 89) (dk_at bnames05cX9_worlds_48 20) rfl
theorem dX9_worlds_71 : decode cX9_worlds 71 = .ok (.iconst 0, 1) := dk_3 (c := cX9_worlds) (pc := 71) (dk_at bnames05cX9_worlds_48 23)
theorem dX9_worlds_72 : decode cX9_worlds 72 = .ok (.iaload, 1) := dk_46 (c := cX9_worlds) (pc := 72) (dk_at bnames05cX9_worlds_48 24)
theorem dX9_worlds_73 : decode cX9_worlds 73 = .ok (.ifCond .ne 6, 3) := dk_154 (c := cX9_worlds) (pc := 73) (a := 0) (b := 6) (dk_at bnames05cX9_worlds_48 25) (by decide)
theorem dX9_worlds_76 : decode cX9_worlds 76 = .ok (.bipush (-6), 2) := dk_16 (c := cX9_worlds) (pc := 76) (a := 250) (dk_at bnames05cX9_worlds_48 28) (by decide)
theorem dX9_worlds_78 : decode cX9_worlds 78 = .ok (.ireturn, 1) := dk_172 (c := cX9_worlds) (pc := 78) (dk_at bnames05cX9_worlds_48 30)
theorem dX9_worlds_79 : decode cX9_worlds 79 = .ok (.aload_n 0, 1) := dk_42 (c := cX9_worlds) (pc := 79) (dk_at bnames05cX9_worlds_48 31)
theorem dX9_worlds_80 : decode cX9_worlds 80 = .ok (.iconst 0, 1) := dk_3 (c := cX9_worlds) (pc := 80) (dk_at bnames05cX9_worlds_48 32)
theorem dX9_worlds_81 : decode cX9_worlds 81 = .ok (.iconst 4, 1) := dk_7 (c := cX9_worlds) (pc := 81) (dk_at bnames05cX9_worlds_48 33)
theorem dX9_worlds_82 : decode cX9_worlds 82 = .ok (.invokevirtual 507, 3) := dk_182 (c := cX9_worlds) (pc := 82) (a := 1) (b := 251) (dk_at bnames05cX9_worlds_48 34) rfl
theorem dX9_worlds_85 : decode cX9_worlds 85 = .ok (.iconst 0, 1) := dk_3 (c := cX9_worlds) (pc := 85) (dk_at bnames05cX9_worlds_48 37)
theorem dX9_worlds_86 : decode cX9_worlds 86 = .ok (.istore 6, 2) := dk_54 (c := cX9_worlds) (pc := 86) (a := 6) (dk_at bnames05cX9_worlds_48 38) rfl
theorem dX9_worlds_88 : decode cX9_worlds 88 = .ok (.iconst 0, 1) := dk_3 (c := cX9_worlds) (pc := 88) (dk_at bnames05cX9_worlds_48 40)
theorem dX9_worlds_89 : decode cX9_worlds 89 = .ok (.istore 7, 2) := dk_54 (c := cX9_worlds) (pc := 89) (a := 7) (dk_at bnames05cX9_worlds_48 41) rfl
theorem dX9_worlds_91 : decode cX9_worlds 91 = .ok (.iload 7, 2) := dk_21 (c := cX9_worlds) (pc := 91) (a := 7) (dk_at bnames05cX9_worlds_48 43) rfl
theorem dX9_worlds_93 : decode cX9_worlds 93 = .ok (.iload_n 3, 1) := dk_29 (c := cX9_worlds) (pc := 93) (dk_at bnames05cX9_worlds_48 45)
theorem dX9_worlds_94 : decode cX9_worlds 94 = .ok (.if_icmp .ge 47, 3) := dk_162 (c := cX9_worlds) (pc := 94) (a := 0) (b := 47) (dk_at bnames05cX9_worlds_48 46) (by decide)
theorem bnames05cX9_worlds_96 : ((dk_l cX9_worlds).drop 96).take 52 = [47, 42, 28, 133, 21, 7, 133, 97, 42, 180, 0, 89, 7, 46, 182, 1, 96, 21, 6, 42, 27, 21, 4, 21, 5, 182, 1, 254, 153, 0, 7, 4, 167, 0, 4, 3, 96, 54, 6, 132, 7, 1, 167, 255, 209, 42, 7, 3, 182, 1, 251, 21] := by decide +kernel
theorem dX9_worlds_97 : decode cX9_worlds 97 = .ok (.aload_n 0, 1) := dk_42 (c := cX9_worlds) (pc := 97) (dk_at bnames05cX9_worlds_96 1)
theorem dX9_worlds_98 : decode cX9_worlds 98 = .ok (.iload_n 2, 1) := dk_28 (c := cX9_worlds) (pc := 98) (dk_at bnames05cX9_worlds_96 2)
theorem dX9_worlds_99 : decode cX9_worlds 99 = .ok (.i2l, 1) := dk_133 (c := cX9_worlds) (pc := 99) (dk_at bnames05cX9_worlds_96 3)
theorem dX9_worlds_100 : decode cX9_worlds 100 = .ok (.iload 7, 2) := dk_21 (c := cX9_worlds) (pc := 100) (a := 7) (dk_at bnames05cX9_worlds_96 4) rfl
theorem dX9_worlds_102 : decode cX9_worlds 102 = .ok (.i2l, 1) := dk_133 (c := cX9_worlds) (pc := 102) (dk_at bnames05cX9_worlds_96 6)
theorem dX9_worlds_103 : decode cX9_worlds 103 = .ok (.ladd, 1) := dk_97 (c := cX9_worlds) (pc := 103) (dk_at bnames05cX9_worlds_96 7)
theorem dX9_worlds_104 : decode cX9_worlds 104 = .ok (.aload_n 0, 1) := dk_42 (c := cX9_worlds) (pc := 104) (dk_at bnames05cX9_worlds_96 8)
theorem dX9_worlds_105 : decode cX9_worlds 105 = .ok (.getfield 89, 3) := dk_180 (c := cX9_worlds) (pc := 105) (a := 0) (b := 89) (dk_at bnames05cX9_worlds_96 9) rfl
theorem dX9_worlds_108 : decode cX9_worlds 108 = .ok (.iconst 4, 1) := dk_7 (c := cX9_worlds) (pc := 108) (dk_at bnames05cX9_worlds_96 12)
theorem dX9_worlds_109 : decode cX9_worlds 109 = .ok (.iaload, 1) := dk_46 (c := cX9_worlds) (pc := 109) (dk_at bnames05cX9_worlds_96 13)
theorem dX9_worlds_110 : decode cX9_worlds 110 = .ok (.invokevirtual 352, 3) := dk_182 (c := cX9_worlds) (pc := 110) (a := 1) (b := 96) (dk_at bnames05cX9_worlds_96 14) rfl
theorem dX9_worlds_113 : decode cX9_worlds 113 = .ok (.iload 6, 2) := dk_21 (c := cX9_worlds) (pc := 113) (a := 6) (dk_at bnames05cX9_worlds_96 17) rfl
theorem dX9_worlds_115 : decode cX9_worlds 115 = .ok (.aload_n 0, 1) := dk_42 (c := cX9_worlds) (pc := 115) (dk_at bnames05cX9_worlds_96 19)
theorem dX9_worlds_116 : decode cX9_worlds 116 = .ok (.iload_n 1, 1) := dk_27 (c := cX9_worlds) (pc := 116) (dk_at bnames05cX9_worlds_96 20)
theorem dX9_worlds_117 : decode cX9_worlds 117 = .ok (.iload 4, 2) := dk_21 (c := cX9_worlds) (pc := 117) (a := 4) (dk_at bnames05cX9_worlds_96 21) rfl
theorem dX9_worlds_119 : decode cX9_worlds 119 = .ok (.iload 5, 2) := dk_21 (c := cX9_worlds) (pc := 119) (a := 5) (dk_at bnames05cX9_worlds_96 23) rfl
theorem dX9_worlds_121 : decode cX9_worlds 121 = .ok (.invokevirtual 510, 3) := dk_182 (c := cX9_worlds) (pc := 121) (a := 1) (b := 254) (dk_at bnames05cX9_worlds_96 25) rfl
theorem dX9_worlds_124 : decode cX9_worlds 124 = .ok (.ifCond .eq 7, 3) := dk_153 (c := cX9_worlds) (pc := 124) (a := 0) (b := 7) (dk_at bnames05cX9_worlds_96 28) (by decide)
theorem dX9_worlds_127 : decode cX9_worlds 127 = .ok (.iconst 1, 1) := dk_4 (c := cX9_worlds) (pc := 127) (dk_at bnames05cX9_worlds_96 31)
theorem dX9_worlds_128 : decode cX9_worlds 128 = .ok (.goto 4, 3) := dk_167 (c := cX9_worlds) (pc := 128) (a := 0) (b := 4) (dk_at bnames05cX9_worlds_96 32) (by decide)
theorem dX9_worlds_131 : decode cX9_worlds 131 = .ok (.iconst 0, 1) := dk_3 (c := cX9_worlds) (pc := 131) (dk_at bnames05cX9_worlds_96 35)
theorem dX9_worlds_132 : decode cX9_worlds 132 = .ok (.iadd, 1) := dk_96 (c := cX9_worlds) (pc := 132) (dk_at bnames05cX9_worlds_96 36)
theorem dX9_worlds_133 : decode cX9_worlds 133 = .ok (.istore 6, 2) := dk_54 (c := cX9_worlds) (pc := 133) (a := 6) (dk_at bnames05cX9_worlds_96 37) rfl
theorem dX9_worlds_135 : decode cX9_worlds 135 = .ok (.iinc 7 1, 3) := dk_132 (c := cX9_worlds) (pc := 135) (a := 7) (b := 1) (dk_at bnames05cX9_worlds_96 39) rfl (by decide)
theorem dX9_worlds_138 : decode cX9_worlds 138 = .ok (.goto (-47), 3) := dk_167 (c := cX9_worlds) (pc := 138) (a := 255) (b := 209) (dk_at bnames05cX9_worlds_96 42) (by decide)
theorem dX9_worlds_141 : decode cX9_worlds 141 = .ok (.aload_n 0, 1) := dk_42 (c := cX9_worlds) (pc := 141) (dk_at bnames05cX9_worlds_96 45)
theorem dX9_worlds_142 : decode cX9_worlds 142 = .ok (.iconst 4, 1) := dk_7 (c := cX9_worlds) (pc := 142) (dk_at bnames05cX9_worlds_96 46)
theorem dX9_worlds_143 : decode cX9_worlds 143 = .ok (.iconst 0, 1) := dk_3 (c := cX9_worlds) (pc := 143) (dk_at bnames05cX9_worlds_96 47)
theorem bnames05cX9_worlds_144 : ((dk_l cX9_worlds).drop 144).take 6 = [182, 1, 251, 21, 6, 172] := by decide +kernel
theorem dX9_worlds_144 : decode cX9_worlds 144 = .ok (.invokevirtual 507, 3) := dk_182 (c := cX9_worlds) (pc := 144) (a := 1) (b := 251) (dk_at bnames05cX9_worlds_144 0) rfl
theorem dX9_worlds_147 : decode cX9_worlds 147 = .ok (.iload 6, 2) := dk_21 (c := cX9_worlds) (pc := 147) (a := 6) (dk_at bnames05cX9_worlds_144 3) rfl
theorem dX9_worlds_149 : decode cX9_worlds 149 = .ok (.ireturn, 1) := dk_172 (c := cX9_worlds) (pc := 149) (dk_at bnames05cX9_worlds_144 5)
set_option maxRecDepth 20000 in
theorem ggX9_only_X9_isState : GoodIn wsX9_only wsX9_isState := goodIn_r _ [8, 9, 10, 11, 7, 12, 22, 23, 24, 25, 26, 27, 28, 29, 30, 31, 32, 33, 34, 35, 36, 37, 38, 39, 40, 41, 42, 43, 44, 45, 46, 47, 48, 49, 50, 51, 52, 53, 54, 55, 56, 57, 58, 59, 60, 61, 62, 63, 64, 65, 66, 67, 68, 69, 70, 71, 72, 73, 74, 75, 76, 77, 78, 79, 80, 81] rfl (by decide +kernel)
set_option maxRecDepth 20000 in
theorem gX9_only_X9_isState : GoodIn wsX9_only (wsV RX9 296 RX9 yX9_isState wsX9_isState) := goodIn_app (goodIn_r _ [4, 5, 6, 7] rfl (by decide +kernel)) ggX9_only_X9_isState
set_option maxRecDepth 20000 in
theorem ggX9_only_X9_copySheet : GoodIn wsX9_only wsX9_copySheet := goodIn_r _ [16, 3, 17, 18, 19, 20, 21, 22, 23, 24, 25, 26, 27, 28, 29, 30, 31, 32, 33, 34, 35, 36, 37, 38, 39, 40, 41, 42, 43, 44, 45, 46, 47, 48, 49, 50, 51, 52, 53, 54, 55, 56, 57, 58, 59, 60, 61, 62, 63, 64, 65, 66, 67, 68, 69, 70, 71, 72, 73, 74, 75, 76, 77, 78, 79, 80, 81] rfl (by decide +kernel)
set_option maxRecDepth 20000 in
theorem gX9_only_X9_copySheet : GoodIn wsX9_only (wsV RX9 323 RX9 yX9_copySheet wsX9_copySheet) := goodIn_app (goodIn_r _ [13, 14, 15, 7] rfl (by decide +kernel)) ggX9_only_X9_copySheet
theorem bnames05cX9_only_0 : ((dk_l cX9_only).drop 0).take 52 = [42, 3, 181, 0, 125, 42, 27, 182, 1, 40, 154, 0, 6, 16, 254, 172, 3, 61, 3, 62, 29, 42, 180, 0, 89, 3, 46, 162, 0, 31, 42, 180, 0, 92, 29, 46, 27, 159, 0, 6, 167, 0, 12, 42, 29, 28, 182, 1, 67, 132, 2, 1] := by decide +kernel
theorem dX9_only_0 : decode cX9_only 0 = .ok (.aload_n 0, 1) := dk_42 (c := cX9_only) (pc := 0) (dk_at bnames05cX9_only_0 0)
theorem dX9_only_1 : decode cX9_only 1 = .ok (.iconst 0, 1) := dk_3 (c := cX9_only) (pc := 1) (dk_at bnames05cX9_only_0 1)
theorem dX9_only_2 : decode cX9_only 2 = .ok (.putfield 125, 3) := dk_181 (c := cX9_only) (pc := 2) (a := 0) (b := 125) (dk_at bnames05cX9_only_0 2) rfl
theorem dX9_only_5 : decode cX9_only 5 = .ok (.aload_n 0, 1) := dk_42 (c := cX9_only) (pc := 5) (dk_at bnames05cX9_only_0 5)
theorem dX9_only_6 : decode cX9_only 6 = .ok (.iload_n 1, 1) := dk_27 (c := cX9_only) (pc := 6) (dk_at bnames05cX9_only_0 6)
theorem dX9_only_7 : decode cX9_only 7 = .ok (.invokevirtual 296, 3) := dk_182 (c := cX9_only) (pc := 7) (a := 1) (b := 40) (dk_at bnames05cX9_only_0 7) rfl
theorem dX9_only_10 : decode cX9_only 10 = .ok (.ifCond .ne 6, 3) := dk_154 (c := cX9_only) (pc := 10) (a := 0) (b := 6) (dk_at bnames05cX9_only_0 10) (by decide)
theorem dX9_only_13 : decode cX9_only 13 = .ok (.bipush (-2), 2) := dk_16 (c := cX9_only) (pc := 13) (a := 254) (dk_at bnames05cX9_only_0 13) (by decide)
theorem dX9_only_15 : decode cX9_only 15 = .ok (.ireturn, 1) := dk_172 (c := cX9_only) (pc := 15) (dk_at bnames05cX9_only_0 15)
theorem dX9_only_16 : decode cX9_only 16 = .ok (.iconst 0, 1) := dk_3 (c := cX9_only) (pc := 16) (dk_at bnames05cX9_only_0 16)
theorem dX9_only_17 : decode cX9_only 17 = .ok (.istore_n 2, 1) := dk_61 (c := cX9_only) (pc := 17) (dk_at bnames05cX9_only_0 17)
theorem dX9_only_18 : decode cX9_only 18 = .ok (.iconst 0, 1) := dk_3 (c := cX9_only) (pc := 18) (dk_at bnames05cX9_only_0 18)
theorem dX9_only_19 : decode cX9_only 19 = .ok (.istore_n 3, 1) := dk_62 (c := cX9_only) (pc := 19) (dk_at bnames05cX9_only_0 19)
theorem dX9_only_20 : decode cX9_only 20 = .ok (.iload_n 3, 1) := dk_29 (c := cX9_only) (pc := 20) (dk_at bnames05cX9_only_0 20)
theorem dX9_only_21 : decode cX9_only 21 = .ok (.aload_n 0, 1) := dk_42 (c := cX9_only) (pc := 21) (dk_at bnames05cX9_only_0 21)
theorem dX9_only_22 : decode cX9_only 22 = .ok (.getfield 89, 3) := dk_180 (c := cX9_only) (pc := 22) (a := 0) (b := 89) (dk_at bnames05cX9_only_0 22) rfl
theorem dX9_only_25 : decode cX9_only 25 = .ok (.iconst 0, 1) := dk_3 (c := cX9_only) (pc := 25) (dk_at bnames05cX9_only_0 25)
theorem dX9_only_26 : decode cX9_only 26 = .ok (.iaload, 1) := dk_46 (c := cX9_only) (pc := 26) (dk_at bnames05cX9_only_0 26)
theorem dX9_only_27 : decode cX9_only 27 = .ok (.if_icmp .ge 31, 3) := dk_162 (c := cX9_only) (pc := 27) (a := 0) (b := 31) (dk_at bnames05cX9_only_0 27) (by decide)
theorem dX9_only_30 : decode cX9_only 30 = .ok (.aload_n 0, 1) := dk_42 (c := cX9_only) (pc := 30) (dk_at bnames05cX9_only_0 30)
theorem dX9_only_31 : decode cX9_only 31 = .ok (.getfield 92, 3) := dk_180 (c := cX9_only) (pc := 31) (a := 0) (b := 92) (dk_at bnames05cX9_only_0 31) rfl
theorem dX9_only_34 : decode cX9_only 34 = .ok (.iload_n 3, 1) := dk_29 (c := cX9_only) (pc := 34) (dk_at bnames05cX9_only_0 34)
theorem dX9_only_35 : decode cX9_only 35 = .ok (.iaload, 1) := dk_46 (c := cX9_only) (pc := 35) (dk_at bnames05cX9_only_0 35)
theorem dX9_only_36 : decode cX9_only 36 = .ok (.iload_n 1, 1) := dk_27 (c := cX9_only) (pc := 36) (dk_at bnames05cX9_only_0 36)
theorem dX9_only_37 : decode cX9_only 37 = .ok (.if_icmp .eq 6, 3) := dk_159 (c := cX9_only) (pc := 37) (a := 0) (b := 6) (dk_at bnames05cX9_only_0 37) (by decide)
theorem dX9_only_40 : decode cX9_only 40 = .ok (.goto 12, 3) := dk_167 (c := cX9_only) (pc := 40) (a := 0) (b := 12) (dk_at bnames05cX9_only_0 40) (by decide)
theorem dX9_only_43 : decode cX9_only 43 = .ok (.aload_n 0, 1) := dk_42 (c := cX9_only) (pc := 43) (dk_at bnames05cX9_only_0 43)
theorem dX9_only_44 : decode cX9_only 44 = .ok (.iload_n 3, 1) := dk_29 (c := cX9_only) (pc := 44) (dk_at bnames05cX9_only_0 44)
theorem dX9_only_45 : decode cX9_only 45 = .ok (.iload_n 2, 1) := dk_28 (c := cX9_only) (pc := 45) (dk_at bnames05cX9_only_0 45)
theorem dX9_only_46 : decode cX9_only 46 = .ok (.invokevirtual 323, 3) := dk_182 (c := cX9_only) (pc := 46) (a := 1) (b := 67) (dk_at bnames05cX9_only_0 46) rfl
theorem bnames05cX9_only_48 : ((dk_l cX9_only).drop 48).take 19 = [67, 132, 2, 1, 132, 3, 1, 167, 255, 221, 42, 180, 0, 89, 3, 28, 79, 28, 172] := by decide +kernel
theorem dX9_only_49 : decode cX9_only 49 = .ok (.iinc 2 1, 3) := dk_132 (c := cX9_only) (pc := 49) (a := 2) (b := 1) (dk_at bnames05cX9_only_48 1) rfl (by decide)
theorem dX9_only_52 : decode cX9_only 52 = .ok (.iinc 3 1, 3) := dk_132 (c := cX9_only) (pc := 52) (a := 3) (b := 1) (dk_at bnames05cX9_only_48 4) rfl (by decide)
theorem dX9_only_55 : decode cX9_only 55 = .ok (.goto (-35), 3) := dk_167 (c := cX9_only) (pc := 55) (a := 255) (b := 221) (dk_at bnames05cX9_only_48 7) (by decide)
theorem dX9_only_58 : decode cX9_only 58 = .ok (.aload_n 0, 1) := dk_42 (c := cX9_only) (pc := 58) (dk_at bnames05cX9_only_48 10)
theorem dX9_only_59 : decode cX9_only 59 = .ok (.getfield 89, 3) := dk_180 (c := cX9_only) (pc := 59) (a := 0) (b := 89) (dk_at bnames05cX9_only_48 11) rfl
theorem dX9_only_62 : decode cX9_only 62 = .ok (.iconst 0, 1) := dk_3 (c := cX9_only) (pc := 62) (dk_at bnames05cX9_only_48 14)
theorem dX9_only_63 : decode cX9_only 63 = .ok (.iload_n 2, 1) := dk_28 (c := cX9_only) (pc := 63) (dk_at bnames05cX9_only_48 15)
theorem dX9_only_64 : decode cX9_only 64 = .ok (.iastore, 1) := dk_79 (c := cX9_only) (pc := 64) (dk_at bnames05cX9_only_48 16)
theorem dX9_only_65 : decode cX9_only 65 = .ok (.iload_n 2, 1) := dk_28 (c := cX9_only) (pc := 65) (dk_at bnames05cX9_only_48 17)
theorem dX9_only_66 : decode cX9_only 66 = .ok (.ireturn, 1) := dk_172 (c := cX9_only) (pc := 66) (dk_at bnames05cX9_only_48 18)
set_option maxRecDepth 20000 in
theorem ggX9_judge_X9_isSlot : GoodIn wsX9_judge wsX9_isSlot := goodIn_r _ [10, 11, 12, 13, 9, 14] rfl (by decide +kernel)
set_option maxRecDepth 20000 in
theorem gX9_judge_X9_isSlot : GoodIn wsX9_judge (va_wsS RX9 134 yX9_isSlot wsX9_isSlot) := goodIn_app (goodIn_r _ [7, 8, 9] rfl (by decide +kernel)) ggX9_judge_X9_isSlot
theorem bnames05cX9_judge_0 : ((dk_l cX9_judge).drop 0).take 52 = [42, 3, 181, 0, 125, 27, 184, 0, 134, 154, 0, 6, 16, 254, 172, 42, 180, 0, 7, 27, 46, 2, 160, 0, 6, 16, 250, 172, 3, 61, 28, 42, 180, 0, 13, 27, 46, 162, 0, 41, 28, 42, 180, 0, 89, 3, 46, 162, 0, 31, 42, 180] := by decide +kernel
theorem dX9_judge_0 : decode cX9_judge 0 = .ok (.aload_n 0, 1) := dk_42 (c := cX9_judge) (pc := 0) (dk_at bnames05cX9_judge_0 0)
theorem dX9_judge_1 : decode cX9_judge 1 = .ok (.iconst 0, 1) := dk_3 (c := cX9_judge) (pc := 1) (dk_at bnames05cX9_judge_0 1)
theorem dX9_judge_2 : decode cX9_judge 2 = .ok (.putfield 125, 3) := dk_181 (c := cX9_judge) (pc := 2) (a := 0) (b := 125) (dk_at bnames05cX9_judge_0 2) rfl
theorem dX9_judge_5 : decode cX9_judge 5 = .ok (.iload_n 1, 1) := dk_27 (c := cX9_judge) (pc := 5) (dk_at bnames05cX9_judge_0 5)
theorem dX9_judge_6 : decode cX9_judge 6 = .ok (.invokestatic 134, 3) := dk_184 (c := cX9_judge) (pc := 6) (a := 0) (b := 134) (dk_at bnames05cX9_judge_0 6) rfl
theorem dX9_judge_9 : decode cX9_judge 9 = .ok (.ifCond .ne 6, 3) := dk_154 (c := cX9_judge) (pc := 9) (a := 0) (b := 6) (dk_at bnames05cX9_judge_0 9) (by decide)
theorem dX9_judge_12 : decode cX9_judge 12 = .ok (.bipush (-2), 2) := dk_16 (c := cX9_judge) (pc := 12) (a := 254) (dk_at bnames05cX9_judge_0 12) (by decide)
theorem dX9_judge_14 : decode cX9_judge 14 = .ok (.ireturn, 1) := dk_172 (c := cX9_judge) (pc := 14) (dk_at bnames05cX9_judge_0 14)
theorem dX9_judge_15 : decode cX9_judge 15 = .ok (.aload_n 0, 1) := dk_42 (c := cX9_judge) (pc := 15) (dk_at bnames05cX9_judge_0 15)
theorem dX9_judge_16 : decode cX9_judge 16 = .ok (.getfield 7, 3) := dk_180 (c := cX9_judge) (pc := 16) (a := 0) (b := 7) (dk_at bnames05cX9_judge_0 16) rfl
theorem dX9_judge_19 : decode cX9_judge 19 = .ok (.iload_n 1, 1) := dk_27 (c := cX9_judge) (pc := 19) (dk_at bnames05cX9_judge_0 19)
theorem dX9_judge_20 : decode cX9_judge 20 = .ok (.iaload, 1) := dk_46 (c := cX9_judge) (pc := 20) (dk_at bnames05cX9_judge_0 20)
theorem dX9_judge_21 : decode cX9_judge 21 = .ok (.iconst (-1), 1) := dk_2 (c := cX9_judge) (pc := 21) (dk_at bnames05cX9_judge_0 21)
theorem dX9_judge_22 : decode cX9_judge 22 = .ok (.if_icmp .ne 6, 3) := dk_160 (c := cX9_judge) (pc := 22) (a := 0) (b := 6) (dk_at bnames05cX9_judge_0 22) (by decide)
theorem dX9_judge_25 : decode cX9_judge 25 = .ok (.bipush (-6), 2) := dk_16 (c := cX9_judge) (pc := 25) (a := 250) (dk_at bnames05cX9_judge_0 25) (by decide)
theorem dX9_judge_27 : decode cX9_judge 27 = .ok (.ireturn, 1) := dk_172 (c := cX9_judge) (pc := 27) (dk_at bnames05cX9_judge_0 27)
theorem dX9_judge_28 : decode cX9_judge 28 = .ok (.iconst 0, 1) := dk_3 (c := cX9_judge) (pc := 28) (dk_at bnames05cX9_judge_0 28)
theorem dX9_judge_29 : decode cX9_judge 29 = .ok (.istore_n 2, 1) := dk_61 (c := cX9_judge) (pc := 29) (dk_at bnames05cX9_judge_0 29)
theorem dX9_judge_30 : decode cX9_judge 30 = .ok (.iload_n 2, 1) := dk_28 (c := cX9_judge) (pc := 30) (dk_at bnames05cX9_judge_0 30)
theorem dX9_judge_31 : decode cX9_judge 31 = .ok (.aload_n 0, 1) := dk_42 (c := cX9_judge) (pc := 31) (dk_at bnames05cX9_judge_0 31)
theorem dX9_judge_32 : decode cX9_judge 32 = .ok (.getfield 13, 3) := dk_180 (c := cX9_judge) (pc := 32) (a := 0) (b := 13) (dk_at bnames05cX9_judge_0 32) rfl
theorem dX9_judge_35 : decode cX9_judge 35 = .ok (.iload_n 1, 1) := dk_27 (c := cX9_judge) (pc := 35) (dk_at bnames05cX9_judge_0 35)
theorem dX9_judge_36 : decode cX9_judge 36 = .ok (.iaload, 1) := dk_46 (c := cX9_judge) (pc := 36) (dk_at bnames05cX9_judge_0 36)
theorem dX9_judge_37 : decode cX9_judge 37 = .ok (.if_icmp .ge 41, 3) := dk_162 (c := cX9_judge) (pc := 37) (a := 0) (b := 41) (dk_at bnames05cX9_judge_0 37) (by decide)
theorem dX9_judge_40 : decode cX9_judge 40 = .ok (.iload_n 2, 1) := dk_28 (c := cX9_judge) (pc := 40) (dk_at bnames05cX9_judge_0 40)
theorem dX9_judge_41 : decode cX9_judge 41 = .ok (.aload_n 0, 1) := dk_42 (c := cX9_judge) (pc := 41) (dk_at bnames05cX9_judge_0 41)
theorem dX9_judge_42 : decode cX9_judge 42 = .ok (.getfield 89, 3) := dk_180 (c := cX9_judge) (pc := 42) (a := 0) (b := 89) (dk_at bnames05cX9_judge_0 42) rfl
theorem dX9_judge_45 : decode cX9_judge 45 = .ok (.iconst 0, 1) := dk_3 (c := cX9_judge) (pc := 45) (dk_at bnames05cX9_judge_0 45)
theorem dX9_judge_46 : decode cX9_judge 46 = .ok (.iaload, 1) := dk_46 (c := cX9_judge) (pc := 46) (dk_at bnames05cX9_judge_0 46)
theorem dX9_judge_47 : decode cX9_judge 47 = .ok (.if_icmp .ge 31, 3) := dk_162 (c := cX9_judge) (pc := 47) (a := 0) (b := 31) (dk_at bnames05cX9_judge_0 47) (by decide)
theorem bnames05cX9_judge_48 : ((dk_l cX9_judge).drop 48).take 32 = [0, 31, 42, 180, 0, 16, 16, 60, 27, 104, 28, 96, 47, 42, 180, 0, 98, 28, 46, 133, 148, 154, 0, 9, 132, 2, 1, 167, 255, 211, 28, 172] := by decide +kernel
theorem dX9_judge_50 : decode cX9_judge 50 = .ok (.aload_n 0, 1) := dk_42 (c := cX9_judge) (pc := 50) (dk_at bnames05cX9_judge_48 2)
theorem dX9_judge_51 : decode cX9_judge 51 = .ok (.getfield 16, 3) := dk_180 (c := cX9_judge) (pc := 51) (a := 0) (b := 16) (dk_at bnames05cX9_judge_48 3) rfl
theorem dX9_judge_54 : decode cX9_judge 54 = .ok (.bipush 60, 2) := dk_16 (c := cX9_judge) (pc := 54) (a := 60) (dk_at bnames05cX9_judge_48 6) (by decide)
theorem dX9_judge_56 : decode cX9_judge 56 = .ok (.iload_n 1, 1) := dk_27 (c := cX9_judge) (pc := 56) (dk_at bnames05cX9_judge_48 8)
theorem dX9_judge_57 : decode cX9_judge 57 = .ok (.imul, 1) := dk_104 (c := cX9_judge) (pc := 57) (dk_at bnames05cX9_judge_48 9)
theorem dX9_judge_58 : decode cX9_judge 58 = .ok (.iload_n 2, 1) := dk_28 (c := cX9_judge) (pc := 58) (dk_at bnames05cX9_judge_48 10)
theorem dX9_judge_59 : decode cX9_judge 59 = .ok (.iadd, 1) := dk_96 (c := cX9_judge) (pc := 59) (dk_at bnames05cX9_judge_48 11)
theorem dX9_judge_60 : decode cX9_judge 60 = .ok (.laload, 1) := dk_47 (c := cX9_judge) (pc := 60) (dk_at bnames05cX9_judge_48 12)
theorem dX9_judge_61 : decode cX9_judge 61 = .ok (.aload_n 0, 1) := dk_42 (c := cX9_judge) (pc := 61) (dk_at bnames05cX9_judge_48 13)
theorem dX9_judge_62 : decode cX9_judge 62 = .ok (.getfield 98, 3) := dk_180 (c := cX9_judge) (pc := 62) (a := 0) (b := 98) (dk_at bnames05cX9_judge_48 14) rfl
theorem dX9_judge_65 : decode cX9_judge 65 = .ok (.iload_n 2, 1) := dk_28 (c := cX9_judge) (pc := 65) (dk_at bnames05cX9_judge_48 17)
theorem dX9_judge_66 : decode cX9_judge 66 = .ok (.iaload, 1) := dk_46 (c := cX9_judge) (pc := 66) (dk_at bnames05cX9_judge_48 18)
theorem dX9_judge_67 : decode cX9_judge 67 = .ok (.i2l, 1) := dk_133 (c := cX9_judge) (pc := 67) (dk_at bnames05cX9_judge_48 19)
theorem dX9_judge_68 : decode cX9_judge 68 = .ok (.lcmp, 1) := dk_148 (c := cX9_judge) (pc := 68) (dk_at bnames05cX9_judge_48 20)
theorem dX9_judge_69 : decode cX9_judge 69 = .ok (.ifCond .ne 9, 3) := dk_154 (c := cX9_judge) (pc := 69) (a := 0) (b := 9) (dk_at bnames05cX9_judge_48 21) (by decide)
theorem dX9_judge_72 : decode cX9_judge 72 = .ok (.iinc 2 1, 3) := dk_132 (c := cX9_judge) (pc := 72) (a := 2) (b := 1) (dk_at bnames05cX9_judge_48 24) rfl (by decide)
theorem dX9_judge_75 : decode cX9_judge 75 = .ok (.goto (-45), 3) := dk_167 (c := cX9_judge) (pc := 75) (a := 255) (b := 211) (dk_at bnames05cX9_judge_48 27) (by decide)
theorem dX9_judge_78 : decode cX9_judge 78 = .ok (.iload_n 2, 1) := dk_28 (c := cX9_judge) (pc := 78) (dk_at bnames05cX9_judge_48 30)
theorem dX9_judge_79 : decode cX9_judge 79 = .ok (.ireturn, 1) := dk_172 (c := cX9_judge) (pc := 79) (dk_at bnames05cX9_judge_48 31)
theorem bnames05cX9_count_0 : ((dk_l cX9_count).drop 0).take 52 = [42, 3, 181, 0, 125, 3, 61, 27, 170, 0, 0, 0, 0, 0, 0, 128, 0, 0, 0, 0, 0, 0, 0, 7, 0, 0, 0, 48, 0, 0, 0, 55, 0, 0, 0, 62, 0, 0, 0, 69, 0, 0, 0, 76, 0, 0, 0, 83, 0, 0, 0, 90] := by decide +kernel
theorem dX9_count_0 : decode cX9_count 0 = .ok (.aload_n 0, 1) := dk_42 (c := cX9_count) (pc := 0) (dk_at bnames05cX9_count_0 0)
theorem dX9_count_1 : decode cX9_count 1 = .ok (.iconst 0, 1) := dk_3 (c := cX9_count) (pc := 1) (dk_at bnames05cX9_count_0 1)
theorem dX9_count_2 : decode cX9_count 2 = .ok (.putfield 125, 3) := dk_181 (c := cX9_count) (pc := 2) (a := 0) (b := 125) (dk_at bnames05cX9_count_0 2) rfl
theorem dX9_count_5 : decode cX9_count 5 = .ok (.iconst 0, 1) := dk_3 (c := cX9_count) (pc := 5) (dk_at bnames05cX9_count_0 5)
theorem dX9_count_6 : decode cX9_count 6 = .ok (.istore_n 2, 1) := dk_61 (c := cX9_count) (pc := 6) (dk_at bnames05cX9_count_0 6)
theorem dX9_count_7 : decode cX9_count 7 = .ok (.iload_n 1, 1) := dk_27 (c := cX9_count) (pc := 7) (dk_at bnames05cX9_count_0 7)
theorem dX9_count_8 : decode cX9_count 8 = .ok (.tableswitch 128 0 7 #[48, 55, 62, 69, 76, 83, 90, 95], 48) := by decide +kernel
theorem bnames05cX9_count_48 : ((dk_l cX9_count).drop 48).take 52 = [0, 0, 0, 90, 0, 0, 0, 95, 42, 180, 0, 34, 3, 46, 172, 42, 180, 0, 43, 3, 46, 172, 42, 180, 0, 89, 3, 46, 172, 42, 180, 0, 31, 3, 46, 172, 42, 180, 0, 74, 3, 46, 172, 42, 180, 0, 71, 3, 46, 172, 42, 180] := by decide +kernel
theorem dX9_count_56 : decode cX9_count 56 = .ok (.aload_n 0, 1) := dk_42 (c := cX9_count) (pc := 56) (dk_at bnames05cX9_count_48 8)
theorem dX9_count_57 : decode cX9_count 57 = .ok (.getfield 34, 3) := dk_180 (c := cX9_count) (pc := 57) (a := 0) (b := 34) (dk_at bnames05cX9_count_48 9) rfl
theorem dX9_count_60 : decode cX9_count 60 = .ok (.iconst 0, 1) := dk_3 (c := cX9_count) (pc := 60) (dk_at bnames05cX9_count_48 12)
theorem dX9_count_61 : decode cX9_count 61 = .ok (.iaload, 1) := dk_46 (c := cX9_count) (pc := 61) (dk_at bnames05cX9_count_48 13)
theorem dX9_count_62 : decode cX9_count 62 = .ok (.ireturn, 1) := dk_172 (c := cX9_count) (pc := 62) (dk_at bnames05cX9_count_48 14)
theorem dX9_count_63 : decode cX9_count 63 = .ok (.aload_n 0, 1) := dk_42 (c := cX9_count) (pc := 63) (dk_at bnames05cX9_count_48 15)
theorem dX9_count_64 : decode cX9_count 64 = .ok (.getfield 43, 3) := dk_180 (c := cX9_count) (pc := 64) (a := 0) (b := 43) (dk_at bnames05cX9_count_48 16) rfl
theorem dX9_count_67 : decode cX9_count 67 = .ok (.iconst 0, 1) := dk_3 (c := cX9_count) (pc := 67) (dk_at bnames05cX9_count_48 19)
theorem dX9_count_68 : decode cX9_count 68 = .ok (.iaload, 1) := dk_46 (c := cX9_count) (pc := 68) (dk_at bnames05cX9_count_48 20)
theorem dX9_count_69 : decode cX9_count 69 = .ok (.ireturn, 1) := dk_172 (c := cX9_count) (pc := 69) (dk_at bnames05cX9_count_48 21)
theorem dX9_count_70 : decode cX9_count 70 = .ok (.aload_n 0, 1) := dk_42 (c := cX9_count) (pc := 70) (dk_at bnames05cX9_count_48 22)
theorem dX9_count_71 : decode cX9_count 71 = .ok (.getfield 89, 3) := dk_180 (c := cX9_count) (pc := 71) (a := 0) (b := 89) (dk_at bnames05cX9_count_48 23) rfl
theorem dX9_count_74 : decode cX9_count 74 = .ok (.iconst 0, 1) := dk_3 (c := cX9_count) (pc := 74) (dk_at bnames05cX9_count_48 26)
theorem dX9_count_75 : decode cX9_count 75 = .ok (.iaload, 1) := dk_46 (c := cX9_count) (pc := 75) (dk_at bnames05cX9_count_48 27)
theorem dX9_count_76 : decode cX9_count 76 = .ok (.ireturn, 1) := dk_172 (c := cX9_count) (pc := 76) (dk_at bnames05cX9_count_48 28)
theorem dX9_count_77 : decode cX9_count 77 = .ok (.aload_n 0, 1) := dk_42 (c := cX9_count) (pc := 77) (dk_at bnames05cX9_count_48 29)
theorem dX9_count_78 : decode cX9_count 78 = .ok (.getfield 31, 3) := dk_180 (c := cX9_count) (pc := 78) (a := 0) (b := 31) (dk_at bnames05cX9_count_48 30) rfl
theorem dX9_count_81 : decode cX9_count 81 = .ok (.iconst 0, 1) := dk_3 (c := cX9_count) (pc := 81) (dk_at bnames05cX9_count_48 33)
theorem dX9_count_82 : decode cX9_count 82 = .ok (.iaload, 1) := dk_46 (c := cX9_count) (pc := 82) (dk_at bnames05cX9_count_48 34)
theorem dX9_count_83 : decode cX9_count 83 = .ok (.ireturn, 1) := dk_172 (c := cX9_count) (pc := 83) (dk_at bnames05cX9_count_48 35)
theorem dX9_count_84 : decode cX9_count 84 = .ok (.aload_n 0, 1) := dk_42 (c := cX9_count) (pc := 84) (dk_at bnames05cX9_count_48 36)
theorem dX9_count_85 : decode cX9_count 85 = .ok (.getfield 74, 3) := dk_180 (c := cX9_count) (pc := 85) (a := 0) (b := 74) (dk_at bnames05cX9_count_48 37) rfl
theorem dX9_count_88 : decode cX9_count 88 = .ok (.iconst 0, 1) := dk_3 (c := cX9_count) (pc := 88) (dk_at bnames05cX9_count_48 40)
theorem dX9_count_89 : decode cX9_count 89 = .ok (.iaload, 1) := dk_46 (c := cX9_count) (pc := 89) (dk_at bnames05cX9_count_48 41)
theorem dX9_count_90 : decode cX9_count 90 = .ok (.ireturn, 1) := dk_172 (c := cX9_count) (pc := 90) (dk_at bnames05cX9_count_48 42)
theorem dX9_count_91 : decode cX9_count 91 = .ok (.aload_n 0, 1) := dk_42 (c := cX9_count) (pc := 91) (dk_at bnames05cX9_count_48 43)
theorem dX9_count_92 : decode cX9_count 92 = .ok (.getfield 71, 3) := dk_180 (c := cX9_count) (pc := 92) (a := 0) (b := 71) (dk_at bnames05cX9_count_48 44) rfl
theorem dX9_count_95 : decode cX9_count 95 = .ok (.iconst 0, 1) := dk_3 (c := cX9_count) (pc := 95) (dk_at bnames05cX9_count_48 47)
theorem bnames05cX9_count_96 : ((dk_l cX9_count).drop 96).take 42 = [46, 172, 42, 180, 0, 142, 172, 3, 62, 29, 7, 162, 0, 27, 28, 42, 180, 0, 7, 29, 46, 2, 160, 0, 7, 3, 167, 0, 4, 4, 96, 61, 132, 3, 1, 167, 255, 230, 28, 172, 2, 172] := by decide +kernel
theorem dX9_count_96 : decode cX9_count 96 = .ok (.iaload, 1) := dk_46 (c := cX9_count) (pc := 96) (dk_at bnames05cX9_count_96 0)
theorem dX9_count_97 : decode cX9_count 97 = .ok (.ireturn, 1) := dk_172 (c := cX9_count) (pc := 97) (dk_at bnames05cX9_count_96 1)
theorem dX9_count_98 : decode cX9_count 98 = .ok (.aload_n 0, 1) := dk_42 (c := cX9_count) (pc := 98) (dk_at bnames05cX9_count_96 2)
theorem dX9_count_99 : decode cX9_count 99 = .ok (.getfield 142, 3) := dk_180 (c := cX9_count) (pc := 99) (a := 0) (b := 142) (dk_at bnames05cX9_count_96 3) rfl
theorem dX9_count_102 : decode cX9_count 102 = .ok (.ireturn, 1) := dk_172 (c := cX9_count) (pc := 102) (dk_at bnames05cX9_count_96 6)
theorem dX9_count_103 : decode cX9_count 103 = .ok (.iconst 0, 1) := dk_3 (c := cX9_count) (pc := 103) (dk_at bnames05cX9_count_96 7)
theorem dX9_count_104 : decode cX9_count 104 = .ok (.istore_n 3, 1) := dk_62 (c := cX9_count) (pc := 104) (dk_at bnames05cX9_count_96 8)
theorem dX9_count_105 : decode cX9_count 105 = .ok (.iload_n 3, 1) := dk_29 (c := cX9_count) (pc := 105) (dk_at bnames05cX9_count_96 9)
theorem dX9_count_106 : decode cX9_count 106 = .ok (.iconst 4, 1) := dk_7 (c := cX9_count) (pc := 106) (dk_at bnames05cX9_count_96 10)
theorem dX9_count_107 : decode cX9_count 107 = .ok (.if_icmp .ge 27, 3) := dk_162 (c := cX9_count) (pc := 107) (a := 0) (b := 27) (dk_at bnames05cX9_count_96 11) (by decide)
theorem dX9_count_110 : decode cX9_count 110 = .ok (.iload_n 2, 1) := dk_28 (c := cX9_count) (pc := 110) (dk_at bnames05cX9_count_96 14)
theorem dX9_count_111 : decode cX9_count 111 = .ok (.aload_n 0, 1) := dk_42 (c := cX9_count) (pc := 111) (dk_at bnames05cX9_count_96 15)
theorem dX9_count_112 : decode cX9_count 112 = .ok (.getfield 7, 3) := dk_180 (c := cX9_count) (pc := 112) (a := 0) (b := 7) (dk_at bnames05cX9_count_96 16) rfl
theorem dX9_count_115 : decode cX9_count 115 = .ok (.iload_n 3, 1) := dk_29 (c := cX9_count) (pc := 115) (dk_at bnames05cX9_count_96 19)
theorem dX9_count_116 : decode cX9_count 116 = .ok (.iaload, 1) := dk_46 (c := cX9_count) (pc := 116) (dk_at bnames05cX9_count_96 20)
theorem dX9_count_117 : decode cX9_count 117 = .ok (.iconst (-1), 1) := dk_2 (c := cX9_count) (pc := 117) (dk_at bnames05cX9_count_96 21)
theorem dX9_count_118 : decode cX9_count 118 = .ok (.if_icmp .ne 7, 3) := dk_160 (c := cX9_count) (pc := 118) (a := 0) (b := 7) (dk_at bnames05cX9_count_96 22) (by decide)
theorem dX9_count_121 : decode cX9_count 121 = .ok (.iconst 0, 1) := dk_3 (c := cX9_count) (pc := 121) (dk_at bnames05cX9_count_96 25)
theorem dX9_count_122 : decode cX9_count 122 = .ok (.goto 4, 3) := dk_167 (c := cX9_count) (pc := 122) (a := 0) (b := 4) (dk_at bnames05cX9_count_96 26) (by decide)
theorem dX9_count_125 : decode cX9_count 125 = .ok (.iconst 1, 1) := dk_4 (c := cX9_count) (pc := 125) (dk_at bnames05cX9_count_96 29)
theorem dX9_count_126 : decode cX9_count 126 = .ok (.iadd, 1) := dk_96 (c := cX9_count) (pc := 126) (dk_at bnames05cX9_count_96 30)
theorem dX9_count_127 : decode cX9_count 127 = .ok (.istore_n 2, 1) := dk_61 (c := cX9_count) (pc := 127) (dk_at bnames05cX9_count_96 31)
theorem dX9_count_128 : decode cX9_count 128 = .ok (.iinc 3 1, 3) := dk_132 (c := cX9_count) (pc := 128) (a := 3) (b := 1) (dk_at bnames05cX9_count_96 32) rfl (by decide)
theorem dX9_count_131 : decode cX9_count 131 = .ok (.goto (-26), 3) := dk_167 (c := cX9_count) (pc := 131) (a := 255) (b := 230) (dk_at bnames05cX9_count_96 35) (by decide)
theorem dX9_count_134 : decode cX9_count 134 = .ok (.iload_n 2, 1) := dk_28 (c := cX9_count) (pc := 134) (dk_at bnames05cX9_count_96 38)
theorem dX9_count_135 : decode cX9_count 135 = .ok (.ireturn, 1) := dk_172 (c := cX9_count) (pc := 135) (dk_at bnames05cX9_count_96 39)
theorem dX9_count_136 : decode cX9_count 136 = .ok (.iconst (-1), 1) := dk_2 (c := cX9_count) (pc := 136) (dk_at bnames05cX9_count_96 40)
theorem dX9_count_137 : decode cX9_count 137 = .ok (.ireturn, 1) := dk_172 (c := cX9_count) (pc := 137) (dk_at bnames05cX9_count_96 41)
set_option maxRecDepth 20000 in
theorem ggX9_keep_X9_in : GoodIn wsX9_keep wsX9_in := goodIn_r _ [7] rfl (by decide +kernel)
set_option maxRecDepth 20000 in
theorem gX9_keep_X9_in : GoodIn wsX9_keep (va_wsS RX9 130 yX9_in wsX9_in) := goodIn_app (goodIn_r _ [4, 5, 6] rfl (by decide +kernel)) ggX9_keep_X9_in
set_option maxRecDepth 20000 in
theorem ggX9_keep_X9_copyLand : GoodIn wsX9_keep wsX9_copyLand := goodIn_r _ [11, 12, 13, 14, 15, 16, 17, 18, 19, 20, 21, 22, 23, 24, 25, 26, 42, 43, 44, 45, 46, 47, 48, 49, 50, 51, 52, 53, 54, 55, 56, 57, 58, 59, 60, 61, 62, 63, 64, 65, 66, 67, 68, 69, 70, 71, 72, 73, 74, 75, 76, 77, 78, 79, 80, 81, 82, 83, 84, 85, 86, 87, 88, 89, 90, 91, 92, 93, 94, 95, 96, 97, 98, 99, 100, 101] rfl (by decide +kernel)
set_option maxRecDepth 20000 in
theorem gX9_keep_X9_copyLand : GoodIn wsX9_keep (wsV RX9 289 RX9 yX9_copyLand wsX9_copyLand) := goodIn_app (goodIn_r _ [8, 9, 10, 6] rfl (by decide +kernel)) ggX9_keep_X9_copyLand
set_option maxRecDepth 20000 in
theorem ggX9_keep_X9_copySheets : GoodIn wsX9_keep wsX9_copySheets := goodIn_r _ [30, 31, 32, 33, 34, 6, 35, 36, 37, 38, 39, 40, 41, 42, 43, 44, 45, 46, 47, 48, 49, 50, 51, 52, 53, 54, 55, 56, 57, 58, 59, 60, 61, 62, 63, 64, 65, 66, 67, 68, 69, 70, 71, 72, 73, 74, 75, 76, 77, 78, 79, 80, 81, 82, 83, 84, 85, 86, 87, 88, 89, 90, 91, 92, 93, 94, 95, 96, 97, 98, 99, 100, 101] rfl (by decide +kernel)
set_option maxRecDepth 20000 in
theorem gX9_keep_X9_copySheets : GoodIn wsX9_keep (wsV RX9 507 RX9 yX9_copySheets wsX9_copySheets) := goodIn_app (goodIn_r _ [27, 28, 29, 6] rfl (by decide +kernel)) ggX9_keep_X9_copySheets
theorem bnames05cX9_keep_0 : ((dk_l cX9_keep).drop 0).take 45 = [42, 3, 181, 0, 125, 27, 133, 9, 20, 1, 199, 184, 0, 130, 154, 0, 6, 16, 254, 172, 42, 3, 4, 27, 96, 182, 1, 33, 42, 3, 4, 27, 96, 182, 1, 251, 42, 180, 0, 83, 27, 4, 84, 3, 172] := by decide +kernel
theorem dX9_keep_0 : decode cX9_keep 0 = .ok (.aload_n 0, 1) := dk_42 (c := cX9_keep) (pc := 0) (dk_at bnames05cX9_keep_0 0)
theorem dX9_keep_1 : decode cX9_keep 1 = .ok (.iconst 0, 1) := dk_3 (c := cX9_keep) (pc := 1) (dk_at bnames05cX9_keep_0 1)
theorem dX9_keep_2 : decode cX9_keep 2 = .ok (.putfield 125, 3) := dk_181 (c := cX9_keep) (pc := 2) (a := 0) (b := 125) (dk_at bnames05cX9_keep_0 2) rfl
theorem dX9_keep_5 : decode cX9_keep 5 = .ok (.iload_n 1, 1) := dk_27 (c := cX9_keep) (pc := 5) (dk_at bnames05cX9_keep_0 5)
theorem dX9_keep_6 : decode cX9_keep 6 = .ok (.i2l, 1) := dk_133 (c := cX9_keep) (pc := 6) (dk_at bnames05cX9_keep_0 6)
theorem dX9_keep_7 : decode cX9_keep 7 = .ok (.lconst 0, 1) := dk_9 (c := cX9_keep) (pc := 7) (dk_at bnames05cX9_keep_0 7)
theorem dX9_keep_8 : decode cX9_keep 8 = .ok (.ldc2_w 455, 3) := dk_20 (c := cX9_keep) (pc := 8) (a := 1) (b := 199) (dk_at bnames05cX9_keep_0 8) rfl
theorem dX9_keep_11 : decode cX9_keep 11 = .ok (.invokestatic 130, 3) := dk_184 (c := cX9_keep) (pc := 11) (a := 0) (b := 130) (dk_at bnames05cX9_keep_0 11) rfl
theorem dX9_keep_14 : decode cX9_keep 14 = .ok (.ifCond .ne 6, 3) := dk_154 (c := cX9_keep) (pc := 14) (a := 0) (b := 6) (dk_at bnames05cX9_keep_0 14) (by decide)
theorem dX9_keep_17 : decode cX9_keep 17 = .ok (.bipush (-2), 2) := dk_16 (c := cX9_keep) (pc := 17) (a := 254) (dk_at bnames05cX9_keep_0 17) (by decide)
theorem dX9_keep_19 : decode cX9_keep 19 = .ok (.ireturn, 1) := dk_172 (c := cX9_keep) (pc := 19) (dk_at bnames05cX9_keep_0 19)
theorem dX9_keep_20 : decode cX9_keep 20 = .ok (.aload_n 0, 1) := dk_42 (c := cX9_keep) (pc := 20) (dk_at bnames05cX9_keep_0 20)
theorem dX9_keep_21 : decode cX9_keep 21 = .ok (.iconst 0, 1) := dk_3 (c := cX9_keep) (pc := 21) (dk_at bnames05cX9_keep_0 21)
theorem dX9_keep_22 : decode cX9_keep 22 = .ok (.iconst 1, 1) := dk_4 (c := cX9_keep) (pc := 22) (dk_at bnames05cX9_keep_0 22)
theorem dX9_keep_23 : decode cX9_keep 23 = .ok (.iload_n 1, 1) := dk_27 (c := cX9_keep) (pc := 23) (dk_at bnames05cX9_keep_0 23)
theorem dX9_keep_24 : decode cX9_keep 24 = .ok (.iadd, 1) := dk_96 (c := cX9_keep) (pc := 24) (dk_at bnames05cX9_keep_0 24)
theorem dX9_keep_25 : decode cX9_keep 25 = .ok (.invokevirtual 289, 3) := dk_182 (c := cX9_keep) (pc := 25) (a := 1) (b := 33) (dk_at bnames05cX9_keep_0 25) rfl
theorem dX9_keep_28 : decode cX9_keep 28 = .ok (.aload_n 0, 1) := dk_42 (c := cX9_keep) (pc := 28) (dk_at bnames05cX9_keep_0 28)
theorem dX9_keep_29 : decode cX9_keep 29 = .ok (.iconst 0, 1) := dk_3 (c := cX9_keep) (pc := 29) (dk_at bnames05cX9_keep_0 29)
theorem dX9_keep_30 : decode cX9_keep 30 = .ok (.iconst 1, 1) := dk_4 (c := cX9_keep) (pc := 30) (dk_at bnames05cX9_keep_0 30)
theorem dX9_keep_31 : decode cX9_keep 31 = .ok (.iload_n 1, 1) := dk_27 (c := cX9_keep) (pc := 31) (dk_at bnames05cX9_keep_0 31)
theorem dX9_keep_32 : decode cX9_keep 32 = .ok (.iadd, 1) := dk_96 (c := cX9_keep) (pc := 32) (dk_at bnames05cX9_keep_0 32)
theorem dX9_keep_33 : decode cX9_keep 33 = .ok (.invokevirtual 507, 3) := dk_182 (c := cX9_keep) (pc := 33) (a := 1) (b := 251) (dk_at bnames05cX9_keep_0 33) rfl
theorem dX9_keep_36 : decode cX9_keep 36 = .ok (.aload_n 0, 1) := dk_42 (c := cX9_keep) (pc := 36) (dk_at bnames05cX9_keep_0 36)
theorem dX9_keep_37 : decode cX9_keep 37 = .ok (.getfield 83, 3) := dk_180 (c := cX9_keep) (pc := 37) (a := 0) (b := 83) (dk_at bnames05cX9_keep_0 37) rfl
theorem dX9_keep_40 : decode cX9_keep 40 = .ok (.iload_n 1, 1) := dk_27 (c := cX9_keep) (pc := 40) (dk_at bnames05cX9_keep_0 40)
theorem dX9_keep_41 : decode cX9_keep 41 = .ok (.iconst 1, 1) := dk_4 (c := cX9_keep) (pc := 41) (dk_at bnames05cX9_keep_0 41)
theorem dX9_keep_42 : decode cX9_keep 42 = .ok (.bastore, 1) := dk_84 (c := cX9_keep) (pc := 42) (dk_at bnames05cX9_keep_0 42)
theorem dX9_keep_43 : decode cX9_keep 43 = .ok (.iconst 0, 1) := dk_3 (c := cX9_keep) (pc := 43) (dk_at bnames05cX9_keep_0 43)
theorem dX9_keep_44 : decode cX9_keep 44 = .ok (.ireturn, 1) := dk_172 (c := cX9_keep) (pc := 44) (dk_at bnames05cX9_keep_0 44)
set_option maxRecDepth 20000 in
theorem ggX9_back_X9_in : GoodIn wsX9_back wsX9_in := goodIn_r _ [7] rfl (by decide +kernel)
set_option maxRecDepth 20000 in
theorem gX9_back_X9_in : GoodIn wsX9_back (va_wsS RX9 130 yX9_in wsX9_in) := goodIn_app (goodIn_r _ [4, 5, 6] rfl (by decide +kernel)) ggX9_back_X9_in
set_option maxRecDepth 20000 in
theorem ggX9_back_X9_copyLand : GoodIn wsX9_back wsX9_copyLand := goodIn_r _ [11, 12, 13, 14, 15, 16, 17, 18, 19, 20, 21, 22, 23, 24, 25, 26, 42, 43, 44, 45, 46, 47, 48, 49, 50, 51, 52, 53, 54, 55, 56, 57, 58, 59, 60, 61, 62, 63, 64, 65, 66, 67, 68, 69, 70, 71, 72, 73, 74, 75, 76, 77, 78, 79, 80, 81, 82, 83, 84, 85, 86, 87, 88, 89, 90, 91, 92, 93, 94, 95, 96, 97, 98, 99, 100, 101] rfl (by decide +kernel)
set_option maxRecDepth 20000 in
theorem gX9_back_X9_copyLand : GoodIn wsX9_back (wsV RX9 289 RX9 yX9_copyLand wsX9_copyLand) := goodIn_app (goodIn_r _ [8, 9, 10, 6] rfl (by decide +kernel)) ggX9_back_X9_copyLand
set_option maxRecDepth 20000 in
theorem ggX9_back_X9_copySheets : GoodIn wsX9_back wsX9_copySheets := goodIn_r _ [30, 31, 32, 33, 34, 6, 35, 36, 37, 38, 39, 40, 41, 42, 43, 44, 45, 46, 47, 48, 49, 50, 51, 52, 53, 54, 55, 56, 57, 58, 59, 60, 61, 62, 63, 64, 65, 66, 67, 68, 69, 70, 71, 72, 73, 74, 75, 76, 77, 78, 79, 80, 81, 82, 83, 84, 85, 86, 87, 88, 89, 90, 91, 92, 93, 94, 95, 96, 97, 98, 99, 100, 101] rfl (by decide +kernel)
set_option maxRecDepth 20000 in
theorem gX9_back_X9_copySheets : GoodIn wsX9_back (wsV RX9 507 RX9 yX9_copySheets wsX9_copySheets) := goodIn_app (goodIn_r _ [27, 28, 29, 6] rfl (by decide +kernel)) ggX9_back_X9_copySheets
theorem bnames05cX9_back_0 : ((dk_l cX9_back).drop 0).take 50 = [42, 3, 181, 0, 125, 27, 133, 9, 20, 1, 199, 184, 0, 130, 154, 0, 6, 16, 254, 172, 42, 180, 0, 83, 27, 51, 154, 0, 6, 16, 250, 172, 42, 4, 27, 96, 3, 182, 1, 33, 42, 4, 27, 96, 3, 182, 1, 251, 3, 172] := by decide +kernel
theorem dX9_back_0 : decode cX9_back 0 = .ok (.aload_n 0, 1) := dk_42 (c := cX9_back) (pc := 0) (dk_at bnames05cX9_back_0 0)
theorem dX9_back_1 : decode cX9_back 1 = .ok (.iconst 0, 1) := dk_3 (c := cX9_back) (pc := 1) (dk_at bnames05cX9_back_0 1)
theorem dX9_back_2 : decode cX9_back 2 = .ok (.putfield 125, 3) := dk_181 (c := cX9_back) (pc := 2) (a := 0) (b := 125) (dk_at bnames05cX9_back_0 2) rfl
theorem dX9_back_5 : decode cX9_back 5 = .ok (.iload_n 1, 1) := dk_27 (c := cX9_back) (pc := 5) (dk_at bnames05cX9_back_0 5)
theorem dX9_back_6 : decode cX9_back 6 = .ok (.i2l, 1) := dk_133 (c := cX9_back) (pc := 6) (dk_at bnames05cX9_back_0 6)
theorem dX9_back_7 : decode cX9_back 7 = .ok (.lconst 0, 1) := dk_9 (c := cX9_back) (pc := 7) (dk_at bnames05cX9_back_0 7)
theorem dX9_back_8 : decode cX9_back 8 = .ok (.ldc2_w 455, 3) := dk_20 (c := cX9_back) (pc := 8) (a := 1) (b := 199) (dk_at bnames05cX9_back_0 8) rfl
theorem dX9_back_11 : decode cX9_back 11 = .ok (.invokestatic 130, 3) := dk_184 (c := cX9_back) (pc := 11) (a := 0) (b := 130) (dk_at bnames05cX9_back_0 11) rfl
theorem dX9_back_14 : decode cX9_back 14 = .ok (.ifCond .ne 6, 3) := dk_154 (c := cX9_back) (pc := 14) (a := 0) (b := 6) (dk_at bnames05cX9_back_0 14) (by decide)
theorem dX9_back_17 : decode cX9_back 17 = .ok (.bipush (-2), 2) := dk_16 (c := cX9_back) (pc := 17) (a := 254) (dk_at bnames05cX9_back_0 17) (by decide)
theorem dX9_back_19 : decode cX9_back 19 = .ok (.ireturn, 1) := dk_172 (c := cX9_back) (pc := 19) (dk_at bnames05cX9_back_0 19)
theorem dX9_back_20 : decode cX9_back 20 = .ok (.aload_n 0, 1) := dk_42 (c := cX9_back) (pc := 20) (dk_at bnames05cX9_back_0 20)
theorem dX9_back_21 : decode cX9_back 21 = .ok (.getfield 83, 3) := dk_180 (c := cX9_back) (pc := 21) (a := 0) (b := 83) (dk_at bnames05cX9_back_0 21) rfl
theorem dX9_back_24 : decode cX9_back 24 = .ok (.iload_n 1, 1) := dk_27 (c := cX9_back) (pc := 24) (dk_at bnames05cX9_back_0 24)
theorem dX9_back_25 : decode cX9_back 25 = .ok (.baload, 1) := dk_51 (c := cX9_back) (pc := 25) (dk_at bnames05cX9_back_0 25)
theorem dX9_back_26 : decode cX9_back 26 = .ok (.ifCond .ne 6, 3) := dk_154 (c := cX9_back) (pc := 26) (a := 0) (b := 6) (dk_at bnames05cX9_back_0 26) (by decide)
theorem dX9_back_29 : decode cX9_back 29 = .ok (.bipush (-6), 2) := dk_16 (c := cX9_back) (pc := 29) (a := 250) (dk_at bnames05cX9_back_0 29) (by decide)
theorem dX9_back_31 : decode cX9_back 31 = .ok (.ireturn, 1) := dk_172 (c := cX9_back) (pc := 31) (dk_at bnames05cX9_back_0 31)
theorem dX9_back_32 : decode cX9_back 32 = .ok (.aload_n 0, 1) := dk_42 (c := cX9_back) (pc := 32) (dk_at bnames05cX9_back_0 32)
theorem dX9_back_33 : decode cX9_back 33 = .ok (.iconst 1, 1) := dk_4 (c := cX9_back) (pc := 33) (dk_at bnames05cX9_back_0 33)
theorem dX9_back_34 : decode cX9_back 34 = .ok (.iload_n 1, 1) := dk_27 (c := cX9_back) (pc := 34) (dk_at bnames05cX9_back_0 34)
theorem dX9_back_35 : decode cX9_back 35 = .ok (.iadd, 1) := dk_96 (c := cX9_back) (pc := 35) (dk_at bnames05cX9_back_0 35)
theorem dX9_back_36 : decode cX9_back 36 = .ok (.iconst 0, 1) := dk_3 (c := cX9_back) (pc := 36) (dk_at bnames05cX9_back_0 36)
theorem dX9_back_37 : decode cX9_back 37 = .ok (.invokevirtual 289, 3) := dk_182 (c := cX9_back) (pc := 37) (a := 1) (b := 33) (dk_at bnames05cX9_back_0 37) rfl
theorem dX9_back_40 : decode cX9_back 40 = .ok (.aload_n 0, 1) := dk_42 (c := cX9_back) (pc := 40) (dk_at bnames05cX9_back_0 40)
theorem dX9_back_41 : decode cX9_back 41 = .ok (.iconst 1, 1) := dk_4 (c := cX9_back) (pc := 41) (dk_at bnames05cX9_back_0 41)
theorem dX9_back_42 : decode cX9_back 42 = .ok (.iload_n 1, 1) := dk_27 (c := cX9_back) (pc := 42) (dk_at bnames05cX9_back_0 42)
theorem dX9_back_43 : decode cX9_back 43 = .ok (.iadd, 1) := dk_96 (c := cX9_back) (pc := 43) (dk_at bnames05cX9_back_0 43)
theorem dX9_back_44 : decode cX9_back 44 = .ok (.iconst 0, 1) := dk_3 (c := cX9_back) (pc := 44) (dk_at bnames05cX9_back_0 44)
theorem dX9_back_45 : decode cX9_back 45 = .ok (.invokevirtual 507, 3) := dk_182 (c := cX9_back) (pc := 45) (a := 1) (b := 251) (dk_at bnames05cX9_back_0 45) rfl
theorem bnames05cX9_back_48 : ((dk_l cX9_back).drop 48).take 2 = [3, 172] := by decide +kernel
theorem dX9_back_48 : decode cX9_back 48 = .ok (.iconst 0, 1) := dk_3 (c := cX9_back) (pc := 48) (dk_at bnames05cX9_back_48 0)
theorem dX9_back_49 : decode cX9_back 49 = .ok (.ireturn, 1) := dk_172 (c := cX9_back) (pc := 49) (dk_at bnames05cX9_back_48 1)
theorem bnames05cJ7_fill_d0a16_0 : ((dk_l cJ7_fill_d0a16).drop 0).take 23 = [3, 62, 42, 190, 54, 4, 29, 21, 4, 162, 0, 13, 42, 29, 31, 80, 132, 3, 1, 167, 255, 243, 177] := by decide +kernel
theorem dJ7_fill_d0a16_0 : decode cJ7_fill_d0a16 0 = .ok (.iconst 0, 1) := dk_3 (c := cJ7_fill_d0a16) (pc := 0) (dk_at bnames05cJ7_fill_d0a16_0 0)
theorem dJ7_fill_d0a16_1 : decode cJ7_fill_d0a16 1 = .ok (.istore_n 3, 1) := dk_62 (c := cJ7_fill_d0a16) (pc := 1) (dk_at bnames05cJ7_fill_d0a16_0 1)
theorem dJ7_fill_d0a16_2 : decode cJ7_fill_d0a16 2 = .ok (.aload_n 0, 1) := dk_42 (c := cJ7_fill_d0a16) (pc := 2) (dk_at bnames05cJ7_fill_d0a16_0 2)
theorem dJ7_fill_d0a16_3 : decode cJ7_fill_d0a16 3 = .ok (.arraylength, 1) := dk_190 (c := cJ7_fill_d0a16) (pc := 3) (dk_at bnames05cJ7_fill_d0a16_0 3)
theorem dJ7_fill_d0a16_4 : decode cJ7_fill_d0a16 4 = .ok (.istore 4, 2) := dk_54 (c := cJ7_fill_d0a16) (pc := 4) (a := 4) (dk_at bnames05cJ7_fill_d0a16_0 4) rfl
theorem dJ7_fill_d0a16_6 : decode cJ7_fill_d0a16 6 = .ok (.iload_n 3, 1) := dk_29 (c := cJ7_fill_d0a16) (pc := 6) (dk_at bnames05cJ7_fill_d0a16_0 6)
theorem dJ7_fill_d0a16_7 : decode cJ7_fill_d0a16 7 = .ok (.iload 4, 2) := dk_21 (c := cJ7_fill_d0a16) (pc := 7) (a := 4) (dk_at bnames05cJ7_fill_d0a16_0 7) rfl
theorem dJ7_fill_d0a16_9 : decode cJ7_fill_d0a16 9 = .ok (.if_icmp .ge 13, 3) := dk_162 (c := cJ7_fill_d0a16) (pc := 9) (a := 0) (b := 13) (dk_at bnames05cJ7_fill_d0a16_0 9) (by decide)
theorem dJ7_fill_d0a16_12 : decode cJ7_fill_d0a16 12 = .ok (.aload_n 0, 1) := dk_42 (c := cJ7_fill_d0a16) (pc := 12) (dk_at bnames05cJ7_fill_d0a16_0 12)
theorem dJ7_fill_d0a16_13 : decode cJ7_fill_d0a16 13 = .ok (.iload_n 3, 1) := dk_29 (c := cJ7_fill_d0a16) (pc := 13) (dk_at bnames05cJ7_fill_d0a16_0 13)
theorem dJ7_fill_d0a16_14 : decode cJ7_fill_d0a16 14 = .ok (.lload_n 1, 1) := dk_31 (c := cJ7_fill_d0a16) (pc := 14) (dk_at bnames05cJ7_fill_d0a16_0 14)
theorem dJ7_fill_d0a16_15 : decode cJ7_fill_d0a16 15 = .ok (.lastore, 1) := dk_80 (c := cJ7_fill_d0a16) (pc := 15) (dk_at bnames05cJ7_fill_d0a16_0 15)
theorem dJ7_fill_d0a16_16 : decode cJ7_fill_d0a16 16 = .ok (.iinc 3 1, 3) := dk_132 (c := cJ7_fill_d0a16) (pc := 16) (a := 3) (b := 1) (dk_at bnames05cJ7_fill_d0a16_0 16) rfl (by decide)
theorem dJ7_fill_d0a16_19 : decode cJ7_fill_d0a16 19 = .ok (.goto (-13), 3) := dk_167 (c := cJ7_fill_d0a16) (pc := 19) (a := 255) (b := 243) (dk_at bnames05cJ7_fill_d0a16_0 19) (by decide)
theorem dJ7_fill_d0a16_22 : decode cJ7_fill_d0a16 22 = .ok (.return_, 1) := dk_177 (c := cJ7_fill_d0a16) (pc := 22) (dk_at bnames05cJ7_fill_d0a16_0 22)
theorem bnames05cJ7_fill_53178_0 : ((dk_l cJ7_fill_53178).drop 0).take 21 = [3, 61, 42, 190, 62, 28, 29, 162, 0, 13, 42, 28, 27, 79, 132, 2, 1, 167, 255, 244, 177] := by decide +kernel
theorem dJ7_fill_53178_0 : decode cJ7_fill_53178 0 = .ok (.iconst 0, 1) := dk_3 (c := cJ7_fill_53178) (pc := 0) (dk_at bnames05cJ7_fill_53178_0 0)
theorem dJ7_fill_53178_1 : decode cJ7_fill_53178 1 = .ok (.istore_n 2, 1) := dk_61 (c := cJ7_fill_53178) (pc := 1) (dk_at bnames05cJ7_fill_53178_0 1)
theorem dJ7_fill_53178_2 : decode cJ7_fill_53178 2 = .ok (.aload_n 0, 1) := dk_42 (c := cJ7_fill_53178) (pc := 2) (dk_at bnames05cJ7_fill_53178_0 2)
theorem dJ7_fill_53178_3 : decode cJ7_fill_53178 3 = .ok (.arraylength, 1) := dk_190 (c := cJ7_fill_53178) (pc := 3) (dk_at bnames05cJ7_fill_53178_0 3)
theorem dJ7_fill_53178_4 : decode cJ7_fill_53178 4 = .ok (.istore_n 3, 1) := dk_62 (c := cJ7_fill_53178) (pc := 4) (dk_at bnames05cJ7_fill_53178_0 4)
theorem dJ7_fill_53178_5 : decode cJ7_fill_53178 5 = .ok (.iload_n 2, 1) := dk_28 (c := cJ7_fill_53178) (pc := 5) (dk_at bnames05cJ7_fill_53178_0 5)
theorem dJ7_fill_53178_6 : decode cJ7_fill_53178 6 = .ok (.iload_n 3, 1) := dk_29 (c := cJ7_fill_53178) (pc := 6) (dk_at bnames05cJ7_fill_53178_0 6)
theorem dJ7_fill_53178_7 : decode cJ7_fill_53178 7 = .ok (.if_icmp .ge 13, 3) := dk_162 (c := cJ7_fill_53178) (pc := 7) (a := 0) (b := 13) (dk_at bnames05cJ7_fill_53178_0 7) (by decide)
theorem dJ7_fill_53178_10 : decode cJ7_fill_53178 10 = .ok (.aload_n 0, 1) := dk_42 (c := cJ7_fill_53178) (pc := 10) (dk_at bnames05cJ7_fill_53178_0 10)
theorem dJ7_fill_53178_11 : decode cJ7_fill_53178 11 = .ok (.iload_n 2, 1) := dk_28 (c := cJ7_fill_53178) (pc := 11) (dk_at bnames05cJ7_fill_53178_0 11)
theorem dJ7_fill_53178_12 : decode cJ7_fill_53178 12 = .ok (.iload_n 1, 1) := dk_27 (c := cJ7_fill_53178) (pc := 12) (dk_at bnames05cJ7_fill_53178_0 12)
theorem dJ7_fill_53178_13 : decode cJ7_fill_53178 13 = .ok (.iastore, 1) := dk_79 (c := cJ7_fill_53178) (pc := 13) (dk_at bnames05cJ7_fill_53178_0 13)
theorem dJ7_fill_53178_14 : decode cJ7_fill_53178 14 = .ok (.iinc 2 1, 3) := dk_132 (c := cJ7_fill_53178) (pc := 14) (a := 2) (b := 1) (dk_at bnames05cJ7_fill_53178_0 14) rfl (by decide)
theorem dJ7_fill_53178_17 : decode cJ7_fill_53178 17 = .ok (.goto (-12), 3) := dk_167 (c := cJ7_fill_53178) (pc := 17) (a := 255) (b := 244) (dk_at bnames05cJ7_fill_53178_0 17) (by decide)
theorem dJ7_fill_53178_20 : decode cJ7_fill_53178 20 = .ok (.return_, 1) := dk_177 (c := cJ7_fill_53178) (pc := 20) (dk_at bnames05cJ7_fill_53178_0 20)
