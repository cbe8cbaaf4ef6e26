theorem bmorecX7_isWord_0 : ((dk_l cX7_isWord).drop 0).take 52 = [42, 180, 0, 36, 4, 160, 0, 19, 42, 180, 0, 25, 42, 180, 0, 170, 100, 43, 182, 0, 173, 159, 0, 5, 3, 172, 3, 61, 28, 43, 182, 0, 173, 162, 0, 30, 42, 180, 0, 9, 42, 180, 0, 170, 28, 96, 51, 43, 28, 182, 0, 177] := by decide +kernel
theorem dX7_isWord_0 : decode cX7_isWord 0 = .ok (.aload_n 0, 1) := dk_42 (c := cX7_isWord) (pc := 0) (dk_at bmorecX7_isWord_0 0)
theorem dX7_isWord_1 : decode cX7_isWord 1 = .ok (.getfield 36, 3) := dk_180 (c := cX7_isWord) (pc := 1) (a := 0) (b := 36) (dk_at bmorecX7_isWord_0 1) rfl
theorem dX7_isWord_4 : decode cX7_isWord 4 = .ok (.iconst 1, 1) := dk_4 (c := cX7_isWord) (pc := 4) (dk_at bmorecX7_isWord_0 4)
theorem dX7_isWord_5 : decode cX7_isWord 5 = .ok (.if_icmp .ne 19, 3) := dk_160 (c := cX7_isWord) (pc := 5) (a := 0) (b := 19) (dk_at bmorecX7_isWord_0 5) (by decide)
theorem dX7_isWord_24 : decode cX7_isWord 24 = .ok (.iconst 0, 1) := dk_3 (c := cX7_isWord) (pc := 24) (dk_at bmorecX7_isWord_0 24)
theorem dX7_isWord_25 : decode cX7_isWord 25 = .ok (.ireturn, 1) := dk_172 (c := cX7_isWord) (pc := 25) (dk_at bmorecX7_isWord_0 25)
theorem dX7_isWord_8 : decode cX7_isWord 8 = .ok (.aload_n 0, 1) := dk_42 (c := cX7_isWord) (pc := 8) (dk_at bmorecX7_isWord_0 8)
theorem dX7_isWord_9 : decode cX7_isWord 9 = .ok (.getfield 25, 3) := dk_180 (c := cX7_isWord) (pc := 9) (a := 0) (b := 25) (dk_at bmorecX7_isWord_0 9) rfl
theorem dX7_isWord_12 : decode cX7_isWord 12 = .ok (.aload_n 0, 1) := dk_42 (c := cX7_isWord) (pc := 12) (dk_at bmorecX7_isWord_0 12)
theorem dX7_isWord_13 : decode cX7_isWord 13 = .ok (.getfield 170, 3) := dk_180 (c := cX7_isWord) (pc := 13) (a := 0) (b := 170) (dk_at bmorecX7_isWord_0 13) rfl
theorem dX7_isWord_16 : decode cX7_isWord 16 = .ok (.isub, 1) := dk_100 (c := cX7_isWord) (pc := 16) (dk_at bmorecX7_isWord_0 16)
theorem dX7_isWord_17 : decode cX7_isWord 17 = .ok (.aload_n 1, 1) := dk_43 (c := cX7_isWord) (pc := 17) (dk_at bmorecX7_isWord_0 17)
set_option maxRecDepth 20000 in
theorem ggX7_isWord_J0_length_8abf5 : GoodIn wsX7_isWord wsJ0_length_8abf5 := goodIn_r _ [9, 10, 11, 12, 13, 8, 14, 15, 16] rfl (by decide +kernel)
set_option maxRecDepth 20000 in
theorem gX7_isWord_J0_length_8abf5 : GoodIn wsX7_isWord (wsV RX7 173 RJ0 yJ0_length_8abf5 wsJ0_length_8abf5) := goodIn_app (goodIn_r _ [5, 6, 7, 8] rfl (by decide +kernel)) ggX7_isWord_J0_length_8abf5
theorem dX7_isWord_18 : decode cX7_isWord 18 = .ok (.invokevirtual 173, 3) := dk_182 (c := cX7_isWord) (pc := 18) (a := 0) (b := 173) (dk_at bmorecX7_isWord_0 18) rfl
theorem dX7_isWord_21 : decode cX7_isWord 21 = .ok (.if_icmp .eq 5, 3) := dk_159 (c := cX7_isWord) (pc := 21) (a := 0) (b := 5) (dk_at bmorecX7_isWord_0 21) (by decide)
theorem dX7_isWord_26 : decode cX7_isWord 26 = .ok (.iconst 0, 1) := dk_3 (c := cX7_isWord) (pc := 26) (dk_at bmorecX7_isWord_0 26)
theorem dX7_isWord_27 : decode cX7_isWord 27 = .ok (.istore_n 2, 1) := dk_61 (c := cX7_isWord) (pc := 27) (dk_at bmorecX7_isWord_0 27)
theorem dX7_isWord_28 : decode cX7_isWord 28 = .ok (.iload_n 2, 1) := dk_28 (c := cX7_isWord) (pc := 28) (dk_at bmorecX7_isWord_0 28)
theorem dX7_isWord_29 : decode cX7_isWord 29 = .ok (.aload_n 1, 1) := dk_43 (c := cX7_isWord) (pc := 29) (dk_at bmorecX7_isWord_0 29)
theorem dX7_isWord_30 : decode cX7_isWord 30 = .ok (.invokevirtual 173, 3) := dk_182 (c := cX7_isWord) (pc := 30) (a := 0) (b := 173) (dk_at bmorecX7_isWord_0 30) rfl
theorem dX7_isWord_33 : decode cX7_isWord 33 = .ok (.if_icmp .ge 30, 3) := dk_162 (c := cX7_isWord) (pc := 33) (a := 0) (b := 30) (dk_at bmorecX7_isWord_0 33) (by decide)
theorem bmorecX7_isWord_48 : ((dk_l cX7_isWord).drop 48).take 17 = [28, 182, 0, 177, 159, 0, 5, 3, 172, 132, 2, 1, 167, 255, 224, 4, 172] := by decide +kernel
theorem dX7_isWord_63 : decode cX7_isWord 63 = .ok (.iconst 1, 1) := dk_4 (c := cX7_isWord) (pc := 63) (dk_at bmorecX7_isWord_48 15)
theorem dX7_isWord_64 : decode cX7_isWord 64 = .ok (.ireturn, 1) := dk_172 (c := cX7_isWord) (pc := 64) (dk_at bmorecX7_isWord_48 16)
theorem dX7_isWord_36 : decode cX7_isWord 36 = .ok (.aload_n 0, 1) := dk_42 (c := cX7_isWord) (pc := 36) (dk_at bmorecX7_isWord_0 36)
theorem dX7_isWord_37 : decode cX7_isWord 37 = .ok (.getfield 9, 3) := dk_180 (c := cX7_isWord) (pc := 37) (a := 0) (b := 9) (dk_at bmorecX7_isWord_0 37) rfl
theorem dX7_isWord_40 : decode cX7_isWord 40 = .ok (.aload_n 0, 1) := dk_42 (c := cX7_isWord) (pc := 40) (dk_at bmorecX7_isWord_0 40)
theorem dX7_isWord_41 : decode cX7_isWord 41 = .ok (.getfield 170, 3) := dk_180 (c := cX7_isWord) (pc := 41) (a := 0) (b := 170) (dk_at bmorecX7_isWord_0 41) rfl
theorem dX7_isWord_44 : decode cX7_isWord 44 = .ok (.iload_n 2, 1) := dk_28 (c := cX7_isWord) (pc := 44) (dk_at bmorecX7_isWord_0 44)
theorem dX7_isWord_45 : decode cX7_isWord 45 = .ok (.iadd, 1) := dk_96 (c := cX7_isWord) (pc := 45) (dk_at bmorecX7_isWord_0 45)
theorem dX7_isWord_46 : decode cX7_isWord 46 = .ok (.baload, 1) := dk_51 (c := cX7_isWord) (pc := 46) (dk_at bmorecX7_isWord_0 46)
theorem dX7_isWord_47 : decode cX7_isWord 47 = .ok (.aload_n 1, 1) := dk_43 (c := cX7_isWord) (pc := 47) (dk_at bmorecX7_isWord_0 47)
theorem dX7_isWord_48 : decode cX7_isWord 48 = .ok (.iload_n 2, 1) := dk_28 (c := cX7_isWord) (pc := 48) (dk_at bmorecX7_isWord_48 0)
set_option maxRecDepth 20000 in
theorem ggX7_isWord_J0_charAt_5068e : GoodIn wsX7_isWord wsJ0_charAt_5068e := goodIn_r _ [20, 10, 21, 22, 23, 8, 24, 15, 16, 25, 26, 27, 28, 29, 30, 31, 32, 33, 34, 35, 36, 37, 38, 39, 40, 41, 42, 43, 44, 45, 46, 47, 48, 49, 50, 51, 52, 53] rfl (by decide +kernel)
set_option maxRecDepth 20000 in
theorem gX7_isWord_J0_charAt_5068e : GoodIn wsX7_isWord (wsV RX7 177 RJ0 yJ0_charAt_5068e wsJ0_charAt_5068e) := goodIn_app (goodIn_r _ [17, 18, 19, 8] rfl (by decide +kernel)) ggX7_isWord_J0_charAt_5068e
theorem dX7_isWord_49 : decode cX7_isWord 49 = .ok (.invokevirtual 177, 3) := dk_182 (c := cX7_isWord) (pc := 49) (a := 0) (b := 177) (dk_at bmorecX7_isWord_48 1) rfl
theorem dX7_isWord_52 : decode cX7_isWord 52 = .ok (.if_icmp .eq 5, 3) := dk_159 (c := cX7_isWord) (pc := 52) (a := 0) (b := 5) (dk_at bmorecX7_isWord_48 4) (by decide)
theorem dX7_isWord_57 : decode cX7_isWord 57 = .ok (.iinc 2 1, 3) := dk_132 (c := cX7_isWord) (pc := 57) (a := 2) (b := 1) (dk_at bmorecX7_isWord_48 9) rfl (by decide)
theorem dX7_isWord_60 : decode cX7_isWord 60 = .ok (.goto (-32), 3) := dk_167 (c := cX7_isWord) (pc := 60) (a := 255) (b := 224) (dk_at bmorecX7_isWord_48 12) (by decide)
theorem dX7_isWord_55 : decode cX7_isWord 55 = .ok (.iconst 0, 1) := dk_3 (c := cX7_isWord) (pc := 55) (dk_at bmorecX7_isWord_48 7)
theorem dX7_isWord_56 : decode cX7_isWord 56 = .ok (.ireturn, 1) := dk_172 (c := cX7_isWord) (pc := 56) (dk_at bmorecX7_isWord_48 8)
theorem bmorecX7_jointNamed_0 : ((dk_l cX7_jointNamed).drop 0).take 48 = [42, 18, 162, 182, 0, 48, 153, 0, 5, 3, 172, 42, 18, 164, 182, 0, 48, 153, 0, 5, 4, 172, 42, 18, 166, 182, 0, 48, 153, 0, 5, 5, 172, 42, 18, 168, 182, 0, 48, 153, 0, 7, 6, 167, 0, 4, 2, 172] := by decide +kernel
theorem dX7_jointNamed_0 : decode cX7_jointNamed 0 = .ok (.aload_n 0, 1) := dk_42 (c := cX7_jointNamed) (pc := 0) (dk_at bmorecX7_jointNamed_0 0)
theorem dX7_jointNamed_1 : decode cX7_jointNamed 1 = .ok (.ldc 162, 2) := dk_18 (c := cX7_jointNamed) (pc := 1) (a := 162) (dk_at bmorecX7_jointNamed_0 1) rfl
set_option maxRecDepth 20000 in
theorem ggX7_jointNamed_X7_isWord : GoodIn wsX7_jointNamed wsX7_isWord := goodIn_r _ [5, 6, 7, 8, 9, 10, 11, 12, 13, 14, 15, 16, 17, 18, 19, 20, 21, 22, 23, 24, 25, 26, 27, 28, 29, 30, 31, 32, 33, 34, 35, 36, 37, 38, 39, 40, 41, 42, 43, 44, 45, 46, 47, 48, 49, 50, 51, 52, 53, 54, 55, 56, 57, 58, 59, 60, 61, 62, 63, 64, 65, 66] rfl (by decide +kernel)
set_option maxRecDepth 20000 in
theorem gX7_jointNamed_X7_isWord : GoodIn wsX7_jointNamed (wsV RX7 48 RX7 yX7_isWord wsX7_isWord) := goodIn_app (goodIn_r _ [1, 2, 3, 4] rfl (by decide +kernel)) ggX7_jointNamed_X7_isWord
theorem dX7_jointNamed_3 : decode cX7_jointNamed 3 = .ok (.invokevirtual 48, 3) := dk_182 (c := cX7_jointNamed) (pc := 3) (a := 0) (b := 48) (dk_at bmorecX7_jointNamed_0 3) rfl
theorem dX7_jointNamed_6 : decode cX7_jointNamed 6 = .ok (.ifCond .eq 5, 3) := dk_153 (c := cX7_jointNamed) (pc := 6) (a := 0) (b := 5) (dk_at bmorecX7_jointNamed_0 6) (by decide)
theorem dX7_jointNamed_11 : decode cX7_jointNamed 11 = .ok (.aload_n 0, 1) := dk_42 (c := cX7_jointNamed) (pc := 11) (dk_at bmorecX7_jointNamed_0 11)
theorem dX7_jointNamed_12 : decode cX7_jointNamed 12 = .ok (.ldc 164, 2) := dk_18 (c := cX7_jointNamed) (pc := 12) (a := 164) (dk_at bmorecX7_jointNamed_0 12) rfl
theorem dX7_jointNamed_14 : decode cX7_jointNamed 14 = .ok (.invokevirtual 48, 3) := dk_182 (c := cX7_jointNamed) (pc := 14) (a := 0) (b := 48) (dk_at bmorecX7_jointNamed_0 14) rfl
theorem dX7_jointNamed_17 : decode cX7_jointNamed 17 = .ok (.ifCond .eq 5, 3) := dk_153 (c := cX7_jointNamed) (pc := 17) (a := 0) (b := 5) (dk_at bmorecX7_jointNamed_0 17) (by decide)
theorem dX7_jointNamed_22 : decode cX7_jointNamed 22 = .ok (.aload_n 0, 1) := dk_42 (c := cX7_jointNamed) (pc := 22) (dk_at bmorecX7_jointNamed_0 22)
theorem dX7_jointNamed_23 : decode cX7_jointNamed 23 = .ok (.ldc 166, 2) := dk_18 (c := cX7_jointNamed) (pc := 23) (a := 166) (dk_at bmorecX7_jointNamed_0 23) rfl
theorem dX7_jointNamed_25 : decode cX7_jointNamed 25 = .ok (.invokevirtual 48, 3) := dk_182 (c := cX7_jointNamed) (pc := 25) (a := 0) (b := 48) (dk_at bmorecX7_jointNamed_0 25) rfl
theorem dX7_jointNamed_28 : decode cX7_jointNamed 28 = .ok (.ifCond .eq 5, 3) := dk_153 (c := cX7_jointNamed) (pc := 28) (a := 0) (b := 5) (dk_at bmorecX7_jointNamed_0 28) (by decide)
theorem dX7_jointNamed_33 : decode cX7_jointNamed 33 = .ok (.aload_n 0, 1) := dk_42 (c := cX7_jointNamed) (pc := 33) (dk_at bmorecX7_jointNamed_0 33)
theorem dX7_jointNamed_34 : decode cX7_jointNamed 34 = .ok (.ldc 168, 2) := dk_18 (c := cX7_jointNamed) (pc := 34) (a := 168) (dk_at bmorecX7_jointNamed_0 34) rfl
theorem dX7_jointNamed_36 : decode cX7_jointNamed 36 = .ok (.invokevirtual 48, 3) := dk_182 (c := cX7_jointNamed) (pc := 36) (a := 0) (b := 48) (dk_at bmorecX7_jointNamed_0 36) rfl
theorem dX7_jointNamed_39 : decode cX7_jointNamed 39 = .ok (.ifCond .eq 7, 3) := dk_153 (c := cX7_jointNamed) (pc := 39) (a := 0) (b := 7) (dk_at bmorecX7_jointNamed_0 39) (by decide)
theorem dX7_jointNamed_46 : decode cX7_jointNamed 46 = .ok (.iconst (-1), 1) := dk_2 (c := cX7_jointNamed) (pc := 46) (dk_at bmorecX7_jointNamed_0 46)
theorem dX7_jointNamed_47 : decode cX7_jointNamed 47 = .ok (.ireturn, 1) := dk_172 (c := cX7_jointNamed) (pc := 47) (dk_at bmorecX7_jointNamed_0 47)
theorem dX7_jointNamed_42 : decode cX7_jointNamed 42 = .ok (.iconst 3, 1) := dk_6 (c := cX7_jointNamed) (pc := 42) (dk_at bmorecX7_jointNamed_0 42)
theorem dX7_jointNamed_43 : decode cX7_jointNamed 43 = .ok (.goto 4, 3) := dk_167 (c := cX7_jointNamed) (pc := 43) (a := 0) (b := 4) (dk_at bmorecX7_jointNamed_0 43) (by decide)
theorem dX7_jointNamed_31 : decode cX7_jointNamed 31 = .ok (.iconst 2, 1) := dk_5 (c := cX7_jointNamed) (pc := 31) (dk_at bmorecX7_jointNamed_0 31)
theorem dX7_jointNamed_32 : decode cX7_jointNamed 32 = .ok (.ireturn, 1) := dk_172 (c := cX7_jointNamed) (pc := 32) (dk_at bmorecX7_jointNamed_0 32)
theorem dX7_jointNamed_20 : decode cX7_jointNamed 20 = .ok (.iconst 1, 1) := dk_4 (c := cX7_jointNamed) (pc := 20) (dk_at bmorecX7_jointNamed_0 20)
theorem dX7_jointNamed_21 : decode cX7_jointNamed 21 = .ok (.ireturn, 1) := dk_172 (c := cX7_jointNamed) (pc := 21) (dk_at bmorecX7_jointNamed_0 21)
theorem dX7_jointNamed_9 : decode cX7_jointNamed 9 = .ok (.iconst 0, 1) := dk_3 (c := cX7_jointNamed) (pc := 9) (dk_at bmorecX7_jointNamed_0 9)
theorem dX7_jointNamed_10 : decode cX7_jointNamed 10 = .ok (.ireturn, 1) := dk_172 (c := cX7_jointNamed) (pc := 10) (dk_at bmorecX7_jointNamed_0 10)
theorem bmorecX7_partNamed_0 : ((dk_l cX7_partNamed).drop 0).take 52 = [42, 18, 151, 182, 0, 48, 153, 0, 7, 17, 3, 232, 172, 42, 18, 106, 182, 0, 48, 153, 0, 7, 17, 3, 233, 172, 42, 18, 153, 182, 0, 48, 153, 0, 7, 17, 3, 234, 172, 42, 18, 155, 182, 0, 48, 153, 0, 7, 17, 3, 235, 172] := by decide +kernel
theorem dX7_partNamed_0 : decode cX7_partNamed 0 = .ok (.aload_n 0, 1) := dk_42 (c := cX7_partNamed) (pc := 0) (dk_at bmorecX7_partNamed_0 0)
theorem dX7_partNamed_1 : decode cX7_partNamed 1 = .ok (.ldc 151, 2) := dk_18 (c := cX7_partNamed) (pc := 1) (a := 151) (dk_at bmorecX7_partNamed_0 1) rfl
set_option maxRecDepth 20000 in
theorem ggX7_partNamed_X7_isWord : GoodIn wsX7_partNamed wsX7_isWord := goodIn_r _ [5, 6, 7, 8, 9, 10, 11, 12, 13, 14, 15, 16, 17, 18, 19, 20, 21, 22, 23, 24, 25, 26, 27, 28, 29, 30, 31, 32, 33, 34, 35, 36, 37, 38, 39, 40, 41, 42, 43, 44, 45, 46, 47, 48, 49, 50, 51, 52, 53, 54, 55, 56, 57, 58, 59, 60, 61, 62, 63, 64, 65, 66] rfl (by decide +kernel)
set_option maxRecDepth 20000 in
theorem gX7_partNamed_X7_isWord : GoodIn wsX7_partNamed (wsV RX7 48 RX7 yX7_isWord wsX7_isWord) := goodIn_app (goodIn_r _ [1, 2, 3, 4] rfl (by decide +kernel)) ggX7_partNamed_X7_isWord
theorem dX7_partNamed_3 : decode cX7_partNamed 3 = .ok (.invokevirtual 48, 3) := dk_182 (c := cX7_partNamed) (pc := 3) (a := 0) (b := 48) (dk_at bmorecX7_partNamed_0 3) rfl
theorem dX7_partNamed_6 : decode cX7_partNamed 6 = .ok (.ifCond .eq 7, 3) := dk_153 (c := cX7_partNamed) (pc := 6) (a := 0) (b := 7) (dk_at bmorecX7_partNamed_0 6) (by decide)
theorem dX7_partNamed_13 : decode cX7_partNamed 13 = .ok (.aload_n 0, 1) := dk_42 (c := cX7_partNamed) (pc := 13) (dk_at bmorecX7_partNamed_0 13)
theorem dX7_partNamed_14 : decode cX7_partNamed 14 = .ok (.ldc 106, 2) := dk_18 (c := cX7_partNamed) (pc := 14) (a := 106) (dk_at bmorecX7_partNamed_0 14) rfl
theorem dX7_partNamed_16 : decode cX7_partNamed 16 = .ok (.invokevirtual 48, 3) := dk_182 (c := cX7_partNamed) (pc := 16) (a := 0) (b := 48) (dk_at bmorecX7_partNamed_0 16) rfl
theorem dX7_partNamed_19 : decode cX7_partNamed 19 = .ok (.ifCond .eq 7, 3) := dk_153 (c := cX7_partNamed) (pc := 19) (a := 0) (b := 7) (dk_at bmorecX7_partNamed_0 19) (by decide)
theorem dX7_partNamed_26 : decode cX7_partNamed 26 = .ok (.aload_n 0, 1) := dk_42 (c := cX7_partNamed) (pc := 26) (dk_at bmorecX7_partNamed_0 26)
theorem dX7_partNamed_27 : decode cX7_partNamed 27 = .ok (.ldc 153, 2) := dk_18 (c := cX7_partNamed) (pc := 27) (a := 153) (dk_at bmorecX7_partNamed_0 27) rfl
theorem dX7_partNamed_29 : decode cX7_partNamed 29 = .ok (.invokevirtual 48, 3) := dk_182 (c := cX7_partNamed) (pc := 29) (a := 0) (b := 48) (dk_at bmorecX7_partNamed_0 29) rfl
theorem dX7_partNamed_32 : decode cX7_partNamed 32 = .ok (.ifCond .eq 7, 3) := dk_153 (c := cX7_partNamed) (pc := 32) (a := 0) (b := 7) (dk_at bmorecX7_partNamed_0 32) (by decide)
theorem dX7_partNamed_39 : decode cX7_partNamed 39 = .ok (.aload_n 0, 1) := dk_42 (c := cX7_partNamed) (pc := 39) (dk_at bmorecX7_partNamed_0 39)
theorem dX7_partNamed_40 : decode cX7_partNamed 40 = .ok (.ldc 155, 2) := dk_18 (c := cX7_partNamed) (pc := 40) (a := 155) (dk_at bmorecX7_partNamed_0 40) rfl
theorem dX7_partNamed_42 : decode cX7_partNamed 42 = .ok (.invokevirtual 48, 3) := dk_182 (c := cX7_partNamed) (pc := 42) (a := 0) (b := 48) (dk_at bmorecX7_partNamed_0 42) rfl
theorem dX7_partNamed_45 : decode cX7_partNamed 45 = .ok (.ifCond .eq 7, 3) := dk_153 (c := cX7_partNamed) (pc := 45) (a := 0) (b := 7) (dk_at bmorecX7_partNamed_0 45) (by decide)
theorem bmorecX7_partNamed_48 : ((dk_l cX7_partNamed).drop 48).take 21 = [17, 3, 235, 172, 42, 18, 157, 182, 0, 48, 153, 0, 9, 17, 3, 236, 167, 0, 4, 2, 172] := by decide +kernel
theorem dX7_partNamed_52 : decode cX7_partNamed 52 = .ok (.aload_n 0, 1) := dk_42 (c := cX7_partNamed) (pc := 52) (dk_at bmorecX7_partNamed_48 4)
theorem dX7_partNamed_53 : decode cX7_partNamed 53 = .ok (.ldc 157, 2) := dk_18 (c := cX7_partNamed) (pc := 53) (a := 157) (dk_at bmorecX7_partNamed_48 5) rfl
theorem dX7_partNamed_55 : decode cX7_partNamed 55 = .ok (.invokevirtual 48, 3) := dk_182 (c := cX7_partNamed) (pc := 55) (a := 0) (b := 48) (dk_at bmorecX7_partNamed_48 7) rfl
theorem dX7_partNamed_58 : decode cX7_partNamed 58 = .ok (.ifCond .eq 9, 3) := dk_153 (c := cX7_partNamed) (pc := 58) (a := 0) (b := 9) (dk_at bmorecX7_partNamed_48 10) (by decide)
theorem dX7_partNamed_67 : decode cX7_partNamed 67 = .ok (.iconst (-1), 1) := dk_2 (c := cX7_partNamed) (pc := 67) (dk_at bmorecX7_partNamed_48 19)
theorem dX7_partNamed_68 : decode cX7_partNamed 68 = .ok (.ireturn, 1) := dk_172 (c := cX7_partNamed) (pc := 68) (dk_at bmorecX7_partNamed_48 20)
theorem dX7_partNamed_61 : decode cX7_partNamed 61 = .ok (.sipush 1004, 3) := dk_17 (c := cX7_partNamed) (pc := 61) (a := 3) (b := 236) (dk_at bmorecX7_partNamed_48 13) (by decide)
theorem dX7_partNamed_64 : decode cX7_partNamed 64 = .ok (.goto 4, 3) := dk_167 (c := cX7_partNamed) (pc := 64) (a := 0) (b := 4) (dk_at bmorecX7_partNamed_48 16) (by decide)
theorem dX7_partNamed_48 : decode cX7_partNamed 48 = .ok (.sipush 1003, 3) := dk_17 (c := cX7_partNamed) (pc := 48) (a := 3) (b := 235) (dk_at bmorecX7_partNamed_48 0) (by decide)
theorem dX7_partNamed_51 : decode cX7_partNamed 51 = .ok (.ireturn, 1) := dk_172 (c := cX7_partNamed) (pc := 51) (dk_at bmorecX7_partNamed_48 3)
theorem dX7_partNamed_35 : decode cX7_partNamed 35 = .ok (.sipush 1002, 3) := dk_17 (c := cX7_partNamed) (pc := 35) (a := 3) (b := 234) (dk_at bmorecX7_partNamed_0 35) (by decide)
theorem dX7_partNamed_38 : decode cX7_partNamed 38 = .ok (.ireturn, 1) := dk_172 (c := cX7_partNamed) (pc := 38) (dk_at bmorecX7_partNamed_0 38)
theorem dX7_partNamed_22 : decode cX7_partNamed 22 = .ok (.sipush 1001, 3) := dk_17 (c := cX7_partNamed) (pc := 22) (a := 3) (b := 233) (dk_at bmorecX7_partNamed_0 22) (by decide)
theorem dX7_partNamed_25 : decode cX7_partNamed 25 = .ok (.ireturn, 1) := dk_172 (c := cX7_partNamed) (pc := 25) (dk_at bmorecX7_partNamed_0 25)
theorem dX7_partNamed_9 : decode cX7_partNamed 9 = .ok (.sipush 1000, 3) := dk_17 (c := cX7_partNamed) (pc := 9) (a := 3) (b := 232) (dk_at bmorecX7_partNamed_0 9) (by decide)
theorem dX7_partNamed_12 : decode cX7_partNamed 12 = .ok (.ireturn, 1) := dk_172 (c := cX7_partNamed) (pc := 12) (dk_at bmorecX7_partNamed_0 12)
theorem bmorecX7_passJoint_0 : ((dk_l cX7_passJoint).drop 0).take 16 = [42, 182, 0, 159, 60, 27, 2, 159, 0, 7, 42, 182, 0, 33, 27, 172] := by decide +kernel
theorem dX7_passJoint_0 : decode cX7_passJoint 0 = .ok (.aload_n 0, 1) := dk_42 (c := cX7_passJoint) (pc := 0) (dk_at bmorecX7_passJoint_0 0)
set_option maxRecDepth 20000 in
theorem ggX7_passJoint_X7_jointNamed : GoodIn wsX7_passJoint wsX7_jointNamed := goodIn_r _ [5, 6, 7, 8, 4, 9, 10, 11, 12, 13, 14, 15, 16, 17, 18, 19, 20, 21, 22, 23, 24, 25, 26, 27, 28, 29, 30, 31, 32, 33, 34, 35, 36, 37, 38, 39, 40, 41, 42, 43, 44, 45, 46, 47, 48, 49, 50, 51, 52, 53, 54, 55, 56, 57, 58, 59, 60, 61, 62, 80, 81, 82, 83, 84, 85, 86, 87] rfl (by decide +kernel)
set_option maxRecDepth 20000 in
theorem gX7_passJoint_X7_jointNamed : GoodIn wsX7_passJoint (wsV RX7 159 RX7 yX7_jointNamed wsX7_jointNamed) := goodIn_app (goodIn_r _ [1, 2, 3, 4] rfl (by decide +kernel)) ggX7_passJoint_X7_jointNamed
theorem dX7_passJoint_1 : decode cX7_passJoint 1 = .ok (.invokevirtual 159, 3) := dk_182 (c := cX7_passJoint) (pc := 1) (a := 0) (b := 159) (dk_at bmorecX7_passJoint_0 1) rfl
theorem dX7_passJoint_4 : decode cX7_passJoint 4 = .ok (.istore_n 1, 1) := dk_60 (c := cX7_passJoint) (pc := 4) (dk_at bmorecX7_passJoint_0 4)
theorem dX7_passJoint_5 : decode cX7_passJoint 5 = .ok (.iload_n 1, 1) := dk_27 (c := cX7_passJoint) (pc := 5) (dk_at bmorecX7_passJoint_0 5)
theorem dX7_passJoint_6 : decode cX7_passJoint 6 = .ok (.iconst (-1), 1) := dk_2 (c := cX7_passJoint) (pc := 6) (dk_at bmorecX7_passJoint_0 6)
theorem dX7_passJoint_7 : decode cX7_passJoint 7 = .ok (.if_icmp .eq 7, 3) := dk_159 (c := cX7_passJoint) (pc := 7) (a := 0) (b := 7) (dk_at bmorecX7_passJoint_0 7) (by decide)
theorem dX7_passJoint_14 : decode cX7_passJoint 14 = .ok (.iload_n 1, 1) := dk_27 (c := cX7_passJoint) (pc := 14) (dk_at bmorecX7_passJoint_0 14)
theorem dX7_passJoint_15 : decode cX7_passJoint 15 = .ok (.ireturn, 1) := dk_172 (c := cX7_passJoint) (pc := 15) (dk_at bmorecX7_passJoint_0 15)
theorem dX7_passJoint_10 : decode cX7_passJoint 10 = .ok (.aload_n 0, 1) := dk_42 (c := cX7_passJoint) (pc := 10) (dk_at bmorecX7_passJoint_0 10)
set_option maxRecDepth 20000 in
theorem ggX7_passJoint_X7_step : GoodIn wsX7_passJoint wsX7_step := goodIn_r _ [66, 11, 67, 13, 12, 68, 10, 69, 70, 71, 72, 73, 74, 75, 4, 76, 77, 78, 79, 80, 81, 82, 83, 84, 85, 86, 87] rfl (by decide +kernel)
set_option maxRecDepth 20000 in
theorem gX7_passJoint_X7_step : GoodIn wsX7_passJoint (wsV RX7 33 RX7 yX7_step wsX7_step) := goodIn_app (goodIn_r _ [63, 64, 65, 4] rfl (by decide +kernel)) ggX7_passJoint_X7_step
theorem dX7_passJoint_11 : decode cX7_passJoint 11 = .ok (.invokevirtual 33, 3) := dk_182 (c := cX7_passJoint) (pc := 11) (a := 0) (b := 33) (dk_at bmorecX7_passJoint_0 11) rfl
theorem bmorecX7_passPart_0 : ((dk_l cX7_passPart).drop 0).take 25 = [42, 182, 0, 148, 60, 27, 2, 160, 0, 12, 42, 3, 17, 3, 231, 182, 0, 88, 172, 42, 182, 0, 33, 27, 172] := by decide +kernel
theorem dX7_passPart_0 : decode cX7_passPart 0 = .ok (.aload_n 0, 1) := dk_42 (c := cX7_passPart) (pc := 0) (dk_at bmorecX7_passPart_0 0)
set_option maxRecDepth 20000 in
theorem ggX7_passPart_X7_partNamed : GoodIn wsX7_passPart wsX7_partNamed := goodIn_r _ [5, 6, 7, 8, 4, 9, 10, 11, 12, 13, 14, 15, 16, 17, 18, 19, 20, 21, 22, 23, 24, 25, 26, 27, 28, 29, 30, 31, 32, 33, 34, 35, 36, 37, 38, 39, 40, 41, 42, 43, 44, 45, 46, 47, 48, 49, 50, 51, 52, 53, 54, 55, 56, 57, 58, 59, 60, 61, 62, 90, 91, 92, 93, 94, 95, 96, 97] rfl (by decide +kernel)
set_option maxRecDepth 20000 in
theorem gX7_passPart_X7_partNamed : GoodIn wsX7_passPart (wsV RX7 148 RX7 yX7_partNamed wsX7_partNamed) := goodIn_app (goodIn_r _ [1, 2, 3, 4] rfl (by decide +kernel)) ggX7_passPart_X7_partNamed
theorem dX7_passPart_1 : decode cX7_passPart 1 = .ok (.invokevirtual 148, 3) := dk_182 (c := cX7_passPart) (pc := 1) (a := 0) (b := 148) (dk_at bmorecX7_passPart_0 1) rfl
theorem dX7_passPart_4 : decode cX7_passPart 4 = .ok (.istore_n 1, 1) := dk_60 (c := cX7_passPart) (pc := 4) (dk_at bmorecX7_passPart_0 4)
theorem dX7_passPart_5 : decode cX7_passPart 5 = .ok (.iload_n 1, 1) := dk_27 (c := cX7_passPart) (pc := 5) (dk_at bmorecX7_passPart_0 5)
theorem dX7_passPart_6 : decode cX7_passPart 6 = .ok (.iconst (-1), 1) := dk_2 (c := cX7_passPart) (pc := 6) (dk_at bmorecX7_passPart_0 6)
theorem dX7_passPart_7 : decode cX7_passPart 7 = .ok (.if_icmp .ne 12, 3) := dk_160 (c := cX7_passPart) (pc := 7) (a := 0) (b := 12) (dk_at bmorecX7_passPart_0 7) (by decide)
theorem dX7_passPart_10 : decode cX7_passPart 10 = .ok (.aload_n 0, 1) := dk_42 (c := cX7_passPart) (pc := 10) (dk_at bmorecX7_passPart_0 10)
theorem dX7_passPart_11 : decode cX7_passPart 11 = .ok (.iconst 0, 1) := dk_3 (c := cX7_passPart) (pc := 11) (dk_at bmorecX7_passPart_0 11)
theorem dX7_passPart_12 : decode cX7_passPart 12 = .ok (.sipush 999, 3) := dk_17 (c := cX7_passPart) (pc := 12) (a := 3) (b := 231) (dk_at bmorecX7_passPart_0 12) (by decide)
set_option maxRecDepth 20000 in
theorem ggX7_passPart_X7_passNumber : GoodIn wsX7_passPart wsX7_passNumber := goodIn_r _ [66, 10, 67, 68, 69, 70, 71, 4, 72, 12, 73, 74, 75, 76, 77, 11, 78, 13, 79, 80, 81, 82, 83, 84, 85, 86, 87, 88, 89, 90, 91, 92, 93, 94, 95, 96, 97] rfl (by decide +kernel)
set_option maxRecDepth 20000 in
theorem gX7_passPart_X7_passNumber : GoodIn wsX7_passPart (wsV RX7 88 RX7 yX7_passNumber wsX7_passNumber) := goodIn_app (goodIn_r _ [63, 64, 65, 4] rfl (by decide +kernel)) ggX7_passPart_X7_passNumber
theorem dX7_passPart_15 : decode cX7_passPart 15 = .ok (.invokevirtual 88, 3) := dk_182 (c := cX7_passPart) (pc := 15) (a := 0) (b := 88) (dk_at bmorecX7_passPart_0 15) rfl
theorem dX7_passPart_18 : decode cX7_passPart 18 = .ok (.ireturn, 1) := dk_172 (c := cX7_passPart) (pc := 18) (dk_at bmorecX7_passPart_0 18)
theorem dX7_passPart_19 : decode cX7_passPart 19 = .ok (.aload_n 0, 1) := dk_42 (c := cX7_passPart) (pc := 19) (dk_at bmorecX7_passPart_0 19)
set_option maxRecDepth 20000 in
theorem ggX7_passPart_X7_step : GoodIn wsX7_passPart wsX7_step := goodIn_r _ [77, 11, 78, 13, 12, 67, 10, 79, 80, 81, 82, 83, 84, 85, 4, 86, 87, 88, 89, 90, 91, 92, 93, 94, 95, 96, 97] rfl (by decide +kernel)
set_option maxRecDepth 20000 in
theorem gX7_passPart_X7_step : GoodIn wsX7_passPart (wsV RX7 33 RX7 yX7_step wsX7_step) := goodIn_app (goodIn_r _ [74, 75, 76, 4] rfl (by decide +kernel)) ggX7_passPart_X7_step
theorem dX7_passPart_20 : decode cX7_passPart 20 = .ok (.invokevirtual 33, 3) := dk_182 (c := cX7_passPart) (pc := 20) (a := 0) (b := 33) (dk_at bmorecX7_passPart_0 20) rfl
theorem dX7_passPart_23 : decode cX7_passPart 23 = .ok (.iload_n 1, 1) := dk_27 (c := cX7_passPart) (pc := 23) (dk_at bmorecX7_passPart_0 23)
theorem dX7_passPart_24 : decode cX7_passPart 24 = .ok (.ireturn, 1) := dk_172 (c := cX7_passPart) (pc := 24) (dk_at bmorecX7_passPart_0 24)
theorem bmorecX7_passWord_0 : ((dk_l cX7_passWord).drop 0).take 25 = [42, 43, 182, 0, 48, 154, 0, 8, 42, 4, 182, 0, 75, 42, 180, 0, 22, 154, 0, 7, 42, 182, 0, 33, 177] := by decide +kernel
theorem dX7_passWord_0 : decode cX7_passWord 0 = .ok (.aload_n 0, 1) := dk_42 (c := cX7_passWord) (pc := 0) (dk_at bmorecX7_passWord_0 0)
theorem dX7_passWord_1 : decode cX7_passWord 1 = .ok (.aload_n 1, 1) := dk_43 (c := cX7_passWord) (pc := 1) (dk_at bmorecX7_passWord_0 1)
set_option maxRecDepth 20000 in
theorem ggX7_passWord_X7_isWord : GoodIn wsX7_passWord wsX7_isWord := goodIn_r _ [6, 7, 8, 9, 10, 11, 12, 13, 14, 15, 16, 17, 18, 19, 20, 21, 22, 23, 24, 25, 26, 27, 28, 29, 30, 31, 32, 33, 34, 35, 36, 37, 38, 39, 40, 41, 42, 43, 44, 45, 46, 47, 48, 49, 50, 51, 52, 53, 54, 55, 56, 57, 58, 59, 82, 83, 84, 85, 86, 87, 88, 89] rfl (by decide +kernel)
set_option maxRecDepth 20000 in
theorem gX7_passWord_X7_isWord : GoodIn wsX7_passWord (wsV RX7 48 RX7 yX7_isWord wsX7_isWord) := goodIn_app (goodIn_r _ [2, 3, 4, 5] rfl (by decide +kernel)) ggX7_passWord_X7_isWord
theorem dX7_passWord_2 : decode cX7_passWord 2 = .ok (.invokevirtual 48, 3) := dk_182 (c := cX7_passWord) (pc := 2) (a := 0) (b := 48) (dk_at bmorecX7_passWord_0 2) rfl
theorem dX7_passWord_5 : decode cX7_passWord 5 = .ok (.ifCond .ne 8, 3) := dk_154 (c := cX7_passWord) (pc := 5) (a := 0) (b := 8) (dk_at bmorecX7_passWord_0 5) (by decide)
theorem dX7_passWord_8 : decode cX7_passWord 8 = .ok (.aload_n 0, 1) := dk_42 (c := cX7_passWord) (pc := 8) (dk_at bmorecX7_passWord_0 8)
theorem dX7_passWord_9 : decode cX7_passWord 9 = .ok (.iconst 1, 1) := dk_4 (c := cX7_passWord) (pc := 9) (dk_at bmorecX7_passWord_0 9)
set_option maxRecDepth 20000 in
theorem ggX7_passWord_X7_refuse : GoodIn wsX7_passWord wsX7_refuse := goodIn_r _ [63, 1, 9, 64, 82, 83, 84, 85, 86, 87, 88, 89] rfl (by decide +kernel)
set_option maxRecDepth 20000 in
theorem gX7_passWord_X7_refuse : GoodIn wsX7_passWord (wsV RX7 75 RX7 yX7_refuse wsX7_refuse) := goodIn_app (goodIn_r _ [60, 61, 62, 5] rfl (by decide +kernel)) ggX7_passWord_X7_refuse
theorem dX7_passWord_10 : decode cX7_passWord 10 = .ok (.invokevirtual 75, 3) := dk_182 (c := cX7_passWord) (pc := 10) (a := 0) (b := 75) (dk_at bmorecX7_passWord_0 10) rfl
theorem dX7_passWord_13 : decode cX7_passWord 13 = .ok (.aload_n 0, 1) := dk_42 (c := cX7_passWord) (pc := 13) (dk_at bmorecX7_passWord_0 13)
theorem dX7_passWord_14 : decode cX7_passWord 14 = .ok (.getfield 22, 3) := dk_180 (c := cX7_passWord) (pc := 14) (a := 0) (b := 22) (dk_at bmorecX7_passWord_0 14) rfl
theorem dX7_passWord_17 : decode cX7_passWord 17 = .ok (.ifCond .ne 7, 3) := dk_154 (c := cX7_passWord) (pc := 17) (a := 0) (b := 7) (dk_at bmorecX7_passWord_0 17) (by decide)
theorem dX7_passWord_24 : decode cX7_passWord 24 = .ok (.return_, 1) := dk_177 (c := cX7_passWord) (pc := 24) (dk_at bmorecX7_passWord_0 24)
theorem dX7_passWord_20 : decode cX7_passWord 20 = .ok (.aload_n 0, 1) := dk_42 (c := cX7_passWord) (pc := 20) (dk_at bmorecX7_passWord_0 20)
set_option maxRecDepth 20000 in
theorem ggX7_passWord_X7_step : GoodIn wsX7_passWord wsX7_step := goodIn_r _ [68, 8, 69, 10, 9, 70, 7, 71, 72, 73, 74, 75, 76, 77, 5, 78, 79, 80, 81, 82, 83, 84, 85, 86, 87, 88, 89] rfl (by decide +kernel)
set_option maxRecDepth 20000 in
theorem gX7_passWord_X7_step : GoodIn wsX7_passWord (wsV RX7 33 RX7 yX7_step wsX7_step) := goodIn_app (goodIn_r _ [65, 66, 67, 5] rfl (by decide +kernel)) ggX7_passWord_X7_step
theorem dX7_passWord_21 : decode cX7_passWord 21 = .ok (.invokevirtual 33, 3) := dk_182 (c := cX7_passWord) (pc := 21) (a := 0) (b := 33) (dk_at bmorecX7_passWord_0 21) rfl
theorem bmorecX7_readNoise_0 : ((dk_l cX7_readNoise).drop 0).take 40 = [43, 180, 0, 142, 153, 0, 8, 42, 5, 182, 0, 75, 42, 18, 70, 182, 0, 82, 43, 42, 3, 17, 3, 231, 182, 0, 88, 181, 0, 146, 43, 4, 181, 0, 142, 42, 182, 0, 94, 177] := by decide +kernel
theorem dX7_readNoise_0 : decode cX7_readNoise 0 = .ok (.aload_n 1, 1) := dk_43 (c := cX7_readNoise) (pc := 0) (dk_at bmorecX7_readNoise_0 0)
theorem dX7_readNoise_1 : decode cX7_readNoise 1 = .ok (.getfield 142, 3) := dk_180 (c := cX7_readNoise) (pc := 1) (a := 0) (b := 142) (dk_at bmorecX7_readNoise_0 1) rfl
theorem dX7_readNoise_4 : decode cX7_readNoise 4 = .ok (.ifCond .eq 8, 3) := dk_153 (c := cX7_readNoise) (pc := 4) (a := 0) (b := 8) (dk_at bmorecX7_readNoise_0 4) (by decide)
theorem dX7_readNoise_12 : decode cX7_readNoise 12 = .ok (.aload_n 0, 1) := dk_42 (c := cX7_readNoise) (pc := 12) (dk_at bmorecX7_readNoise_0 12)
theorem dX7_readNoise_13 : decode cX7_readNoise 13 = .ok (.ldc 70, 2) := dk_18 (c := cX7_readNoise) (pc := 13) (a := 70) (dk_at bmorecX7_readNoise_0 13) rfl
set_option maxRecDepth 20000 in
theorem ggX7_readNoise_X7_passWord : GoodIn wsX7_readNoise wsX7_passWord := goodIn_r _ [14, 8, 15, 16, 17, 6, 18, 19, 20, 9, 21, 22, 23, 24, 25, 26, 27, 28, 29, 30, 31, 32, 33, 34, 35, 36, 37, 38, 39, 40, 41, 42, 43, 44, 45, 46, 47, 48, 49, 50, 51, 52, 53, 54, 55, 56, 57, 58, 59, 60, 61, 62, 63, 64, 65, 66, 67, 68, 69, 70, 3, 4, 5, 7, 10, 71, 72, 73, 74, 75, 76, 77, 78, 79, 80, 81, 82, 83, 84, 85, 86, 87, 112, 113, 114, 115, 116, 117, 118, 119] rfl (by decide +kernel)
set_option maxRecDepth 20000 in
theorem gX7_readNoise_X7_passWord : GoodIn wsX7_readNoise (wsV RX7 82 RX7 yX7_passWord wsX7_passWord) := goodIn_app (goodIn_r _ [11, 12, 13, 6] rfl (by decide +kernel)) ggX7_readNoise_X7_passWord
theorem dX7_readNoise_15 : decode cX7_readNoise 15 = .ok (.invokevirtual 82, 3) := dk_182 (c := cX7_readNoise) (pc := 15) (a := 0) (b := 82) (dk_at bmorecX7_readNoise_0 15) rfl
theorem dX7_readNoise_18 : decode cX7_readNoise 18 = .ok (.aload_n 1, 1) := dk_43 (c := cX7_readNoise) (pc := 18) (dk_at bmorecX7_readNoise_0 18)
theorem dX7_readNoise_19 : decode cX7_readNoise 19 = .ok (.aload_n 0, 1) := dk_42 (c := cX7_readNoise) (pc := 19) (dk_at bmorecX7_readNoise_0 19)
theorem dX7_readNoise_20 : decode cX7_readNoise 20 = .ok (.iconst 0, 1) := dk_3 (c := cX7_readNoise) (pc := 20) (dk_at bmorecX7_readNoise_0 20)
theorem dX7_readNoise_21 : decode cX7_readNoise 21 = .ok (.sipush 999, 3) := dk_17 (c := cX7_readNoise) (pc := 21) (a := 3) (b := 231) (dk_at bmorecX7_readNoise_0 21) (by decide)
set_option maxRecDepth 20000 in
theorem ggX7_readNoise_X7_passNumber : GoodIn wsX7_readNoise wsX7_passNumber := goodIn_r _ [91, 19, 76, 8, 3, 4, 5, 6, 7, 9, 10, 71, 72, 73, 74, 20, 75, 21, 77, 78, 79, 80, 81, 82, 83, 84, 85, 86, 87, 112, 113, 114, 115, 116, 117, 118, 119] rfl (by decide +kernel)
set_option maxRecDepth 20000 in
theorem gX7_readNoise_X7_passNumber : GoodIn wsX7_readNoise (wsV RX7 88 RX7 yX7_passNumber wsX7_passNumber) := goodIn_app (goodIn_r _ [88, 89, 90, 6] rfl (by decide +kernel)) ggX7_readNoise_X7_passNumber
theorem dX7_readNoise_24 : decode cX7_readNoise 24 = .ok (.invokevirtual 88, 3) := dk_182 (c := cX7_readNoise) (pc := 24) (a := 0) (b := 88) (dk_at bmorecX7_readNoise_0 24) rfl
theorem dX7_readNoise_27 : decode cX7_readNoise 27 = .ok (.putfield 146, 3) := dk_181 (c := cX7_readNoise) (pc := 27) (a := 0) (b := 146) (dk_at bmorecX7_readNoise_0 27) rfl
theorem dX7_readNoise_30 : decode cX7_readNoise 30 = .ok (.aload_n 1, 1) := dk_43 (c := cX7_readNoise) (pc := 30) (dk_at bmorecX7_readNoise_0 30)
theorem dX7_readNoise_31 : decode cX7_readNoise 31 = .ok (.iconst 1, 1) := dk_4 (c := cX7_readNoise) (pc := 31) (dk_at bmorecX7_readNoise_0 31)
theorem dX7_readNoise_32 : decode cX7_readNoise 32 = .ok (.putfield 142, 3) := dk_181 (c := cX7_readNoise) (pc := 32) (a := 0) (b := 142) (dk_at bmorecX7_readNoise_0 32) rfl
theorem dX7_readNoise_35 : decode cX7_readNoise 35 = .ok (.aload_n 0, 1) := dk_42 (c := cX7_readNoise) (pc := 35) (dk_at bmorecX7_readNoise_0 35)
set_option maxRecDepth 20000 in
theorem ggX7_readNoise_X7_passSemicolon : GoodIn wsX7_readNoise wsX7_passSemicolon := goodIn_r _ [95, 19, 8, 3, 4, 5, 6, 7, 9, 10, 71, 72, 73, 74, 20, 75, 21, 76, 77, 78, 79, 80, 81, 82, 83, 84, 85, 86, 87, 112, 113, 114, 115, 116, 117, 118, 119] rfl (by decide +kernel)
set_option maxRecDepth 20000 in
theorem gX7_readNoise_X7_passSemicolon : GoodIn wsX7_readNoise (wsV RX7 94 RX7 yX7_passSemicolon wsX7_passSemicolon) := goodIn_app (goodIn_r _ [92, 93, 94, 6] rfl (by decide +kernel)) ggX7_readNoise_X7_passSemicolon
theorem dX7_readNoise_36 : decode cX7_readNoise 36 = .ok (.invokevirtual 94, 3) := dk_182 (c := cX7_readNoise) (pc := 36) (a := 0) (b := 94) (dk_at bmorecX7_readNoise_0 36) rfl
theorem dX7_readNoise_39 : decode cX7_readNoise 39 = .ok (.return_, 1) := dk_177 (c := cX7_readNoise) (pc := 39) (dk_at bmorecX7_readNoise_0 39)
theorem dX7_readNoise_7 : decode cX7_readNoise 7 = .ok (.aload_n 0, 1) := dk_42 (c := cX7_readNoise) (pc := 7) (dk_at bmorecX7_readNoise_0 7)
theorem dX7_readNoise_8 : decode cX7_readNoise 8 = .ok (.iconst 2, 1) := dk_5 (c := cX7_readNoise) (pc := 8) (dk_at bmorecX7_readNoise_0 8)
set_option maxRecDepth 20000 in
theorem ggX7_readNoise_X7_refuse : GoodIn wsX7_readNoise wsX7_refuse := goodIn_r _ [7, 8, 9, 10, 112, 113, 114, 115, 116, 117, 118, 119] rfl (by decide +kernel)
set_option maxRecDepth 20000 in
theorem gX7_readNoise_X7_refuse : GoodIn wsX7_readNoise (wsV RX7 75 RX7 yX7_refuse wsX7_refuse) := goodIn_app (goodIn_r _ [3, 4, 5, 6] rfl (by decide +kernel)) ggX7_readNoise_X7_refuse
theorem dX7_readNoise_9 : decode cX7_readNoise 9 = .ok (.invokevirtual 75, 3) := dk_182 (c := cX7_readNoise) (pc := 9) (a := 0) (b := 75) (dk_at bmorecX7_readNoise_0 9) rfl
theorem bmorecX7_readSum_0 : ((dk_l cX7_readSum).drop 0).take 52 = [43, 180, 0, 129, 158, 0, 8, 42, 5, 182, 0, 75, 42, 18, 65, 182, 0, 82, 3, 61, 3, 62, 29, 17, 2, 88, 162, 0, 35, 28, 2, 159, 0, 30, 42, 180, 0, 22, 154, 0, 23, 43, 28, 42, 182, 0, 132, 182, 0, 136, 42, 182] := by decide +kernel
theorem dX7_readSum_0 : decode cX7_readSum 0 = .ok (.aload_n 1, 1) := dk_43 (c := cX7_readSum) (pc := 0) (dk_at bmorecX7_readSum_0 0)
theorem dX7_readSum_1 : decode cX7_readSum 1 = .ok (.getfield 129, 3) := dk_180 (c := cX7_readSum) (pc := 1) (a := 0) (b := 129) (dk_at bmorecX7_readSum_0 1) rfl
theorem dX7_readSum_4 : decode cX7_readSum 4 = .ok (.ifCond .le 8, 3) := dk_158 (c := cX7_readSum) (pc := 4) (a := 0) (b := 8) (dk_at bmorecX7_readSum_0 4) (by decide)
theorem dX7_readSum_12 : decode cX7_readSum 12 = .ok (.aload_n 0, 1) := dk_42 (c := cX7_readSum) (pc := 12) (dk_at bmorecX7_readSum_0 12)
theorem dX7_readSum_13 : decode cX7_readSum 13 = .ok (.ldc 65, 2) := dk_18 (c := cX7_readSum) (pc := 13) (a := 65) (dk_at bmorecX7_readSum_0 13) rfl
set_option maxRecDepth 20000 in
theorem ggX7_readSum_X7_passWord : GoodIn wsX7_readSum wsX7_passWord := goodIn_r _ [13, 2, 14, 15, 16, 6, 17, 18, 19, 8, 20, 21, 22, 23, 24, 25, 26, 27, 28, 29, 30, 31, 32, 33, 34, 35, 36, 37, 38, 39, 40, 41, 42, 43, 44, 45, 46, 47, 48, 49, 50, 51, 52, 53, 54, 55, 56, 57, 58, 59, 60, 61, 62, 63, 64, 65, 66, 67, 68, 69, 3, 4, 5, 7, 9, 70, 71, 72, 73, 74, 75, 76, 77, 78, 79, 80, 81, 82, 83, 84, 85, 86, 135, 136, 137, 138, 139, 140, 141, 142] rfl (by decide +kernel)
set_option maxRecDepth 20000 in
theorem gX7_readSum_X7_passWord : GoodIn wsX7_readSum (wsV RX7 82 RX7 yX7_passWord wsX7_passWord) := goodIn_app (goodIn_r _ [10, 11, 12, 6] rfl (by decide +kernel)) ggX7_readSum_X7_passWord
theorem dX7_readSum_15 : decode cX7_readSum 15 = .ok (.invokevirtual 82, 3) := dk_182 (c := cX7_readSum) (pc := 15) (a := 0) (b := 82) (dk_at bmorecX7_readSum_0 15) rfl
theorem dX7_readSum_18 : decode cX7_readSum 18 = .ok (.iconst 0, 1) := dk_3 (c := cX7_readSum) (pc := 18) (dk_at bmorecX7_readSum_0 18)
theorem dX7_readSum_19 : decode cX7_readSum 19 = .ok (.istore_n 2, 1) := dk_61 (c := cX7_readSum) (pc := 19) (dk_at bmorecX7_readSum_0 19)
theorem dX7_readSum_20 : decode cX7_readSum 20 = .ok (.iconst 0, 1) := dk_3 (c := cX7_readSum) (pc := 20) (dk_at bmorecX7_readSum_0 20)
theorem dX7_readSum_21 : decode cX7_readSum 21 = .ok (.istore_n 3, 1) := dk_62 (c := cX7_readSum) (pc := 21) (dk_at bmorecX7_readSum_0 21)
theorem dX7_readSum_22 : decode cX7_readSum 22 = .ok (.iload_n 3, 1) := dk_29 (c := cX7_readSum) (pc := 22) (dk_at bmorecX7_readSum_0 22)
theorem dX7_readSum_23 : decode cX7_readSum 23 = .ok (.sipush 600, 3) := dk_17 (c := cX7_readSum) (pc := 23) (a := 2) (b := 88) (dk_at bmorecX7_readSum_0 23) (by decide)
theorem dX7_readSum_26 : decode cX7_readSum 26 = .ok (.if_icmp .ge 35, 3) := dk_162 (c := cX7_readSum) (pc := 26) (a := 0) (b := 35) (dk_at bmorecX7_readSum_0 26) (by decide)
theorem bmorecX7_readSum_48 : ((dk_l cX7_readSum).drop 48).take 18 = [0, 136, 42, 182, 0, 139, 61, 132, 3, 1, 167, 255, 220, 42, 182, 0, 94, 177] := by decide +kernel
theorem dX7_readSum_61 : decode cX7_readSum 61 = .ok (.aload_n 0, 1) := dk_42 (c := cX7_readSum) (pc := 61) (dk_at bmorecX7_readSum_48 13)
set_option maxRecDepth 20000 in
theorem ggX7_readSum_X7_passSemicolon : GoodIn wsX7_readSum wsX7_passSemicolon := goodIn_r _ [118, 18, 2, 3, 4, 5, 6, 7, 8, 9, 70, 71, 72, 73, 19, 74, 20, 75, 76, 77, 78, 79, 80, 81, 82, 83, 84, 85, 86, 135, 136, 137, 138, 139, 140, 141, 142] rfl (by decide +kernel)
set_option maxRecDepth 20000 in
theorem gX7_readSum_X7_passSemicolon : GoodIn wsX7_readSum (wsV RX7 94 RX7 yX7_passSemicolon wsX7_passSemicolon) := goodIn_app (goodIn_r _ [115, 116, 117, 6] rfl (by decide +kernel)) ggX7_readSum_X7_passSemicolon
theorem dX7_readSum_62 : decode cX7_readSum 62 = .ok (.invokevirtual 94, 3) := dk_182 (c := cX7_readSum) (pc := 62) (a := 0) (b := 94) (dk_at bmorecX7_readSum_48 14) rfl
theorem dX7_readSum_65 : decode cX7_readSum 65 = .ok (.return_, 1) := dk_177 (c := cX7_readSum) (pc := 65) (dk_at bmorecX7_readSum_48 17)
theorem dX7_readSum_29 : decode cX7_readSum 29 = .ok (.iload_n 2, 1) := dk_28 (c := cX7_readSum) (pc := 29) (dk_at bmorecX7_readSum_0 29)
theorem dX7_readSum_30 : decode cX7_readSum 30 = .ok (.iconst (-1), 1) := dk_2 (c := cX7_readSum) (pc := 30) (dk_at bmorecX7_readSum_0 30)
theorem dX7_readSum_31 : decode cX7_readSum 31 = .ok (.if_icmp .eq 30, 3) := dk_159 (c := cX7_readSum) (pc := 31) (a := 0) (b := 30) (dk_at bmorecX7_readSum_0 31) (by decide)
theorem dX7_readSum_34 : decode cX7_readSum 34 = .ok (.aload_n 0, 1) := dk_42 (c := cX7_readSum) (pc := 34) (dk_at bmorecX7_readSum_0 34)
theorem dX7_readSum_35 : decode cX7_readSum 35 = .ok (.getfield 22, 3) := dk_180 (c := cX7_readSum) (pc := 35) (a := 0) (b := 22) (dk_at bmorecX7_readSum_0 35) rfl
theorem dX7_readSum_38 : decode cX7_readSum 38 = .ok (.ifCond .ne 23, 3) := dk_154 (c := cX7_readSum) (pc := 38) (a := 0) (b := 23) (dk_at bmorecX7_readSum_0 38) (by decide)
theorem dX7_readSum_41 : decode cX7_readSum 41 = .ok (.aload_n 1, 1) := dk_43 (c := cX7_readSum) (pc := 41) (dk_at bmorecX7_readSum_0 41)
theorem dX7_readSum_42 : decode cX7_readSum 42 = .ok (.iload_n 2, 1) := dk_28 (c := cX7_readSum) (pc := 42) (dk_at bmorecX7_readSum_0 42)
theorem dX7_readSum_43 : decode cX7_readSum 43 = .ok (.aload_n 0, 1) := dk_42 (c := cX7_readSum) (pc := 43) (dk_at bmorecX7_readSum_0 43)
set_option maxRecDepth 20000 in
theorem ggX7_readSum_X7_passPart : GoodIn wsX7_readSum wsX7_passPart := goodIn_r _ [90, 91, 92, 93, 6, 94, 14, 15, 16, 17, 18, 19, 8, 20, 21, 22, 23, 24, 25, 26, 27, 28, 29, 30, 31, 32, 33, 34, 35, 36, 37, 38, 39, 40, 41, 42, 43, 44, 45, 46, 47, 48, 49, 50, 51, 52, 53, 54, 55, 56, 57, 58, 59, 60, 61, 62, 63, 64, 65, 66, 67, 68, 69, 95, 96, 97, 98, 75, 2, 3, 4, 5, 7, 9, 70, 71, 72, 73, 74, 76, 77, 78, 79, 80, 81, 82, 83, 84, 85, 86, 135, 136, 137, 138, 139, 140, 141, 142] rfl (by decide +kernel)
set_option maxRecDepth 20000 in
theorem gX7_readSum_X7_passPart : GoodIn wsX7_readSum (wsV RX7 132 RX7 yX7_passPart wsX7_passPart) := goodIn_app (goodIn_r _ [87, 88, 89, 6] rfl (by decide +kernel)) ggX7_readSum_X7_passPart
theorem dX7_readSum_44 : decode cX7_readSum 44 = .ok (.invokevirtual 132, 3) := dk_182 (c := cX7_readSum) (pc := 44) (a := 0) (b := 132) (dk_at bmorecX7_readSum_0 44) rfl
set_option maxRecDepth 20000 in
theorem ggX7_readSum_X3_addPart : GoodIn wsX7_readSum wsX3_addPart := goodIn_r _ [103, 104, 105, 106, 119, 120, 121, 122, 123, 124, 125, 126, 127, 128, 129, 130, 131, 132, 133, 134] rfl (by decide +kernel)
set_option maxRecDepth 20000 in
theorem gX7_readSum_X3_addPart : GoodIn wsX7_readSum (wsV RX7 136 RX3 yX3_addPart wsX3_addPart) := goodIn_app (goodIn_r _ [99, 100, 101, 102] rfl (by decide +kernel)) ggX7_readSum_X3_addPart
theorem dX7_readSum_47 : decode cX7_readSum 47 = .ok (.invokevirtual 136, 3) := dk_182 (c := cX7_readSum) (pc := 47) (a := 0) (b := 136) (dk_at bmorecX7_readSum_0 47) rfl
theorem dX7_readSum_50 : decode cX7_readSum 50 = .ok (.aload_n 0, 1) := dk_42 (c := cX7_readSum) (pc := 50) (dk_at bmorecX7_readSum_48 2)
set_option maxRecDepth 20000 in
theorem ggX7_readSum_X7_passJoint : GoodIn wsX7_readSum wsX7_passJoint := goodIn_r _ [110, 111, 112, 113, 6, 114, 14, 15, 16, 17, 18, 19, 8, 20, 21, 22, 23, 24, 25, 26, 27, 28, 29, 30, 31, 32, 33, 34, 35, 36, 37, 38, 39, 40, 41, 42, 43, 44, 45, 46, 47, 48, 49, 50, 51, 52, 53, 54, 55, 56, 57, 58, 59, 60, 61, 62, 63, 64, 65, 66, 67, 68, 69, 70, 71, 72, 73, 74, 75, 76, 77, 78, 79, 80, 81, 82, 83, 84, 85, 86, 135, 136, 137, 138, 139, 140, 141, 142] rfl (by decide +kernel)
set_option maxRecDepth 20000 in
theorem gX7_readSum_X7_passJoint : GoodIn wsX7_readSum (wsV RX7 139 RX7 yX7_passJoint wsX7_passJoint) := goodIn_app (goodIn_r _ [107, 108, 109, 6] rfl (by decide +kernel)) ggX7_readSum_X7_passJoint
theorem dX7_readSum_51 : decode cX7_readSum 51 = .ok (.invokevirtual 139, 3) := dk_182 (c := cX7_readSum) (pc := 51) (a := 0) (b := 139) (dk_at bmorecX7_readSum_48 3) rfl
theorem dX7_readSum_54 : decode cX7_readSum 54 = .ok (.istore_n 2, 1) := dk_61 (c := cX7_readSum) (pc := 54) (dk_at bmorecX7_readSum_48 6)
theorem dX7_readSum_55 : decode cX7_readSum 55 = .ok (.iinc 3 1, 3) := dk_132 (c := cX7_readSum) (pc := 55) (a := 3) (b := 1) (dk_at bmorecX7_readSum_48 7) rfl (by decide)
theorem dX7_readSum_58 : decode cX7_readSum 58 = .ok (.goto (-36), 3) := dk_167 (c := cX7_readSum) (pc := 58) (a := 255) (b := 220) (dk_at bmorecX7_readSum_48 10) (by decide)
theorem dX7_readSum_7 : decode cX7_readSum 7 = .ok (.aload_n 0, 1) := dk_42 (c := cX7_readSum) (pc := 7) (dk_at bmorecX7_readSum_0 7)
theorem dX7_readSum_8 : decode cX7_readSum 8 = .ok (.iconst 2, 1) := dk_5 (c := cX7_readSum) (pc := 8) (dk_at bmorecX7_readSum_0 8)
set_option maxRecDepth 20000 in
theorem ggX7_readSum_X7_refuse : GoodIn wsX7_readSum wsX7_refuse := goodIn_r _ [7, 2, 8, 9, 135, 136, 137, 138, 139, 140, 141, 142] rfl (by decide +kernel)
set_option maxRecDepth 20000 in
theorem gX7_readSum_X7_refuse : GoodIn wsX7_readSum (wsV RX7 75 RX7 yX7_refuse wsX7_refuse) := goodIn_app (goodIn_r _ [3, 4, 5, 6] rfl (by decide +kernel)) ggX7_readSum_X7_refuse
theorem dX7_readSum_9 : decode cX7_readSum 9 = .ok (.invokevirtual 75, 3) := dk_182 (c := cX7_readSum) (pc := 9) (a := 0) (b := 75) (dk_at bmorecX7_readSum_0 9) rfl
theorem bmorecX7_readLeak_0 : ((dk_l cX7_readLeak).drop 0).take 52 = [42, 18, 60, 182, 0, 82, 42, 180, 0, 36, 5, 160, 0, 19, 43, 42, 180, 0, 116, 182, 0, 119, 153, 0, 8, 42, 5, 182, 0, 75, 42, 4, 16, 12, 182, 0, 88, 61, 42, 18, 123, 182, 0, 82, 43, 180, 0, 125, 28, 42, 3, 16] := by decide +kernel
theorem dX7_readLeak_0 : decode cX7_readLeak 0 = .ok (.aload_n 0, 1) := dk_42 (c := cX7_readLeak) (pc := 0) (dk_at bmorecX7_readLeak_0 0)
theorem dX7_readLeak_1 : decode cX7_readLeak 1 = .ok (.ldc 60, 2) := dk_18 (c := cX7_readLeak) (pc := 1) (a := 60) (dk_at bmorecX7_readLeak_0 1) rfl
set_option maxRecDepth 20000 in
theorem ggX7_readLeak_X7_passWord : GoodIn wsX7_readLeak wsX7_passWord := goodIn_r _ [8, 9, 10, 11, 12, 7, 13, 1, 14, 15, 16, 17, 18, 19, 20, 21, 22, 23, 24, 25, 26, 27, 28, 29, 30, 31, 32, 33, 34, 35, 36, 37, 38, 39, 40, 41, 42, 43, 44, 45, 46, 47, 48, 49, 50, 51, 52, 53, 54, 55, 56, 57, 58, 59, 60, 61, 62, 63, 64, 65, 66, 67, 68, 69, 70, 71, 72, 73, 74, 75, 2, 76, 77, 78, 79, 80, 81, 82, 83, 84, 85, 86, 107, 108, 109, 110, 111, 112, 113, 114] rfl (by decide +kernel)
set_option maxRecDepth 20000 in
theorem gX7_readLeak_X7_passWord : GoodIn wsX7_readLeak (wsV RX7 82 RX7 yX7_passWord wsX7_passWord) := goodIn_app (goodIn_r _ [4, 5, 6, 7] rfl (by decide +kernel)) ggX7_readLeak_X7_passWord
theorem dX7_readLeak_3 : decode cX7_readLeak 3 = .ok (.invokevirtual 82, 3) := dk_182 (c := cX7_readLeak) (pc := 3) (a := 0) (b := 82) (dk_at bmorecX7_readLeak_0 3) rfl
theorem dX7_readLeak_6 : decode cX7_readLeak 6 = .ok (.aload_n 0, 1) := dk_42 (c := cX7_readLeak) (pc := 6) (dk_at bmorecX7_readLeak_0 6)
theorem dX7_readLeak_7 : decode cX7_readLeak 7 = .ok (.getfield 36, 3) := dk_180 (c := cX7_readLeak) (pc := 7) (a := 0) (b := 36) (dk_at bmorecX7_readLeak_0 7) rfl
theorem dX7_readLeak_10 : decode cX7_readLeak 10 = .ok (.iconst 2, 1) := dk_5 (c := cX7_readLeak) (pc := 10) (dk_at bmorecX7_readLeak_0 10)
theorem dX7_readLeak_11 : decode cX7_readLeak 11 = .ok (.if_icmp .ne 19, 3) := dk_160 (c := cX7_readLeak) (pc := 11) (a := 0) (b := 19) (dk_at bmorecX7_readLeak_0 11) (by decide)
theorem dX7_readLeak_30 : decode cX7_readLeak 30 = .ok (.aload_n 0, 1) := dk_42 (c := cX7_readLeak) (pc := 30) (dk_at bmorecX7_readLeak_0 30)
theorem dX7_readLeak_31 : decode cX7_readLeak 31 = .ok (.iconst 1, 1) := dk_4 (c := cX7_readLeak) (pc := 31) (dk_at bmorecX7_readLeak_0 31)
theorem dX7_readLeak_32 : decode cX7_readLeak 32 = .ok (.bipush 12, 2) := dk_16 (c := cX7_readLeak) (pc := 32) (a := 12) (dk_at bmorecX7_readLeak_0 32) (by decide)
set_option maxRecDepth 20000 in
theorem ggX7_readLeak_X7_passNumber : GoodIn wsX7_readLeak wsX7_passNumber := goodIn_r _ [102, 1, 2, 9, 66, 67, 68, 7, 69, 15, 70, 71, 72, 73, 74, 14, 75, 16, 76, 77, 78, 79, 80, 81, 82, 83, 84, 85, 86, 107, 108, 109, 110, 111, 112, 113, 114] rfl (by decide +kernel)
set_option maxRecDepth 20000 in
theorem gX7_readLeak_X7_passNumber : GoodIn wsX7_readLeak (wsV RX7 88 RX7 yX7_passNumber wsX7_passNumber) := goodIn_app (goodIn_r _ [99, 100, 101, 7] rfl (by decide +kernel)) ggX7_readLeak_X7_passNumber
theorem dX7_readLeak_34 : decode cX7_readLeak 34 = .ok (.invokevirtual 88, 3) := dk_182 (c := cX7_readLeak) (pc := 34) (a := 0) (b := 88) (dk_at bmorecX7_readLeak_0 34) rfl
theorem dX7_readLeak_37 : decode cX7_readLeak 37 = .ok (.istore_n 2, 1) := dk_61 (c := cX7_readLeak) (pc := 37) (dk_at bmorecX7_readLeak_0 37)
theorem dX7_readLeak_38 : decode cX7_readLeak 38 = .ok (.aload_n 0, 1) := dk_42 (c := cX7_readLeak) (pc := 38) (dk_at bmorecX7_readLeak_0 38)
theorem dX7_readLeak_39 : decode cX7_readLeak 39 = .ok (.ldc 123, 2) := dk_18 (c := cX7_readLeak) (pc := 39) (a := 123) (dk_at bmorecX7_readLeak_0 39) rfl
theorem dX7_readLeak_41 : decode cX7_readLeak 41 = .ok (.invokevirtual 82, 3) := dk_182 (c := cX7_readLeak) (pc := 41) (a := 0) (b := 82) (dk_at bmorecX7_readLeak_0 41) rfl
theorem dX7_readLeak_44 : decode cX7_readLeak 44 = .ok (.aload_n 1, 1) := dk_43 (c := cX7_readLeak) (pc := 44) (dk_at bmorecX7_readLeak_0 44)
theorem dX7_readLeak_45 : decode cX7_readLeak 45 = .ok (.getfield 125, 3) := dk_180 (c := cX7_readLeak) (pc := 45) (a := 0) (b := 125) (dk_at bmorecX7_readLeak_0 45) rfl
theorem bmorecX7_readLeak_48 : ((dk_l cX7_readLeak).drop 48).take 14 = [28, 42, 3, 16, 99, 182, 0, 88, 79, 42, 182, 0, 94, 177] := by decide +kernel
theorem dX7_readLeak_48 : decode cX7_readLeak 48 = .ok (.iload_n 2, 1) := dk_28 (c := cX7_readLeak) (pc := 48) (dk_at bmorecX7_readLeak_48 0)
theorem dX7_readLeak_49 : decode cX7_readLeak 49 = .ok (.aload_n 0, 1) := dk_42 (c := cX7_readLeak) (pc := 49) (dk_at bmorecX7_readLeak_48 1)
theorem dX7_readLeak_50 : decode cX7_readLeak 50 = .ok (.iconst 0, 1) := dk_3 (c := cX7_readLeak) (pc := 50) (dk_at bmorecX7_readLeak_48 2)
theorem dX7_readLeak_51 : decode cX7_readLeak 51 = .ok (.bipush 99, 2) := dk_16 (c := cX7_readLeak) (pc := 51) (a := 99) (dk_at bmorecX7_readLeak_48 3) (by decide)
theorem dX7_readLeak_53 : decode cX7_readLeak 53 = .ok (.invokevirtual 88, 3) := dk_182 (c := cX7_readLeak) (pc := 53) (a := 0) (b := 88) (dk_at bmorecX7_readLeak_48 5) rfl
theorem dX7_readLeak_56 : decode cX7_readLeak 56 = .ok (.iastore, 1) := dk_79 (c := cX7_readLeak) (pc := 56) (dk_at bmorecX7_readLeak_48 8)
theorem dX7_readLeak_57 : decode cX7_readLeak 57 = .ok (.aload_n 0, 1) := dk_42 (c := cX7_readLeak) (pc := 57) (dk_at bmorecX7_readLeak_48 9)
set_option maxRecDepth 20000 in
theorem ggX7_readLeak_X7_passSemicolon : GoodIn wsX7_readLeak wsX7_passSemicolon := goodIn_r _ [106, 1, 9, 66, 67, 68, 7, 69, 15, 70, 71, 72, 73, 74, 14, 75, 16, 2, 76, 77, 78, 79, 80, 81, 82, 83, 84, 85, 86, 107, 108, 109, 110, 111, 112, 113, 114] rfl (by decide +kernel)
set_option maxRecDepth 20000 in
theorem gX7_readLeak_X7_passSemicolon : GoodIn wsX7_readLeak (wsV RX7 94 RX7 yX7_passSemicolon wsX7_passSemicolon) := goodIn_app (goodIn_r _ [103, 104, 105, 7] rfl (by decide +kernel)) ggX7_readLeak_X7_passSemicolon
theorem dX7_readLeak_58 : decode cX7_readLeak 58 = .ok (.invokevirtual 94, 3) := dk_182 (c := cX7_readLeak) (pc := 58) (a := 0) (b := 94) (dk_at bmorecX7_readLeak_48 10) rfl
theorem dX7_readLeak_61 : decode cX7_readLeak 61 = .ok (.return_, 1) := dk_177 (c := cX7_readLeak) (pc := 61) (dk_at bmorecX7_readLeak_48 13)
theorem dX7_readLeak_14 : decode cX7_readLeak 14 = .ok (.aload_n 1, 1) := dk_43 (c := cX7_readLeak) (pc := 14) (dk_at bmorecX7_readLeak_0 14)
theorem dX7_readLeak_15 : decode cX7_readLeak 15 = .ok (.aload_n 0, 1) := dk_42 (c := cX7_readLeak) (pc := 15) (dk_at bmorecX7_readLeak_0 15)
theorem dX7_readLeak_16 : decode cX7_readLeak 16 = .ok (.getfield 116, 3) := dk_180 (c := cX7_readLeak) (pc := 16) (a := 0) (b := 116) (dk_at bmorecX7_readLeak_0 16) rfl
set_option maxRecDepth 20000 in
theorem ggX7_readLeak_X3_hasLeak : GoodIn wsX7_readLeak wsX3_hasLeak := goodIn_r _ [91, 92, 93, 94, 95, 96, 97, 98, 115, 116, 117, 118, 119, 120, 121, 122, 123, 124, 125, 126, 127, 128, 129, 130] rfl (by decide +kernel)
set_option maxRecDepth 20000 in
theorem gX7_readLeak_X3_hasLeak : GoodIn wsX7_readLeak (wsV RX7 119 RX3 yX3_hasLeak wsX3_hasLeak) := goodIn_app (goodIn_r _ [87, 88, 89, 90] rfl (by decide +kernel)) ggX7_readLeak_X3_hasLeak
theorem dX7_readLeak_19 : decode cX7_readLeak 19 = .ok (.invokevirtual 119, 3) := dk_182 (c := cX7_readLeak) (pc := 19) (a := 0) (b := 119) (dk_at bmorecX7_readLeak_0 19) rfl
theorem dX7_readLeak_22 : decode cX7_readLeak 22 = .ok (.ifCond .eq 8, 3) := dk_153 (c := cX7_readLeak) (pc := 22) (a := 0) (b := 8) (dk_at bmorecX7_readLeak_0 22) (by decide)
theorem dX7_readLeak_25 : decode cX7_readLeak 25 = .ok (.aload_n 0, 1) := dk_42 (c := cX7_readLeak) (pc := 25) (dk_at bmorecX7_readLeak_0 25)
theorem dX7_readLeak_26 : decode cX7_readLeak 26 = .ok (.iconst 2, 1) := dk_5 (c := cX7_readLeak) (pc := 26) (dk_at bmorecX7_readLeak_0 26)
set_option maxRecDepth 20000 in
theorem ggX7_readLeak_X7_refuse : GoodIn wsX7_readLeak wsX7_refuse := goodIn_r _ [69, 9, 15, 70, 107, 108, 109, 110, 111, 112, 113, 114] rfl (by decide +kernel)
set_option maxRecDepth 20000 in
theorem gX7_readLeak_X7_refuse : GoodIn wsX7_readLeak (wsV RX7 75 RX7 yX7_refuse wsX7_refuse) := goodIn_app (goodIn_r _ [66, 67, 68, 7] rfl (by decide +kernel)) ggX7_readLeak_X7_refuse
theorem dX7_readLeak_27 : decode cX7_readLeak 27 = .ok (.invokevirtual 75, 3) := dk_182 (c := cX7_readLeak) (pc := 27) (a := 0) (b := 75) (dk_at bmorecX7_readLeak_0 27) rfl
theorem bmorecX7_readSort_0 : ((dk_l cX7_readSort).drop 0).take 52 = [43, 180, 0, 101, 16, 8, 161, 0, 8, 42, 6, 182, 0, 75, 42, 18, 55, 182, 0, 82, 42, 18, 104, 182, 0, 82, 42, 4, 16, 99, 182, 0, 88, 61, 42, 18, 106, 182, 0, 82, 42, 3, 16, 99, 182, 0, 88, 62, 42, 18, 108, 182] := by decide +kernel
theorem dX7_readSort_0 : decode cX7_readSort 0 = .ok (.aload_n 1, 1) := dk_43 (c := cX7_readSort) (pc := 0) (dk_at bmorecX7_readSort_0 0)
theorem dX7_readSort_1 : decode cX7_readSort 1 = .ok (.getfield 101, 3) := dk_180 (c := cX7_readSort) (pc := 1) (a := 0) (b := 101) (dk_at bmorecX7_readSort_0 1) rfl
theorem dX7_readSort_4 : decode cX7_readSort 4 = .ok (.bipush 8, 2) := dk_16 (c := cX7_readSort) (pc := 4) (a := 8) (dk_at bmorecX7_readSort_0 4) (by decide)
theorem dX7_readSort_6 : decode cX7_readSort 6 = .ok (.if_icmp .lt 8, 3) := dk_161 (c := cX7_readSort) (pc := 6) (a := 0) (b := 8) (dk_at bmorecX7_readSort_0 6) (by decide)
theorem dX7_readSort_14 : decode cX7_readSort 14 = .ok (.aload_n 0, 1) := dk_42 (c := cX7_readSort) (pc := 14) (dk_at bmorecX7_readSort_0 14)
theorem dX7_readSort_15 : decode cX7_readSort 15 = .ok (.ldc 55, 2) := dk_18 (c := cX7_readSort) (pc := 15) (a := 55) (dk_at bmorecX7_readSort_0 15) rfl
set_option maxRecDepth 20000 in
theorem ggX7_readSort_X7_passWord : GoodIn wsX7_readSort wsX7_passWord := goodIn_r _ [13, 7, 14, 15, 16, 5, 17, 18, 19, 8, 20, 21, 22, 23, 24, 25, 26, 27, 28, 29, 30, 31, 32, 33, 34, 35, 36, 37, 38, 39, 40, 41, 42, 43, 44, 45, 46, 47, 48, 49, 50, 51, 52, 53, 54, 55, 56, 57, 58, 59, 60, 61, 62, 63, 64, 65, 66, 67, 68, 69, 2, 3, 4, 6, 9, 70, 71, 72, 73, 74, 75, 76, 77, 78, 79, 80, 81, 82, 83, 84, 85, 86, 122, 123, 124, 125, 126, 127, 128, 129] rfl (by decide +kernel)
set_option maxRecDepth 20000 in
theorem gX7_readSort_X7_passWord : GoodIn wsX7_readSort (wsV RX7 82 RX7 yX7_passWord wsX7_passWord) := goodIn_app (goodIn_r _ [10, 11, 12, 5] rfl (by decide +kernel)) ggX7_readSort_X7_passWord
theorem dX7_readSort_17 : decode cX7_readSort 17 = .ok (.invokevirtual 82, 3) := dk_182 (c := cX7_readSort) (pc := 17) (a := 0) (b := 82) (dk_at bmorecX7_readSort_0 17) rfl
theorem dX7_readSort_20 : decode cX7_readSort 20 = .ok (.aload_n 0, 1) := dk_42 (c := cX7_readSort) (pc := 20) (dk_at bmorecX7_readSort_0 20)
theorem dX7_readSort_21 : decode cX7_readSort 21 = .ok (.ldc 104, 2) := dk_18 (c := cX7_readSort) (pc := 21) (a := 104) (dk_at bmorecX7_readSort_0 21) rfl
theorem dX7_readSort_23 : decode cX7_readSort 23 = .ok (.invokevirtual 82, 3) := dk_182 (c := cX7_readSort) (pc := 23) (a := 0) (b := 82) (dk_at bmorecX7_readSort_0 23) rfl
theorem dX7_readSort_26 : decode cX7_readSort 26 = .ok (.aload_n 0, 1) := dk_42 (c := cX7_readSort) (pc := 26) (dk_at bmorecX7_readSort_0 26)
theorem dX7_readSort_27 : decode cX7_readSort 27 = .ok (.iconst 1, 1) := dk_4 (c := cX7_readSort) (pc := 27) (dk_at bmorecX7_readSort_0 27)
theorem dX7_readSort_28 : decode cX7_readSort 28 = .ok (.bipush 99, 2) := dk_16 (c := cX7_readSort) (pc := 28) (a := 99) (dk_at bmorecX7_readSort_0 28) (by decide)
set_option maxRecDepth 20000 in
theorem ggX7_readSort_X7_passNumber : GoodIn wsX7_readSort wsX7_passNumber := goodIn_r _ [90, 18, 75, 7, 2, 3, 4, 5, 6, 8, 9, 70, 71, 72, 73, 19, 74, 20, 76, 77, 78, 79, 80, 81, 82, 83, 84, 85, 86, 122, 123, 124, 125, 126, 127, 128, 129] rfl (by decide +kernel)
set_option maxRecDepth 20000 in
theorem gX7_readSort_X7_passNumber : GoodIn wsX7_readSort (wsV RX7 88 RX7 yX7_passNumber wsX7_passNumber) := goodIn_app (goodIn_r _ [87, 88, 89, 5] rfl (by decide +kernel)) ggX7_readSort_X7_passNumber
theorem dX7_readSort_30 : decode cX7_readSort 30 = .ok (.invokevirtual 88, 3) := dk_182 (c := cX7_readSort) (pc := 30) (a := 0) (b := 88) (dk_at bmorecX7_readSort_0 30) rfl
theorem dX7_readSort_33 : decode cX7_readSort 33 = .ok (.istore_n 2, 1) := dk_61 (c := cX7_readSort) (pc := 33) (dk_at bmorecX7_readSort_0 33)
theorem dX7_readSort_34 : decode cX7_readSort 34 = .ok (.aload_n 0, 1) := dk_42 (c := cX7_readSort) (pc := 34) (dk_at bmorecX7_readSort_0 34)
theorem dX7_readSort_35 : decode cX7_readSort 35 = .ok (.ldc 106, 2) := dk_18 (c := cX7_readSort) (pc := 35) (a := 106) (dk_at bmorecX7_readSort_0 35) rfl
theorem dX7_readSort_37 : decode cX7_readSort 37 = .ok (.invokevirtual 82, 3) := dk_182 (c := cX7_readSort) (pc := 37) (a := 0) (b := 82) (dk_at bmorecX7_readSort_0 37) rfl
theorem dX7_readSort_40 : decode cX7_readSort 40 = .ok (.aload_n 0, 1) := dk_42 (c := cX7_readSort) (pc := 40) (dk_at bmorecX7_readSort_0 40)
theorem dX7_readSort_41 : decode cX7_readSort 41 = .ok (.iconst 0, 1) := dk_3 (c := cX7_readSort) (pc := 41) (dk_at bmorecX7_readSort_0 41)
theorem dX7_readSort_42 : decode cX7_readSort 42 = .ok (.bipush 99, 2) := dk_16 (c := cX7_readSort) (pc := 42) (a := 99) (dk_at bmorecX7_readSort_0 42) (by decide)
theorem dX7_readSort_44 : decode cX7_readSort 44 = .ok (.invokevirtual 88, 3) := dk_182 (c := cX7_readSort) (pc := 44) (a := 0) (b := 88) (dk_at bmorecX7_readSort_0 44) rfl
theorem dX7_readSort_47 : decode cX7_readSort 47 = .ok (.istore_n 3, 1) := dk_62 (c := cX7_readSort) (pc := 47) (dk_at bmorecX7_readSort_0 47)
theorem bmorecX7_readSort_48 : ((dk_l cX7_readSort).drop 48).take 52 = [42, 18, 108, 182, 0, 82, 42, 3, 17, 0, 240, 182, 0, 88, 54, 4, 3, 54, 5, 42, 18, 110, 182, 0, 48, 153, 0, 18, 42, 18, 110, 182, 0, 82, 42, 3, 16, 60, 182, 0, 88, 54, 5, 42, 182, 0, 94, 43, 28, 29, 21, 4] := by decide +kernel
theorem dX7_readSort_48 : decode cX7_readSort 48 = .ok (.aload_n 0, 1) := dk_42 (c := cX7_readSort) (pc := 48) (dk_at bmorecX7_readSort_48 0)
theorem dX7_readSort_49 : decode cX7_readSort 49 = .ok (.ldc 108, 2) := dk_18 (c := cX7_readSort) (pc := 49) (a := 108) (dk_at bmorecX7_readSort_48 1) rfl
theorem dX7_readSort_51 : decode cX7_readSort 51 = .ok (.invokevirtual 82, 3) := dk_182 (c := cX7_readSort) (pc := 51) (a := 0) (b := 82) (dk_at bmorecX7_readSort_48 3) rfl
theorem dX7_readSort_54 : decode cX7_readSort 54 = .ok (.aload_n 0, 1) := dk_42 (c := cX7_readSort) (pc := 54) (dk_at bmorecX7_readSort_48 6)
theorem dX7_readSort_55 : decode cX7_readSort 55 = .ok (.iconst 0, 1) := dk_3 (c := cX7_readSort) (pc := 55) (dk_at bmorecX7_readSort_48 7)
theorem dX7_readSort_56 : decode cX7_readSort 56 = .ok (.sipush 240, 3) := dk_17 (c := cX7_readSort) (pc := 56) (a := 0) (b := 240) (dk_at bmorecX7_readSort_48 8) (by decide)
theorem dX7_readSort_59 : decode cX7_readSort 59 = .ok (.invokevirtual 88, 3) := dk_182 (c := cX7_readSort) (pc := 59) (a := 0) (b := 88) (dk_at bmorecX7_readSort_48 11) rfl
theorem dX7_readSort_62 : decode cX7_readSort 62 = .ok (.istore 4, 2) := dk_54 (c := cX7_readSort) (pc := 62) (a := 4) (dk_at bmorecX7_readSort_48 14) rfl
theorem dX7_readSort_64 : decode cX7_readSort 64 = .ok (.iconst 0, 1) := dk_3 (c := cX7_readSort) (pc := 64) (dk_at bmorecX7_readSort_48 16)
theorem dX7_readSort_65 : decode cX7_readSort 65 = .ok (.istore 5, 2) := dk_54 (c := cX7_readSort) (pc := 65) (a := 5) (dk_at bmorecX7_readSort_48 17) rfl
theorem dX7_readSort_67 : decode cX7_readSort 67 = .ok (.aload_n 0, 1) := dk_42 (c := cX7_readSort) (pc := 67) (dk_at bmorecX7_readSort_48 19)
theorem dX7_readSort_68 : decode cX7_readSort 68 = .ok (.ldc 110, 2) := dk_18 (c := cX7_readSort) (pc := 68) (a := 110) (dk_at bmorecX7_readSort_48 20) rfl
set_option maxRecDepth 20000 in
theorem ggX7_readSort_X7_isWord : GoodIn wsX7_readSort wsX7_isWord := goodIn_r _ [17, 18, 19, 8, 20, 21, 22, 23, 24, 25, 26, 27, 28, 29, 30, 31, 32, 33, 34, 35, 36, 37, 38, 39, 40, 41, 42, 43, 44, 45, 46, 47, 48, 49, 50, 51, 52, 53, 54, 55, 56, 57, 58, 59, 60, 61, 62, 63, 64, 65, 66, 67, 68, 69, 122, 123, 124, 125, 126, 127, 128, 129] rfl (by decide +kernel)
set_option maxRecDepth 20000 in
theorem gX7_readSort_X7_isWord : GoodIn wsX7_readSort (wsV RX7 48 RX7 yX7_isWord wsX7_isWord) := goodIn_app (goodIn_r _ [14, 15, 16, 5] rfl (by decide +kernel)) ggX7_readSort_X7_isWord
theorem dX7_readSort_70 : decode cX7_readSort 70 = .ok (.invokevirtual 48, 3) := dk_182 (c := cX7_readSort) (pc := 70) (a := 0) (b := 48) (dk_at bmorecX7_readSort_48 22) rfl
theorem dX7_readSort_73 : decode cX7_readSort 73 = .ok (.ifCond .eq 18, 3) := dk_153 (c := cX7_readSort) (pc := 73) (a := 0) (b := 18) (dk_at bmorecX7_readSort_48 25) (by decide)
theorem dX7_readSort_91 : decode cX7_readSort 91 = .ok (.aload_n 0, 1) := dk_42 (c := cX7_readSort) (pc := 91) (dk_at bmorecX7_readSort_48 43)
set_option maxRecDepth 20000 in
theorem ggX7_readSort_X7_passSemicolon : GoodIn wsX7_readSort wsX7_passSemicolon := goodIn_r _ [94, 18, 7, 2, 3, 4, 5, 6, 8, 9, 70, 71, 72, 73, 19, 74, 20, 75, 76, 77, 78, 79, 80, 81, 82, 83, 84, 85, 86, 122, 123, 124, 125, 126, 127, 128, 129] rfl (by decide +kernel)
set_option maxRecDepth 20000 in
theorem gX7_readSort_X7_passSemicolon : GoodIn wsX7_readSort (wsV RX7 94 RX7 yX7_passSemicolon wsX7_passSemicolon) := goodIn_app (goodIn_r _ [91, 92, 93, 5] rfl (by decide +kernel)) ggX7_readSort_X7_passSemicolon
theorem dX7_readSort_92 : decode cX7_readSort 92 = .ok (.invokevirtual 94, 3) := dk_182 (c := cX7_readSort) (pc := 92) (a := 0) (b := 94) (dk_at bmorecX7_readSort_48 44) rfl
theorem dX7_readSort_95 : decode cX7_readSort 95 = .ok (.aload_n 1, 1) := dk_43 (c := cX7_readSort) (pc := 95) (dk_at bmorecX7_readSort_48 47)
theorem bmorecX7_readSort_96 : ((dk_l cX7_readSort).drop 96).take 10 = [28, 29, 21, 4, 21, 5, 182, 0, 112, 177] := by decide +kernel
theorem dX7_readSort_96 : decode cX7_readSort 96 = .ok (.iload_n 2, 1) := dk_28 (c := cX7_readSort) (pc := 96) (dk_at bmorecX7_readSort_96 0)
theorem dX7_readSort_97 : decode cX7_readSort 97 = .ok (.iload_n 3, 1) := dk_29 (c := cX7_readSort) (pc := 97) (dk_at bmorecX7_readSort_96 1)
theorem dX7_readSort_98 : decode cX7_readSort 98 = .ok (.iload 4, 2) := dk_21 (c := cX7_readSort) (pc := 98) (a := 4) (dk_at bmorecX7_readSort_96 2) rfl
theorem dX7_readSort_100 : decode cX7_readSort 100 = .ok (.iload 5, 2) := dk_21 (c := cX7_readSort) (pc := 100) (a := 5) (dk_at bmorecX7_readSort_96 4) rfl
set_option maxRecDepth 20000 in
theorem ggX7_readSort_X3_addSort : GoodIn wsX7_readSort wsX3_addSort := goodIn_r _ [99, 100, 101, 102, 103, 104, 105, 106, 107, 108, 109, 110, 111, 112, 113, 114, 115, 116, 117, 118, 119, 120, 121] rfl (by decide +kernel)
set_option maxRecDepth 20000 in
theorem gX7_readSort_X3_addSort : GoodIn wsX7_readSort (wsV RX7 112 RX3 yX3_addSort wsX3_addSort) := goodIn_app (goodIn_r _ [95, 96, 97, 98] rfl (by decide +kernel)) ggX7_readSort_X3_addSort
theorem dX7_readSort_102 : decode cX7_readSort 102 = .ok (.invokevirtual 112, 3) := dk_182 (c := cX7_readSort) (pc := 102) (a := 0) (b := 112) (dk_at bmorecX7_readSort_96 6) rfl
theorem dX7_readSort_105 : decode cX7_readSort 105 = .ok (.return_, 1) := dk_177 (c := cX7_readSort) (pc := 105) (dk_at bmorecX7_readSort_96 9)
theorem dX7_readSort_76 : decode cX7_readSort 76 = .ok (.aload_n 0, 1) := dk_42 (c := cX7_readSort) (pc := 76) (dk_at bmorecX7_readSort_48 28)
theorem dX7_readSort_77 : decode cX7_readSort 77 = .ok (.ldc 110, 2) := dk_18 (c := cX7_readSort) (pc := 77) (a := 110) (dk_at bmorecX7_readSort_48 29) rfl
theorem dX7_readSort_79 : decode cX7_readSort 79 = .ok (.invokevirtual 82, 3) := dk_182 (c := cX7_readSort) (pc := 79) (a := 0) (b := 82) (dk_at bmorecX7_readSort_48 31) rfl
theorem dX7_readSort_82 : decode cX7_readSort 82 = .ok (.aload_n 0, 1) := dk_42 (c := cX7_readSort) (pc := 82) (dk_at bmorecX7_readSort_48 34)
theorem dX7_readSort_83 : decode cX7_readSort 83 = .ok (.iconst 0, 1) := dk_3 (c := cX7_readSort) (pc := 83) (dk_at bmorecX7_readSort_48 35)
theorem dX7_readSort_84 : decode cX7_readSort 84 = .ok (.bipush 60, 2) := dk_16 (c := cX7_readSort) (pc := 84) (a := 60) (dk_at bmorecX7_readSort_48 36) (by decide)
theorem dX7_readSort_86 : decode cX7_readSort 86 = .ok (.invokevirtual 88, 3) := dk_182 (c := cX7_readSort) (pc := 86) (a := 0) (b := 88) (dk_at bmorecX7_readSort_48 38) rfl
theorem dX7_readSort_89 : decode cX7_readSort 89 = .ok (.istore 5, 2) := dk_54 (c := cX7_readSort) (pc := 89) (a := 5) (dk_at bmorecX7_readSort_48 41) rfl
theorem dX7_readSort_9 : decode cX7_readSort 9 = .ok (.aload_n 0, 1) := dk_42 (c := cX7_readSort) (pc := 9) (dk_at bmorecX7_readSort_0 9)
theorem dX7_readSort_10 : decode cX7_readSort 10 = .ok (.iconst 3, 1) := dk_6 (c := cX7_readSort) (pc := 10) (dk_at bmorecX7_readSort_0 10)
set_option maxRecDepth 20000 in
theorem ggX7_readSort_X7_refuse : GoodIn wsX7_readSort wsX7_refuse := goodIn_r _ [6, 7, 8, 9, 122, 123, 124, 125, 126, 127, 128, 129] rfl (by decide +kernel)
set_option maxRecDepth 20000 in
theorem gX7_readSort_X7_refuse : GoodIn wsX7_readSort (wsV RX7 75 RX7 yX7_refuse wsX7_refuse) := goodIn_app (goodIn_r _ [2, 3, 4, 5] rfl (by decide +kernel)) ggX7_readSort_X7_refuse
theorem dX7_readSort_11 : decode cX7_readSort 11 = .ok (.invokevirtual 75, 3) := dk_182 (c := cX7_readSort) (pc := 11) (a := 0) (b := 75) (dk_at bmorecX7_readSort_0 11) rfl
theorem bmorecX7_readLaw_0 : ((dk_l cX7_readLaw).drop 0).take 52 = [43, 180, 0, 79, 16, 6, 161, 0, 8, 42, 6, 182, 0, 75, 42, 18, 46, 182, 0, 82, 42, 18, 86, 182, 0, 82, 42, 7, 16, 9, 182, 0, 88, 61, 42, 18, 92, 182, 0, 82, 42, 16, 10, 16, 20, 182, 0, 88, 62, 42, 182, 0] := by decide +kernel
theorem dX7_readLaw_0 : decode cX7_readLaw 0 = .ok (.aload_n 1, 1) := dk_43 (c := cX7_readLaw) (pc := 0) (dk_at bmorecX7_readLaw_0 0)
theorem dX7_readLaw_1 : decode cX7_readLaw 1 = .ok (.getfield 79, 3) := dk_180 (c := cX7_readLaw) (pc := 1) (a := 0) (b := 79) (dk_at bmorecX7_readLaw_0 1) rfl
theorem dX7_readLaw_4 : decode cX7_readLaw 4 = .ok (.bipush 6, 2) := dk_16 (c := cX7_readLaw) (pc := 4) (a := 6) (dk_at bmorecX7_readLaw_0 4) (by decide)
theorem dX7_readLaw_6 : decode cX7_readLaw 6 = .ok (.if_icmp .lt 8, 3) := dk_161 (c := cX7_readLaw) (pc := 6) (a := 0) (b := 8) (dk_at bmorecX7_readLaw_0 6) (by decide)
theorem dX7_readLaw_14 : decode cX7_readLaw 14 = .ok (.aload_n 0, 1) := dk_42 (c := cX7_readLaw) (pc := 14) (dk_at bmorecX7_readLaw_0 14)
theorem dX7_readLaw_15 : decode cX7_readLaw 15 = .ok (.ldc 46, 2) := dk_18 (c := cX7_readLaw) (pc := 15) (a := 46) (dk_at bmorecX7_readLaw_0 15) rfl
set_option maxRecDepth 20000 in
theorem ggX7_readLaw_X7_passWord : GoodIn wsX7_readLaw wsX7_passWord := goodIn_r _ [13, 7, 14, 15, 16, 5, 17, 18, 19, 8, 20, 21, 22, 23, 24, 25, 26, 27, 28, 29, 30, 31, 32, 33, 34, 35, 36, 37, 38, 39, 40, 41, 42, 43, 44, 45, 46, 47, 48, 49, 50, 51, 52, 53, 54, 55, 56, 57, 58, 59, 60, 61, 62, 63, 64, 65, 66, 67, 68, 69, 2, 3, 4, 6, 9, 70, 71, 72, 73, 74, 75, 76, 77, 78, 79, 80, 81, 82, 83, 84, 85, 86, 119, 120, 121, 122, 123, 124, 125, 126] rfl (by decide +kernel)
set_option maxRecDepth 20000 in
theorem gX7_readLaw_X7_passWord : GoodIn wsX7_readLaw (wsV RX7 82 RX7 yX7_passWord wsX7_passWord) := goodIn_app (goodIn_r _ [10, 11, 12, 5] rfl (by decide +kernel)) ggX7_readLaw_X7_passWord
theorem dX7_readLaw_17 : decode cX7_readLaw 17 = .ok (.invokevirtual 82, 3) := dk_182 (c := cX7_readLaw) (pc := 17) (a := 0) (b := 82) (dk_at bmorecX7_readLaw_0 17) rfl
theorem dX7_readLaw_20 : decode cX7_readLaw 20 = .ok (.aload_n 0, 1) := dk_42 (c := cX7_readLaw) (pc := 20) (dk_at bmorecX7_readLaw_0 20)
theorem dX7_readLaw_21 : decode cX7_readLaw 21 = .ok (.ldc 86, 2) := dk_18 (c := cX7_readLaw) (pc := 21) (a := 86) (dk_at bmorecX7_readLaw_0 21) rfl
theorem dX7_readLaw_23 : decode cX7_readLaw 23 = .ok (.invokevirtual 82, 3) := dk_182 (c := cX7_readLaw) (pc := 23) (a := 0) (b := 82) (dk_at bmorecX7_readLaw_0 23) rfl
theorem dX7_readLaw_26 : decode cX7_readLaw 26 = .ok (.aload_n 0, 1) := dk_42 (c := cX7_readLaw) (pc := 26) (dk_at bmorecX7_readLaw_0 26)
theorem dX7_readLaw_27 : decode cX7_readLaw 27 = .ok (.iconst 4, 1) := dk_7 (c := cX7_readLaw) (pc := 27) (dk_at bmorecX7_readLaw_0 27)
theorem dX7_readLaw_28 : decode cX7_readLaw 28 = .ok (.bipush 9, 2) := dk_16 (c := cX7_readLaw) (pc := 28) (a := 9) (dk_at bmorecX7_readLaw_0 28) (by decide)
set_option maxRecDepth 20000 in
theorem ggX7_readLaw_X7_passNumber : GoodIn wsX7_readLaw wsX7_passNumber := goodIn_r _ [90, 18, 75, 7, 2, 3, 4, 5, 6, 8, 9, 70, 71, 72, 73, 19, 74, 20, 76, 77, 78, 79, 80, 81, 82, 83, 84, 85, 86, 119, 120, 121, 122, 123, 124, 125, 126] rfl (by decide +kernel)
set_option maxRecDepth 20000 in
theorem gX7_readLaw_X7_passNumber : GoodIn wsX7_readLaw (wsV RX7 88 RX7 yX7_passNumber wsX7_passNumber) := goodIn_app (goodIn_r _ [87, 88, 89, 5] rfl (by decide +kernel)) ggX7_readLaw_X7_passNumber
theorem dX7_readLaw_30 : decode cX7_readLaw 30 = .ok (.invokevirtual 88, 3) := dk_182 (c := cX7_readLaw) (pc := 30) (a := 0) (b := 88) (dk_at bmorecX7_readLaw_0 30) rfl
theorem dX7_readLaw_33 : decode cX7_readLaw 33 = .ok (.istore_n 2, 1) := dk_61 (c := cX7_readLaw) (pc := 33) (dk_at bmorecX7_readLaw_0 33)
theorem dX7_readLaw_34 : decode cX7_readLaw 34 = .ok (.aload_n 0, 1) := dk_42 (c := cX7_readLaw) (pc := 34) (dk_at bmorecX7_readLaw_0 34)
theorem dX7_readLaw_35 : decode cX7_readLaw 35 = .ok (.ldc 92, 2) := dk_18 (c := cX7_readLaw) (pc := 35) (a := 92) (dk_at bmorecX7_readLaw_0 35) rfl
theorem dX7_readLaw_37 : decode cX7_readLaw 37 = .ok (.invokevirtual 82, 3) := dk_182 (c := cX7_readLaw) (pc := 37) (a := 0) (b := 82) (dk_at bmorecX7_readLaw_0 37) rfl
theorem dX7_readLaw_40 : decode cX7_readLaw 40 = .ok (.aload_n 0, 1) := dk_42 (c := cX7_readLaw) (pc := 40) (dk_at bmorecX7_readLaw_0 40)
theorem dX7_readLaw_41 : decode cX7_readLaw 41 = .ok (.bipush 10, 2) := dk_16 (c := cX7_readLaw) (pc := 41) (a := 10) (dk_at bmorecX7_readLaw_0 41) (by decide)
theorem dX7_readLaw_43 : decode cX7_readLaw 43 = .ok (.bipush 20, 2) := dk_16 (c := cX7_readLaw) (pc := 43) (a := 20) (dk_at bmorecX7_readLaw_0 43) (by decide)
theorem dX7_readLaw_45 : decode cX7_readLaw 45 = .ok (.invokevirtual 88, 3) := dk_182 (c := cX7_readLaw) (pc := 45) (a := 0) (b := 88) (dk_at bmorecX7_readLaw_0 45) rfl
theorem bmorecX7_readLaw_48 : ((dk_l cX7_readLaw).drop 48).take 12 = [62, 42, 182, 0, 94, 43, 28, 29, 182, 0, 97, 177] := by decide +kernel
theorem dX7_readLaw_48 : decode cX7_readLaw 48 = .ok (.istore_n 3, 1) := dk_62 (c := cX7_readLaw) (pc := 48) (dk_at bmorecX7_readLaw_48 0)
theorem dX7_readLaw_49 : decode cX7_readLaw 49 = .ok (.aload_n 0, 1) := dk_42 (c := cX7_readLaw) (pc := 49) (dk_at bmorecX7_readLaw_48 1)
set_option maxRecDepth 20000 in
theorem ggX7_readLaw_X7_passSemicolon : GoodIn wsX7_readLaw wsX7_passSemicolon := goodIn_r _ [94, 18, 7, 2, 3, 4, 5, 6, 8, 9, 70, 71, 72, 73, 19, 74, 20, 75, 76, 77, 78, 79, 80, 81, 82, 83, 84, 85, 86, 119, 120, 121, 122, 123, 124, 125, 126] rfl (by decide +kernel)
set_option maxRecDepth 20000 in
theorem gX7_readLaw_X7_passSemicolon : GoodIn wsX7_readLaw (wsV RX7 94 RX7 yX7_passSemicolon wsX7_passSemicolon) := goodIn_app (goodIn_r _ [91, 92, 93, 5] rfl (by decide +kernel)) ggX7_readLaw_X7_passSemicolon
theorem dX7_readLaw_50 : decode cX7_readLaw 50 = .ok (.invokevirtual 94, 3) := dk_182 (c := cX7_readLaw) (pc := 50) (a := 0) (b := 94) (dk_at bmorecX7_readLaw_48 2) rfl
theorem dX7_readLaw_53 : decode cX7_readLaw 53 = .ok (.aload_n 1, 1) := dk_43 (c := cX7_readLaw) (pc := 53) (dk_at bmorecX7_readLaw_48 5)
theorem dX7_readLaw_54 : decode cX7_readLaw 54 = .ok (.iload_n 2, 1) := dk_28 (c := cX7_readLaw) (pc := 54) (dk_at bmorecX7_readLaw_48 6)
theorem dX7_readLaw_55 : decode cX7_readLaw 55 = .ok (.iload_n 3, 1) := dk_29 (c := cX7_readLaw) (pc := 55) (dk_at bmorecX7_readLaw_48 7)
set_option maxRecDepth 20000 in
theorem ggX7_readLaw_X3_addLaw : GoodIn wsX7_readLaw wsX3_addLaw := goodIn_r _ [99, 100, 101, 102, 103, 104, 105, 106, 107, 108, 109, 110, 111, 112, 113, 114, 115, 116, 117, 118] rfl (by decide +kernel)
set_option maxRecDepth 20000 in
theorem gX7_readLaw_X3_addLaw : GoodIn wsX7_readLaw (wsV RX7 97 RX3 yX3_addLaw wsX3_addLaw) := goodIn_app (goodIn_r _ [95, 96, 97, 98] rfl (by decide +kernel)) ggX7_readLaw_X3_addLaw
theorem dX7_readLaw_56 : decode cX7_readLaw 56 = .ok (.invokevirtual 97, 3) := dk_182 (c := cX7_readLaw) (pc := 56) (a := 0) (b := 97) (dk_at bmorecX7_readLaw_48 8) rfl
theorem dX7_readLaw_59 : decode cX7_readLaw 59 = .ok (.return_, 1) := dk_177 (c := cX7_readLaw) (pc := 59) (dk_at bmorecX7_readLaw_48 11)
theorem dX7_readLaw_9 : decode cX7_readLaw 9 = .ok (.aload_n 0, 1) := dk_42 (c := cX7_readLaw) (pc := 9) (dk_at bmorecX7_readLaw_0 9)
theorem dX7_readLaw_10 : decode cX7_readLaw 10 = .ok (.iconst 3, 1) := dk_6 (c := cX7_readLaw) (pc := 10) (dk_at bmorecX7_readLaw_0 10)
set_option maxRecDepth 20000 in
theorem ggX7_readLaw_X7_refuse : GoodIn wsX7_readLaw wsX7_refuse := goodIn_r _ [6, 7, 8, 9, 119, 120, 121, 122, 123, 124, 125, 126] rfl (by decide +kernel)
set_option maxRecDepth 20000 in
theorem gX7_readLaw_X7_refuse : GoodIn wsX7_readLaw (wsV RX7 75 RX7 yX7_refuse wsX7_refuse) := goodIn_app (goodIn_r _ [2, 3, 4, 5] rfl (by decide +kernel)) ggX7_readLaw_X7_refuse
theorem dX7_readLaw_11 : decode cX7_readLaw 11 = .ok (.invokevirtual 75, 3) := dk_182 (c := cX7_readLaw) (pc := 11) (a := 0) (b := 75) (dk_at bmorecX7_readLaw_0 11) rfl
theorem bmorecX7_readLine_0 : ((dk_l cX7_readLine).drop 0).take 52 = [42, 18, 46, 182, 0, 48, 153, 0, 11, 42, 43, 182, 0, 52, 167, 0, 76, 42, 18, 55, 182, 0, 48, 153, 0, 11, 42, 43, 182, 0, 57, 167, 0, 59, 42, 18, 60, 182, 0, 48, 153, 0, 11, 42, 43, 182, 0, 62, 167, 0, 42, 42] := by decide +kernel
theorem dX7_readLine_0 : decode cX7_readLine 0 = .ok (.aload_n 0, 1) := dk_42 (c := cX7_readLine) (pc := 0) (dk_at bmorecX7_readLine_0 0)
theorem dX7_readLine_1 : decode cX7_readLine 1 = .ok (.ldc 46, 2) := dk_18 (c := cX7_readLine) (pc := 1) (a := 46) (dk_at bmorecX7_readLine_0 1) rfl
set_option maxRecDepth 20000 in
theorem ggX7_readLine_X7_isWord : GoodIn wsX7_readLine wsX7_isWord := goodIn_r _ [5, 6, 7, 8, 9, 10, 11, 12, 13, 14, 15, 16, 17, 18, 19, 20, 21, 22, 23, 24, 25, 26, 27, 28, 29, 30, 31, 32, 33, 34, 35, 36, 37, 38, 39, 40, 41, 42, 43, 44, 45, 46, 47, 48, 49, 50, 51, 52, 53, 54, 55, 56, 57, 58, 172, 173, 174, 175, 176, 177, 178, 179] rfl (by decide +kernel)
set_option maxRecDepth 20000 in
theorem gX7_readLine_X7_isWord : GoodIn wsX7_readLine (wsV RX7 48 RX7 yX7_isWord wsX7_isWord) := goodIn_app (goodIn_r _ [1, 2, 3, 4] rfl (by decide +kernel)) ggX7_readLine_X7_isWord
theorem dX7_readLine_3 : decode cX7_readLine 3 = .ok (.invokevirtual 48, 3) := dk_182 (c := cX7_readLine) (pc := 3) (a := 0) (b := 48) (dk_at bmorecX7_readLine_0 3) rfl
theorem dX7_readLine_6 : decode cX7_readLine 6 = .ok (.ifCond .eq 11, 3) := dk_153 (c := cX7_readLine) (pc := 6) (a := 0) (b := 11) (dk_at bmorecX7_readLine_0 6) (by decide)
theorem dX7_readLine_17 : decode cX7_readLine 17 = .ok (.aload_n 0, 1) := dk_42 (c := cX7_readLine) (pc := 17) (dk_at bmorecX7_readLine_0 17)
theorem dX7_readLine_18 : decode cX7_readLine 18 = .ok (.ldc 55, 2) := dk_18 (c := cX7_readLine) (pc := 18) (a := 55) (dk_at bmorecX7_readLine_0 18) rfl
theorem dX7_readLine_20 : decode cX7_readLine 20 = .ok (.invokevirtual 48, 3) := dk_182 (c := cX7_readLine) (pc := 20) (a := 0) (b := 48) (dk_at bmorecX7_readLine_0 20) rfl
theorem dX7_readLine_23 : decode cX7_readLine 23 = .ok (.ifCond .eq 11, 3) := dk_153 (c := cX7_readLine) (pc := 23) (a := 0) (b := 11) (dk_at bmorecX7_readLine_0 23) (by decide)
theorem dX7_readLine_34 : decode cX7_readLine 34 = .ok (.aload_n 0, 1) := dk_42 (c := cX7_readLine) (pc := 34) (dk_at bmorecX7_readLine_0 34)
theorem dX7_readLine_35 : decode cX7_readLine 35 = .ok (.ldc 60, 2) := dk_18 (c := cX7_readLine) (pc := 35) (a := 60) (dk_at bmorecX7_readLine_0 35) rfl
theorem dX7_readLine_37 : decode cX7_readLine 37 = .ok (.invokevirtual 48, 3) := dk_182 (c := cX7_readLine) (pc := 37) (a := 0) (b := 48) (dk_at bmorecX7_readLine_0 37) rfl
theorem dX7_readLine_40 : decode cX7_readLine 40 = .ok (.ifCond .eq 11, 3) := dk_153 (c := cX7_readLine) (pc := 40) (a := 0) (b := 11) (dk_at bmorecX7_readLine_0 40) (by decide)
theorem bmorecX7_readLine_48 : ((dk_l cX7_readLine).drop 48).take 43 = [167, 0, 42, 42, 18, 65, 182, 0, 48, 153, 0, 11, 42, 43, 182, 0, 67, 167, 0, 25, 42, 18, 70, 182, 0, 48, 153, 0, 11, 42, 43, 182, 0, 72, 167, 0, 8, 42, 4, 182, 0, 75, 177] := by decide +kernel
theorem dX7_readLine_51 : decode cX7_readLine 51 = .ok (.aload_n 0, 1) := dk_42 (c := cX7_readLine) (pc := 51) (dk_at bmorecX7_readLine_48 3)
theorem dX7_readLine_52 : decode cX7_readLine 52 = .ok (.ldc 65, 2) := dk_18 (c := cX7_readLine) (pc := 52) (a := 65) (dk_at bmorecX7_readLine_48 4) rfl
theorem dX7_readLine_54 : decode cX7_readLine 54 = .ok (.invokevirtual 48, 3) := dk_182 (c := cX7_readLine) (pc := 54) (a := 0) (b := 48) (dk_at bmorecX7_readLine_48 6) rfl
theorem dX7_readLine_57 : decode cX7_readLine 57 = .ok (.ifCond .eq 11, 3) := dk_153 (c := cX7_readLine) (pc := 57) (a := 0) (b := 11) (dk_at bmorecX7_readLine_48 9) (by decide)
theorem dX7_readLine_68 : decode cX7_readLine 68 = .ok (.aload_n 0, 1) := dk_42 (c := cX7_readLine) (pc := 68) (dk_at bmorecX7_readLine_48 20)
theorem dX7_readLine_69 : decode cX7_readLine 69 = .ok (.ldc 70, 2) := dk_18 (c := cX7_readLine) (pc := 69) (a := 70) (dk_at bmorecX7_readLine_48 21) rfl
theorem dX7_readLine_71 : decode cX7_readLine 71 = .ok (.invokevirtual 48, 3) := dk_182 (c := cX7_readLine) (pc := 71) (a := 0) (b := 48) (dk_at bmorecX7_readLine_48 23) rfl
theorem dX7_readLine_74 : decode cX7_readLine 74 = .ok (.ifCond .eq 11, 3) := dk_153 (c := cX7_readLine) (pc := 74) (a := 0) (b := 11) (dk_at bmorecX7_readLine_48 26) (by decide)
theorem dX7_readLine_85 : decode cX7_readLine 85 = .ok (.aload_n 0, 1) := dk_42 (c := cX7_readLine) (pc := 85) (dk_at bmorecX7_readLine_48 37)
theorem dX7_readLine_86 : decode cX7_readLine 86 = .ok (.iconst 1, 1) := dk_4 (c := cX7_readLine) (pc := 86) (dk_at bmorecX7_readLine_48 38)
set_option maxRecDepth 20000 in
theorem ggX7_readLine_X7_refuse : GoodIn wsX7_readLine wsX7_refuse := goodIn_r _ [67, 68, 8, 69, 172, 173, 174, 175, 176, 177, 178, 179] rfl (by decide +kernel)
set_option maxRecDepth 20000 in
theorem gX7_readLine_X7_refuse : GoodIn wsX7_readLine (wsV RX7 75 RX7 yX7_refuse wsX7_refuse) := goodIn_app (goodIn_r _ [64, 65, 66, 4] rfl (by decide +kernel)) ggX7_readLine_X7_refuse
theorem dX7_readLine_87 : decode cX7_readLine 87 = .ok (.invokevirtual 75, 3) := dk_182 (c := cX7_readLine) (pc := 87) (a := 0) (b := 75) (dk_at bmorecX7_readLine_48 39) rfl
theorem dX7_readLine_90 : decode cX7_readLine 90 = .ok (.return_, 1) := dk_177 (c := cX7_readLine) (pc := 90) (dk_at bmorecX7_readLine_48 42)
theorem dX7_readLine_77 : decode cX7_readLine 77 = .ok (.aload_n 0, 1) := dk_42 (c := cX7_readLine) (pc := 77) (dk_at bmorecX7_readLine_48 29)
theorem dX7_readLine_78 : decode cX7_readLine 78 = .ok (.aload_n 1, 1) := dk_43 (c := cX7_readLine) (pc := 78) (dk_at bmorecX7_readLine_48 30)
set_option maxRecDepth 20000 in
theorem ggX7_readLine_X7_readNoise : GoodIn wsX7_readLine wsX7_readNoise := goodIn_r _ [169, 170, 171, 64, 65, 66, 4, 67, 68, 8, 69, 70, 71, 72, 73, 1, 2, 3, 5, 6, 7, 9, 10, 11, 12, 13, 14, 15, 16, 17, 18, 19, 20, 21, 22, 23, 24, 25, 26, 27, 28, 29, 30, 31, 32, 33, 34, 35, 36, 37, 38, 39, 40, 41, 42, 43, 44, 45, 46, 47, 48, 49, 50, 51, 52, 53, 54, 55, 56, 57, 58, 74, 75, 76, 77, 78, 79, 80, 81, 82, 83, 84, 85, 86, 87, 88, 89, 90, 91, 92, 93, 94, 95, 96, 97, 98, 180, 181, 182, 183, 184, 185, 186, 187, 188, 189, 190, 191, 192, 193, 194, 195, 172, 173, 174, 175, 176, 177, 178, 179] rfl (by decide +kernel)
set_option maxRecDepth 20000 in
theorem gX7_readLine_X7_readNoise : GoodIn wsX7_readLine (wsV RX7 72 RX7 yX7_readNoise wsX7_readNoise) := goodIn_app (goodIn_r _ [166, 167, 168, 4] rfl (by decide +kernel)) ggX7_readLine_X7_readNoise
theorem dX7_readLine_79 : decode cX7_readLine 79 = .ok (.invokevirtual 72, 3) := dk_182 (c := cX7_readLine) (pc := 79) (a := 0) (b := 72) (dk_at bmorecX7_readLine_48 31) rfl
theorem dX7_readLine_82 : decode cX7_readLine 82 = .ok (.goto 8, 3) := dk_167 (c := cX7_readLine) (pc := 82) (a := 0) (b := 8) (dk_at bmorecX7_readLine_48 34) (by decide)
theorem dX7_readLine_60 : decode cX7_readLine 60 = .ok (.aload_n 0, 1) := dk_42 (c := cX7_readLine) (pc := 60) (dk_at bmorecX7_readLine_48 12)
theorem dX7_readLine_61 : decode cX7_readLine 61 = .ok (.aload_n 1, 1) := dk_43 (c := cX7_readLine) (pc := 61) (dk_at bmorecX7_readLine_48 13)
set_option maxRecDepth 20000 in
theorem ggX7_readLine_X7_readSum : GoodIn wsX7_readLine wsX7_readSum := goodIn_r _ [141, 142, 68, 64, 65, 66, 4, 67, 8, 69, 70, 71, 72, 73, 1, 2, 3, 5, 6, 7, 9, 10, 11, 12, 13, 14, 15, 16, 17, 18, 19, 20, 21, 22, 23, 24, 25, 26, 27, 28, 29, 30, 31, 32, 33, 34, 35, 36, 37, 38, 39, 40, 41, 42, 43, 44, 45, 46, 47, 48, 49, 50, 51, 52, 53, 54, 55, 56, 57, 58, 74, 75, 76, 77, 78, 79, 80, 81, 82, 83, 84, 85, 86, 87, 88, 89, 90, 143, 144, 145, 146, 147, 148, 149, 150, 91, 92, 93, 94, 151, 152, 153, 102, 154, 155, 156, 157, 158, 159, 160, 161, 162, 163, 164, 165, 95, 96, 97, 98, 180, 181, 182, 183, 184, 185, 186, 187, 188, 189, 190, 191, 192, 193, 194, 195, 172, 173, 174, 175, 176, 177, 178, 179] rfl (by decide +kernel)
set_option maxRecDepth 20000 in
theorem gX7_readLine_X7_readSum : GoodIn wsX7_readLine (wsV RX7 67 RX7 yX7_readSum wsX7_readSum) := goodIn_app (goodIn_r _ [138, 139, 140, 4] rfl (by decide +kernel)) ggX7_readLine_X7_readSum
theorem dX7_readLine_62 : decode cX7_readLine 62 = .ok (.invokevirtual 67, 3) := dk_182 (c := cX7_readLine) (pc := 62) (a := 0) (b := 67) (dk_at bmorecX7_readLine_48 14) rfl
theorem dX7_readLine_65 : decode cX7_readLine 65 = .ok (.goto 25, 3) := dk_167 (c := cX7_readLine) (pc := 65) (a := 0) (b := 25) (dk_at bmorecX7_readLine_48 17) (by decide)
theorem dX7_readLine_43 : decode cX7_readLine 43 = .ok (.aload_n 0, 1) := dk_42 (c := cX7_readLine) (pc := 43) (dk_at bmorecX7_readLine_0 43)
theorem dX7_readLine_44 : decode cX7_readLine 44 = .ok (.aload_n 1, 1) := dk_43 (c := cX7_readLine) (pc := 44) (dk_at bmorecX7_readLine_0 44)
set_option maxRecDepth 20000 in
theorem ggX7_readLine_X7_readLeak : GoodIn wsX7_readLine wsX7_readLeak := goodIn_r _ [125, 6, 79, 126, 70, 71, 72, 4, 73, 68, 1, 2, 3, 5, 7, 8, 9, 10, 11, 12, 13, 14, 15, 16, 17, 18, 19, 20, 21, 22, 23, 24, 25, 26, 27, 28, 29, 30, 31, 32, 33, 34, 35, 36, 37, 38, 39, 40, 41, 42, 43, 44, 45, 46, 47, 48, 49, 50, 51, 52, 53, 54, 55, 56, 57, 58, 64, 65, 66, 67, 69, 74, 75, 76, 77, 78, 80, 81, 82, 83, 84, 85, 86, 87, 88, 89, 90, 127, 128, 129, 102, 130, 131, 132, 133, 134, 135, 136, 137, 91, 92, 93, 94, 95, 96, 97, 98, 172, 173, 174, 175, 176, 177, 178, 179, 180, 181, 182, 183, 184, 185, 186, 187, 188, 189, 190, 191, 192, 193, 194, 195] rfl (by decide +kernel)
set_option maxRecDepth 20000 in
theorem gX7_readLine_X7_readLeak : GoodIn wsX7_readLine (wsV RX7 62 RX7 yX7_readLeak wsX7_readLeak) := goodIn_app (goodIn_r _ [122, 123, 124, 4] rfl (by decide +kernel)) ggX7_readLine_X7_readLeak
theorem dX7_readLine_45 : decode cX7_readLine 45 = .ok (.invokevirtual 62, 3) := dk_182 (c := cX7_readLine) (pc := 45) (a := 0) (b := 62) (dk_at bmorecX7_readLine_0 45) rfl
theorem dX7_readLine_48 : decode cX7_readLine 48 = .ok (.goto 42, 3) := dk_167 (c := cX7_readLine) (pc := 48) (a := 0) (b := 42) (dk_at bmorecX7_readLine_48 0) (by decide)
theorem dX7_readLine_26 : decode cX7_readLine 26 = .ok (.aload_n 0, 1) := dk_42 (c := cX7_readLine) (pc := 26) (dk_at bmorecX7_readLine_0 26)
theorem dX7_readLine_27 : decode cX7_readLine 27 = .ok (.aload_n 1, 1) := dk_43 (c := cX7_readLine) (pc := 27) (dk_at bmorecX7_readLine_0 27)
set_option maxRecDepth 20000 in
theorem ggX7_readLine_X7_readSort : GoodIn wsX7_readLine wsX7_readSort := goodIn_r _ [110, 111, 64, 65, 66, 4, 67, 68, 8, 69, 70, 71, 72, 73, 1, 2, 3, 5, 6, 7, 9, 10, 11, 12, 13, 14, 15, 16, 17, 18, 19, 20, 21, 22, 23, 24, 25, 26, 27, 28, 29, 30, 31, 32, 33, 34, 35, 36, 37, 38, 39, 40, 41, 42, 43, 44, 45, 46, 47, 48, 49, 50, 51, 52, 53, 54, 55, 56, 57, 58, 74, 75, 76, 77, 78, 79, 80, 81, 82, 83, 84, 85, 86, 87, 88, 89, 90, 91, 92, 93, 94, 95, 96, 97, 98, 112, 113, 114, 102, 115, 116, 117, 118, 119, 120, 121, 180, 181, 182, 183, 184, 185, 186, 187, 188, 189, 190, 191, 192, 193, 194, 195, 172, 173, 174, 175, 176, 177, 178, 179] rfl (by decide +kernel)
set_option maxRecDepth 20000 in
theorem gX7_readLine_X7_readSort : GoodIn wsX7_readLine (wsV RX7 57 RX7 yX7_readSort wsX7_readSort) := goodIn_app (goodIn_r _ [107, 108, 109, 4] rfl (by decide +kernel)) ggX7_readLine_X7_readSort
theorem dX7_readLine_28 : decode cX7_readLine 28 = .ok (.invokevirtual 57, 3) := dk_182 (c := cX7_readLine) (pc := 28) (a := 0) (b := 57) (dk_at bmorecX7_readLine_0 28) rfl
theorem dX7_readLine_31 : decode cX7_readLine 31 = .ok (.goto 59, 3) := dk_167 (c := cX7_readLine) (pc := 31) (a := 0) (b := 59) (dk_at bmorecX7_readLine_0 31) (by decide)
theorem dX7_readLine_9 : decode cX7_readLine 9 = .ok (.aload_n 0, 1) := dk_42 (c := cX7_readLine) (pc := 9) (dk_at bmorecX7_readLine_0 9)
theorem dX7_readLine_10 : decode cX7_readLine 10 = .ok (.aload_n 1, 1) := dk_43 (c := cX7_readLine) (pc := 10) (dk_at bmorecX7_readLine_0 10)
set_option maxRecDepth 20000 in
theorem ggX7_readLine_X7_readLaw : GoodIn wsX7_readLine wsX7_readLaw := goodIn_r _ [62, 63, 64, 65, 66, 4, 67, 68, 8, 69, 70, 71, 72, 73, 1, 2, 3, 5, 6, 7, 9, 10, 11, 12, 13, 14, 15, 16, 17, 18, 19, 20, 21, 22, 23, 24, 25, 26, 27, 28, 29, 30, 31, 32, 33, 34, 35, 36, 37, 38, 39, 40, 41, 42, 43, 44, 45, 46, 47, 48, 49, 50, 51, 52, 53, 54, 55, 56, 57, 58, 74, 75, 76, 77, 78, 79, 80, 81, 82, 83, 84, 85, 86, 87, 88, 89, 90, 91, 92, 93, 94, 95, 96, 97, 98, 99, 100, 101, 102, 103, 104, 105, 106, 180, 181, 182, 183, 184, 185, 186, 187, 188, 189, 190, 191, 192, 193, 194, 195, 172, 173, 174, 175, 176, 177, 178, 179] rfl (by decide +kernel)
set_option maxRecDepth 20000 in
theorem gX7_readLine_X7_readLaw : GoodIn wsX7_readLine (wsV RX7 52 RX7 yX7_readLaw wsX7_readLaw) := goodIn_app (goodIn_r _ [59, 60, 61, 4] rfl (by decide +kernel)) ggX7_readLine_X7_readLaw
theorem dX7_readLine_11 : decode cX7_readLine 11 = .ok (.invokevirtual 52, 3) := dk_182 (c := cX7_readLine) (pc := 11) (a := 0) (b := 52) (dk_at bmorecX7_readLine_0 11) rfl
theorem dX7_readLine_14 : decode cX7_readLine 14 = .ok (.goto 76, 3) := dk_167 (c := cX7_readLine) (pc := 14) (a := 0) (b := 76) (dk_at bmorecX7_readLine_0 14) (by decide)
theorem bmorecX7_readInto_0 : ((dk_l cX7_readInto).drop 0).take 52 = [42, 3, 181, 0, 22, 42, 2, 181, 0, 15, 42, 3, 181, 0, 25, 43, 182, 0, 28, 42, 182, 0, 33, 3, 61, 28, 17, 2, 88, 162, 0, 38, 42, 180, 0, 36, 153, 0, 31, 42, 180, 0, 22, 154, 0, 24, 42, 43, 182, 0, 39, 43] := by decide +kernel
theorem dX7_readInto_0 : decode cX7_readInto 0 = .ok (.aload_n 0, 1) := dk_42 (c := cX7_readInto) (pc := 0) (dk_at bmorecX7_readInto_0 0)
theorem dX7_readInto_1 : decode cX7_readInto 1 = .ok (.iconst 0, 1) := dk_3 (c := cX7_readInto) (pc := 1) (dk_at bmorecX7_readInto_0 1)
theorem dX7_readInto_2 : decode cX7_readInto 2 = .ok (.putfield 22, 3) := dk_181 (c := cX7_readInto) (pc := 2) (a := 0) (b := 22) (dk_at bmorecX7_readInto_0 2) rfl
theorem dX7_readInto_5 : decode cX7_readInto 5 = .ok (.aload_n 0, 1) := dk_42 (c := cX7_readInto) (pc := 5) (dk_at bmorecX7_readInto_0 5)
theorem dX7_readInto_6 : decode cX7_readInto 6 = .ok (.iconst (-1), 1) := dk_2 (c := cX7_readInto) (pc := 6) (dk_at bmorecX7_readInto_0 6)
theorem dX7_readInto_7 : decode cX7_readInto 7 = .ok (.putfield 15, 3) := dk_181 (c := cX7_readInto) (pc := 7) (a := 0) (b := 15) (dk_at bmorecX7_readInto_0 7) rfl
theorem dX7_readInto_10 : decode cX7_readInto 10 = .ok (.aload_n 0, 1) := dk_42 (c := cX7_readInto) (pc := 10) (dk_at bmorecX7_readInto_0 10)
theorem dX7_readInto_11 : decode cX7_readInto 11 = .ok (.iconst 0, 1) := dk_3 (c := cX7_readInto) (pc := 11) (dk_at bmorecX7_readInto_0 11)
theorem dX7_readInto_12 : decode cX7_readInto 12 = .ok (.putfield 25, 3) := dk_181 (c := cX7_readInto) (pc := 12) (a := 0) (b := 25) (dk_at bmorecX7_readInto_0 12) rfl
theorem dX7_readInto_15 : decode cX7_readInto 15 = .ok (.aload_n 1, 1) := dk_43 (c := cX7_readInto) (pc := 15) (dk_at bmorecX7_readInto_0 15)
set_option maxRecDepth 20000 in
theorem ggX7_readInto_X3_clear : GoodIn wsX7_readInto wsX3_clear := goodIn_r _ [10, 11, 12, 13, 14, 15, 16, 17, 18, 19, 20, 21, 22, 196, 197, 198, 199, 200, 201, 202, 203, 204, 205, 206, 207, 208, 209, 210, 211] rfl (by decide +kernel)
set_option maxRecDepth 20000 in
theorem gX7_readInto_X3_clear : GoodIn wsX7_readInto (wsV RX7 28 RX3 yX3_clear wsX3_clear) := goodIn_app (goodIn_r _ [6, 7, 8, 9] rfl (by decide +kernel)) ggX7_readInto_X3_clear
theorem dX7_readInto_16 : decode cX7_readInto 16 = .ok (.invokevirtual 28, 3) := dk_182 (c := cX7_readInto) (pc := 16) (a := 0) (b := 28) (dk_at bmorecX7_readInto_0 16) rfl
theorem dX7_readInto_19 : decode cX7_readInto 19 = .ok (.aload_n 0, 1) := dk_42 (c := cX7_readInto) (pc := 19) (dk_at bmorecX7_readInto_0 19)
set_option maxRecDepth 20000 in
theorem ggX7_readInto_X7_step : GoodIn wsX7_readInto wsX7_step := goodIn_r _ [27, 3, 28, 29, 30, 31, 4, 32, 33, 34, 35, 36, 37, 38, 26, 39, 40, 41, 42, 188, 189, 190, 191, 192, 193, 194, 195] rfl (by decide +kernel)
set_option maxRecDepth 20000 in
theorem gX7_readInto_X7_step : GoodIn wsX7_readInto (wsV RX7 33 RX7 yX7_step wsX7_step) := goodIn_app (goodIn_r _ [23, 24, 25, 26] rfl (by decide +kernel)) ggX7_readInto_X7_step
theorem dX7_readInto_20 : decode cX7_readInto 20 = .ok (.invokevirtual 33, 3) := dk_182 (c := cX7_readInto) (pc := 20) (a := 0) (b := 33) (dk_at bmorecX7_readInto_0 20) rfl
theorem dX7_readInto_23 : decode cX7_readInto 23 = .ok (.iconst 0, 1) := dk_3 (c := cX7_readInto) (pc := 23) (dk_at bmorecX7_readInto_0 23)
theorem dX7_readInto_24 : decode cX7_readInto 24 = .ok (.istore_n 2, 1) := dk_61 (c := cX7_readInto) (pc := 24) (dk_at bmorecX7_readInto_0 24)
theorem dX7_readInto_25 : decode cX7_readInto 25 = .ok (.iload_n 2, 1) := dk_28 (c := cX7_readInto) (pc := 25) (dk_at bmorecX7_readInto_0 25)
theorem dX7_readInto_26 : decode cX7_readInto 26 = .ok (.sipush 600, 3) := dk_17 (c := cX7_readInto) (pc := 26) (a := 2) (b := 88) (dk_at bmorecX7_readInto_0 26) (by decide)
theorem dX7_readInto_29 : decode cX7_readInto 29 = .ok (.if_icmp .ge 38, 3) := dk_162 (c := cX7_readInto) (pc := 29) (a := 0) (b := 38) (dk_at bmorecX7_readInto_0 29) (by decide)
theorem bmorecX7_readInto_48 : ((dk_l cX7_readInto).drop 48).take 20 = [182, 0, 39, 43, 89, 180, 0, 43, 4, 96, 181, 0, 43, 132, 2, 1, 167, 255, 217, 177] := by decide +kernel
theorem dX7_readInto_67 : decode cX7_readInto 67 = .ok (.return_, 1) := dk_177 (c := cX7_readInto) (pc := 67) (dk_at bmorecX7_readInto_48 19)
theorem dX7_readInto_32 : decode cX7_readInto 32 = .ok (.aload_n 0, 1) := dk_42 (c := cX7_readInto) (pc := 32) (dk_at bmorecX7_readInto_0 32)
theorem dX7_readInto_33 : decode cX7_readInto 33 = .ok (.getfield 36, 3) := dk_180 (c := cX7_readInto) (pc := 33) (a := 0) (b := 36) (dk_at bmorecX7_readInto_0 33) rfl
theorem dX7_readInto_36 : decode cX7_readInto 36 = .ok (.ifCond .eq 31, 3) := dk_153 (c := cX7_readInto) (pc := 36) (a := 0) (b := 31) (dk_at bmorecX7_readInto_0 36) (by decide)
theorem dX7_readInto_39 : decode cX7_readInto 39 = .ok (.aload_n 0, 1) := dk_42 (c := cX7_readInto) (pc := 39) (dk_at bmorecX7_readInto_0 39)
theorem dX7_readInto_40 : decode cX7_readInto 40 = .ok (.getfield 22, 3) := dk_180 (c := cX7_readInto) (pc := 40) (a := 0) (b := 22) (dk_at bmorecX7_readInto_0 40) rfl
theorem dX7_readInto_43 : decode cX7_readInto 43 = .ok (.ifCond .ne 24, 3) := dk_154 (c := cX7_readInto) (pc := 43) (a := 0) (b := 24) (dk_at bmorecX7_readInto_0 43) (by decide)
theorem dX7_readInto_46 : decode cX7_readInto 46 = .ok (.aload_n 0, 1) := dk_42 (c := cX7_readInto) (pc := 46) (dk_at bmorecX7_readInto_0 46)
theorem dX7_readInto_47 : decode cX7_readInto 47 = .ok (.aload_n 1, 1) := dk_43 (c := cX7_readInto) (pc := 47) (dk_at bmorecX7_readInto_0 47)
set_option maxRecDepth 20000 in
theorem ggX7_readInto_X7_readLine : GoodIn wsX7_readInto wsX7_readLine := goodIn_r _ [46, 47, 48, 49, 26, 50, 4, 3, 30, 29, 51, 52, 53, 54, 55, 56, 57, 58, 59, 60, 61, 62, 63, 64, 65, 66, 67, 68, 69, 70, 71, 72, 73, 74, 75, 76, 77, 78, 79, 80, 81, 82, 83, 84, 85, 86, 87, 88, 89, 90, 91, 92, 93, 94, 95, 96, 97, 98, 99, 100, 101, 102, 103, 104, 105, 106, 107, 108, 1, 2, 109, 110, 111, 112, 23, 24, 25, 27, 28, 31, 32, 33, 34, 35, 36, 37, 38, 39, 40, 41, 42, 113, 114, 115, 116, 117, 118, 119, 120, 121, 122, 123, 9, 124, 12, 125, 126, 127, 128, 129, 130, 131, 132, 133, 134, 135, 13, 136, 137, 138, 139, 14, 140, 141, 142, 143, 144, 145, 146, 147, 148, 18, 149, 150, 151, 152, 153, 154, 155, 156, 157, 158, 159, 160, 161, 162, 163, 164, 165, 166, 167, 168, 169, 170, 171, 15, 172, 173, 174, 175, 176, 177, 178, 179, 180, 181, 182, 183, 184, 185, 186, 187, 188, 189, 190, 191, 192, 193, 194, 195, 196, 197, 198, 199, 200, 201, 202, 203, 204, 205, 206, 207, 208, 209, 210, 211] rfl (by decide +kernel)
set_option maxRecDepth 20000 in
theorem gX7_readInto_X7_readLine : GoodIn wsX7_readInto (wsV RX7 39 RX7 yX7_readLine wsX7_readLine) := goodIn_app (goodIn_r _ [43, 44, 45, 26] rfl (by decide +kernel)) ggX7_readInto_X7_readLine
theorem dX7_readInto_48 : decode cX7_readInto 48 = .ok (.invokevirtual 39, 3) := dk_182 (c := cX7_readInto) (pc := 48) (a := 0) (b := 39) (dk_at bmorecX7_readInto_48 0) rfl
theorem dX7_readInto_51 : decode cX7_readInto 51 = .ok (.aload_n 1, 1) := dk_43 (c := cX7_readInto) (pc := 51) (dk_at bmorecX7_readInto_48 3)
theorem dX7_readInto_52 : decode cX7_readInto 52 = .ok (.dup, 1) := dk_89 (c := cX7_readInto) (pc := 52) (dk_at bmorecX7_readInto_48 4)
theorem dX7_readInto_53 : decode cX7_readInto 53 = .ok (.getfield 43, 3) := dk_180 (c := cX7_readInto) (pc := 53) (a := 0) (b := 43) (dk_at bmorecX7_readInto_48 5) rfl
theorem dX7_readInto_56 : decode cX7_readInto 56 = .ok (.iconst 1, 1) := dk_4 (c := cX7_readInto) (pc := 56) (dk_at bmorecX7_readInto_48 8)
theorem dX7_readInto_57 : decode cX7_readInto 57 = .ok (.iadd, 1) := dk_96 (c := cX7_readInto) (pc := 57) (dk_at bmorecX7_readInto_48 9)
theorem dX7_readInto_58 : decode cX7_readInto 58 = .ok (.putfield 43, 3) := dk_181 (c := cX7_readInto) (pc := 58) (a := 0) (b := 43) (dk_at bmorecX7_readInto_48 10) rfl
theorem dX7_readInto_61 : decode cX7_readInto 61 = .ok (.iinc 2 1, 3) := dk_132 (c := cX7_readInto) (pc := 61) (a := 2) (b := 1) (dk_at bmorecX7_readInto_48 13) rfl (by decide)
theorem dX7_readInto_64 : decode cX7_readInto 64 = .ok (.goto (-39), 3) := dk_167 (c := cX7_readInto) (pc := 64) (a := 255) (b := 217) (dk_at bmorecX7_readInto_48 16) (by decide)
theorem bmorecX8_land_0 : ((dk_l cX8_land).drop 0).take 52 = [42, 180, 0, 10, 42, 180, 0, 23, 182, 0, 78, 42, 180, 0, 10, 180, 0, 82, 153, 0, 6, 16, 252, 172, 42, 180, 0, 10, 3, 181, 0, 70, 42, 180, 0, 19, 76, 42, 42, 180, 0, 23, 181, 0, 19, 42, 43, 181, 0, 23, 42, 180] := by decide +kernel
theorem dX8_land_0 : decode cX8_land 0 = .ok (.aload_n 0, 1) := dk_42 (c := cX8_land) (pc := 0) (dk_at bmorecX8_land_0 0)
theorem dX8_land_1 : decode cX8_land 1 = .ok (.getfield 10, 3) := dk_180 (c := cX8_land) (pc := 1) (a := 0) (b := 10) (dk_at bmorecX8_land_0 1) rfl
theorem dX8_land_4 : decode cX8_land 4 = .ok (.aload_n 0, 1) := dk_42 (c := cX8_land) (pc := 4) (dk_at bmorecX8_land_0 4)
theorem dX8_land_5 : decode cX8_land 5 = .ok (.getfield 23, 3) := dk_180 (c := cX8_land) (pc := 5) (a := 0) (b := 23) (dk_at bmorecX8_land_0 5) rfl
set_option maxRecDepth 20000 in
theorem ggX8_land_X7_readInto : GoodIn wsX8_land wsX7_readInto := goodIn_r _ [11, 12, 13, 14, 15, 16, 17, 18, 19, 20, 21, 22, 23, 24, 25, 26, 27, 28, 29, 30, 31, 32, 33, 34, 35, 36, 10, 37, 38, 39, 40, 41, 42, 43, 44, 45, 46, 47, 48, 49, 50, 51, 52, 53, 54, 55, 56, 57, 58, 59, 60, 61, 62, 63, 64, 65, 66, 67, 68, 69, 70, 71, 72, 73, 74, 75, 76, 77, 78, 79, 80, 81, 82, 83, 84, 85, 86, 87, 88, 89, 90, 91, 92, 93, 94, 95, 96, 97, 98, 99, 100, 101, 102, 103, 104, 105, 106, 107, 108, 109, 110, 111, 112, 113, 114, 115, 116, 117, 118, 119, 120, 121, 122, 123, 124, 125, 126, 127, 128, 129, 130, 131, 132, 133, 134, 135, 136, 137, 138, 139, 140, 141, 142, 143, 144, 145, 146, 147, 148, 149, 150, 151, 152, 153, 154, 155, 156, 157, 158, 159, 160, 161, 162, 163, 164, 165, 166, 167, 168, 169, 170, 171, 172, 173, 174, 175, 176, 177, 178, 179, 180, 181, 182, 183, 184, 185, 186, 187, 188, 189, 190, 191, 192, 193, 194, 195, 196, 197, 208, 209, 210, 211, 212, 213, 214, 215, 216, 217, 218, 219, 220, 221, 222, 223, 224, 225, 226, 227, 228, 229, 230, 231] rfl (by decide +kernel)
set_option maxRecDepth 20000 in
theorem gX8_land_X7_readInto : GoodIn wsX8_land (wsV RX8 78 RX7 yX7_readInto wsX7_readInto) := goodIn_app (goodIn_r _ [7, 8, 9, 10] rfl (by decide +kernel)) ggX8_land_X7_readInto
theorem dX8_land_8 : decode cX8_land 8 = .ok (.invokevirtual 78, 3) := dk_182 (c := cX8_land) (pc := 8) (a := 0) (b := 78) (dk_at bmorecX8_land_0 8) rfl
theorem dX8_land_11 : decode cX8_land 11 = .ok (.aload_n 0, 1) := dk_42 (c := cX8_land) (pc := 11) (dk_at bmorecX8_land_0 11)
theorem dX8_land_12 : decode cX8_land 12 = .ok (.getfield 10, 3) := dk_180 (c := cX8_land) (pc := 12) (a := 0) (b := 10) (dk_at bmorecX8_land_0 12) rfl
theorem dX8_land_15 : decode cX8_land 15 = .ok (.getfield 82, 3) := dk_180 (c := cX8_land) (pc := 15) (a := 0) (b := 82) (dk_at bmorecX8_land_0 15) rfl
theorem dX8_land_18 : decode cX8_land 18 = .ok (.ifCond .eq 6, 3) := dk_153 (c := cX8_land) (pc := 18) (a := 0) (b := 6) (dk_at bmorecX8_land_0 18) (by decide)
theorem dX8_land_24 : decode cX8_land 24 = .ok (.aload_n 0, 1) := dk_42 (c := cX8_land) (pc := 24) (dk_at bmorecX8_land_0 24)
theorem dX8_land_25 : decode cX8_land 25 = .ok (.getfield 10, 3) := dk_180 (c := cX8_land) (pc := 25) (a := 0) (b := 10) (dk_at bmorecX8_land_0 25) rfl
theorem dX8_land_28 : decode cX8_land 28 = .ok (.iconst 0, 1) := dk_3 (c := cX8_land) (pc := 28) (dk_at bmorecX8_land_0 28)
theorem dX8_land_29 : decode cX8_land 29 = .ok (.putfield 70, 3) := dk_181 (c := cX8_land) (pc := 29) (a := 0) (b := 70) (dk_at bmorecX8_land_0 29) rfl
theorem dX8_land_32 : decode cX8_land 32 = .ok (.aload_n 0, 1) := dk_42 (c := cX8_land) (pc := 32) (dk_at bmorecX8_land_0 32)
theorem dX8_land_33 : decode cX8_land 33 = .ok (.getfield 19, 3) := dk_180 (c := cX8_land) (pc := 33) (a := 0) (b := 19) (dk_at bmorecX8_land_0 33) rfl
theorem dX8_land_36 : decode cX8_land 36 = .ok (.astore_n 1, 1) := dk_76 (c := cX8_land) (pc := 36) (dk_at bmorecX8_land_0 36)
theorem dX8_land_37 : decode cX8_land 37 = .ok (.aload_n 0, 1) := dk_42 (c := cX8_land) (pc := 37) (dk_at bmorecX8_land_0 37)
theorem dX8_land_38 : decode cX8_land 38 = .ok (.aload_n 0, 1) := dk_42 (c := cX8_land) (pc := 38) (dk_at bmorecX8_land_0 38)
theorem dX8_land_39 : decode cX8_land 39 = .ok (.getfield 23, 3) := dk_180 (c := cX8_land) (pc := 39) (a := 0) (b := 23) (dk_at bmorecX8_land_0 39) rfl
theorem dX8_land_42 : decode cX8_land 42 = .ok (.putfield 19, 3) := dk_181 (c := cX8_land) (pc := 42) (a := 0) (b := 19) (dk_at bmorecX8_land_0 42) rfl
theorem dX8_land_45 : decode cX8_land 45 = .ok (.aload_n 0, 1) := dk_42 (c := cX8_land) (pc := 45) (dk_at bmorecX8_land_0 45)
theorem dX8_land_46 : decode cX8_land 46 = .ok (.aload_n 1, 1) := dk_43 (c := cX8_land) (pc := 46) (dk_at bmorecX8_land_0 46)
theorem dX8_land_47 : decode cX8_land 47 = .ok (.putfield 23, 3) := dk_181 (c := cX8_land) (pc := 47) (a := 0) (b := 23) (dk_at bmorecX8_land_0 47) rfl
theorem bmorecX8_land_48 : ((dk_l cX8_land).drop 48).take 10 = [0, 23, 42, 180, 0, 19, 180, 0, 85, 172] := by decide +kernel
theorem dX8_land_50 : decode cX8_land 50 = .ok (.aload_n 0, 1) := dk_42 (c := cX8_land) (pc := 50) (dk_at bmorecX8_land_48 2)
theorem dX8_land_51 : decode cX8_land 51 = .ok (.getfield 19, 3) := dk_180 (c := cX8_land) (pc := 51) (a := 0) (b := 19) (dk_at bmorecX8_land_48 3) rfl
theorem dX8_land_54 : decode cX8_land 54 = .ok (.getfield 85, 3) := dk_180 (c := cX8_land) (pc := 54) (a := 0) (b := 85) (dk_at bmorecX8_land_48 6) rfl
theorem dX8_land_57 : decode cX8_land 57 = .ok (.ireturn, 1) := dk_172 (c := cX8_land) (pc := 57) (dk_at bmorecX8_land_48 9)
theorem dX8_land_21 : decode cX8_land 21 = .ok (.bipush (-4), 2) := dk_16 (c := cX8_land) (pc := 21) (a := 252) (dk_at bmorecX8_land_0 21) (by decide)
theorem dX8_land_23 : decode cX8_land 23 = .ok (.ireturn, 1) := dk_172 (c := cX8_land) (pc := 23) (dk_at bmorecX8_land_0 23)
theorem bmorecJ0_coder_7d493_0 : ((dk_l cJ0_coder_7d493).drop 0).take 15 = [178, 0, 38, 153, 0, 10, 42, 180, 0, 15, 167, 0, 4, 4, 172] := by decide +kernel
theorem dJ0_coder_7d493_0 : decode cJ0_coder_7d493 0 = .ok (.getstatic 38, 3) := dk_178 (c := cJ0_coder_7d493) (pc := 0) (a := 0) (b := 38) (dk_at bmorecJ0_coder_7d493_0 0) rfl
theorem dJ0_coder_7d493_3 : decode cJ0_coder_7d493 3 = .ok (.ifCond .eq 10, 3) := dk_153 (c := cJ0_coder_7d493) (pc := 3) (a := 0) (b := 10) (dk_at bmorecJ0_coder_7d493_0 3) (by decide)
theorem dJ0_coder_7d493_6 : decode cJ0_coder_7d493 6 = .ok (.aload_n 0, 1) := dk_42 (c := cJ0_coder_7d493) (pc := 6) (dk_at bmorecJ0_coder_7d493_0 6)
theorem dJ0_coder_7d493_7 : decode cJ0_coder_7d493 7 = .ok (.getfield 15, 3) := dk_180 (c := cJ0_coder_7d493) (pc := 7) (a := 0) (b := 15) (dk_at bmorecJ0_coder_7d493_0 7) rfl
theorem dJ0_coder_7d493_10 : decode cJ0_coder_7d493 10 = .ok (.goto 4, 3) := dk_167 (c := cJ0_coder_7d493) (pc := 10) (a := 0) (b := 4) (dk_at bmorecJ0_coder_7d493_0 10) (by decide)
theorem dJ0_coder_7d493_14 : decode cJ0_coder_7d493 14 = .ok (.ireturn, 1) := dk_172 (c := cJ0_coder_7d493) (pc := 14) (dk_at bmorecJ0_coder_7d493_0 14)
theorem bmorecJ0_isLatin1_aae02_0 : ((dk_l cJ0_isLatin1_aae02).drop 0).take 19 = [178, 0, 38, 153, 0, 14, 42, 180, 0, 15, 154, 0, 7, 4, 167, 0, 4, 3, 172] := by decide +kernel
theorem dJ0_isLatin1_aae02_0 : decode cJ0_isLatin1_aae02 0 = .ok (.getstatic 38, 3) := dk_178 (c := cJ0_isLatin1_aae02) (pc := 0) (a := 0) (b := 38) (dk_at bmorecJ0_isLatin1_aae02_0 0) rfl
theorem dJ0_isLatin1_aae02_3 : decode cJ0_isLatin1_aae02 3 = .ok (.ifCond .eq 14, 3) := dk_153 (c := cJ0_isLatin1_aae02) (pc := 3) (a := 0) (b := 14) (dk_at bmorecJ0_isLatin1_aae02_0 3) (by decide)
theorem dJ0_isLatin1_aae02_6 : decode cJ0_isLatin1_aae02 6 = .ok (.aload_n 0, 1) := dk_42 (c := cJ0_isLatin1_aae02) (pc := 6) (dk_at bmorecJ0_isLatin1_aae02_0 6)
theorem dJ0_isLatin1_aae02_7 : decode cJ0_isLatin1_aae02 7 = .ok (.getfield 15, 3) := dk_180 (c := cJ0_isLatin1_aae02) (pc := 7) (a := 0) (b := 15) (dk_at bmorecJ0_isLatin1_aae02_0 7) rfl
theorem dJ0_isLatin1_aae02_10 : decode cJ0_isLatin1_aae02 10 = .ok (.ifCond .ne 7, 3) := dk_154 (c := cJ0_isLatin1_aae02) (pc := 10) (a := 0) (b := 7) (dk_at bmorecJ0_isLatin1_aae02_0 10) (by decide)
theorem dJ0_isLatin1_aae02_13 : decode cJ0_isLatin1_aae02 13 = .ok (.iconst 1, 1) := dk_4 (c := cJ0_isLatin1_aae02) (pc := 13) (dk_at bmorecJ0_isLatin1_aae02_0 13)
theorem dJ0_isLatin1_aae02_14 : decode cJ0_isLatin1_aae02 14 = .ok (.goto 4, 3) := dk_167 (c := cJ0_isLatin1_aae02) (pc := 14) (a := 0) (b := 4) (dk_at bmorecJ0_isLatin1_aae02_0 14) (by decide)
theorem dJ0_isLatin1_aae02_18 : decode cJ0_isLatin1_aae02 18 = .ok (.ireturn, 1) := dk_172 (c := cJ0_isLatin1_aae02) (pc := 18) (dk_at bmorecJ0_isLatin1_aae02_0 18)
theorem bmorecJ0_length_8abf5_0 : ((dk_l cJ0_length_8abf5).drop 0).take 11 = [42, 180, 0, 9, 190, 42, 182, 1, 79, 122, 172] := by decide +kernel
theorem dJ0_length_8abf5_0 : decode cJ0_length_8abf5 0 = .ok (.aload_n 0, 1) := dk_42 (c := cJ0_length_8abf5) (pc := 0) (dk_at bmorecJ0_length_8abf5_0 0)
theorem dJ0_length_8abf5_1 : decode cJ0_length_8abf5 1 = .ok (.getfield 9, 3) := dk_180 (c := cJ0_length_8abf5) (pc := 1) (a := 0) (b := 9) (dk_at bmorecJ0_length_8abf5_0 1) rfl
theorem dJ0_length_8abf5_4 : decode cJ0_length_8abf5 4 = .ok (.arraylength, 1) := dk_190 (c := cJ0_length_8abf5) (pc := 4) (dk_at bmorecJ0_length_8abf5_0 4)
theorem dJ0_length_8abf5_5 : decode cJ0_length_8abf5 5 = .ok (.aload_n 0, 1) := dk_42 (c := cJ0_length_8abf5) (pc := 5) (dk_at bmorecJ0_length_8abf5_0 5)
set_option maxRecDepth 20000 in
theorem ggJ0_length_8abf5_J0_coder_7d493 : GoodIn wsJ0_length_8abf5 wsJ0_coder_7d493 := goodIn_r _ [6, 7, 8] rfl (by decide +kernel)
set_option maxRecDepth 20000 in
theorem gJ0_length_8abf5_J0_coder_7d493 : GoodIn wsJ0_length_8abf5 (wsV RJ0 335 RJ0 yJ0_coder_7d493 wsJ0_coder_7d493) := goodIn_app (goodIn_r _ [2, 3, 4, 5] rfl (by decide +kernel)) ggJ0_length_8abf5_J0_coder_7d493
theorem dJ0_length_8abf5_6 : decode cJ0_length_8abf5 6 = .ok (.invokevirtual 335, 3) := dk_182 (c := cJ0_length_8abf5) (pc := 6) (a := 1) (b := 79) (dk_at bmorecJ0_length_8abf5_0 6) rfl
theorem dJ0_length_8abf5_9 : decode cJ0_length_8abf5 9 = .ok (.ishr, 1) := dk_122 (c := cJ0_length_8abf5) (pc := 9) (dk_at bmorecJ0_length_8abf5_0 9)
theorem dJ0_length_8abf5_10 : decode cJ0_length_8abf5 10 = .ok (.ireturn, 1) := dk_172 (c := cJ0_length_8abf5) (pc := 10) (dk_at bmorecJ0_length_8abf5_0 10)
theorem bmorecJ3_checkIndex_8e157_0 : ((dk_l cJ3_checkIndex_8e157).drop 0).take 18 = [26, 155, 0, 8, 26, 27, 161, 0, 10, 44, 26, 27, 184, 0, 95, 191, 26, 172] := by decide +kernel
theorem dJ3_checkIndex_8e157_0 : decode cJ3_checkIndex_8e157 0 = .ok (.iload_n 0, 1) := dk_26 (c := cJ3_checkIndex_8e157) (pc := 0) (dk_at bmorecJ3_checkIndex_8e157_0 0)
theorem dJ3_checkIndex_8e157_1 : decode cJ3_checkIndex_8e157 1 = .ok (.ifCond .lt 8, 3) := dk_155 (c := cJ3_checkIndex_8e157) (pc := 1) (a := 0) (b := 8) (dk_at bmorecJ3_checkIndex_8e157_0 1) (by decide)
theorem dJ3_checkIndex_8e157_4 : decode cJ3_checkIndex_8e157 4 = .ok (.iload_n 0, 1) := dk_26 (c := cJ3_checkIndex_8e157) (pc := 4) (dk_at bmorecJ3_checkIndex_8e157_0 4)
theorem dJ3_checkIndex_8e157_5 : decode cJ3_checkIndex_8e157 5 = .ok (.iload_n 1, 1) := dk_27 (c := cJ3_checkIndex_8e157) (pc := 5) (dk_at bmorecJ3_checkIndex_8e157_0 5)
theorem dJ3_checkIndex_8e157_6 : decode cJ3_checkIndex_8e157 6 = .ok (.if_icmp .lt 10, 3) := dk_161 (c := cJ3_checkIndex_8e157) (pc := 6) (a := 0) (b := 10) (dk_at bmorecJ3_checkIndex_8e157_0 6) (by decide)
theorem dJ3_checkIndex_8e157_16 : decode cJ3_checkIndex_8e157 16 = .ok (.iload_n 0, 1) := dk_26 (c := cJ3_checkIndex_8e157) (pc := 16) (dk_at bmorecJ3_checkIndex_8e157_0 16)
theorem dJ3_checkIndex_8e157_17 : decode cJ3_checkIndex_8e157 17 = .ok (.ireturn, 1) := dk_172 (c := cJ3_checkIndex_8e157) (pc := 17) (dk_at bmorecJ3_checkIndex_8e157_0 17)
theorem bmorecJ0_checkIndex_df160_0 : ((dk_l cJ0_checkIndex_df160).drop 0).take 10 = [26, 27, 178, 4, 29, 184, 4, 35, 87, 177] := by decide +kernel
theorem dJ0_checkIndex_df160_0 : decode cJ0_checkIndex_df160 0 = .ok (.iload_n 0, 1) := dk_26 (c := cJ0_checkIndex_df160) (pc := 0) (dk_at bmorecJ0_checkIndex_df160_0 0)
theorem dJ0_checkIndex_df160_1 : decode cJ0_checkIndex_df160 1 = .ok (.iload_n 1, 1) := dk_27 (c := cJ0_checkIndex_df160) (pc := 1) (dk_at bmorecJ0_checkIndex_df160_0 1)
theorem dJ0_checkIndex_df160_2 : decode cJ0_checkIndex_df160 2 = .ok (.getstatic 1053, 3) := dk_178 (c := cJ0_checkIndex_df160) (pc := 2) (a := 4) (b := 29) (dk_at bmorecJ0_checkIndex_df160_0 2) rfl
set_option maxRecDepth 20000 in
theorem ggJ0_checkIndex_df160_J3_checkIndex_8e157 : GoodIn wsJ0_checkIndex_df160 wsJ3_checkIndex_8e157 := goodIn_r _ [5] rfl (by decide +kernel)
set_option maxRecDepth 20000 in
theorem gJ0_checkIndex_df160_J3_checkIndex_8e157 : GoodIn wsJ0_checkIndex_df160 (va_wsS RJ0 1059 yJ3_checkIndex_8e157 wsJ3_checkIndex_8e157) := goodIn_app (goodIn_r _ [2, 3, 4] rfl (by decide +kernel)) ggJ0_checkIndex_df160_J3_checkIndex_8e157
theorem dJ0_checkIndex_df160_5 : decode cJ0_checkIndex_df160 5 = .ok (.invokestatic 1059, 3) := dk_184 (c := cJ0_checkIndex_df160) (pc := 5) (a := 4) (b := 35) (dk_at bmorecJ0_checkIndex_df160_0 5) rfl
theorem dJ0_checkIndex_df160_8 : decode cJ0_checkIndex_df160 8 = .ok (.pop, 1) := dk_87 (c := cJ0_checkIndex_df160) (pc := 8) (dk_at bmorecJ0_checkIndex_df160_0 8)
theorem dJ0_checkIndex_df160_9 : decode cJ0_checkIndex_df160 9 = .ok (.return_, 1) := dk_177 (c := cJ0_checkIndex_df160) (pc := 9) (dk_at bmorecJ0_checkIndex_df160_0 9)
theorem bmorecJ1_charAt_3b067_0 : ((dk_l cJ1_charAt_3b067).drop 0).take 15 = [27, 42, 190, 184, 0, 9, 42, 27, 51, 17, 0, 255, 126, 146, 172] := by decide +kernel
theorem dJ1_charAt_3b067_0 : decode cJ1_charAt_3b067 0 = .ok (.iload_n 1, 1) := dk_27 (c := cJ1_charAt_3b067) (pc := 0) (dk_at bmorecJ1_charAt_3b067_0 0)
theorem dJ1_charAt_3b067_1 : decode cJ1_charAt_3b067 1 = .ok (.aload_n 0, 1) := dk_42 (c := cJ1_charAt_3b067) (pc := 1) (dk_at bmorecJ1_charAt_3b067_0 1)
theorem dJ1_charAt_3b067_2 : decode cJ1_charAt_3b067 2 = .ok (.arraylength, 1) := dk_190 (c := cJ1_charAt_3b067) (pc := 2) (dk_at bmorecJ1_charAt_3b067_0 2)
set_option maxRecDepth 20000 in
theorem ggJ1_charAt_3b067_J0_checkIndex_df160 : GoodIn wsJ1_charAt_3b067 wsJ0_checkIndex_df160 := goodIn_r _ [4, 5, 6, 7, 8, 9] rfl (by decide +kernel)
set_option maxRecDepth 20000 in
theorem gJ1_charAt_3b067_J0_checkIndex_df160 : GoodIn wsJ1_charAt_3b067 (va_wsS RJ1 9 yJ0_checkIndex_df160 wsJ0_checkIndex_df160) := goodIn_app (goodIn_r _ [1, 2, 3] rfl (by decide +kernel)) ggJ1_charAt_3b067_J0_checkIndex_df160
theorem dJ1_charAt_3b067_3 : decode cJ1_charAt_3b067 3 = .ok (.invokestatic 9, 3) := dk_184 (c := cJ1_charAt_3b067) (pc := 3) (a := 0) (b := 9) (dk_at bmorecJ1_charAt_3b067_0 3) rfl
theorem dJ1_charAt_3b067_6 : decode cJ1_charAt_3b067 6 = .ok (.aload_n 0, 1) := dk_42 (c := cJ1_charAt_3b067) (pc := 6) (dk_at bmorecJ1_charAt_3b067_0 6)
theorem dJ1_charAt_3b067_7 : decode cJ1_charAt_3b067 7 = .ok (.iload_n 1, 1) := dk_27 (c := cJ1_charAt_3b067) (pc := 7) (dk_at bmorecJ1_charAt_3b067_0 7)
theorem dJ1_charAt_3b067_8 : decode cJ1_charAt_3b067 8 = .ok (.baload, 1) := dk_51 (c := cJ1_charAt_3b067) (pc := 8) (dk_at bmorecJ1_charAt_3b067_0 8)
theorem dJ1_charAt_3b067_9 : decode cJ1_charAt_3b067 9 = .ok (.sipush 255, 3) := dk_17 (c := cJ1_charAt_3b067) (pc := 9) (a := 0) (b := 255) (dk_at bmorecJ1_charAt_3b067_0 9) (by decide)
theorem dJ1_charAt_3b067_12 : decode cJ1_charAt_3b067 12 = .ok (.iand, 1) := dk_126 (c := cJ1_charAt_3b067) (pc := 12) (dk_at bmorecJ1_charAt_3b067_0 12)
theorem dJ1_charAt_3b067_13 : decode cJ1_charAt_3b067 13 = .ok (.i2c, 1) := dk_146 (c := cJ1_charAt_3b067) (pc := 13) (dk_at bmorecJ1_charAt_3b067_0 13)
theorem dJ1_charAt_3b067_14 : decode cJ1_charAt_3b067 14 = .ok (.ireturn, 1) := dk_172 (c := cJ1_charAt_3b067) (pc := 14) (dk_at bmorecJ1_charAt_3b067_0 14)
theorem bmorecJ0_charAt_5068e_0 : ((dk_l cJ0_charAt_5068e).drop 0).take 25 = [42, 182, 1, 236, 153, 0, 12, 42, 180, 0, 9, 27, 184, 1, 239, 172, 42, 180, 0, 9, 27, 184, 1, 242, 172] := by decide +kernel
theorem dJ0_charAt_5068e_0 : decode cJ0_charAt_5068e 0 = .ok (.aload_n 0, 1) := dk_42 (c := cJ0_charAt_5068e) (pc := 0) (dk_at bmorecJ0_charAt_5068e_0 0)
set_option maxRecDepth 20000 in
theorem ggJ0_charAt_5068e_J0_isLatin1_aae02 : GoodIn wsJ0_charAt_5068e wsJ0_isLatin1_aae02 := goodIn_r _ [6, 7, 8] rfl (by decide +kernel)
set_option maxRecDepth 20000 in
theorem gJ0_charAt_5068e_J0_isLatin1_aae02 : GoodIn wsJ0_charAt_5068e (wsV RJ0 492 RJ0 yJ0_isLatin1_aae02 wsJ0_isLatin1_aae02) := goodIn_app (goodIn_r _ [2, 3, 4, 5] rfl (by decide +kernel)) ggJ0_charAt_5068e_J0_isLatin1_aae02
theorem dJ0_charAt_5068e_1 : decode cJ0_charAt_5068e 1 = .ok (.invokevirtual 492, 3) := dk_182 (c := cJ0_charAt_5068e) (pc := 1) (a := 1) (b := 236) (dk_at bmorecJ0_charAt_5068e_0 1) rfl
theorem dJ0_charAt_5068e_4 : decode cJ0_charAt_5068e 4 = .ok (.ifCond .eq 12, 3) := dk_153 (c := cJ0_charAt_5068e) (pc := 4) (a := 0) (b := 12) (dk_at bmorecJ0_charAt_5068e_0 4) (by decide)
theorem dJ0_charAt_5068e_7 : decode cJ0_charAt_5068e 7 = .ok (.aload_n 0, 1) := dk_42 (c := cJ0_charAt_5068e) (pc := 7) (dk_at bmorecJ0_charAt_5068e_0 7)
theorem dJ0_charAt_5068e_8 : decode cJ0_charAt_5068e 8 = .ok (.getfield 9, 3) := dk_180 (c := cJ0_charAt_5068e) (pc := 8) (a := 0) (b := 9) (dk_at bmorecJ0_charAt_5068e_0 8) rfl
theorem dJ0_charAt_5068e_11 : decode cJ0_charAt_5068e 11 = .ok (.iload_n 1, 1) := dk_27 (c := cJ0_charAt_5068e) (pc := 11) (dk_at bmorecJ0_charAt_5068e_0 11)
set_option maxRecDepth 20000 in
theorem ggJ0_charAt_5068e_J1_charAt_3b067 : GoodIn wsJ0_charAt_5068e wsJ1_charAt_3b067 := goodIn_r _ [12, 13, 14, 5, 15, 16, 17, 18, 19, 20] rfl (by decide +kernel)
set_option maxRecDepth 20000 in
theorem gJ0_charAt_5068e_J1_charAt_3b067 : GoodIn wsJ0_charAt_5068e (va_wsS RJ0 495 yJ1_charAt_3b067 wsJ1_charAt_3b067) := goodIn_app (goodIn_r _ [9, 10, 11] rfl (by decide +kernel)) ggJ0_charAt_5068e_J1_charAt_3b067
theorem dJ0_charAt_5068e_12 : decode cJ0_charAt_5068e 12 = .ok (.invokestatic 495, 3) := dk_184 (c := cJ0_charAt_5068e) (pc := 12) (a := 1) (b := 239) (dk_at bmorecJ0_charAt_5068e_0 12) rfl
theorem dJ0_charAt_5068e_15 : decode cJ0_charAt_5068e 15 = .ok (.ireturn, 1) := dk_172 (c := cJ0_charAt_5068e) (pc := 15) (dk_at bmorecJ0_charAt_5068e_0 15)
theorem bmorecX7_init_0 : ((dk_l cX7_init).drop 0).take 19 = [42, 183, 0, 3, 42, 17, 2, 88, 188, 8, 181, 0, 9, 42, 2, 181, 0, 15, 177] := by decide +kernel
theorem dX7_init_0 : decode cX7_init 0 = .ok (.aload_n 0, 1) := dk_42 (c := cX7_init) (pc := 0) (dk_at bmorecX7_init_0 0)
theorem dX7_init_1 : decode cX7_init 1 = .ok (.invokespecial 3, 3) := dk_183 (c := cX7_init) (pc := 1) (a := 0) (b := 3) (dk_at bmorecX7_init_0 1) rfl
theorem dX7_init_4 : decode cX7_init 4 = .ok (.aload_n 0, 1) := dk_42 (c := cX7_init) (pc := 4) (dk_at bmorecX7_init_0 4)
theorem dX7_init_5 : decode cX7_init 5 = .ok (.sipush 600, 3) := dk_17 (c := cX7_init) (pc := 5) (a := 2) (b := 88) (dk_at bmorecX7_init_0 5) (by decide)
theorem dX7_init_8 : decode cX7_init 8 = .ok (.newarray .byte, 2) := dk_188_8 (c := cX7_init) (pc := 8) (dk_at bmorecX7_init_0 8)
theorem dX7_init_10 : decode cX7_init 10 = .ok (.putfield 9, 3) := dk_181 (c := cX7_init) (pc := 10) (a := 0) (b := 9) (dk_at bmorecX7_init_0 10) rfl
theorem dX7_init_13 : decode cX7_init 13 = .ok (.aload_n 0, 1) := dk_42 (c := cX7_init) (pc := 13) (dk_at bmorecX7_init_0 13)
theorem dX7_init_14 : decode cX7_init 14 = .ok (.iconst (-1), 1) := dk_2 (c := cX7_init) (pc := 14) (dk_at bmorecX7_init_0 14)
theorem dX7_init_15 : decode cX7_init 15 = .ok (.putfield 15, 3) := dk_181 (c := cX7_init) (pc := 15) (a := 0) (b := 15) (dk_at bmorecX7_init_0 15) rfl
theorem dX7_init_18 : decode cX7_init 18 = .ok (.return_, 1) := dk_177 (c := cX7_init) (pc := 18) (dk_at bmorecX7_init_0 18)
theorem bmorecX3_init_0 : ((dk_l cX3_init).drop 0).take 52 = [42, 183, 0, 3, 42, 16, 6, 188, 10, 181, 0, 9, 42, 16, 6, 188, 10, 181, 0, 15, 42, 16, 8, 188, 10, 181, 0, 18, 42, 16, 8, 188, 10, 181, 0, 21, 42, 16, 8, 188, 10, 181, 0, 24, 42, 16, 8, 188, 10, 181, 0, 27] := by decide +kernel
theorem dX3_init_0 : decode cX3_init 0 = .ok (.aload_n 0, 1) := dk_42 (c := cX3_init) (pc := 0) (dk_at bmorecX3_init_0 0)
theorem dX3_init_1 : decode cX3_init 1 = .ok (.invokespecial 3, 3) := dk_183 (c := cX3_init) (pc := 1) (a := 0) (b := 3) (dk_at bmorecX3_init_0 1) rfl
theorem dX3_init_4 : decode cX3_init 4 = .ok (.aload_n 0, 1) := dk_42 (c := cX3_init) (pc := 4) (dk_at bmorecX3_init_0 4)
theorem dX3_init_5 : decode cX3_init 5 = .ok (.bipush 6, 2) := dk_16 (c := cX3_init) (pc := 5) (a := 6) (dk_at bmorecX3_init_0 5) (by decide)
theorem dX3_init_7 : decode cX3_init 7 = .ok (.newarray .int, 2) := dk_188_10 (c := cX3_init) (pc := 7) (dk_at bmorecX3_init_0 7)
theorem dX3_init_9 : decode cX3_init 9 = .ok (.putfield 9, 3) := dk_181 (c := cX3_init) (pc := 9) (a := 0) (b := 9) (dk_at bmorecX3_init_0 9) rfl
theorem dX3_init_12 : decode cX3_init 12 = .ok (.aload_n 0, 1) := dk_42 (c := cX3_init) (pc := 12) (dk_at bmorecX3_init_0 12)
theorem dX3_init_13 : decode cX3_init 13 = .ok (.bipush 6, 2) := dk_16 (c := cX3_init) (pc := 13) (a := 6) (dk_at bmorecX3_init_0 13) (by decide)
theorem dX3_init_15 : decode cX3_init 15 = .ok (.newarray .int, 2) := dk_188_10 (c := cX3_init) (pc := 15) (dk_at bmorecX3_init_0 15)
theorem dX3_init_17 : decode cX3_init 17 = .ok (.putfield 15, 3) := dk_181 (c := cX3_init) (pc := 17) (a := 0) (b := 15) (dk_at bmorecX3_init_0 17) rfl
theorem dX3_init_20 : decode cX3_init 20 = .ok (.aload_n 0, 1) := dk_42 (c := cX3_init) (pc := 20) (dk_at bmorecX3_init_0 20)
theorem dX3_init_21 : decode cX3_init 21 = .ok (.bipush 8, 2) := dk_16 (c := cX3_init) (pc := 21) (a := 8) (dk_at bmorecX3_init_0 21) (by decide)
theorem dX3_init_23 : decode cX3_init 23 = .ok (.newarray .int, 2) := dk_188_10 (c := cX3_init) (pc := 23) (dk_at bmorecX3_init_0 23)
theorem dX3_init_25 : decode cX3_init 25 = .ok (.putfield 18, 3) := dk_181 (c := cX3_init) (pc := 25) (a := 0) (b := 18) (dk_at bmorecX3_init_0 25) rfl
theorem dX3_init_28 : decode cX3_init 28 = .ok (.aload_n 0, 1) := dk_42 (c := cX3_init) (pc := 28) (dk_at bmorecX3_init_0 28)
theorem dX3_init_29 : decode cX3_init 29 = .ok (.bipush 8, 2) := dk_16 (c := cX3_init) (pc := 29) (a := 8) (dk_at bmorecX3_init_0 29) (by decide)
theorem dX3_init_31 : decode cX3_init 31 = .ok (.newarray .int, 2) := dk_188_10 (c := cX3_init) (pc := 31) (dk_at bmorecX3_init_0 31)
theorem dX3_init_33 : decode cX3_init 33 = .ok (.putfield 21, 3) := dk_181 (c := cX3_init) (pc := 33) (a := 0) (b := 21) (dk_at bmorecX3_init_0 33) rfl
theorem dX3_init_36 : decode cX3_init 36 = .ok (.aload_n 0, 1) := dk_42 (c := cX3_init) (pc := 36) (dk_at bmorecX3_init_0 36)
theorem dX3_init_37 : decode cX3_init 37 = .ok (.bipush 8, 2) := dk_16 (c := cX3_init) (pc := 37) (a := 8) (dk_at bmorecX3_init_0 37) (by decide)
theorem dX3_init_39 : decode cX3_init 39 = .ok (.newarray .int, 2) := dk_188_10 (c := cX3_init) (pc := 39) (dk_at bmorecX3_init_0 39)
theorem dX3_init_41 : decode cX3_init 41 = .ok (.putfield 24, 3) := dk_181 (c := cX3_init) (pc := 41) (a := 0) (b := 24) (dk_at bmorecX3_init_0 41) rfl
theorem dX3_init_44 : decode cX3_init 44 = .ok (.aload_n 0, 1) := dk_42 (c := cX3_init) (pc := 44) (dk_at bmorecX3_init_0 44)
theorem dX3_init_45 : decode cX3_init 45 = .ok (.bipush 8, 2) := dk_16 (c := cX3_init) (pc := 45) (a := 8) (dk_at bmorecX3_init_0 45) (by decide)
theorem dX3_init_47 : decode cX3_init 47 = .ok (.newarray .int, 2) := dk_188_10 (c := cX3_init) (pc := 47) (dk_at bmorecX3_init_0 47)
theorem bmorecX3_init_48 : ((dk_l cX3_init).drop 48).take 37 = [10, 181, 0, 27, 42, 16, 13, 188, 10, 181, 0, 30, 42, 16, 120, 188, 10, 181, 0, 33, 42, 16, 120, 188, 10, 181, 0, 36, 42, 180, 0, 30, 2, 184, 0, 39, 177] := by decide +kernel
theorem dX3_init_49 : decode cX3_init 49 = .ok (.putfield 27, 3) := dk_181 (c := cX3_init) (pc := 49) (a := 0) (b := 27) (dk_at bmorecX3_init_48 1) rfl
theorem dX3_init_52 : decode cX3_init 52 = .ok (.aload_n 0, 1) := dk_42 (c := cX3_init) (pc := 52) (dk_at bmorecX3_init_48 4)
theorem dX3_init_53 : decode cX3_init 53 = .ok (.bipush 13, 2) := dk_16 (c := cX3_init) (pc := 53) (a := 13) (dk_at bmorecX3_init_48 5) (by decide)
theorem dX3_init_55 : decode cX3_init 55 = .ok (.newarray .int, 2) := dk_188_10 (c := cX3_init) (pc := 55) (dk_at bmorecX3_init_48 7)
theorem dX3_init_57 : decode cX3_init 57 = .ok (.putfield 30, 3) := dk_181 (c := cX3_init) (pc := 57) (a := 0) (b := 30) (dk_at bmorecX3_init_48 9) rfl
theorem dX3_init_60 : decode cX3_init 60 = .ok (.aload_n 0, 1) := dk_42 (c := cX3_init) (pc := 60) (dk_at bmorecX3_init_48 12)
theorem dX3_init_61 : decode cX3_init 61 = .ok (.bipush 120, 2) := dk_16 (c := cX3_init) (pc := 61) (a := 120) (dk_at bmorecX3_init_48 13) (by decide)
theorem dX3_init_63 : decode cX3_init 63 = .ok (.newarray .int, 2) := dk_188_10 (c := cX3_init) (pc := 63) (dk_at bmorecX3_init_48 15)
theorem dX3_init_65 : decode cX3_init 65 = .ok (.putfield 33, 3) := dk_181 (c := cX3_init) (pc := 65) (a := 0) (b := 33) (dk_at bmorecX3_init_48 17) rfl
theorem dX3_init_68 : decode cX3_init 68 = .ok (.aload_n 0, 1) := dk_42 (c := cX3_init) (pc := 68) (dk_at bmorecX3_init_48 20)
theorem dX3_init_69 : decode cX3_init 69 = .ok (.bipush 120, 2) := dk_16 (c := cX3_init) (pc := 69) (a := 120) (dk_at bmorecX3_init_48 21) (by decide)
theorem dX3_init_71 : decode cX3_init 71 = .ok (.newarray .int, 2) := dk_188_10 (c := cX3_init) (pc := 71) (dk_at bmorecX3_init_48 23)
theorem dX3_init_73 : decode cX3_init 73 = .ok (.putfield 36, 3) := dk_181 (c := cX3_init) (pc := 73) (a := 0) (b := 36) (dk_at bmorecX3_init_48 25) rfl
theorem dX3_init_76 : decode cX3_init 76 = .ok (.aload_n 0, 1) := dk_42 (c := cX3_init) (pc := 76) (dk_at bmorecX3_init_48 28)
theorem dX3_init_77 : decode cX3_init 77 = .ok (.getfield 30, 3) := dk_180 (c := cX3_init) (pc := 77) (a := 0) (b := 30) (dk_at bmorecX3_init_48 29) rfl
theorem dX3_init_80 : decode cX3_init 80 = .ok (.iconst (-1), 1) := dk_2 (c := cX3_init) (pc := 80) (dk_at bmorecX3_init_48 32)
set_option maxRecDepth 20000 in
theorem ggX3_init_J7_fill_53178 : GoodIn wsX3_init wsJ7_fill_53178 := goodIn_r _ [17] rfl (by decide +kernel)
set_option maxRecDepth 20000 in
theorem gX3_init_J7_fill_53178 : GoodIn wsX3_init (va_wsS RX3 39 yJ7_fill_53178 wsJ7_fill_53178) := goodIn_app (goodIn_r _ [14, 15, 16] rfl (by decide +kernel)) ggX3_init_J7_fill_53178
theorem dX3_init_81 : decode cX3_init 81 = .ok (.invokestatic 39, 3) := dk_184 (c := cX3_init) (pc := 81) (a := 0) (b := 39) (dk_at bmorecX3_init_48 33) rfl
theorem dX3_init_84 : decode cX3_init 84 = .ok (.return_, 1) := dk_177 (c := cX3_init) (pc := 84) (dk_at bmorecX3_init_48 36)
theorem bmorecX5_init_0 : ((dk_l cX5_init).drop 0).take 52 = [42, 183, 0, 3, 42, 17, 0, 200, 188, 10, 181, 0, 9, 42, 17, 0, 200, 188, 10, 181, 0, 15, 42, 17, 0, 200, 188, 10, 181, 0, 18, 42, 17, 0, 200, 188, 10, 181, 0, 21, 42, 17, 0, 200, 188, 10, 181, 0, 24, 42, 17, 0] := by decide +kernel
theorem dX5_init_0 : decode cX5_init 0 = .ok (.aload_n 0, 1) := dk_42 (c := cX5_init) (pc := 0) (dk_at bmorecX5_init_0 0)
theorem dX5_init_1 : decode cX5_init 1 = .ok (.invokespecial 3, 3) := dk_183 (c := cX5_init) (pc := 1) (a := 0) (b := 3) (dk_at bmorecX5_init_0 1) rfl
theorem dX5_init_4 : decode cX5_init 4 = .ok (.aload_n 0, 1) := dk_42 (c := cX5_init) (pc := 4) (dk_at bmorecX5_init_0 4)
theorem dX5_init_5 : decode cX5_init 5 = .ok (.sipush 200, 3) := dk_17 (c := cX5_init) (pc := 5) (a := 0) (b := 200) (dk_at bmorecX5_init_0 5) (by decide)
theorem dX5_init_8 : decode cX5_init 8 = .ok (.newarray .int, 2) := dk_188_10 (c := cX5_init) (pc := 8) (dk_at bmorecX5_init_0 8)
theorem dX5_init_10 : decode cX5_init 10 = .ok (.putfield 9, 3) := dk_181 (c := cX5_init) (pc := 10) (a := 0) (b := 9) (dk_at bmorecX5_init_0 10) rfl
theorem dX5_init_13 : decode cX5_init 13 = .ok (.aload_n 0, 1) := dk_42 (c := cX5_init) (pc := 13) (dk_at bmorecX5_init_0 13)
theorem dX5_init_14 : decode cX5_init 14 = .ok (.sipush 200, 3) := dk_17 (c := cX5_init) (pc := 14) (a := 0) (b := 200) (dk_at bmorecX5_init_0 14) (by decide)
theorem dX5_init_17 : decode cX5_init 17 = .ok (.newarray .int, 2) := dk_188_10 (c := cX5_init) (pc := 17) (dk_at bmorecX5_init_0 17)
theorem dX5_init_19 : decode cX5_init 19 = .ok (.putfield 15, 3) := dk_181 (c := cX5_init) (pc := 19) (a := 0) (b := 15) (dk_at bmorecX5_init_0 19) rfl
theorem dX5_init_22 : decode cX5_init 22 = .ok (.aload_n 0, 1) := dk_42 (c := cX5_init) (pc := 22) (dk_at bmorecX5_init_0 22)
theorem dX5_init_23 : decode cX5_init 23 = .ok (.sipush 200, 3) := dk_17 (c := cX5_init) (pc := 23) (a := 0) (b := 200) (dk_at bmorecX5_init_0 23) (by decide)
theorem dX5_init_26 : decode cX5_init 26 = .ok (.newarray .int, 2) := dk_188_10 (c := cX5_init) (pc := 26) (dk_at bmorecX5_init_0 26)
theorem dX5_init_28 : decode cX5_init 28 = .ok (.putfield 18, 3) := dk_181 (c := cX5_init) (pc := 28) (a := 0) (b := 18) (dk_at bmorecX5_init_0 28) rfl
theorem dX5_init_31 : decode cX5_init 31 = .ok (.aload_n 0, 1) := dk_42 (c := cX5_init) (pc := 31) (dk_at bmorecX5_init_0 31)
theorem dX5_init_32 : decode cX5_init 32 = .ok (.sipush 200, 3) := dk_17 (c := cX5_init) (pc := 32) (a := 0) (b := 200) (dk_at bmorecX5_init_0 32) (by decide)
theorem dX5_init_35 : decode cX5_init 35 = .ok (.newarray .int, 2) := dk_188_10 (c := cX5_init) (pc := 35) (dk_at bmorecX5_init_0 35)
theorem dX5_init_37 : decode cX5_init 37 = .ok (.putfield 21, 3) := dk_181 (c := cX5_init) (pc := 37) (a := 0) (b := 21) (dk_at bmorecX5_init_0 37) rfl
theorem dX5_init_40 : decode cX5_init 40 = .ok (.aload_n 0, 1) := dk_42 (c := cX5_init) (pc := 40) (dk_at bmorecX5_init_0 40)
theorem dX5_init_41 : decode cX5_init 41 = .ok (.sipush 200, 3) := dk_17 (c := cX5_init) (pc := 41) (a := 0) (b := 200) (dk_at bmorecX5_init_0 41) (by decide)
theorem dX5_init_44 : decode cX5_init 44 = .ok (.newarray .int, 2) := dk_188_10 (c := cX5_init) (pc := 44) (dk_at bmorecX5_init_0 44)
theorem dX5_init_46 : decode cX5_init 46 = .ok (.putfield 24, 3) := dk_181 (c := cX5_init) (pc := 46) (a := 0) (b := 24) (dk_at bmorecX5_init_0 46) rfl
theorem bmorecX5_init_48 : ((dk_l cX5_init).drop 48).take 11 = [24, 42, 17, 0, 200, 188, 10, 181, 0, 27, 177] := by decide +kernel
theorem dX5_init_49 : decode cX5_init 49 = .ok (.aload_n 0, 1) := dk_42 (c := cX5_init) (pc := 49) (dk_at bmorecX5_init_48 1)
theorem dX5_init_50 : decode cX5_init 50 = .ok (.sipush 200, 3) := dk_17 (c := cX5_init) (pc := 50) (a := 0) (b := 200) (dk_at bmorecX5_init_48 2) (by decide)
theorem dX5_init_53 : decode cX5_init 53 = .ok (.newarray .int, 2) := dk_188_10 (c := cX5_init) (pc := 53) (dk_at bmorecX5_init_48 5)
theorem dX5_init_55 : decode cX5_init 55 = .ok (.putfield 27, 3) := dk_181 (c := cX5_init) (pc := 55) (a := 0) (b := 27) (dk_at bmorecX5_init_48 7) rfl
theorem dX5_init_58 : decode cX5_init 58 = .ok (.return_, 1) := dk_177 (c := cX5_init) (pc := 58) (dk_at bmorecX5_init_48 10)
theorem bmorecX0_init_0 : ((dk_l cX0_init).drop 0).take 5 = [42, 183, 0, 1, 177] := by decide +kernel
theorem dX0_init_0 : decode cX0_init 0 = .ok (.aload_n 0, 1) := dk_42 (c := cX0_init) (pc := 0) (dk_at bmorecX0_init_0 0)
theorem dX0_init_1 : decode cX0_init 1 = .ok (.invokespecial 1, 3) := dk_183 (c := cX0_init) (pc := 1) (a := 0) (b := 1) (dk_at bmorecX0_init_0 1) rfl
theorem dX0_init_4 : decode cX0_init 4 = .ok (.return_, 1) := dk_177 (c := cX0_init) (pc := 4) (dk_at bmorecX0_init_0 4)
theorem bmorecX6_init_0 : ((dk_l cX6_init).drop 0).take 5 = [42, 183, 0, 3, 177] := by decide +kernel
theorem dX6_init_0 : decode cX6_init 0 = .ok (.aload_n 0, 1) := dk_42 (c := cX6_init) (pc := 0) (dk_at bmorecX6_init_0 0)
theorem dX6_init_1 : decode cX6_init 1 = .ok (.invokespecial 3, 3) := dk_183 (c := cX6_init) (pc := 1) (a := 0) (b := 3) (dk_at bmorecX6_init_0 1) rfl
theorem dX6_init_4 : decode cX6_init 4 = .ok (.return_, 1) := dk_177 (c := cX6_init) (pc := 4) (dk_at bmorecX6_init_0 4)
theorem bmorecX1_init_0 : ((dk_l cX1_init).drop 0).take 29 = [42, 183, 0, 3, 42, 16, 72, 188, 11, 181, 0, 11, 42, 16, 72, 188, 11, 181, 0, 15, 42, 16, 72, 188, 11, 181, 0, 18, 177] := by decide +kernel
theorem dX1_init_0 : decode cX1_init 0 = .ok (.aload_n 0, 1) := dk_42 (c := cX1_init) (pc := 0) (dk_at bmorecX1_init_0 0)
theorem dX1_init_1 : decode cX1_init 1 = .ok (.invokespecial 3, 3) := dk_183 (c := cX1_init) (pc := 1) (a := 0) (b := 3) (dk_at bmorecX1_init_0 1) rfl
theorem dX1_init_4 : decode cX1_init 4 = .ok (.aload_n 0, 1) := dk_42 (c := cX1_init) (pc := 4) (dk_at bmorecX1_init_0 4)
theorem dX1_init_5 : decode cX1_init 5 = .ok (.bipush 72, 2) := dk_16 (c := cX1_init) (pc := 5) (a := 72) (dk_at bmorecX1_init_0 5) (by decide)
theorem dX1_init_7 : decode cX1_init 7 = .ok (.newarray .long, 2) := dk_188_11 (c := cX1_init) (pc := 7) (dk_at bmorecX1_init_0 7)
theorem dX1_init_9 : decode cX1_init 9 = .ok (.putfield 11, 3) := dk_181 (c := cX1_init) (pc := 9) (a := 0) (b := 11) (dk_at bmorecX1_init_0 9) rfl
theorem dX1_init_12 : decode cX1_init 12 = .ok (.aload_n 0, 1) := dk_42 (c := cX1_init) (pc := 12) (dk_at bmorecX1_init_0 12)
theorem dX1_init_13 : decode cX1_init 13 = .ok (.bipush 72, 2) := dk_16 (c := cX1_init) (pc := 13) (a := 72) (dk_at bmorecX1_init_0 13) (by decide)
theorem dX1_init_15 : decode cX1_init 15 = .ok (.newarray .long, 2) := dk_188_11 (c := cX1_init) (pc := 15) (dk_at bmorecX1_init_0 15)
theorem dX1_init_17 : decode cX1_init 17 = .ok (.putfield 15, 3) := dk_181 (c := cX1_init) (pc := 17) (a := 0) (b := 15) (dk_at bmorecX1_init_0 17) rfl
theorem dX1_init_20 : decode cX1_init 20 = .ok (.aload_n 0, 1) := dk_42 (c := cX1_init) (pc := 20) (dk_at bmorecX1_init_0 20)
theorem dX1_init_21 : decode cX1_init 21 = .ok (.bipush 72, 2) := dk_16 (c := cX1_init) (pc := 21) (a := 72) (dk_at bmorecX1_init_0 21) (by decide)
theorem dX1_init_23 : decode cX1_init 23 = .ok (.newarray .long, 2) := dk_188_11 (c := cX1_init) (pc := 23) (dk_at bmorecX1_init_0 23)
theorem dX1_init_25 : decode cX1_init 25 = .ok (.putfield 18, 3) := dk_181 (c := cX1_init) (pc := 25) (a := 0) (b := 18) (dk_at bmorecX1_init_0 25) rfl
theorem dX1_init_28 : decode cX1_init 28 = .ok (.return_, 1) := dk_177 (c := cX1_init) (pc := 28) (dk_at bmorecX1_init_0 28)
theorem bmorecX4_init_0 : ((dk_l cX4_init).drop 0).take 18 = [42, 183, 0, 3, 42, 2, 181, 0, 9, 42, 16, 60, 188, 11, 181, 0, 15, 177] := by decide +kernel
theorem dX4_init_0 : decode cX4_init 0 = .ok (.aload_n 0, 1) := dk_42 (c := cX4_init) (pc := 0) (dk_at bmorecX4_init_0 0)
theorem dX4_init_1 : decode cX4_init 1 = .ok (.invokespecial 3, 3) := dk_183 (c := cX4_init) (pc := 1) (a := 0) (b := 3) (dk_at bmorecX4_init_0 1) rfl
theorem dX4_init_4 : decode cX4_init 4 = .ok (.aload_n 0, 1) := dk_42 (c := cX4_init) (pc := 4) (dk_at bmorecX4_init_0 4)
theorem dX4_init_5 : decode cX4_init 5 = .ok (.iconst (-1), 1) := dk_2 (c := cX4_init) (pc := 5) (dk_at bmorecX4_init_0 5)
theorem dX4_init_6 : decode cX4_init 6 = .ok (.putfield 9, 3) := dk_181 (c := cX4_init) (pc := 6) (a := 0) (b := 9) (dk_at bmorecX4_init_0 6) rfl
theorem dX4_init_9 : decode cX4_init 9 = .ok (.aload_n 0, 1) := dk_42 (c := cX4_init) (pc := 9) (dk_at bmorecX4_init_0 9)
theorem dX4_init_10 : decode cX4_init 10 = .ok (.bipush 60, 2) := dk_16 (c := cX4_init) (pc := 10) (a := 60) (dk_at bmorecX4_init_0 10) (by decide)
theorem dX4_init_12 : decode cX4_init 12 = .ok (.newarray .long, 2) := dk_188_11 (c := cX4_init) (pc := 12) (dk_at bmorecX4_init_0 12)
theorem dX4_init_14 : decode cX4_init 14 = .ok (.putfield 15, 3) := dk_181 (c := cX4_init) (pc := 14) (a := 0) (b := 15) (dk_at bmorecX4_init_0 14) rfl
theorem dX4_init_17 : decode cX4_init 17 = .ok (.return_, 1) := dk_177 (c := cX4_init) (pc := 17) (dk_at bmorecX4_init_0 17)
theorem bmorecX8_init_0 : ((dk_l cX8_init).drop 0).take 52 = [42, 183, 0, 1, 42, 187, 0, 7, 89, 183, 0, 9, 181, 0, 10, 42, 187, 0, 16, 89, 183, 0, 18, 181, 0, 19, 42, 187, 0, 16, 89, 183, 0, 18, 181, 0, 23, 42, 187, 0, 26, 89, 183, 0, 28, 181, 0, 29, 42, 187, 0, 26] := by decide +kernel
theorem dX8_init_0 : decode cX8_init 0 = .ok (.aload_n 0, 1) := dk_42 (c := cX8_init) (pc := 0) (dk_at bmorecX8_init_0 0)
theorem dX8_init_1 : decode cX8_init 1 = .ok (.invokespecial 1, 3) := dk_183 (c := cX8_init) (pc := 1) (a := 0) (b := 1) (dk_at bmorecX8_init_0 1) rfl
theorem dX8_init_4 : decode cX8_init 4 = .ok (.aload_n 0, 1) := dk_42 (c := cX8_init) (pc := 4) (dk_at bmorecX8_init_0 4)
theorem dX8_init_5 : decode cX8_init 5 = .ok (.new 7, 3) := dk_187 (c := cX8_init) (pc := 5) (a := 0) (b := 7) (dk_at bmorecX8_init_0 5) rfl
theorem dX8_init_8 : decode cX8_init 8 = .ok (.dup, 1) := dk_89 (c := cX8_init) (pc := 8) (dk_at bmorecX8_init_0 8)
set_option maxRecDepth 20000 in
theorem ggX8_init_X7_init : GoodIn wsX8_init wsX7_init := goodIn_r _ [37, 38, 2, 3, 39, 40, 41, 87, 88, 89, 90, 91, 92, 93, 94] rfl (by decide +kernel)
set_option maxRecDepth 20000 in
theorem gX8_init_X7_init_n9 : GoodIn wsX8_init (wsX7_init) := ggX8_init_X7_init
theorem dX8_init_9 : decode cX8_init 9 = .ok (.invokespecial 9, 3) := dk_183 (c := cX8_init) (pc := 9) (a := 0) (b := 9) (dk_at bmorecX8_init_0 9) rfl
theorem dX8_init_12 : decode cX8_init 12 = .ok (.putfield 10, 3) := dk_181 (c := cX8_init) (pc := 12) (a := 0) (b := 10) (dk_at bmorecX8_init_0 12) rfl
theorem dX8_init_15 : decode cX8_init 15 = .ok (.aload_n 0, 1) := dk_42 (c := cX8_init) (pc := 15) (dk_at bmorecX8_init_0 15)
theorem dX8_init_16 : decode cX8_init 16 = .ok (.new 16, 3) := dk_187 (c := cX8_init) (pc := 16) (a := 0) (b := 16) (dk_at bmorecX8_init_0 16) rfl
theorem dX8_init_19 : decode cX8_init 19 = .ok (.dup, 1) := dk_89 (c := cX8_init) (pc := 19) (dk_at bmorecX8_init_0 19)
set_option maxRecDepth 20000 in
theorem ggX8_init_X3_init : GoodIn wsX8_init wsX3_init := goodIn_r _ [44, 45, 2, 3, 46, 47, 48, 49, 50, 51, 52, 53, 54, 55, 56, 57, 58, 59, 105, 106, 107, 108, 109, 110, 111, 112, 113, 114, 115, 116, 117, 118, 119, 120] rfl (by decide +kernel)
set_option maxRecDepth 20000 in
theorem gX8_init_X3_init : GoodIn wsX8_init (wsX3_init) := ggX8_init_X3_init
theorem dX8_init_20 : decode cX8_init 20 = .ok (.invokespecial 18, 3) := dk_183 (c := cX8_init) (pc := 20) (a := 0) (b := 18) (dk_at bmorecX8_init_0 20) rfl
theorem dX8_init_23 : decode cX8_init 23 = .ok (.putfield 19, 3) := dk_181 (c := cX8_init) (pc := 23) (a := 0) (b := 19) (dk_at bmorecX8_init_0 23) rfl
theorem dX8_init_26 : decode cX8_init 26 = .ok (.aload_n 0, 1) := dk_42 (c := cX8_init) (pc := 26) (dk_at bmorecX8_init_0 26)
theorem dX8_init_27 : decode cX8_init 27 = .ok (.new 16, 3) := dk_187 (c := cX8_init) (pc := 27) (a := 0) (b := 16) (dk_at bmorecX8_init_0 27) rfl
theorem dX8_init_30 : decode cX8_init 30 = .ok (.dup, 1) := dk_89 (c := cX8_init) (pc := 30) (dk_at bmorecX8_init_0 30)
theorem dX8_init_31 : decode cX8_init 31 = .ok (.invokespecial 18, 3) := dk_183 (c := cX8_init) (pc := 31) (a := 0) (b := 18) (dk_at bmorecX8_init_0 31) rfl
theorem dX8_init_34 : decode cX8_init 34 = .ok (.putfield 23, 3) := dk_181 (c := cX8_init) (pc := 34) (a := 0) (b := 23) (dk_at bmorecX8_init_0 34) rfl
theorem dX8_init_37 : decode cX8_init 37 = .ok (.aload_n 0, 1) := dk_42 (c := cX8_init) (pc := 37) (dk_at bmorecX8_init_0 37)
theorem dX8_init_38 : decode cX8_init 38 = .ok (.new 26, 3) := dk_187 (c := cX8_init) (pc := 38) (a := 0) (b := 26) (dk_at bmorecX8_init_0 38) rfl
theorem dX8_init_41 : decode cX8_init 41 = .ok (.dup, 1) := dk_89 (c := cX8_init) (pc := 41) (dk_at bmorecX8_init_0 41)
set_option maxRecDepth 20000 in
theorem ggX8_init_X5_init : GoodIn wsX8_init wsX5_init := goodIn_r _ [61, 62, 2, 3, 46, 63, 64, 65, 66, 67, 68, 121, 122, 123, 124, 125, 126, 127] rfl (by decide +kernel)
set_option maxRecDepth 20000 in
theorem gX8_init_X5_init_n28 : GoodIn wsX8_init (wsX5_init) := ggX8_init_X5_init
theorem dX8_init_42 : decode cX8_init 42 = .ok (.invokespecial 28, 3) := dk_183 (c := cX8_init) (pc := 42) (a := 0) (b := 28) (dk_at bmorecX8_init_0 42) rfl
theorem dX8_init_45 : decode cX8_init 45 = .ok (.putfield 29, 3) := dk_181 (c := cX8_init) (pc := 45) (a := 0) (b := 29) (dk_at bmorecX8_init_0 45) rfl
theorem bmorecX8_init_48 : ((dk_l cX8_init).drop 48).take 52 = [42, 187, 0, 26, 89, 183, 0, 28, 181, 0, 33, 42, 187, 0, 36, 89, 183, 0, 38, 181, 0, 39, 42, 187, 0, 43, 89, 183, 0, 45, 181, 0, 46, 42, 187, 0, 50, 89, 183, 0, 52, 181, 0, 53, 42, 6, 189, 0, 57, 181, 0, 59] := by decide +kernel
theorem dX8_init_48 : decode cX8_init 48 = .ok (.aload_n 0, 1) := dk_42 (c := cX8_init) (pc := 48) (dk_at bmorecX8_init_48 0)
theorem dX8_init_49 : decode cX8_init 49 = .ok (.new 26, 3) := dk_187 (c := cX8_init) (pc := 49) (a := 0) (b := 26) (dk_at bmorecX8_init_48 1) rfl
theorem dX8_init_52 : decode cX8_init 52 = .ok (.dup, 1) := dk_89 (c := cX8_init) (pc := 52) (dk_at bmorecX8_init_48 4)
theorem dX8_init_53 : decode cX8_init 53 = .ok (.invokespecial 28, 3) := dk_183 (c := cX8_init) (pc := 53) (a := 0) (b := 28) (dk_at bmorecX8_init_48 5) rfl
theorem dX8_init_56 : decode cX8_init 56 = .ok (.putfield 33, 3) := dk_181 (c := cX8_init) (pc := 56) (a := 0) (b := 33) (dk_at bmorecX8_init_48 8) rfl
theorem dX8_init_59 : decode cX8_init 59 = .ok (.aload_n 0, 1) := dk_42 (c := cX8_init) (pc := 59) (dk_at bmorecX8_init_48 11)
theorem dX8_init_60 : decode cX8_init 60 = .ok (.new 36, 3) := dk_187 (c := cX8_init) (pc := 60) (a := 0) (b := 36) (dk_at bmorecX8_init_48 12) rfl
theorem dX8_init_63 : decode cX8_init 63 = .ok (.dup, 1) := dk_89 (c := cX8_init) (pc := 63) (dk_at bmorecX8_init_48 15)
set_option maxRecDepth 20000 in
theorem ggX8_init_X0_init : GoodIn wsX8_init wsX0_init := goodIn_r _ [70, 71, 2, 3] rfl (by decide +kernel)
set_option maxRecDepth 20000 in
theorem gX8_init_X0_init_n38 : GoodIn wsX8_init (wsX0_init) := ggX8_init_X0_init
theorem dX8_init_64 : decode cX8_init 64 = .ok (.invokespecial 38, 3) := dk_183 (c := cX8_init) (pc := 64) (a := 0) (b := 38) (dk_at bmorecX8_init_48 16) rfl
theorem dX8_init_67 : decode cX8_init 67 = .ok (.putfield 39, 3) := dk_181 (c := cX8_init) (pc := 67) (a := 0) (b := 39) (dk_at bmorecX8_init_48 19) rfl
theorem dX8_init_70 : decode cX8_init 70 = .ok (.aload_n 0, 1) := dk_42 (c := cX8_init) (pc := 70) (dk_at bmorecX8_init_48 22)
theorem dX8_init_71 : decode cX8_init 71 = .ok (.new 43, 3) := dk_187 (c := cX8_init) (pc := 71) (a := 0) (b := 43) (dk_at bmorecX8_init_48 23) rfl
theorem dX8_init_74 : decode cX8_init 74 = .ok (.dup, 1) := dk_89 (c := cX8_init) (pc := 74) (dk_at bmorecX8_init_48 26)
set_option maxRecDepth 20000 in
theorem ggX8_init_X6_init : GoodIn wsX8_init wsX6_init := goodIn_r _ [73, 74, 2, 3] rfl (by decide +kernel)
set_option maxRecDepth 20000 in
theorem gX8_init_X6_init_n45 : GoodIn wsX8_init (wsX6_init) := ggX8_init_X6_init
theorem dX8_init_75 : decode cX8_init 75 = .ok (.invokespecial 45, 3) := dk_183 (c := cX8_init) (pc := 75) (a := 0) (b := 45) (dk_at bmorecX8_init_48 27) rfl
theorem dX8_init_78 : decode cX8_init 78 = .ok (.putfield 46, 3) := dk_181 (c := cX8_init) (pc := 78) (a := 0) (b := 46) (dk_at bmorecX8_init_48 30) rfl
theorem dX8_init_81 : decode cX8_init 81 = .ok (.aload_n 0, 1) := dk_42 (c := cX8_init) (pc := 81) (dk_at bmorecX8_init_48 33)
theorem dX8_init_82 : decode cX8_init 82 = .ok (.new 50, 3) := dk_187 (c := cX8_init) (pc := 82) (a := 0) (b := 50) (dk_at bmorecX8_init_48 34) rfl
theorem dX8_init_85 : decode cX8_init 85 = .ok (.dup, 1) := dk_89 (c := cX8_init) (pc := 85) (dk_at bmorecX8_init_48 37)
set_option maxRecDepth 20000 in
theorem ggX8_init_X1_init : GoodIn wsX8_init wsX1_init := goodIn_r _ [76, 77, 2, 3, 78, 79, 80, 81, 140, 141, 142] rfl (by decide +kernel)
set_option maxRecDepth 20000 in
theorem gX8_init_X1_init_n52 : GoodIn wsX8_init (wsX1_init) := ggX8_init_X1_init
theorem dX8_init_86 : decode cX8_init 86 = .ok (.invokespecial 52, 3) := dk_183 (c := cX8_init) (pc := 86) (a := 0) (b := 52) (dk_at bmorecX8_init_48 38) rfl
theorem dX8_init_89 : decode cX8_init 89 = .ok (.putfield 53, 3) := dk_181 (c := cX8_init) (pc := 89) (a := 0) (b := 53) (dk_at bmorecX8_init_48 41) rfl
theorem dX8_init_92 : decode cX8_init 92 = .ok (.aload_n 0, 1) := dk_42 (c := cX8_init) (pc := 92) (dk_at bmorecX8_init_48 44)
theorem dX8_init_93 : decode cX8_init 93 = .ok (.iconst 3, 1) := dk_6 (c := cX8_init) (pc := 93) (dk_at bmorecX8_init_48 45)
theorem dX8_init_94 : decode cX8_init 94 = .ok (.anewarray 57, 3) := dk_189 (c := cX8_init) (pc := 94) (a := 0) (b := 57) (dk_at bmorecX8_init_48 46) rfl
theorem bmorecX8_init_96 : ((dk_l cX8_init).drop 96).take 39 = [57, 181, 0, 59, 42, 7, 189, 0, 63, 181, 0, 65, 3, 60, 27, 7, 162, 0, 22, 42, 180, 0, 65, 27, 187, 0, 63, 89, 183, 0, 69, 83, 132, 1, 1, 167, 255, 235, 177] := by decide +kernel
theorem dX8_init_97 : decode cX8_init 97 = .ok (.putfield 59, 3) := dk_181 (c := cX8_init) (pc := 97) (a := 0) (b := 59) (dk_at bmorecX8_init_96 1) rfl
theorem dX8_init_100 : decode cX8_init 100 = .ok (.aload_n 0, 1) := dk_42 (c := cX8_init) (pc := 100) (dk_at bmorecX8_init_96 4)
theorem dX8_init_101 : decode cX8_init 101 = .ok (.iconst 4, 1) := dk_7 (c := cX8_init) (pc := 101) (dk_at bmorecX8_init_96 5)
theorem dX8_init_102 : decode cX8_init 102 = .ok (.anewarray 63, 3) := dk_189 (c := cX8_init) (pc := 102) (a := 0) (b := 63) (dk_at bmorecX8_init_96 6) rfl
theorem dX8_init_105 : decode cX8_init 105 = .ok (.putfield 65, 3) := dk_181 (c := cX8_init) (pc := 105) (a := 0) (b := 65) (dk_at bmorecX8_init_96 9) rfl
theorem dX8_init_108 : decode cX8_init 108 = .ok (.iconst 0, 1) := dk_3 (c := cX8_init) (pc := 108) (dk_at bmorecX8_init_96 12)
theorem dX8_init_109 : decode cX8_init 109 = .ok (.istore_n 1, 1) := dk_60 (c := cX8_init) (pc := 109) (dk_at bmorecX8_init_96 13)
theorem dX8_init_110 : decode cX8_init 110 = .ok (.iload_n 1, 1) := dk_27 (c := cX8_init) (pc := 110) (dk_at bmorecX8_init_96 14)
theorem dX8_init_111 : decode cX8_init 111 = .ok (.iconst 4, 1) := dk_7 (c := cX8_init) (pc := 111) (dk_at bmorecX8_init_96 15)
theorem dX8_init_112 : decode cX8_init 112 = .ok (.if_icmp .ge 22, 3) := dk_162 (c := cX8_init) (pc := 112) (a := 0) (b := 22) (dk_at bmorecX8_init_96 16) (by decide)
theorem dX8_init_115 : decode cX8_init 115 = .ok (.aload_n 0, 1) := dk_42 (c := cX8_init) (pc := 115) (dk_at bmorecX8_init_96 19)
theorem dX8_init_116 : decode cX8_init 116 = .ok (.getfield 65, 3) := dk_180 (c := cX8_init) (pc := 116) (a := 0) (b := 65) (dk_at bmorecX8_init_96 20) rfl
theorem dX8_init_119 : decode cX8_init 119 = .ok (.iload_n 1, 1) := dk_27 (c := cX8_init) (pc := 119) (dk_at bmorecX8_init_96 23)
theorem dX8_init_120 : decode cX8_init 120 = .ok (.new 63, 3) := dk_187 (c := cX8_init) (pc := 120) (a := 0) (b := 63) (dk_at bmorecX8_init_96 24) rfl
theorem dX8_init_123 : decode cX8_init 123 = .ok (.dup, 1) := dk_89 (c := cX8_init) (pc := 123) (dk_at bmorecX8_init_96 27)
set_option maxRecDepth 20000 in
theorem ggX8_init_X4_init : GoodIn wsX8_init wsX4_init := goodIn_r _ [83, 84, 2, 3, 85, 78, 86, 143, 144, 145] rfl (by decide +kernel)
set_option maxRecDepth 20000 in
theorem gX8_init_X4_init_n69 : GoodIn wsX8_init (wsX4_init) := ggX8_init_X4_init
theorem dX8_init_124 : decode cX8_init 124 = .ok (.invokespecial 69, 3) := dk_183 (c := cX8_init) (pc := 124) (a := 0) (b := 69) (dk_at bmorecX8_init_96 28) rfl
theorem dX8_init_127 : decode cX8_init 127 = .ok (.aastore, 1) := dk_83 (c := cX8_init) (pc := 127) (dk_at bmorecX8_init_96 31)
theorem dX8_init_128 : decode cX8_init 128 = .ok (.iinc 1 1, 3) := dk_132 (c := cX8_init) (pc := 128) (a := 1) (b := 1) (dk_at bmorecX8_init_96 32) rfl (by decide)
theorem dX8_init_131 : decode cX8_init 131 = .ok (.goto (-21), 3) := dk_167 (c := cX8_init) (pc := 131) (a := 255) (b := 235) (dk_at bmorecX8_init_96 35) (by decide)
theorem dX8_init_134 : decode cX8_init 134 = .ok (.return_, 1) := dk_177 (c := cX8_init) (pc := 134) (dk_at bmorecX8_init_96 38)
theorem bmorecX9_init_0 : ((dk_l cX9_init).drop 0).take 52 = [42, 183, 0, 1, 42, 7, 188, 10, 181, 0, 7, 42, 7, 188, 10, 181, 0, 13, 42, 17, 0, 240, 188, 11, 181, 0, 16, 42, 16, 60, 188, 11, 181, 0, 20, 42, 17, 2, 88, 188, 8, 181, 0, 23, 42, 2, 181, 0, 27, 42, 8, 188] := by decide +kernel
theorem dX9_init_0 : decode cX9_init 0 = .ok (.aload_n 0, 1) := dk_42 (c := cX9_init) (pc := 0) (dk_at bmorecX9_init_0 0)
theorem dX9_init_1 : decode cX9_init 1 = .ok (.invokespecial 1, 3) := dk_183 (c := cX9_init) (pc := 1) (a := 0) (b := 1) (dk_at bmorecX9_init_0 1) rfl
theorem dX9_init_4 : decode cX9_init 4 = .ok (.aload_n 0, 1) := dk_42 (c := cX9_init) (pc := 4) (dk_at bmorecX9_init_0 4)
theorem dX9_init_5 : decode cX9_init 5 = .ok (.iconst 4, 1) := dk_7 (c := cX9_init) (pc := 5) (dk_at bmorecX9_init_0 5)
theorem dX9_init_6 : decode cX9_init 6 = .ok (.newarray .int, 2) := dk_188_10 (c := cX9_init) (pc := 6) (dk_at bmorecX9_init_0 6)
theorem dX9_init_8 : decode cX9_init 8 = .ok (.putfield 7, 3) := dk_181 (c := cX9_init) (pc := 8) (a := 0) (b := 7) (dk_at bmorecX9_init_0 8) rfl
theorem dX9_init_11 : decode cX9_init 11 = .ok (.aload_n 0, 1) := dk_42 (c := cX9_init) (pc := 11) (dk_at bmorecX9_init_0 11)
theorem dX9_init_12 : decode cX9_init 12 = .ok (.iconst 4, 1) := dk_7 (c := cX9_init) (pc := 12) (dk_at bmorecX9_init_0 12)
theorem dX9_init_13 : decode cX9_init 13 = .ok (.newarray .int, 2) := dk_188_10 (c := cX9_init) (pc := 13) (dk_at bmorecX9_init_0 13)
theorem dX9_init_15 : decode cX9_init 15 = .ok (.putfield 13, 3) := dk_181 (c := cX9_init) (pc := 15) (a := 0) (b := 13) (dk_at bmorecX9_init_0 15) rfl
theorem dX9_init_18 : decode cX9_init 18 = .ok (.aload_n 0, 1) := dk_42 (c := cX9_init) (pc := 18) (dk_at bmorecX9_init_0 18)
theorem dX9_init_19 : decode cX9_init 19 = .ok (.sipush 240, 3) := dk_17 (c := cX9_init) (pc := 19) (a := 0) (b := 240) (dk_at bmorecX9_init_0 19) (by decide)
theorem dX9_init_22 : decode cX9_init 22 = .ok (.newarray .long, 2) := dk_188_11 (c := cX9_init) (pc := 22) (dk_at bmorecX9_init_0 22)
theorem dX9_init_24 : decode cX9_init 24 = .ok (.putfield 16, 3) := dk_181 (c := cX9_init) (pc := 24) (a := 0) (b := 16) (dk_at bmorecX9_init_0 24) rfl
theorem dX9_init_27 : decode cX9_init 27 = .ok (.aload_n 0, 1) := dk_42 (c := cX9_init) (pc := 27) (dk_at bmorecX9_init_0 27)
theorem dX9_init_28 : decode cX9_init 28 = .ok (.bipush 60, 2) := dk_16 (c := cX9_init) (pc := 28) (a := 60) (dk_at bmorecX9_init_0 28) (by decide)
theorem dX9_init_30 : decode cX9_init 30 = .ok (.newarray .long, 2) := dk_188_11 (c := cX9_init) (pc := 30) (dk_at bmorecX9_init_0 30)
theorem dX9_init_32 : decode cX9_init 32 = .ok (.putfield 20, 3) := dk_181 (c := cX9_init) (pc := 32) (a := 0) (b := 20) (dk_at bmorecX9_init_0 32) rfl
theorem dX9_init_35 : decode cX9_init 35 = .ok (.aload_n 0, 1) := dk_42 (c := cX9_init) (pc := 35) (dk_at bmorecX9_init_0 35)
theorem dX9_init_36 : decode cX9_init 36 = .ok (.sipush 600, 3) := dk_17 (c := cX9_init) (pc := 36) (a := 2) (b := 88) (dk_at bmorecX9_init_0 36) (by decide)
theorem dX9_init_39 : decode cX9_init 39 = .ok (.newarray .byte, 2) := dk_188_8 (c := cX9_init) (pc := 39) (dk_at bmorecX9_init_0 39)
theorem dX9_init_41 : decode cX9_init 41 = .ok (.putfield 23, 3) := dk_181 (c := cX9_init) (pc := 41) (a := 0) (b := 23) (dk_at bmorecX9_init_0 41) rfl
theorem dX9_init_44 : decode cX9_init 44 = .ok (.aload_n 0, 1) := dk_42 (c := cX9_init) (pc := 44) (dk_at bmorecX9_init_0 44)
theorem dX9_init_45 : decode cX9_init 45 = .ok (.iconst (-1), 1) := dk_2 (c := cX9_init) (pc := 45) (dk_at bmorecX9_init_0 45)
theorem dX9_init_46 : decode cX9_init 46 = .ok (.putfield 27, 3) := dk_181 (c := cX9_init) (pc := 46) (a := 0) (b := 27) (dk_at bmorecX9_init_0 46) rfl
theorem bmorecX9_init_48 : ((dk_l cX9_init).drop 48).take 52 = [27, 42, 8, 188, 10, 181, 0, 31, 42, 8, 188, 10, 181, 0, 34, 42, 16, 30, 188, 10, 181, 0, 37, 42, 16, 30, 188, 10, 181, 0, 40, 42, 8, 188, 10, 181, 0, 43, 42, 16, 40, 188, 10, 181, 0, 46, 42, 16, 40, 188, 10, 181] := by decide +kernel
theorem dX9_init_49 : decode cX9_init 49 = .ok (.aload_n 0, 1) := dk_42 (c := cX9_init) (pc := 49) (dk_at bmorecX9_init_48 1)
theorem dX9_init_50 : decode cX9_init 50 = .ok (.iconst 5, 1) := dk_8 (c := cX9_init) (pc := 50) (dk_at bmorecX9_init_48 2)
theorem dX9_init_51 : decode cX9_init 51 = .ok (.newarray .int, 2) := dk_188_10 (c := cX9_init) (pc := 51) (dk_at bmorecX9_init_48 3)
theorem dX9_init_53 : decode cX9_init 53 = .ok (.putfield 31, 3) := dk_181 (c := cX9_init) (pc := 53) (a := 0) (b := 31) (dk_at bmorecX9_init_48 5) rfl
theorem dX9_init_56 : decode cX9_init 56 = .ok (.aload_n 0, 1) := dk_42 (c := cX9_init) (pc := 56) (dk_at bmorecX9_init_48 8)
theorem dX9_init_57 : decode cX9_init 57 = .ok (.iconst 5, 1) := dk_8 (c := cX9_init) (pc := 57) (dk_at bmorecX9_init_48 9)
theorem dX9_init_58 : decode cX9_init 58 = .ok (.newarray .int, 2) := dk_188_10 (c := cX9_init) (pc := 58) (dk_at bmorecX9_init_48 10)
theorem dX9_init_60 : decode cX9_init 60 = .ok (.putfield 34, 3) := dk_181 (c := cX9_init) (pc := 60) (a := 0) (b := 34) (dk_at bmorecX9_init_48 12) rfl
theorem dX9_init_63 : decode cX9_init 63 = .ok (.aload_n 0, 1) := dk_42 (c := cX9_init) (pc := 63) (dk_at bmorecX9_init_48 15)
theorem dX9_init_64 : decode cX9_init 64 = .ok (.bipush 30, 2) := dk_16 (c := cX9_init) (pc := 64) (a := 30) (dk_at bmorecX9_init_48 16) (by decide)
theorem dX9_init_66 : decode cX9_init 66 = .ok (.newarray .int, 2) := dk_188_10 (c := cX9_init) (pc := 66) (dk_at bmorecX9_init_48 18)
theorem dX9_init_68 : decode cX9_init 68 = .ok (.putfield 37, 3) := dk_181 (c := cX9_init) (pc := 68) (a := 0) (b := 37) (dk_at bmorecX9_init_48 20) rfl
theorem dX9_init_71 : decode cX9_init 71 = .ok (.aload_n 0, 1) := dk_42 (c := cX9_init) (pc := 71) (dk_at bmorecX9_init_48 23)
theorem dX9_init_72 : decode cX9_init 72 = .ok (.bipush 30, 2) := dk_16 (c := cX9_init) (pc := 72) (a := 30) (dk_at bmorecX9_init_48 24) (by decide)
theorem dX9_init_74 : decode cX9_init 74 = .ok (.newarray .int, 2) := dk_188_10 (c := cX9_init) (pc := 74) (dk_at bmorecX9_init_48 26)
theorem dX9_init_76 : decode cX9_init 76 = .ok (.putfield 40, 3) := dk_181 (c := cX9_init) (pc := 76) (a := 0) (b := 40) (dk_at bmorecX9_init_48 28) rfl
theorem dX9_init_79 : decode cX9_init 79 = .ok (.aload_n 0, 1) := dk_42 (c := cX9_init) (pc := 79) (dk_at bmorecX9_init_48 31)
theorem dX9_init_80 : decode cX9_init 80 = .ok (.iconst 5, 1) := dk_8 (c := cX9_init) (pc := 80) (dk_at bmorecX9_init_48 32)
theorem dX9_init_81 : decode cX9_init 81 = .ok (.newarray .int, 2) := dk_188_10 (c := cX9_init) (pc := 81) (dk_at bmorecX9_init_48 33)
theorem dX9_init_83 : decode cX9_init 83 = .ok (.putfield 43, 3) := dk_181 (c := cX9_init) (pc := 83) (a := 0) (b := 43) (dk_at bmorecX9_init_48 35) rfl
theorem dX9_init_86 : decode cX9_init 86 = .ok (.aload_n 0, 1) := dk_42 (c := cX9_init) (pc := 86) (dk_at bmorecX9_init_48 38)
theorem dX9_init_87 : decode cX9_init 87 = .ok (.bipush 40, 2) := dk_16 (c := cX9_init) (pc := 87) (a := 40) (dk_at bmorecX9_init_48 39) (by decide)
theorem dX9_init_89 : decode cX9_init 89 = .ok (.newarray .int, 2) := dk_188_10 (c := cX9_init) (pc := 89) (dk_at bmorecX9_init_48 41)
theorem dX9_init_91 : decode cX9_init 91 = .ok (.putfield 46, 3) := dk_181 (c := cX9_init) (pc := 91) (a := 0) (b := 46) (dk_at bmorecX9_init_48 43) rfl
theorem dX9_init_94 : decode cX9_init 94 = .ok (.aload_n 0, 1) := dk_42 (c := cX9_init) (pc := 94) (dk_at bmorecX9_init_48 46)
theorem dX9_init_95 : decode cX9_init 95 = .ok (.bipush 40, 2) := dk_16 (c := cX9_init) (pc := 95) (a := 40) (dk_at bmorecX9_init_48 47) (by decide)
theorem bmorecX9_init_96 : ((dk_l cX9_init).drop 96).take 52 = [40, 188, 10, 181, 0, 49, 42, 16, 40, 188, 10, 181, 0, 52, 42, 16, 40, 188, 10, 181, 0, 55, 42, 16, 60, 188, 4, 181, 0, 58, 42, 16, 60, 188, 10, 181, 0, 62, 42, 8, 188, 4, 181, 0, 65, 42, 8, 188, 4, 181, 0, 68] := by decide +kernel
theorem dX9_init_97 : decode cX9_init 97 = .ok (.newarray .int, 2) := dk_188_10 (c := cX9_init) (pc := 97) (dk_at bmorecX9_init_96 1)
theorem dX9_init_99 : decode cX9_init 99 = .ok (.putfield 49, 3) := dk_181 (c := cX9_init) (pc := 99) (a := 0) (b := 49) (dk_at bmorecX9_init_96 3) rfl
theorem dX9_init_102 : decode cX9_init 102 = .ok (.aload_n 0, 1) := dk_42 (c := cX9_init) (pc := 102) (dk_at bmorecX9_init_96 6)
theorem dX9_init_103 : decode cX9_init 103 = .ok (.bipush 40, 2) := dk_16 (c := cX9_init) (pc := 103) (a := 40) (dk_at bmorecX9_init_96 7) (by decide)
theorem dX9_init_105 : decode cX9_init 105 = .ok (.newarray .int, 2) := dk_188_10 (c := cX9_init) (pc := 105) (dk_at bmorecX9_init_96 9)
theorem dX9_init_107 : decode cX9_init 107 = .ok (.putfield 52, 3) := dk_181 (c := cX9_init) (pc := 107) (a := 0) (b := 52) (dk_at bmorecX9_init_96 11) rfl
theorem dX9_init_110 : decode cX9_init 110 = .ok (.aload_n 0, 1) := dk_42 (c := cX9_init) (pc := 110) (dk_at bmorecX9_init_96 14)
theorem dX9_init_111 : decode cX9_init 111 = .ok (.bipush 40, 2) := dk_16 (c := cX9_init) (pc := 111) (a := 40) (dk_at bmorecX9_init_96 15) (by decide)
theorem dX9_init_113 : decode cX9_init 113 = .ok (.newarray .int, 2) := dk_188_10 (c := cX9_init) (pc := 113) (dk_at bmorecX9_init_96 17)
theorem dX9_init_115 : decode cX9_init 115 = .ok (.putfield 55, 3) := dk_181 (c := cX9_init) (pc := 115) (a := 0) (b := 55) (dk_at bmorecX9_init_96 19) rfl
theorem dX9_init_118 : decode cX9_init 118 = .ok (.aload_n 0, 1) := dk_42 (c := cX9_init) (pc := 118) (dk_at bmorecX9_init_96 22)
theorem dX9_init_119 : decode cX9_init 119 = .ok (.bipush 60, 2) := dk_16 (c := cX9_init) (pc := 119) (a := 60) (dk_at bmorecX9_init_96 23) (by decide)
theorem dX9_init_121 : decode cX9_init 121 = .ok (.newarray .boolean, 2) := dk_188_4 (c := cX9_init) (pc := 121) (dk_at bmorecX9_init_96 25)
theorem dX9_init_123 : decode cX9_init 123 = .ok (.putfield 58, 3) := dk_181 (c := cX9_init) (pc := 123) (a := 0) (b := 58) (dk_at bmorecX9_init_96 27) rfl
theorem dX9_init_126 : decode cX9_init 126 = .ok (.aload_n 0, 1) := dk_42 (c := cX9_init) (pc := 126) (dk_at bmorecX9_init_96 30)
theorem dX9_init_127 : decode cX9_init 127 = .ok (.bipush 60, 2) := dk_16 (c := cX9_init) (pc := 127) (a := 60) (dk_at bmorecX9_init_96 31) (by decide)
theorem dX9_init_129 : decode cX9_init 129 = .ok (.newarray .int, 2) := dk_188_10 (c := cX9_init) (pc := 129) (dk_at bmorecX9_init_96 33)
theorem dX9_init_131 : decode cX9_init 131 = .ok (.putfield 62, 3) := dk_181 (c := cX9_init) (pc := 131) (a := 0) (b := 62) (dk_at bmorecX9_init_96 35) rfl
theorem dX9_init_134 : decode cX9_init 134 = .ok (.aload_n 0, 1) := dk_42 (c := cX9_init) (pc := 134) (dk_at bmorecX9_init_96 38)
theorem dX9_init_135 : decode cX9_init 135 = .ok (.iconst 5, 1) := dk_8 (c := cX9_init) (pc := 135) (dk_at bmorecX9_init_96 39)
theorem dX9_init_136 : decode cX9_init 136 = .ok (.newarray .boolean, 2) := dk_188_4 (c := cX9_init) (pc := 136) (dk_at bmorecX9_init_96 40)
theorem dX9_init_138 : decode cX9_init 138 = .ok (.putfield 65, 3) := dk_181 (c := cX9_init) (pc := 138) (a := 0) (b := 65) (dk_at bmorecX9_init_96 42) rfl
theorem dX9_init_141 : decode cX9_init 141 = .ok (.aload_n 0, 1) := dk_42 (c := cX9_init) (pc := 141) (dk_at bmorecX9_init_96 45)
theorem dX9_init_142 : decode cX9_init 142 = .ok (.iconst 5, 1) := dk_8 (c := cX9_init) (pc := 142) (dk_at bmorecX9_init_96 46)
theorem dX9_init_143 : decode cX9_init 143 = .ok (.newarray .boolean, 2) := dk_188_4 (c := cX9_init) (pc := 143) (dk_at bmorecX9_init_96 47)
theorem bmorecX9_init_144 : ((dk_l cX9_init).drop 144).take 52 = [4, 181, 0, 68, 42, 8, 188, 10, 181, 0, 71, 42, 8, 188, 10, 181, 0, 74, 42, 8, 188, 10, 181, 0, 77, 42, 17, 6, 64, 188, 10, 181, 0, 80, 42, 6, 188, 4, 181, 0, 83, 42, 17, 1, 64, 188, 11, 181, 0, 86, 42, 8] := by decide +kernel
theorem dX9_init_145 : decode cX9_init 145 = .ok (.putfield 68, 3) := dk_181 (c := cX9_init) (pc := 145) (a := 0) (b := 68) (dk_at bmorecX9_init_144 1) rfl
theorem dX9_init_148 : decode cX9_init 148 = .ok (.aload_n 0, 1) := dk_42 (c := cX9_init) (pc := 148) (dk_at bmorecX9_init_144 4)
theorem dX9_init_149 : decode cX9_init 149 = .ok (.iconst 5, 1) := dk_8 (c := cX9_init) (pc := 149) (dk_at bmorecX9_init_144 5)
theorem dX9_init_150 : decode cX9_init 150 = .ok (.newarray .int, 2) := dk_188_10 (c := cX9_init) (pc := 150) (dk_at bmorecX9_init_144 6)
theorem dX9_init_152 : decode cX9_init 152 = .ok (.putfield 71, 3) := dk_181 (c := cX9_init) (pc := 152) (a := 0) (b := 71) (dk_at bmorecX9_init_144 8) rfl
theorem dX9_init_155 : decode cX9_init 155 = .ok (.aload_n 0, 1) := dk_42 (c := cX9_init) (pc := 155) (dk_at bmorecX9_init_144 11)
theorem dX9_init_156 : decode cX9_init 156 = .ok (.iconst 5, 1) := dk_8 (c := cX9_init) (pc := 156) (dk_at bmorecX9_init_144 12)
theorem dX9_init_157 : decode cX9_init 157 = .ok (.newarray .int, 2) := dk_188_10 (c := cX9_init) (pc := 157) (dk_at bmorecX9_init_144 13)
theorem dX9_init_159 : decode cX9_init 159 = .ok (.putfield 74, 3) := dk_181 (c := cX9_init) (pc := 159) (a := 0) (b := 74) (dk_at bmorecX9_init_144 15) rfl
theorem dX9_init_162 : decode cX9_init 162 = .ok (.aload_n 0, 1) := dk_42 (c := cX9_init) (pc := 162) (dk_at bmorecX9_init_144 18)
theorem dX9_init_163 : decode cX9_init 163 = .ok (.iconst 5, 1) := dk_8 (c := cX9_init) (pc := 163) (dk_at bmorecX9_init_144 19)
theorem dX9_init_164 : decode cX9_init 164 = .ok (.newarray .int, 2) := dk_188_10 (c := cX9_init) (pc := 164) (dk_at bmorecX9_init_144 20)
theorem dX9_init_166 : decode cX9_init 166 = .ok (.putfield 77, 3) := dk_181 (c := cX9_init) (pc := 166) (a := 0) (b := 77) (dk_at bmorecX9_init_144 22) rfl
theorem dX9_init_169 : decode cX9_init 169 = .ok (.aload_n 0, 1) := dk_42 (c := cX9_init) (pc := 169) (dk_at bmorecX9_init_144 25)
theorem dX9_init_170 : decode cX9_init 170 = .ok (.sipush 1600, 3) := dk_17 (c := cX9_init) (pc := 170) (a := 6) (b := 64) (dk_at bmorecX9_init_144 26) (by decide)
theorem dX9_init_173 : decode cX9_init 173 = .ok (.newarray .int, 2) := dk_188_10 (c := cX9_init) (pc := 173) (dk_at bmorecX9_init_144 29)
theorem dX9_init_175 : decode cX9_init 175 = .ok (.putfield 80, 3) := dk_181 (c := cX9_init) (pc := 175) (a := 0) (b := 80) (dk_at bmorecX9_init_144 31) rfl
theorem dX9_init_178 : decode cX9_init 178 = .ok (.aload_n 0, 1) := dk_42 (c := cX9_init) (pc := 178) (dk_at bmorecX9_init_144 34)
theorem dX9_init_179 : decode cX9_init 179 = .ok (.iconst 3, 1) := dk_6 (c := cX9_init) (pc := 179) (dk_at bmorecX9_init_144 35)
theorem dX9_init_180 : decode cX9_init 180 = .ok (.newarray .boolean, 2) := dk_188_4 (c := cX9_init) (pc := 180) (dk_at bmorecX9_init_144 36)
theorem dX9_init_182 : decode cX9_init 182 = .ok (.putfield 83, 3) := dk_181 (c := cX9_init) (pc := 182) (a := 0) (b := 83) (dk_at bmorecX9_init_144 38) rfl
theorem dX9_init_185 : decode cX9_init 185 = .ok (.aload_n 0, 1) := dk_42 (c := cX9_init) (pc := 185) (dk_at bmorecX9_init_144 41)
theorem dX9_init_186 : decode cX9_init 186 = .ok (.sipush 320, 3) := dk_17 (c := cX9_init) (pc := 186) (a := 1) (b := 64) (dk_at bmorecX9_init_144 42) (by decide)
theorem dX9_init_189 : decode cX9_init 189 = .ok (.newarray .long, 2) := dk_188_11 (c := cX9_init) (pc := 189) (dk_at bmorecX9_init_144 45)
theorem dX9_init_191 : decode cX9_init 191 = .ok (.putfield 86, 3) := dk_181 (c := cX9_init) (pc := 191) (a := 0) (b := 86) (dk_at bmorecX9_init_144 47) rfl
theorem bmorecX9_init_192 : ((dk_l cX9_init).drop 192).take 52 = [0, 86, 42, 8, 188, 10, 181, 0, 89, 42, 17, 3, 232, 188, 10, 181, 0, 92, 42, 17, 3, 232, 188, 10, 181, 0, 95, 42, 17, 3, 232, 188, 10, 181, 0, 98, 42, 17, 3, 232, 188, 10, 181, 0, 101, 42, 17, 3, 232, 188, 10, 181] := by decide +kernel
theorem dX9_init_194 : decode cX9_init 194 = .ok (.aload_n 0, 1) := dk_42 (c := cX9_init) (pc := 194) (dk_at bmorecX9_init_192 2)
theorem dX9_init_195 : decode cX9_init 195 = .ok (.iconst 5, 1) := dk_8 (c := cX9_init) (pc := 195) (dk_at bmorecX9_init_192 3)
theorem dX9_init_196 : decode cX9_init 196 = .ok (.newarray .int, 2) := dk_188_10 (c := cX9_init) (pc := 196) (dk_at bmorecX9_init_192 4)
theorem dX9_init_198 : decode cX9_init 198 = .ok (.putfield 89, 3) := dk_181 (c := cX9_init) (pc := 198) (a := 0) (b := 89) (dk_at bmorecX9_init_192 6) rfl
theorem dX9_init_201 : decode cX9_init 201 = .ok (.aload_n 0, 1) := dk_42 (c := cX9_init) (pc := 201) (dk_at bmorecX9_init_192 9)
theorem dX9_init_202 : decode cX9_init 202 = .ok (.sipush 1000, 3) := dk_17 (c := cX9_init) (pc := 202) (a := 3) (b := 232) (dk_at bmorecX9_init_192 10) (by decide)
theorem dX9_init_205 : decode cX9_init 205 = .ok (.newarray .int, 2) := dk_188_10 (c := cX9_init) (pc := 205) (dk_at bmorecX9_init_192 13)
theorem dX9_init_207 : decode cX9_init 207 = .ok (.putfield 92, 3) := dk_181 (c := cX9_init) (pc := 207) (a := 0) (b := 92) (dk_at bmorecX9_init_192 15) rfl
theorem dX9_init_210 : decode cX9_init 210 = .ok (.aload_n 0, 1) := dk_42 (c := cX9_init) (pc := 210) (dk_at bmorecX9_init_192 18)
theorem dX9_init_211 : decode cX9_init 211 = .ok (.sipush 1000, 3) := dk_17 (c := cX9_init) (pc := 211) (a := 3) (b := 232) (dk_at bmorecX9_init_192 19) (by decide)
theorem dX9_init_214 : decode cX9_init 214 = .ok (.newarray .int, 2) := dk_188_10 (c := cX9_init) (pc := 214) (dk_at bmorecX9_init_192 22)
theorem dX9_init_216 : decode cX9_init 216 = .ok (.putfield 95, 3) := dk_181 (c := cX9_init) (pc := 216) (a := 0) (b := 95) (dk_at bmorecX9_init_192 24) rfl
theorem dX9_init_219 : decode cX9_init 219 = .ok (.aload_n 0, 1) := dk_42 (c := cX9_init) (pc := 219) (dk_at bmorecX9_init_192 27)
theorem dX9_init_220 : decode cX9_init 220 = .ok (.sipush 1000, 3) := dk_17 (c := cX9_init) (pc := 220) (a := 3) (b := 232) (dk_at bmorecX9_init_192 28) (by decide)
theorem dX9_init_223 : decode cX9_init 223 = .ok (.newarray .int, 2) := dk_188_10 (c := cX9_init) (pc := 223) (dk_at bmorecX9_init_192 31)
theorem dX9_init_225 : decode cX9_init 225 = .ok (.putfield 98, 3) := dk_181 (c := cX9_init) (pc := 225) (a := 0) (b := 98) (dk_at bmorecX9_init_192 33) rfl
theorem dX9_init_228 : decode cX9_init 228 = .ok (.aload_n 0, 1) := dk_42 (c := cX9_init) (pc := 228) (dk_at bmorecX9_init_192 36)
theorem dX9_init_229 : decode cX9_init 229 = .ok (.sipush 1000, 3) := dk_17 (c := cX9_init) (pc := 229) (a := 3) (b := 232) (dk_at bmorecX9_init_192 37) (by decide)
theorem dX9_init_232 : decode cX9_init 232 = .ok (.newarray .int, 2) := dk_188_10 (c := cX9_init) (pc := 232) (dk_at bmorecX9_init_192 40)
theorem dX9_init_234 : decode cX9_init 234 = .ok (.putfield 101, 3) := dk_181 (c := cX9_init) (pc := 234) (a := 0) (b := 101) (dk_at bmorecX9_init_192 42) rfl
theorem dX9_init_237 : decode cX9_init 237 = .ok (.aload_n 0, 1) := dk_42 (c := cX9_init) (pc := 237) (dk_at bmorecX9_init_192 45)
theorem dX9_init_238 : decode cX9_init 238 = .ok (.sipush 1000, 3) := dk_17 (c := cX9_init) (pc := 238) (a := 3) (b := 232) (dk_at bmorecX9_init_192 46) (by decide)
theorem bmorecX9_init_240 : ((dk_l cX9_init).drop 240).take 52 = [232, 188, 10, 181, 0, 104, 42, 17, 3, 232, 188, 10, 181, 0, 107, 42, 17, 0, 200, 188, 4, 181, 0, 110, 42, 16, 72, 188, 11, 181, 0, 113, 42, 16, 72, 188, 11, 181, 0, 116, 42, 16, 72, 188, 11, 181, 0, 119, 42, 17, 0, 199] := by decide +kernel
theorem dX9_init_241 : decode cX9_init 241 = .ok (.newarray .int, 2) := dk_188_10 (c := cX9_init) (pc := 241) (dk_at bmorecX9_init_240 1)
theorem dX9_init_243 : decode cX9_init 243 = .ok (.putfield 104, 3) := dk_181 (c := cX9_init) (pc := 243) (a := 0) (b := 104) (dk_at bmorecX9_init_240 3) rfl
theorem dX9_init_246 : decode cX9_init 246 = .ok (.aload_n 0, 1) := dk_42 (c := cX9_init) (pc := 246) (dk_at bmorecX9_init_240 6)
theorem dX9_init_247 : decode cX9_init 247 = .ok (.sipush 1000, 3) := dk_17 (c := cX9_init) (pc := 247) (a := 3) (b := 232) (dk_at bmorecX9_init_240 7) (by decide)
theorem dX9_init_250 : decode cX9_init 250 = .ok (.newarray .int, 2) := dk_188_10 (c := cX9_init) (pc := 250) (dk_at bmorecX9_init_240 10)
theorem dX9_init_252 : decode cX9_init 252 = .ok (.putfield 107, 3) := dk_181 (c := cX9_init) (pc := 252) (a := 0) (b := 107) (dk_at bmorecX9_init_240 12) rfl
theorem dX9_init_255 : decode cX9_init 255 = .ok (.aload_n 0, 1) := dk_42 (c := cX9_init) (pc := 255) (dk_at bmorecX9_init_240 15)
theorem dX9_init_256 : decode cX9_init 256 = .ok (.sipush 200, 3) := dk_17 (c := cX9_init) (pc := 256) (a := 0) (b := 200) (dk_at bmorecX9_init_240 16) (by decide)
theorem dX9_init_259 : decode cX9_init 259 = .ok (.newarray .boolean, 2) := dk_188_4 (c := cX9_init) (pc := 259) (dk_at bmorecX9_init_240 19)
theorem dX9_init_261 : decode cX9_init 261 = .ok (.putfield 110, 3) := dk_181 (c := cX9_init) (pc := 261) (a := 0) (b := 110) (dk_at bmorecX9_init_240 21) rfl
theorem dX9_init_264 : decode cX9_init 264 = .ok (.aload_n 0, 1) := dk_42 (c := cX9_init) (pc := 264) (dk_at bmorecX9_init_240 24)
theorem dX9_init_265 : decode cX9_init 265 = .ok (.bipush 72, 2) := dk_16 (c := cX9_init) (pc := 265) (a := 72) (dk_at bmorecX9_init_240 25) (by decide)
theorem dX9_init_267 : decode cX9_init 267 = .ok (.newarray .long, 2) := dk_188_11 (c := cX9_init) (pc := 267) (dk_at bmorecX9_init_240 27)
theorem dX9_init_269 : decode cX9_init 269 = .ok (.putfield 113, 3) := dk_181 (c := cX9_init) (pc := 269) (a := 0) (b := 113) (dk_at bmorecX9_init_240 29) rfl
theorem dX9_init_272 : decode cX9_init 272 = .ok (.aload_n 0, 1) := dk_42 (c := cX9_init) (pc := 272) (dk_at bmorecX9_init_240 32)
theorem dX9_init_273 : decode cX9_init 273 = .ok (.bipush 72, 2) := dk_16 (c := cX9_init) (pc := 273) (a := 72) (dk_at bmorecX9_init_240 33) (by decide)
theorem dX9_init_275 : decode cX9_init 275 = .ok (.newarray .long, 2) := dk_188_11 (c := cX9_init) (pc := 275) (dk_at bmorecX9_init_240 35)
theorem dX9_init_277 : decode cX9_init 277 = .ok (.putfield 116, 3) := dk_181 (c := cX9_init) (pc := 277) (a := 0) (b := 116) (dk_at bmorecX9_init_240 37) rfl
theorem dX9_init_280 : decode cX9_init 280 = .ok (.aload_n 0, 1) := dk_42 (c := cX9_init) (pc := 280) (dk_at bmorecX9_init_240 40)
theorem dX9_init_281 : decode cX9_init 281 = .ok (.bipush 72, 2) := dk_16 (c := cX9_init) (pc := 281) (a := 72) (dk_at bmorecX9_init_240 41) (by decide)
theorem dX9_init_283 : decode cX9_init 283 = .ok (.newarray .long, 2) := dk_188_11 (c := cX9_init) (pc := 283) (dk_at bmorecX9_init_240 43)
theorem dX9_init_285 : decode cX9_init 285 = .ok (.putfield 119, 3) := dk_181 (c := cX9_init) (pc := 285) (a := 0) (b := 119) (dk_at bmorecX9_init_240 45) rfl
theorem bmorecX9_init_288 : ((dk_l cX9_init).drop 288).take 30 = [42, 17, 0, 199, 188, 4, 181, 0, 122, 3, 60, 27, 7, 162, 0, 16, 42, 180, 0, 7, 27, 2, 79, 132, 1, 1, 167, 255, 241, 177] := by decide +kernel
theorem dX9_init_288 : decode cX9_init 288 = .ok (.aload_n 0, 1) := dk_42 (c := cX9_init) (pc := 288) (dk_at bmorecX9_init_288 0)
theorem dX9_init_289 : decode cX9_init 289 = .ok (.sipush 199, 3) := dk_17 (c := cX9_init) (pc := 289) (a := 0) (b := 199) (dk_at bmorecX9_init_288 1) (by decide)
theorem dX9_init_292 : decode cX9_init 292 = .ok (.newarray .boolean, 2) := dk_188_4 (c := cX9_init) (pc := 292) (dk_at bmorecX9_init_288 4)
theorem dX9_init_294 : decode cX9_init 294 = .ok (.putfield 122, 3) := dk_181 (c := cX9_init) (pc := 294) (a := 0) (b := 122) (dk_at bmorecX9_init_288 6) rfl
theorem dX9_init_297 : decode cX9_init 297 = .ok (.iconst 0, 1) := dk_3 (c := cX9_init) (pc := 297) (dk_at bmorecX9_init_288 9)
theorem dX9_init_298 : decode cX9_init 298 = .ok (.istore_n 1, 1) := dk_60 (c := cX9_init) (pc := 298) (dk_at bmorecX9_init_288 10)
theorem dX9_init_299 : decode cX9_init 299 = .ok (.iload_n 1, 1) := dk_27 (c := cX9_init) (pc := 299) (dk_at bmorecX9_init_288 11)
theorem dX9_init_300 : decode cX9_init 300 = .ok (.iconst 4, 1) := dk_7 (c := cX9_init) (pc := 300) (dk_at bmorecX9_init_288 12)
theorem dX9_init_301 : decode cX9_init 301 = .ok (.if_icmp .ge 16, 3) := dk_162 (c := cX9_init) (pc := 301) (a := 0) (b := 16) (dk_at bmorecX9_init_288 13) (by decide)
theorem dX9_init_304 : decode cX9_init 304 = .ok (.aload_n 0, 1) := dk_42 (c := cX9_init) (pc := 304) (dk_at bmorecX9_init_288 16)
theorem dX9_init_305 : decode cX9_init 305 = .ok (.getfield 7, 3) := dk_180 (c := cX9_init) (pc := 305) (a := 0) (b := 7) (dk_at bmorecX9_init_288 17) rfl
theorem dX9_init_308 : decode cX9_init 308 = .ok (.iload_n 1, 1) := dk_27 (c := cX9_init) (pc := 308) (dk_at bmorecX9_init_288 20)
theorem dX9_init_309 : decode cX9_init 309 = .ok (.iconst (-1), 1) := dk_2 (c := cX9_init) (pc := 309) (dk_at bmorecX9_init_288 21)
theorem dX9_init_310 : decode cX9_init 310 = .ok (.iastore, 1) := dk_79 (c := cX9_init) (pc := 310) (dk_at bmorecX9_init_288 22)
theorem dX9_init_311 : decode cX9_init 311 = .ok (.iinc 1 1, 3) := dk_132 (c := cX9_init) (pc := 311) (a := 1) (b := 1) (dk_at bmorecX9_init_288 23) rfl (by decide)
theorem dX9_init_314 : decode cX9_init 314 = .ok (.goto (-15), 3) := dk_167 (c := cX9_init) (pc := 314) (a := 255) (b := 241) (dk_at bmorecX9_init_288 26) (by decide)
theorem dX9_init_317 : decode cX9_init 317 = .ok (.return_, 1) := dk_177 (c := cX9_init) (pc := 317) (dk_at bmorecX9_init_288 29)
theorem bmorecX2_init_0 : ((dk_l cX2_init).drop 0).take 27 = [42, 183, 0, 1, 42, 187, 0, 7, 89, 183, 0, 9, 181, 0, 10, 42, 187, 0, 16, 89, 183, 0, 18, 181, 0, 19, 177] := by decide +kernel
theorem dX2_init_0 : decode cX2_init 0 = .ok (.aload_n 0, 1) := dk_42 (c := cX2_init) (pc := 0) (dk_at bmorecX2_init_0 0)
theorem dX2_init_1 : decode cX2_init 1 = .ok (.invokespecial 1, 3) := dk_183 (c := cX2_init) (pc := 1) (a := 0) (b := 1) (dk_at bmorecX2_init_0 1) rfl
theorem dX2_init_4 : decode cX2_init 4 = .ok (.aload_n 0, 1) := dk_42 (c := cX2_init) (pc := 4) (dk_at bmorecX2_init_0 4)
theorem dX2_init_5 : decode cX2_init 5 = .ok (.new 7, 3) := dk_187 (c := cX2_init) (pc := 5) (a := 0) (b := 7) (dk_at bmorecX2_init_0 5) rfl
theorem dX2_init_8 : decode cX2_init 8 = .ok (.dup, 1) := dk_89 (c := cX2_init) (pc := 8) (dk_at bmorecX2_init_0 8)
set_option maxRecDepth 20000 in
theorem ggX2_init_X3_init : GoodIn wsX2_init wsX3_init := goodIn_r _ [14, 15, 2, 3, 16, 17, 18, 19, 20, 21, 22, 23, 24, 25, 26, 27, 28, 29, 39, 40, 41, 42, 43, 44, 45, 46, 47, 48, 49, 50, 51, 52, 53, 54] rfl (by decide +kernel)
set_option maxRecDepth 20000 in
theorem gX2_init_X3_init : GoodIn wsX2_init (wsX3_init) := ggX2_init_X3_init
theorem dX2_init_9 : decode cX2_init 9 = .ok (.invokespecial 9, 3) := dk_183 (c := cX2_init) (pc := 9) (a := 0) (b := 9) (dk_at bmorecX2_init_0 9) rfl
theorem dX2_init_12 : decode cX2_init 12 = .ok (.putfield 10, 3) := dk_181 (c := cX2_init) (pc := 12) (a := 0) (b := 10) (dk_at bmorecX2_init_0 12) rfl
theorem dX2_init_15 : decode cX2_init 15 = .ok (.aload_n 0, 1) := dk_42 (c := cX2_init) (pc := 15) (dk_at bmorecX2_init_0 15)
theorem dX2_init_16 : decode cX2_init 16 = .ok (.new 16, 3) := dk_187 (c := cX2_init) (pc := 16) (a := 0) (b := 16) (dk_at bmorecX2_init_0 16) rfl
theorem dX2_init_19 : decode cX2_init 19 = .ok (.dup, 1) := dk_89 (c := cX2_init) (pc := 19) (dk_at bmorecX2_init_0 19)
set_option maxRecDepth 20000 in
theorem ggX2_init_X5_init : GoodIn wsX2_init wsX5_init := goodIn_r _ [31, 32, 2, 3, 16, 33, 34, 35, 36, 37, 38, 57, 58, 59, 60, 61, 62, 63] rfl (by decide +kernel)
set_option maxRecDepth 20000 in
theorem gX2_init_X5_init_n18 : GoodIn wsX2_init (wsX5_init) := ggX2_init_X5_init
theorem dX2_init_20 : decode cX2_init 20 = .ok (.invokespecial 18, 3) := dk_183 (c := cX2_init) (pc := 20) (a := 0) (b := 18) (dk_at bmorecX2_init_0 20) rfl
theorem dX2_init_23 : decode cX2_init 23 = .ok (.putfield 19, 3) := dk_181 (c := cX2_init) (pc := 23) (a := 0) (b := 19) (dk_at bmorecX2_init_0 23) rfl
theorem dX2_init_26 : decode cX2_init 26 = .ok (.return_, 1) := dk_177 (c := cX2_init) (pc := 26) (dk_at bmorecX2_init_0 26)
set_option maxRecDepth 20000 in
theorem ggX8_keep_X8_within : GoodIn wsX8_keep wsX8_within := goodIn_r _ [12] rfl (by decide +kernel)
set_option maxRecDepth 20000 in
theorem gX8_keep_X8_within : GoodIn wsX8_keep (va_wsS RX8 105 yX8_within wsX8_within) := goodIn_app (goodIn_r _ [9, 10, 11] rfl (by decide +kernel)) ggX8_keep_X8_within
set_option maxRecDepth 20000 in
theorem ggX8_keep_X2_init : GoodIn wsX8_keep wsX2_init := goodIn_r _ [14, 15, 16, 17, 18, 19, 20, 21, 22, 23, 24, 25, 26, 27, 28, 29, 30, 31, 32, 33, 34, 35, 36, 37, 38, 39, 40, 41, 42, 43, 44, 45, 46, 47, 48, 49, 50, 51, 52, 86, 87, 88, 89, 90, 91, 92, 93, 94, 95, 96, 97, 98, 99, 100, 101, 84, 85, 102, 103, 104, 105, 106, 107, 108] rfl (by decide +kernel)
set_option maxRecDepth 20000 in
theorem gX8_keep_X2_init_n380 : GoodIn wsX8_keep (wsX2_init) := ggX8_keep_X2_init
set_option maxRecDepth 20000 in
theorem ggX8_keep_X3_copyOf : GoodIn wsX8_keep wsX3_copyOf := goodIn_r _ [56, 57, 58, 59, 60, 61, 62, 63, 31, 64, 65, 66, 67, 32, 33, 34, 35, 36, 37, 38, 39, 86, 87, 88, 89, 90, 91, 92, 93, 94, 95, 96, 97, 98, 99, 100, 101] rfl (by decide +kernel)
set_option maxRecDepth 20000 in
theorem gX8_keep_X3_copyOf : GoodIn wsX8_keep (wsV RX8 384 RX3 yX3_copyOf wsX3_copyOf) := goodIn_app (goodIn_r _ [53, 54, 55, 20] rfl (by decide +kernel)) ggX8_keep_X3_copyOf
set_option maxRecDepth 20000 in
theorem ggX8_keep_X5_copyOf : GoodIn wsX8_keep wsX5_copyOf := goodIn_r _ [71, 72, 47, 73, 65, 66, 67, 48, 49, 50, 51, 52, 102, 103, 104, 105, 106, 107, 108] rfl (by decide +kernel)
set_option maxRecDepth 20000 in
theorem gX8_keep_X5_copyOf : GoodIn wsX8_keep (wsV RX8 390 RX5 yX5_copyOf wsX5_copyOf) := goodIn_app (goodIn_r _ [68, 69, 70, 24] rfl (by decide +kernel)) ggX8_keep_X5_copyOf
theorem bmorecX8_keep_0 : ((dk_l cX8_keep).drop 0).take 52 = [27, 3, 5, 184, 0, 105, 154, 0, 6, 16, 254, 172, 42, 180, 0, 59, 27, 50, 199, 0, 16, 42, 180, 0, 59, 27, 187, 0, 57, 89, 183, 1, 124, 83, 42, 180, 0, 59, 27, 50, 180, 1, 125, 42, 180, 0, 19, 182, 1, 128, 42, 180] := by decide +kernel
theorem dX8_keep_0 : decode cX8_keep 0 = .ok (.iload_n 1, 1) := dk_27 (c := cX8_keep) (pc := 0) (dk_at bmorecX8_keep_0 0)
theorem dX8_keep_1 : decode cX8_keep 1 = .ok (.iconst 0, 1) := dk_3 (c := cX8_keep) (pc := 1) (dk_at bmorecX8_keep_0 1)
theorem dX8_keep_2 : decode cX8_keep 2 = .ok (.iconst 2, 1) := dk_5 (c := cX8_keep) (pc := 2) (dk_at bmorecX8_keep_0 2)
theorem dX8_keep_3 : decode cX8_keep 3 = .ok (.invokestatic 105, 3) := dk_184 (c := cX8_keep) (pc := 3) (a := 0) (b := 105) (dk_at bmorecX8_keep_0 3) rfl
theorem dX8_keep_6 : decode cX8_keep 6 = .ok (.ifCond .ne 6, 3) := dk_154 (c := cX8_keep) (pc := 6) (a := 0) (b := 6) (dk_at bmorecX8_keep_0 6) (by decide)
theorem dX8_keep_9 : decode cX8_keep 9 = .ok (.bipush (-2), 2) := dk_16 (c := cX8_keep) (pc := 9) (a := 254) (dk_at bmorecX8_keep_0 9) (by decide)
theorem dX8_keep_11 : decode cX8_keep 11 = .ok (.ireturn, 1) := dk_172 (c := cX8_keep) (pc := 11) (dk_at bmorecX8_keep_0 11)
theorem dX8_keep_12 : decode cX8_keep 12 = .ok (.aload_n 0, 1) := dk_42 (c := cX8_keep) (pc := 12) (dk_at bmorecX8_keep_0 12)
theorem dX8_keep_13 : decode cX8_keep 13 = .ok (.getfield 59, 3) := dk_180 (c := cX8_keep) (pc := 13) (a := 0) (b := 59) (dk_at bmorecX8_keep_0 13) rfl
theorem dX8_keep_16 : decode cX8_keep 16 = .ok (.iload_n 1, 1) := dk_27 (c := cX8_keep) (pc := 16) (dk_at bmorecX8_keep_0 16)
theorem dX8_keep_17 : decode cX8_keep 17 = .ok (.aaload, 1) := dk_50 (c := cX8_keep) (pc := 17) (dk_at bmorecX8_keep_0 17)
theorem dX8_keep_18 : decode cX8_keep 18 = .ok (.ifnonnull 16, 3) := dk_199 (c := cX8_keep) (pc := 18) (a := 0) (b := 16) (dk_at bmorecX8_keep_0 18) (by decide)
theorem dX8_keep_21 : decode cX8_keep 21 = .ok (.aload_n 0, 1) := dk_42 (c := cX8_keep) (pc := 21) (dk_at bmorecX8_keep_0 21)
theorem dX8_keep_22 : decode cX8_keep 22 = .ok (.getfield 59, 3) := dk_180 (c := cX8_keep) (pc := 22) (a := 0) (b := 59) (dk_at bmorecX8_keep_0 22) rfl
theorem dX8_keep_25 : decode cX8_keep 25 = .ok (.iload_n 1, 1) := dk_27 (c := cX8_keep) (pc := 25) (dk_at bmorecX8_keep_0 25)
theorem dX8_keep_26 : decode cX8_keep 26 = .ok (.new 57, 3) := dk_187 (c := cX8_keep) (pc := 26) (a := 0) (b := 57) (dk_at bmorecX8_keep_0 26) rfl
theorem dX8_keep_29 : decode cX8_keep 29 = .ok (.dup, 1) := dk_89 (c := cX8_keep) (pc := 29) (dk_at bmorecX8_keep_0 29)
theorem dX8_keep_30 : decode cX8_keep 30 = .ok (.invokespecial 380, 3) := dk_183 (c := cX8_keep) (pc := 30) (a := 1) (b := 124) (dk_at bmorecX8_keep_0 30) rfl
theorem dX8_keep_33 : decode cX8_keep 33 = .ok (.aastore, 1) := dk_83 (c := cX8_keep) (pc := 33) (dk_at bmorecX8_keep_0 33)
theorem dX8_keep_34 : decode cX8_keep 34 = .ok (.aload_n 0, 1) := dk_42 (c := cX8_keep) (pc := 34) (dk_at bmorecX8_keep_0 34)
theorem dX8_keep_35 : decode cX8_keep 35 = .ok (.getfield 59, 3) := dk_180 (c := cX8_keep) (pc := 35) (a := 0) (b := 59) (dk_at bmorecX8_keep_0 35) rfl
theorem dX8_keep_38 : decode cX8_keep 38 = .ok (.iload_n 1, 1) := dk_27 (c := cX8_keep) (pc := 38) (dk_at bmorecX8_keep_0 38)
theorem dX8_keep_39 : decode cX8_keep 39 = .ok (.aaload, 1) := dk_50 (c := cX8_keep) (pc := 39) (dk_at bmorecX8_keep_0 39)
theorem dX8_keep_40 : decode cX8_keep 40 = .ok (.getfield 381, 3) := dk_180 (c := cX8_keep) (pc := 40) (a := 1) (b := 125) (dk_at bmorecX8_keep_0 40) rfl
theorem dX8_keep_43 : decode cX8_keep 43 = .ok (.aload_n 0, 1) := dk_42 (c := cX8_keep) (pc := 43) (dk_at bmorecX8_keep_0 43)
theorem dX8_keep_44 : decode cX8_keep 44 = .ok (.getfield 19, 3) := dk_180 (c := cX8_keep) (pc := 44) (a := 0) (b := 19) (dk_at bmorecX8_keep_0 44) rfl
theorem dX8_keep_47 : decode cX8_keep 47 = .ok (.invokevirtual 384, 3) := dk_182 (c := cX8_keep) (pc := 47) (a := 1) (b := 128) (dk_at bmorecX8_keep_0 47) rfl
theorem bmorecX8_keep_48 : ((dk_l cX8_keep).drop 48).take 20 = [1, 128, 42, 180, 0, 59, 27, 50, 180, 1, 131, 42, 180, 0, 29, 182, 1, 134, 3, 172] := by decide +kernel
theorem dX8_keep_50 : decode cX8_keep 50 = .ok (.aload_n 0, 1) := dk_42 (c := cX8_keep) (pc := 50) (dk_at bmorecX8_keep_48 2)
theorem dX8_keep_51 : decode cX8_keep 51 = .ok (.getfield 59, 3) := dk_180 (c := cX8_keep) (pc := 51) (a := 0) (b := 59) (dk_at bmorecX8_keep_48 3) rfl
theorem dX8_keep_54 : decode cX8_keep 54 = .ok (.iload_n 1, 1) := dk_27 (c := cX8_keep) (pc := 54) (dk_at bmorecX8_keep_48 6)
theorem dX8_keep_55 : decode cX8_keep 55 = .ok (.aaload, 1) := dk_50 (c := cX8_keep) (pc := 55) (dk_at bmorecX8_keep_48 7)
theorem dX8_keep_56 : decode cX8_keep 56 = .ok (.getfield 387, 3) := dk_180 (c := cX8_keep) (pc := 56) (a := 1) (b := 131) (dk_at bmorecX8_keep_48 8) rfl
theorem dX8_keep_59 : decode cX8_keep 59 = .ok (.aload_n 0, 1) := dk_42 (c := cX8_keep) (pc := 59) (dk_at bmorecX8_keep_48 11)
theorem dX8_keep_60 : decode cX8_keep 60 = .ok (.getfield 29, 3) := dk_180 (c := cX8_keep) (pc := 60) (a := 0) (b := 29) (dk_at bmorecX8_keep_48 12) rfl
theorem dX8_keep_63 : decode cX8_keep 63 = .ok (.invokevirtual 390, 3) := dk_182 (c := cX8_keep) (pc := 63) (a := 1) (b := 134) (dk_at bmorecX8_keep_48 15) rfl
theorem dX8_keep_66 : decode cX8_keep 66 = .ok (.iconst 0, 1) := dk_3 (c := cX8_keep) (pc := 66) (dk_at bmorecX8_keep_48 18)
theorem dX8_keep_67 : decode cX8_keep 67 = .ok (.ireturn, 1) := dk_172 (c := cX8_keep) (pc := 67) (dk_at bmorecX8_keep_48 19)
set_option maxRecDepth 20000 in
theorem ggX8_back_X8_within : GoodIn wsX8_back wsX8_within := goodIn_r _ [9] rfl (by decide +kernel)
set_option maxRecDepth 20000 in
theorem gX8_back_X8_within : GoodIn wsX8_back (va_wsS RX8 105 yX8_within wsX8_within) := goodIn_app (goodIn_r _ [6, 7, 8] rfl (by decide +kernel)) ggX8_back_X8_within
set_option maxRecDepth 20000 in
theorem ggX8_back_X3_copyOf : GoodIn wsX8_back wsX3_copyOf := goodIn_r _ [14, 15, 16, 17, 18, 19, 20, 21, 22, 23, 24, 25, 26, 27, 28, 29, 30, 31, 32, 33, 34, 60, 61, 62, 63, 64, 65, 66, 67, 68, 69, 70, 71, 72, 73, 74, 75] rfl (by decide +kernel)
set_option maxRecDepth 20000 in
theorem gX8_back_X3_copyOf : GoodIn wsX8_back (wsV RX8 384 RX3 yX3_copyOf wsX3_copyOf) := goodIn_app (goodIn_r _ [10, 11, 12, 13] rfl (by decide +kernel)) ggX8_back_X3_copyOf
set_option maxRecDepth 20000 in
theorem ggX8_back_X5_copyOf : GoodIn wsX8_back wsX5_copyOf := goodIn_r _ [39, 40, 41, 42, 24, 25, 26, 43, 44, 45, 46, 47, 76, 77, 78, 79, 80, 81, 82] rfl (by decide +kernel)
set_option maxRecDepth 20000 in
theorem gX8_back_X5_copyOf : GoodIn wsX8_back (wsV RX8 390 RX5 yX5_copyOf wsX5_copyOf) := goodIn_app (goodIn_r _ [35, 36, 37, 38] rfl (by decide +kernel)) ggX8_back_X5_copyOf
theorem bmorecX8_back_0 : ((dk_l cX8_back).drop 0).take 52 = [27, 3, 5, 184, 0, 105, 154, 0, 6, 16, 254, 172, 42, 180, 0, 59, 27, 50, 199, 0, 6, 16, 250, 172, 42, 180, 0, 19, 42, 180, 0, 59, 27, 50, 180, 1, 125, 182, 1, 128, 42, 180, 0, 29, 42, 180, 0, 59, 27, 50, 180, 1] := by decide +kernel
theorem dX8_back_0 : decode cX8_back 0 = .ok (.iload_n 1, 1) := dk_27 (c := cX8_back) (pc := 0) (dk_at bmorecX8_back_0 0)
theorem dX8_back_1 : decode cX8_back 1 = .ok (.iconst 0, 1) := dk_3 (c := cX8_back) (pc := 1) (dk_at bmorecX8_back_0 1)
theorem dX8_back_2 : decode cX8_back 2 = .ok (.iconst 2, 1) := dk_5 (c := cX8_back) (pc := 2) (dk_at bmorecX8_back_0 2)
theorem dX8_back_3 : decode cX8_back 3 = .ok (.invokestatic 105, 3) := dk_184 (c := cX8_back) (pc := 3) (a := 0) (b := 105) (dk_at bmorecX8_back_0 3) rfl
theorem dX8_back_6 : decode cX8_back 6 = .ok (.ifCond .ne 6, 3) := dk_154 (c := cX8_back) (pc := 6) (a := 0) (b := 6) (dk_at bmorecX8_back_0 6) (by decide)
theorem dX8_back_9 : decode cX8_back 9 = .ok (.bipush (-2), 2) := dk_16 (c := cX8_back) (pc := 9) (a := 254) (dk_at bmorecX8_back_0 9) (by decide)
theorem dX8_back_11 : decode cX8_back 11 = .ok (.ireturn, 1) := dk_172 (c := cX8_back) (pc := 11) (dk_at bmorecX8_back_0 11)
theorem dX8_back_12 : decode cX8_back 12 = .ok (.aload_n 0, 1) := dk_42 (c := cX8_back) (pc := 12) (dk_at bmorecX8_back_0 12)
theorem dX8_back_13 : decode cX8_back 13 = .ok (.getfield 59, 3) := dk_180 (c := cX8_back) (pc := 13) (a := 0) (b := 59) (dk_at bmorecX8_back_0 13) rfl
theorem dX8_back_16 : decode cX8_back 16 = .ok (.iload_n 1, 1) := dk_27 (c := cX8_back) (pc := 16) (dk_at bmorecX8_back_0 16)
theorem dX8_back_17 : decode cX8_back 17 = .ok (.aaload, 1) := dk_50 (c := cX8_back) (pc := 17) (dk_at bmorecX8_back_0 17)
theorem dX8_back_18 : decode cX8_back 18 = .ok (.ifnonnull 6, 3) := dk_199 (c := cX8_back) (pc := 18) (a := 0) (b := 6) (dk_at bmorecX8_back_0 18) (by decide)
theorem dX8_back_21 : decode cX8_back 21 = .ok (.bipush (-6), 2) := dk_16 (c := cX8_back) (pc := 21) (a := 250) (dk_at bmorecX8_back_0 21) (by decide)
theorem dX8_back_23 : decode cX8_back 23 = .ok (.ireturn, 1) := dk_172 (c := cX8_back) (pc := 23) (dk_at bmorecX8_back_0 23)
theorem dX8_back_24 : decode cX8_back 24 = .ok (.aload_n 0, 1) := dk_42 (c := cX8_back) (pc := 24) (dk_at bmorecX8_back_0 24)
theorem dX8_back_25 : decode cX8_back 25 = .ok (.getfield 19, 3) := dk_180 (c := cX8_back) (pc := 25) (a := 0) (b := 19) (dk_at bmorecX8_back_0 25) rfl
theorem dX8_back_28 : decode cX8_back 28 = .ok (.aload_n 0, 1) := dk_42 (c := cX8_back) (pc := 28) (dk_at bmorecX8_back_0 28)
theorem dX8_back_29 : decode cX8_back 29 = .ok (.getfield 59, 3) := dk_180 (c := cX8_back) (pc := 29) (a := 0) (b := 59) (dk_at bmorecX8_back_0 29) rfl
theorem dX8_back_32 : decode cX8_back 32 = .ok (.iload_n 1, 1) := dk_27 (c := cX8_back) (pc := 32) (dk_at bmorecX8_back_0 32)
theorem dX8_back_33 : decode cX8_back 33 = .ok (.aaload, 1) := dk_50 (c := cX8_back) (pc := 33) (dk_at bmorecX8_back_0 33)
theorem dX8_back_34 : decode cX8_back 34 = .ok (.getfield 381, 3) := dk_180 (c := cX8_back) (pc := 34) (a := 1) (b := 125) (dk_at bmorecX8_back_0 34) rfl
theorem dX8_back_37 : decode cX8_back 37 = .ok (.invokevirtual 384, 3) := dk_182 (c := cX8_back) (pc := 37) (a := 1) (b := 128) (dk_at bmorecX8_back_0 37) rfl
theorem dX8_back_40 : decode cX8_back 40 = .ok (.aload_n 0, 1) := dk_42 (c := cX8_back) (pc := 40) (dk_at bmorecX8_back_0 40)
theorem dX8_back_41 : decode cX8_back 41 = .ok (.getfield 29, 3) := dk_180 (c := cX8_back) (pc := 41) (a := 0) (b := 29) (dk_at bmorecX8_back_0 41) rfl
theorem dX8_back_44 : decode cX8_back 44 = .ok (.aload_n 0, 1) := dk_42 (c := cX8_back) (pc := 44) (dk_at bmorecX8_back_0 44)
theorem dX8_back_45 : decode cX8_back 45 = .ok (.getfield 59, 3) := dk_180 (c := cX8_back) (pc := 45) (a := 0) (b := 59) (dk_at bmorecX8_back_0 45) rfl
theorem bmorecX8_back_48 : ((dk_l cX8_back).drop 48).take 10 = [27, 50, 180, 1, 131, 182, 1, 134, 3, 172] := by decide +kernel
theorem dX8_back_48 : decode cX8_back 48 = .ok (.iload_n 1, 1) := dk_27 (c := cX8_back) (pc := 48) (dk_at bmorecX8_back_48 0)
theorem dX8_back_49 : decode cX8_back 49 = .ok (.aaload, 1) := dk_50 (c := cX8_back) (pc := 49) (dk_at bmorecX8_back_48 1)
theorem dX8_back_50 : decode cX8_back 50 = .ok (.getfield 387, 3) := dk_180 (c := cX8_back) (pc := 50) (a := 1) (b := 131) (dk_at bmorecX8_back_48 2) rfl
theorem dX8_back_53 : decode cX8_back 53 = .ok (.invokevirtual 390, 3) := dk_182 (c := cX8_back) (pc := 53) (a := 1) (b := 134) (dk_at bmorecX8_back_48 5) rfl
theorem dX8_back_56 : decode cX8_back 56 = .ok (.iconst 0, 1) := dk_3 (c := cX8_back) (pc := 56) (dk_at bmorecX8_back_48 8)
theorem dX8_back_57 : decode cX8_back 57 = .ok (.ireturn, 1) := dk_172 (c := cX8_back) (pc := 57) (dk_at bmorecX8_back_48 9)
