theorem bnames00cX0_from_0 : ((dk_l cX0_from).drop 0).take 7 = [42, 27, 133, 181, 0, 7, 177] := by decide +kernel
theorem dX0_from_0 : decode cX0_from 0 = .ok (.aload_n 0, 1) := dk_42 (c := cX0_from) (pc := 0) (dk_at bnames00cX0_from_0 0)
theorem dX0_from_1 : decode cX0_from 1 = .ok (.iload_n 1, 1) := dk_27 (c := cX0_from) (pc := 1) (dk_at bnames00cX0_from_0 1)
theorem dX0_from_2 : decode cX0_from 2 = .ok (.i2l, 1) := dk_133 (c := cX0_from) (pc := 2) (dk_at bnames00cX0_from_0 2)
theorem dX0_from_3 : decode cX0_from 3 = .ok (.putfield 7, 3) := dk_181 (c := cX0_from) (pc := 3) (a := 0) (b := 7) (dk_at bnames00cX0_from_0 3) rfl
theorem dX0_from_6 : decode cX0_from 6 = .ok (.return_, 1) := dk_177 (c := cX0_from) (pc := 6) (dk_at bnames00cX0_from_0 6)
theorem bnames00cX0_of_0 : ((dk_l cX0_of).drop 0).take 42 = [42, 20, 0, 13, 42, 180, 0, 7, 105, 20, 0, 15, 97, 20, 0, 17, 127, 181, 0, 7, 27, 4, 162, 0, 7, 3, 167, 0, 15, 42, 180, 0, 7, 20, 0, 19, 109, 27, 133, 113, 136, 172] := by decide +kernel
theorem dX0_of_0 : decode cX0_of 0 = .ok (.aload_n 0, 1) := dk_42 (c := cX0_of) (pc := 0) (dk_at bnames00cX0_of_0 0)
theorem dX0_of_1 : decode cX0_of 1 = .ok (.ldc2_w 13, 3) := dk_20 (c := cX0_of) (pc := 1) (a := 0) (b := 13) (dk_at bnames00cX0_of_0 1) rfl
theorem dX0_of_4 : decode cX0_of 4 = .ok (.aload_n 0, 1) := dk_42 (c := cX0_of) (pc := 4) (dk_at bnames00cX0_of_0 4)
theorem dX0_of_5 : decode cX0_of 5 = .ok (.getfield 7, 3) := dk_180 (c := cX0_of) (pc := 5) (a := 0) (b := 7) (dk_at bnames00cX0_of_0 5) rfl
theorem dX0_of_8 : decode cX0_of 8 = .ok (.lmul, 1) := dk_105 (c := cX0_of) (pc := 8) (dk_at bnames00cX0_of_0 8)
theorem dX0_of_9 : decode cX0_of 9 = .ok (.ldc2_w 15, 3) := dk_20 (c := cX0_of) (pc := 9) (a := 0) (b := 15) (dk_at bnames00cX0_of_0 9) rfl
theorem dX0_of_12 : decode cX0_of 12 = .ok (.ladd, 1) := dk_97 (c := cX0_of) (pc := 12) (dk_at bnames00cX0_of_0 12)
theorem dX0_of_13 : decode cX0_of 13 = .ok (.ldc2_w 17, 3) := dk_20 (c := cX0_of) (pc := 13) (a := 0) (b := 17) (dk_at bnames00cX0_of_0 13) rfl
theorem dX0_of_16 : decode cX0_of 16 = .ok (.land, 1) := dk_127 (c := cX0_of) (pc := 16) (dk_at bnames00cX0_of_0 16)
theorem dX0_of_17 : decode cX0_of 17 = .ok (.putfield 7, 3) := dk_181 (c := cX0_of) (pc := 17) (a := 0) (b := 7) (dk_at bnames00cX0_of_0 17) rfl
theorem dX0_of_20 : decode cX0_of 20 = .ok (.iload_n 1, 1) := dk_27 (c := cX0_of) (pc := 20) (dk_at bnames00cX0_of_0 20)
theorem dX0_of_21 : decode cX0_of 21 = .ok (.iconst 1, 1) := dk_4 (c := cX0_of) (pc := 21) (dk_at bnames00cX0_of_0 21)
theorem dX0_of_22 : decode cX0_of 22 = .ok (.if_icmp .ge 7, 3) := dk_162 (c := cX0_of) (pc := 22) (a := 0) (b := 7) (dk_at bnames00cX0_of_0 22) (by decide)
theorem dX0_of_25 : decode cX0_of 25 = .ok (.iconst 0, 1) := dk_3 (c := cX0_of) (pc := 25) (dk_at bnames00cX0_of_0 25)
theorem dX0_of_26 : decode cX0_of 26 = .ok (.goto 15, 3) := dk_167 (c := cX0_of) (pc := 26) (a := 0) (b := 15) (dk_at bnames00cX0_of_0 26) (by decide)
theorem dX0_of_29 : decode cX0_of 29 = .ok (.aload_n 0, 1) := dk_42 (c := cX0_of) (pc := 29) (dk_at bnames00cX0_of_0 29)
theorem dX0_of_30 : decode cX0_of 30 = .ok (.getfield 7, 3) := dk_180 (c := cX0_of) (pc := 30) (a := 0) (b := 7) (dk_at bnames00cX0_of_0 30) rfl
theorem dX0_of_33 : decode cX0_of 33 = .ok (.ldc2_w 19, 3) := dk_20 (c := cX0_of) (pc := 33) (a := 0) (b := 19) (dk_at bnames00cX0_of_0 33) rfl
theorem dX0_of_36 : decode cX0_of 36 = .ok (.ldiv, 1) := dk_109 (c := cX0_of) (pc := 36) (dk_at bnames00cX0_of_0 36)
theorem dX0_of_37 : decode cX0_of 37 = .ok (.iload_n 1, 1) := dk_27 (c := cX0_of) (pc := 37) (dk_at bnames00cX0_of_0 37)
theorem dX0_of_38 : decode cX0_of 38 = .ok (.i2l, 1) := dk_133 (c := cX0_of) (pc := 38) (dk_at bnames00cX0_of_0 38)
theorem dX0_of_39 : decode cX0_of 39 = .ok (.lrem, 1) := dk_113 (c := cX0_of) (pc := 39) (dk_at bnames00cX0_of_0 39)
theorem dX0_of_40 : decode cX0_of 40 = .ok (.l2i, 1) := dk_136 (c := cX0_of) (pc := 40) (dk_at bnames00cX0_of_0 40)
theorem dX0_of_41 : decode cX0_of 41 = .ok (.ireturn, 1) := dk_172 (c := cX0_of) (pc := 41) (dk_at bnames00cX0_of_0 41)
set_option maxRecDepth 20000 in
theorem ggX1_takeAll_J7_fill_d0a16 : GoodIn wsX1_takeAll wsJ7_fill_d0a16 := goodIn_r _ [12] rfl (by decide +kernel)
set_option maxRecDepth 20000 in
theorem gX1_takeAll_J7_fill_d0a16 : GoodIn wsX1_takeAll (va_wsS RX1 21 yJ7_fill_d0a16 wsJ7_fill_d0a16) := goodIn_app (goodIn_r _ [9, 10, 11] rfl (by decide +kernel)) ggX1_takeAll_J7_fill_d0a16
theorem bnames00cX1_takeAll_0 : ((dk_l cX1_takeAll).drop 0).take 52 = [42, 180, 0, 11, 9, 184, 0, 21, 42, 180, 0, 15, 9, 184, 0, 21, 42, 180, 0, 18, 9, 184, 0, 21, 3, 61, 28, 43, 180, 0, 27, 162, 0, 80, 43, 180, 0, 33, 28, 46, 16, 12, 104, 43, 180, 0, 37, 28, 46, 96, 4, 100] := by decide +kernel
theorem dX1_takeAll_0 : decode cX1_takeAll 0 = .ok (.aload_n 0, 1) := dk_42 (c := cX1_takeAll) (pc := 0) (dk_at bnames00cX1_takeAll_0 0)
theorem dX1_takeAll_1 : decode cX1_takeAll 1 = .ok (.getfield 11, 3) := dk_180 (c := cX1_takeAll) (pc := 1) (a := 0) (b := 11) (dk_at bnames00cX1_takeAll_0 1) rfl
theorem dX1_takeAll_4 : decode cX1_takeAll 4 = .ok (.lconst 0, 1) := dk_9 (c := cX1_takeAll) (pc := 4) (dk_at bnames00cX1_takeAll_0 4)
theorem dX1_takeAll_5 : decode cX1_takeAll 5 = .ok (.invokestatic 21, 3) := dk_184 (c := cX1_takeAll) (pc := 5) (a := 0) (b := 21) (dk_at bnames00cX1_takeAll_0 5) rfl
theorem dX1_takeAll_8 : decode cX1_takeAll 8 = .ok (.aload_n 0, 1) := dk_42 (c := cX1_takeAll) (pc := 8) (dk_at bnames00cX1_takeAll_0 8)
theorem dX1_takeAll_9 : decode cX1_takeAll 9 = .ok (.getfield 15, 3) := dk_180 (c := cX1_takeAll) (pc := 9) (a := 0) (b := 15) (dk_at bnames00cX1_takeAll_0 9) rfl
theorem dX1_takeAll_12 : decode cX1_takeAll 12 = .ok (.lconst 0, 1) := dk_9 (c := cX1_takeAll) (pc := 12) (dk_at bnames00cX1_takeAll_0 12)
theorem dX1_takeAll_13 : decode cX1_takeAll 13 = .ok (.invokestatic 21, 3) := dk_184 (c := cX1_takeAll) (pc := 13) (a := 0) (b := 21) (dk_at bnames00cX1_takeAll_0 13) rfl
theorem dX1_takeAll_16 : decode cX1_takeAll 16 = .ok (.aload_n 0, 1) := dk_42 (c := cX1_takeAll) (pc := 16) (dk_at bnames00cX1_takeAll_0 16)
theorem dX1_takeAll_17 : decode cX1_takeAll 17 = .ok (.getfield 18, 3) := dk_180 (c := cX1_takeAll) (pc := 17) (a := 0) (b := 18) (dk_at bnames00cX1_takeAll_0 17) rfl
theorem dX1_takeAll_20 : decode cX1_takeAll 20 = .ok (.lconst 0, 1) := dk_9 (c := cX1_takeAll) (pc := 20) (dk_at bnames00cX1_takeAll_0 20)
theorem dX1_takeAll_21 : decode cX1_takeAll 21 = .ok (.invokestatic 21, 3) := dk_184 (c := cX1_takeAll) (pc := 21) (a := 0) (b := 21) (dk_at bnames00cX1_takeAll_0 21) rfl
theorem dX1_takeAll_24 : decode cX1_takeAll 24 = .ok (.iconst 0, 1) := dk_3 (c := cX1_takeAll) (pc := 24) (dk_at bnames00cX1_takeAll_0 24)
theorem dX1_takeAll_25 : decode cX1_takeAll 25 = .ok (.istore_n 2, 1) := dk_61 (c := cX1_takeAll) (pc := 25) (dk_at bnames00cX1_takeAll_0 25)
theorem dX1_takeAll_26 : decode cX1_takeAll 26 = .ok (.iload_n 2, 1) := dk_28 (c := cX1_takeAll) (pc := 26) (dk_at bnames00cX1_takeAll_0 26)
theorem dX1_takeAll_27 : decode cX1_takeAll 27 = .ok (.aload_n 1, 1) := dk_43 (c := cX1_takeAll) (pc := 27) (dk_at bnames00cX1_takeAll_0 27)
theorem dX1_takeAll_28 : decode cX1_takeAll 28 = .ok (.getfield 27, 3) := dk_180 (c := cX1_takeAll) (pc := 28) (a := 0) (b := 27) (dk_at bnames00cX1_takeAll_0 28) rfl
theorem dX1_takeAll_31 : decode cX1_takeAll 31 = .ok (.if_icmp .ge 80, 3) := dk_162 (c := cX1_takeAll) (pc := 31) (a := 0) (b := 80) (dk_at bnames00cX1_takeAll_0 31) (by decide)
theorem dX1_takeAll_34 : decode cX1_takeAll 34 = .ok (.aload_n 1, 1) := dk_43 (c := cX1_takeAll) (pc := 34) (dk_at bnames00cX1_takeAll_0 34)
theorem dX1_takeAll_35 : decode cX1_takeAll 35 = .ok (.getfield 33, 3) := dk_180 (c := cX1_takeAll) (pc := 35) (a := 0) (b := 33) (dk_at bnames00cX1_takeAll_0 35) rfl
theorem dX1_takeAll_38 : decode cX1_takeAll 38 = .ok (.iload_n 2, 1) := dk_28 (c := cX1_takeAll) (pc := 38) (dk_at bnames00cX1_takeAll_0 38)
theorem dX1_takeAll_39 : decode cX1_takeAll 39 = .ok (.iaload, 1) := dk_46 (c := cX1_takeAll) (pc := 39) (dk_at bnames00cX1_takeAll_0 39)
theorem dX1_takeAll_40 : decode cX1_takeAll 40 = .ok (.bipush 12, 2) := dk_16 (c := cX1_takeAll) (pc := 40) (a := 12) (dk_at bnames00cX1_takeAll_0 40) (by decide)
theorem dX1_takeAll_42 : decode cX1_takeAll 42 = .ok (.imul, 1) := dk_104 (c := cX1_takeAll) (pc := 42) (dk_at bnames00cX1_takeAll_0 42)
theorem dX1_takeAll_43 : decode cX1_takeAll 43 = .ok (.aload_n 1, 1) := dk_43 (c := cX1_takeAll) (pc := 43) (dk_at bnames00cX1_takeAll_0 43)
theorem dX1_takeAll_44 : decode cX1_takeAll 44 = .ok (.getfield 37, 3) := dk_180 (c := cX1_takeAll) (pc := 44) (a := 0) (b := 37) (dk_at bnames00cX1_takeAll_0 44) rfl
theorem dX1_takeAll_47 : decode cX1_takeAll 47 = .ok (.iload_n 2, 1) := dk_28 (c := cX1_takeAll) (pc := 47) (dk_at bnames00cX1_takeAll_0 47)
theorem bnames00cX1_takeAll_48 : ((dk_l cX1_takeAll).drop 48).take 52 = [46, 96, 4, 100, 62, 29, 155, 0, 51, 29, 16, 72, 162, 0, 45, 42, 180, 0, 11, 29, 92, 47, 10, 97, 80, 42, 180, 0, 15, 29, 92, 47, 43, 180, 0, 40, 28, 46, 133, 97, 80, 42, 180, 0, 18, 29, 92, 47, 43, 180, 0, 42] := by decide +kernel
theorem dX1_takeAll_48 : decode cX1_takeAll 48 = .ok (.iaload, 1) := dk_46 (c := cX1_takeAll) (pc := 48) (dk_at bnames00cX1_takeAll_48 0)
theorem dX1_takeAll_49 : decode cX1_takeAll 49 = .ok (.iadd, 1) := dk_96 (c := cX1_takeAll) (pc := 49) (dk_at bnames00cX1_takeAll_48 1)
theorem dX1_takeAll_50 : decode cX1_takeAll 50 = .ok (.iconst 1, 1) := dk_4 (c := cX1_takeAll) (pc := 50) (dk_at bnames00cX1_takeAll_48 2)
theorem dX1_takeAll_51 : decode cX1_takeAll 51 = .ok (.isub, 1) := dk_100 (c := cX1_takeAll) (pc := 51) (dk_at bnames00cX1_takeAll_48 3)
theorem dX1_takeAll_52 : decode cX1_takeAll 52 = .ok (.istore_n 3, 1) := dk_62 (c := cX1_takeAll) (pc := 52) (dk_at bnames00cX1_takeAll_48 4)
theorem dX1_takeAll_53 : decode cX1_takeAll 53 = .ok (.iload_n 3, 1) := dk_29 (c := cX1_takeAll) (pc := 53) (dk_at bnames00cX1_takeAll_48 5)
theorem dX1_takeAll_54 : decode cX1_takeAll 54 = .ok (.ifCond .lt 51, 3) := dk_155 (c := cX1_takeAll) (pc := 54) (a := 0) (b := 51) (dk_at bnames00cX1_takeAll_48 6) (by decide)
theorem dX1_takeAll_57 : decode cX1_takeAll 57 = .ok (.iload_n 3, 1) := dk_29 (c := cX1_takeAll) (pc := 57) (dk_at bnames00cX1_takeAll_48 9)
theorem dX1_takeAll_58 : decode cX1_takeAll 58 = .ok (.bipush 72, 2) := dk_16 (c := cX1_takeAll) (pc := 58) (a := 72) (dk_at bnames00cX1_takeAll_48 10) (by decide)
theorem dX1_takeAll_60 : decode cX1_takeAll 60 = .ok (.if_icmp .ge 45, 3) := dk_162 (c := cX1_takeAll) (pc := 60) (a := 0) (b := 45) (dk_at bnames00cX1_takeAll_48 12) (by decide)
theorem dX1_takeAll_63 : decode cX1_takeAll 63 = .ok (.aload_n 0, 1) := dk_42 (c := cX1_takeAll) (pc := 63) (dk_at bnames00cX1_takeAll_48 15)
theorem dX1_takeAll_64 : decode cX1_takeAll 64 = .ok (.getfield 11, 3) := dk_180 (c := cX1_takeAll) (pc := 64) (a := 0) (b := 11) (dk_at bnames00cX1_takeAll_48 16) rfl
theorem dX1_takeAll_67 : decode cX1_takeAll 67 = .ok (.iload_n 3, 1) := dk_29 (c := cX1_takeAll) (pc := 67) (dk_at bnames00cX1_takeAll_48 19)
theorem dX1_takeAll_68 : decode cX1_takeAll 68 = .ok (.dup2, 1) := dk_92 (c := cX1_takeAll) (pc := 68) (dk_at bnames00cX1_takeAll_48 20)
theorem dX1_takeAll_69 : decode cX1_takeAll 69 = .ok (.laload, 1) := dk_47 (c := cX1_takeAll) (pc := 69) (dk_at bnames00cX1_takeAll_48 21)
theorem dX1_takeAll_70 : decode cX1_takeAll 70 = .ok (.lconst 1, 1) := dk_10 (c := cX1_takeAll) (pc := 70) (dk_at bnames00cX1_takeAll_48 22)
theorem dX1_takeAll_71 : decode cX1_takeAll 71 = .ok (.ladd, 1) := dk_97 (c := cX1_takeAll) (pc := 71) (dk_at bnames00cX1_takeAll_48 23)
theorem dX1_takeAll_72 : decode cX1_takeAll 72 = .ok (.lastore, 1) := dk_80 (c := cX1_takeAll) (pc := 72) (dk_at bnames00cX1_takeAll_48 24)
theorem dX1_takeAll_73 : decode cX1_takeAll 73 = .ok (.aload_n 0, 1) := dk_42 (c := cX1_takeAll) (pc := 73) (dk_at bnames00cX1_takeAll_48 25)
theorem dX1_takeAll_74 : decode cX1_takeAll 74 = .ok (.getfield 15, 3) := dk_180 (c := cX1_takeAll) (pc := 74) (a := 0) (b := 15) (dk_at bnames00cX1_takeAll_48 26) rfl
theorem dX1_takeAll_77 : decode cX1_takeAll 77 = .ok (.iload_n 3, 1) := dk_29 (c := cX1_takeAll) (pc := 77) (dk_at bnames00cX1_takeAll_48 29)
theorem dX1_takeAll_78 : decode cX1_takeAll 78 = .ok (.dup2, 1) := dk_92 (c := cX1_takeAll) (pc := 78) (dk_at bnames00cX1_takeAll_48 30)
theorem dX1_takeAll_79 : decode cX1_takeAll 79 = .ok (.laload, 1) := dk_47 (c := cX1_takeAll) (pc := 79) (dk_at bnames00cX1_takeAll_48 31)
theorem dX1_takeAll_80 : decode cX1_takeAll 80 = .ok (.aload_n 1, 1) := dk_43 (c := cX1_takeAll) (pc := 80) (dk_at bnames00cX1_takeAll_48 32)
theorem dX1_takeAll_81 : decode cX1_takeAll 81 = .ok (.getfield 40, 3) := dk_180 (c := cX1_takeAll) (pc := 81) (a := 0) (b := 40) (dk_at bnames00cX1_takeAll_48 33) rfl
theorem dX1_takeAll_84 : decode cX1_takeAll 84 = .ok (.iload_n 2, 1) := dk_28 (c := cX1_takeAll) (pc := 84) (dk_at bnames00cX1_takeAll_48 36)
theorem dX1_takeAll_85 : decode cX1_takeAll 85 = .ok (.iaload, 1) := dk_46 (c := cX1_takeAll) (pc := 85) (dk_at bnames00cX1_takeAll_48 37)
theorem dX1_takeAll_86 : decode cX1_takeAll 86 = .ok (.i2l, 1) := dk_133 (c := cX1_takeAll) (pc := 86) (dk_at bnames00cX1_takeAll_48 38)
theorem dX1_takeAll_87 : decode cX1_takeAll 87 = .ok (.ladd, 1) := dk_97 (c := cX1_takeAll) (pc := 87) (dk_at bnames00cX1_takeAll_48 39)
theorem dX1_takeAll_88 : decode cX1_takeAll 88 = .ok (.lastore, 1) := dk_80 (c := cX1_takeAll) (pc := 88) (dk_at bnames00cX1_takeAll_48 40)
theorem dX1_takeAll_89 : decode cX1_takeAll 89 = .ok (.aload_n 0, 1) := dk_42 (c := cX1_takeAll) (pc := 89) (dk_at bnames00cX1_takeAll_48 41)
theorem dX1_takeAll_90 : decode cX1_takeAll 90 = .ok (.getfield 18, 3) := dk_180 (c := cX1_takeAll) (pc := 90) (a := 0) (b := 18) (dk_at bnames00cX1_takeAll_48 42) rfl
theorem dX1_takeAll_93 : decode cX1_takeAll 93 = .ok (.iload_n 3, 1) := dk_29 (c := cX1_takeAll) (pc := 93) (dk_at bnames00cX1_takeAll_48 45)
theorem dX1_takeAll_94 : decode cX1_takeAll 94 = .ok (.dup2, 1) := dk_92 (c := cX1_takeAll) (pc := 94) (dk_at bnames00cX1_takeAll_48 46)
theorem dX1_takeAll_95 : decode cX1_takeAll 95 = .ok (.laload, 1) := dk_47 (c := cX1_takeAll) (pc := 95) (dk_at bnames00cX1_takeAll_48 47)
theorem bnames00cX1_takeAll_96 : ((dk_l cX1_takeAll).drop 96).take 16 = [43, 180, 0, 42, 28, 46, 133, 97, 80, 132, 2, 1, 167, 255, 174, 177] := by decide +kernel
theorem dX1_takeAll_96 : decode cX1_takeAll 96 = .ok (.aload_n 1, 1) := dk_43 (c := cX1_takeAll) (pc := 96) (dk_at bnames00cX1_takeAll_96 0)
theorem dX1_takeAll_97 : decode cX1_takeAll 97 = .ok (.getfield 42, 3) := dk_180 (c := cX1_takeAll) (pc := 97) (a := 0) (b := 42) (dk_at bnames00cX1_takeAll_96 1) rfl
theorem dX1_takeAll_100 : decode cX1_takeAll 100 = .ok (.iload_n 2, 1) := dk_28 (c := cX1_takeAll) (pc := 100) (dk_at bnames00cX1_takeAll_96 4)
theorem dX1_takeAll_101 : decode cX1_takeAll 101 = .ok (.iaload, 1) := dk_46 (c := cX1_takeAll) (pc := 101) (dk_at bnames00cX1_takeAll_96 5)
theorem dX1_takeAll_102 : decode cX1_takeAll 102 = .ok (.i2l, 1) := dk_133 (c := cX1_takeAll) (pc := 102) (dk_at bnames00cX1_takeAll_96 6)
theorem dX1_takeAll_103 : decode cX1_takeAll 103 = .ok (.ladd, 1) := dk_97 (c := cX1_takeAll) (pc := 103) (dk_at bnames00cX1_takeAll_96 7)
theorem dX1_takeAll_104 : decode cX1_takeAll 104 = .ok (.lastore, 1) := dk_80 (c := cX1_takeAll) (pc := 104) (dk_at bnames00cX1_takeAll_96 8)
theorem dX1_takeAll_105 : decode cX1_takeAll 105 = .ok (.iinc 2 1, 3) := dk_132 (c := cX1_takeAll) (pc := 105) (a := 2) (b := 1) (dk_at bnames00cX1_takeAll_96 9) rfl (by decide)
theorem dX1_takeAll_108 : decode cX1_takeAll 108 = .ok (.goto (-82), 3) := dk_167 (c := cX1_takeAll) (pc := 108) (a := 255) (b := 174) (dk_at bnames00cX1_takeAll_96 12) (by decide)
theorem dX1_takeAll_111 : decode cX1_takeAll 111 = .ok (.return_, 1) := dk_177 (c := cX1_takeAll) (pc := 111) (dk_at bnames00cX1_takeAll_96 15)
theorem bnames00cX1_filled_0 : ((dk_l cX1_filled).drop 0).take 32 = [3, 60, 3, 61, 28, 16, 72, 162, 0, 23, 42, 180, 0, 11, 28, 47, 9, 148, 158, 0, 6, 132, 1, 1, 132, 2, 1, 167, 255, 233, 27, 172] := by decide +kernel
theorem dX1_filled_0 : decode cX1_filled 0 = .ok (.iconst 0, 1) := dk_3 (c := cX1_filled) (pc := 0) (dk_at bnames00cX1_filled_0 0)
theorem dX1_filled_1 : decode cX1_filled 1 = .ok (.istore_n 1, 1) := dk_60 (c := cX1_filled) (pc := 1) (dk_at bnames00cX1_filled_0 1)
theorem dX1_filled_2 : decode cX1_filled 2 = .ok (.iconst 0, 1) := dk_3 (c := cX1_filled) (pc := 2) (dk_at bnames00cX1_filled_0 2)
theorem dX1_filled_3 : decode cX1_filled 3 = .ok (.istore_n 2, 1) := dk_61 (c := cX1_filled) (pc := 3) (dk_at bnames00cX1_filled_0 3)
theorem dX1_filled_4 : decode cX1_filled 4 = .ok (.iload_n 2, 1) := dk_28 (c := cX1_filled) (pc := 4) (dk_at bnames00cX1_filled_0 4)
theorem dX1_filled_5 : decode cX1_filled 5 = .ok (.bipush 72, 2) := dk_16 (c := cX1_filled) (pc := 5) (a := 72) (dk_at bnames00cX1_filled_0 5) (by decide)
theorem dX1_filled_7 : decode cX1_filled 7 = .ok (.if_icmp .ge 23, 3) := dk_162 (c := cX1_filled) (pc := 7) (a := 0) (b := 23) (dk_at bnames00cX1_filled_0 7) (by decide)
theorem dX1_filled_10 : decode cX1_filled 10 = .ok (.aload_n 0, 1) := dk_42 (c := cX1_filled) (pc := 10) (dk_at bnames00cX1_filled_0 10)
theorem dX1_filled_11 : decode cX1_filled 11 = .ok (.getfield 11, 3) := dk_180 (c := cX1_filled) (pc := 11) (a := 0) (b := 11) (dk_at bnames00cX1_filled_0 11) rfl
theorem dX1_filled_14 : decode cX1_filled 14 = .ok (.iload_n 2, 1) := dk_28 (c := cX1_filled) (pc := 14) (dk_at bnames00cX1_filled_0 14)
theorem dX1_filled_15 : decode cX1_filled 15 = .ok (.laload, 1) := dk_47 (c := cX1_filled) (pc := 15) (dk_at bnames00cX1_filled_0 15)
theorem dX1_filled_16 : decode cX1_filled 16 = .ok (.lconst 0, 1) := dk_9 (c := cX1_filled) (pc := 16) (dk_at bnames00cX1_filled_0 16)
theorem dX1_filled_17 : decode cX1_filled 17 = .ok (.lcmp, 1) := dk_148 (c := cX1_filled) (pc := 17) (dk_at bnames00cX1_filled_0 17)
theorem dX1_filled_18 : decode cX1_filled 18 = .ok (.ifCond .le 6, 3) := dk_158 (c := cX1_filled) (pc := 18) (a := 0) (b := 6) (dk_at bnames00cX1_filled_0 18) (by decide)
theorem dX1_filled_21 : decode cX1_filled 21 = .ok (.iinc 1 1, 3) := dk_132 (c := cX1_filled) (pc := 21) (a := 1) (b := 1) (dk_at bnames00cX1_filled_0 21) rfl (by decide)
theorem dX1_filled_24 : decode cX1_filled 24 = .ok (.iinc 2 1, 3) := dk_132 (c := cX1_filled) (pc := 24) (a := 2) (b := 1) (dk_at bnames00cX1_filled_0 24) rfl (by decide)
theorem dX1_filled_27 : decode cX1_filled 27 = .ok (.goto (-23), 3) := dk_167 (c := cX1_filled) (pc := 27) (a := 255) (b := 233) (dk_at bnames00cX1_filled_0 27) (by decide)
theorem dX1_filled_30 : decode cX1_filled 30 = .ok (.iload_n 1, 1) := dk_27 (c := cX1_filled) (pc := 30) (dk_at bnames00cX1_filled_0 30)
theorem dX1_filled_31 : decode cX1_filled 31 = .ok (.ireturn, 1) := dk_172 (c := cX1_filled) (pc := 31) (dk_at bnames00cX1_filled_0 31)
set_option maxRecDepth 20000 in
theorem ggX1_slope_X8_thousandths : GoodIn wsX1_slope wsX8_thousandths := goodIn_r _ [6, 7, 8] rfl (by decide +kernel)
set_option maxRecDepth 20000 in
theorem gX1_slope_X8_thousandths_n44 : GoodIn wsX1_slope (wsX8_thousandths) := ggX1_slope_X8_thousandths
theorem bnames00cX1_slope_0 : ((dk_l cX1_slope).drop 0).take 52 = [9, 64, 9, 66, 9, 55, 5, 9, 55, 7, 9, 55, 9, 3, 54, 11, 21, 11, 16, 72, 162, 0, 109, 42, 180, 0, 11, 21, 11, 47, 9, 148, 158, 0, 91, 31, 42, 180, 0, 11, 21, 11, 47, 97, 64, 33, 42, 180, 0, 15, 21, 11] := by decide +kernel
theorem dX1_slope_0 : decode cX1_slope 0 = .ok (.lconst 0, 1) := dk_9 (c := cX1_slope) (pc := 0) (dk_at bnames00cX1_slope_0 0)
theorem dX1_slope_1 : decode cX1_slope 1 = .ok (.lstore_n 1, 1) := dk_64 (c := cX1_slope) (pc := 1) (dk_at bnames00cX1_slope_0 1)
theorem dX1_slope_2 : decode cX1_slope 2 = .ok (.lconst 0, 1) := dk_9 (c := cX1_slope) (pc := 2) (dk_at bnames00cX1_slope_0 2)
theorem dX1_slope_3 : decode cX1_slope 3 = .ok (.lstore_n 3, 1) := dk_66 (c := cX1_slope) (pc := 3) (dk_at bnames00cX1_slope_0 3)
theorem dX1_slope_4 : decode cX1_slope 4 = .ok (.lconst 0, 1) := dk_9 (c := cX1_slope) (pc := 4) (dk_at bnames00cX1_slope_0 4)
theorem dX1_slope_5 : decode cX1_slope 5 = .ok (.lstore 5, 2) := dk_55 (c := cX1_slope) (pc := 5) (a := 5) (dk_at bnames00cX1_slope_0 5) rfl
theorem dX1_slope_7 : decode cX1_slope 7 = .ok (.lconst 0, 1) := dk_9 (c := cX1_slope) (pc := 7) (dk_at bnames00cX1_slope_0 7)
theorem dX1_slope_8 : decode cX1_slope 8 = .ok (.lstore 7, 2) := dk_55 (c := cX1_slope) (pc := 8) (a := 7) (dk_at bnames00cX1_slope_0 8) rfl
theorem dX1_slope_10 : decode cX1_slope 10 = .ok (.lconst 0, 1) := dk_9 (c := cX1_slope) (pc := 10) (dk_at bnames00cX1_slope_0 10)
theorem dX1_slope_11 : decode cX1_slope 11 = .ok (.lstore 9, 2) := dk_55 (c := cX1_slope) (pc := 11) (a := 9) (dk_at bnames00cX1_slope_0 11) rfl
theorem dX1_slope_13 : decode cX1_slope 13 = .ok (.iconst 0, 1) := dk_3 (c := cX1_slope) (pc := 13) (dk_at bnames00cX1_slope_0 13)
theorem dX1_slope_14 : decode cX1_slope 14 = .ok (.istore 11, 2) := dk_54 (c := cX1_slope) (pc := 14) (a := 11) (dk_at bnames00cX1_slope_0 14) rfl
theorem dX1_slope_16 : decode cX1_slope 16 = .ok (.iload 11, 2) := dk_21 (c := cX1_slope) (pc := 16) (a := 11) (dk_at bnames00cX1_slope_0 16) rfl
theorem dX1_slope_18 : decode cX1_slope 18 = .ok (.bipush 72, 2) := dk_16 (c := cX1_slope) (pc := 18) (a := 72) (dk_at bnames00cX1_slope_0 18) (by decide)
theorem dX1_slope_20 : decode cX1_slope 20 = .ok (.if_icmp .ge 109, 3) := dk_162 (c := cX1_slope) (pc := 20) (a := 0) (b := 109) (dk_at bnames00cX1_slope_0 20) (by decide)
theorem dX1_slope_23 : decode cX1_slope 23 = .ok (.aload_n 0, 1) := dk_42 (c := cX1_slope) (pc := 23) (dk_at bnames00cX1_slope_0 23)
theorem dX1_slope_24 : decode cX1_slope 24 = .ok (.getfield 11, 3) := dk_180 (c := cX1_slope) (pc := 24) (a := 0) (b := 11) (dk_at bnames00cX1_slope_0 24) rfl
theorem dX1_slope_27 : decode cX1_slope 27 = .ok (.iload 11, 2) := dk_21 (c := cX1_slope) (pc := 27) (a := 11) (dk_at bnames00cX1_slope_0 27) rfl
theorem dX1_slope_29 : decode cX1_slope 29 = .ok (.laload, 1) := dk_47 (c := cX1_slope) (pc := 29) (dk_at bnames00cX1_slope_0 29)
theorem dX1_slope_30 : decode cX1_slope 30 = .ok (.lconst 0, 1) := dk_9 (c := cX1_slope) (pc := 30) (dk_at bnames00cX1_slope_0 30)
theorem dX1_slope_31 : decode cX1_slope 31 = .ok (.lcmp, 1) := dk_148 (c := cX1_slope) (pc := 31) (dk_at bnames00cX1_slope_0 31)
theorem dX1_slope_32 : decode cX1_slope 32 = .ok (.ifCond .le 91, 3) := dk_158 (c := cX1_slope) (pc := 32) (a := 0) (b := 91) (dk_at bnames00cX1_slope_0 32) (by decide)
theorem dX1_slope_35 : decode cX1_slope 35 = .ok (.lload_n 1, 1) := dk_31 (c := cX1_slope) (pc := 35) (dk_at bnames00cX1_slope_0 35)
theorem dX1_slope_36 : decode cX1_slope 36 = .ok (.aload_n 0, 1) := dk_42 (c := cX1_slope) (pc := 36) (dk_at bnames00cX1_slope_0 36)
theorem dX1_slope_37 : decode cX1_slope 37 = .ok (.getfield 11, 3) := dk_180 (c := cX1_slope) (pc := 37) (a := 0) (b := 11) (dk_at bnames00cX1_slope_0 37) rfl
theorem dX1_slope_40 : decode cX1_slope 40 = .ok (.iload 11, 2) := dk_21 (c := cX1_slope) (pc := 40) (a := 11) (dk_at bnames00cX1_slope_0 40) rfl
theorem dX1_slope_42 : decode cX1_slope 42 = .ok (.laload, 1) := dk_47 (c := cX1_slope) (pc := 42) (dk_at bnames00cX1_slope_0 42)
theorem dX1_slope_43 : decode cX1_slope 43 = .ok (.ladd, 1) := dk_97 (c := cX1_slope) (pc := 43) (dk_at bnames00cX1_slope_0 43)
theorem dX1_slope_44 : decode cX1_slope 44 = .ok (.lstore_n 1, 1) := dk_64 (c := cX1_slope) (pc := 44) (dk_at bnames00cX1_slope_0 44)
theorem dX1_slope_45 : decode cX1_slope 45 = .ok (.lload_n 3, 1) := dk_33 (c := cX1_slope) (pc := 45) (dk_at bnames00cX1_slope_0 45)
theorem dX1_slope_46 : decode cX1_slope 46 = .ok (.aload_n 0, 1) := dk_42 (c := cX1_slope) (pc := 46) (dk_at bnames00cX1_slope_0 46)
theorem dX1_slope_47 : decode cX1_slope 47 = .ok (.getfield 15, 3) := dk_180 (c := cX1_slope) (pc := 47) (a := 0) (b := 15) (dk_at bnames00cX1_slope_0 47) rfl
theorem bnames00cX1_slope_48 : ((dk_l cX1_slope).drop 48).take 52 = [0, 15, 21, 11, 47, 97, 66, 22, 5, 42, 180, 0, 18, 21, 11, 47, 97, 55, 5, 22, 7, 42, 180, 0, 15, 21, 11, 47, 42, 180, 0, 18, 21, 11, 47, 105, 42, 180, 0, 11, 21, 11, 47, 109, 97, 55, 7, 22, 9, 42, 180, 0] := by decide +kernel
theorem dX1_slope_50 : decode cX1_slope 50 = .ok (.iload 11, 2) := dk_21 (c := cX1_slope) (pc := 50) (a := 11) (dk_at bnames00cX1_slope_48 2) rfl
theorem dX1_slope_52 : decode cX1_slope 52 = .ok (.laload, 1) := dk_47 (c := cX1_slope) (pc := 52) (dk_at bnames00cX1_slope_48 4)
theorem dX1_slope_53 : decode cX1_slope 53 = .ok (.ladd, 1) := dk_97 (c := cX1_slope) (pc := 53) (dk_at bnames00cX1_slope_48 5)
theorem dX1_slope_54 : decode cX1_slope 54 = .ok (.lstore_n 3, 1) := dk_66 (c := cX1_slope) (pc := 54) (dk_at bnames00cX1_slope_48 6)
theorem dX1_slope_55 : decode cX1_slope 55 = .ok (.lload 5, 2) := dk_22 (c := cX1_slope) (pc := 55) (a := 5) (dk_at bnames00cX1_slope_48 7) rfl
theorem dX1_slope_57 : decode cX1_slope 57 = .ok (.aload_n 0, 1) := dk_42 (c := cX1_slope) (pc := 57) (dk_at bnames00cX1_slope_48 9)
theorem dX1_slope_58 : decode cX1_slope 58 = .ok (.getfield 18, 3) := dk_180 (c := cX1_slope) (pc := 58) (a := 0) (b := 18) (dk_at bnames00cX1_slope_48 10) rfl
theorem dX1_slope_61 : decode cX1_slope 61 = .ok (.iload 11, 2) := dk_21 (c := cX1_slope) (pc := 61) (a := 11) (dk_at bnames00cX1_slope_48 13) rfl
theorem dX1_slope_63 : decode cX1_slope 63 = .ok (.laload, 1) := dk_47 (c := cX1_slope) (pc := 63) (dk_at bnames00cX1_slope_48 15)
theorem dX1_slope_64 : decode cX1_slope 64 = .ok (.ladd, 1) := dk_97 (c := cX1_slope) (pc := 64) (dk_at bnames00cX1_slope_48 16)
theorem dX1_slope_65 : decode cX1_slope 65 = .ok (.lstore 5, 2) := dk_55 (c := cX1_slope) (pc := 65) (a := 5) (dk_at bnames00cX1_slope_48 17) rfl
theorem dX1_slope_67 : decode cX1_slope 67 = .ok (.lload 7, 2) := dk_22 (c := cX1_slope) (pc := 67) (a := 7) (dk_at bnames00cX1_slope_48 19) rfl
theorem dX1_slope_69 : decode cX1_slope 69 = .ok (.aload_n 0, 1) := dk_42 (c := cX1_slope) (pc := 69) (dk_at bnames00cX1_slope_48 21)
theorem dX1_slope_70 : decode cX1_slope 70 = .ok (.getfield 15, 3) := dk_180 (c := cX1_slope) (pc := 70) (a := 0) (b := 15) (dk_at bnames00cX1_slope_48 22) rfl
theorem dX1_slope_73 : decode cX1_slope 73 = .ok (.iload 11, 2) := dk_21 (c := cX1_slope) (pc := 73) (a := 11) (dk_at bnames00cX1_slope_48 25) rfl
theorem dX1_slope_75 : decode cX1_slope 75 = .ok (.laload, 1) := dk_47 (c := cX1_slope) (pc := 75) (dk_at bnames00cX1_slope_48 27)
theorem dX1_slope_76 : decode cX1_slope 76 = .ok (.aload_n 0, 1) := dk_42 (c := cX1_slope) (pc := 76) (dk_at bnames00cX1_slope_48 28)
theorem dX1_slope_77 : decode cX1_slope 77 = .ok (.getfield 18, 3) := dk_180 (c := cX1_slope) (pc := 77) (a := 0) (b := 18) (dk_at bnames00cX1_slope_48 29) rfl
theorem dX1_slope_80 : decode cX1_slope 80 = .ok (.iload 11, 2) := dk_21 (c := cX1_slope) (pc := 80) (a := 11) (dk_at bnames00cX1_slope_48 32) rfl
theorem dX1_slope_82 : decode cX1_slope 82 = .ok (.laload, 1) := dk_47 (c := cX1_slope) (pc := 82) (dk_at bnames00cX1_slope_48 34)
theorem dX1_slope_83 : decode cX1_slope 83 = .ok (.lmul, 1) := dk_105 (c := cX1_slope) (pc := 83) (dk_at bnames00cX1_slope_48 35)
theorem dX1_slope_84 : decode cX1_slope 84 = .ok (.aload_n 0, 1) := dk_42 (c := cX1_slope) (pc := 84) (dk_at bnames00cX1_slope_48 36)
theorem dX1_slope_85 : decode cX1_slope 85 = .ok (.getfield 11, 3) := dk_180 (c := cX1_slope) (pc := 85) (a := 0) (b := 11) (dk_at bnames00cX1_slope_48 37) rfl
theorem dX1_slope_88 : decode cX1_slope 88 = .ok (.iload 11, 2) := dk_21 (c := cX1_slope) (pc := 88) (a := 11) (dk_at bnames00cX1_slope_48 40) rfl
theorem dX1_slope_90 : decode cX1_slope 90 = .ok (.laload, 1) := dk_47 (c := cX1_slope) (pc := 90) (dk_at bnames00cX1_slope_48 42)
theorem dX1_slope_91 : decode cX1_slope 91 = .ok (.ldiv, 1) := dk_109 (c := cX1_slope) (pc := 91) (dk_at bnames00cX1_slope_48 43)
theorem dX1_slope_92 : decode cX1_slope 92 = .ok (.ladd, 1) := dk_97 (c := cX1_slope) (pc := 92) (dk_at bnames00cX1_slope_48 44)
theorem dX1_slope_93 : decode cX1_slope 93 = .ok (.lstore 7, 2) := dk_55 (c := cX1_slope) (pc := 93) (a := 7) (dk_at bnames00cX1_slope_48 45) rfl
theorem dX1_slope_95 : decode cX1_slope 95 = .ok (.lload 9, 2) := dk_22 (c := cX1_slope) (pc := 95) (a := 9) (dk_at bnames00cX1_slope_48 47) rfl
theorem bnames00cX1_slope_96 : ((dk_l cX1_slope).drop 96).take 52 = [9, 42, 180, 0, 15, 21, 11, 47, 42, 180, 0, 15, 21, 11, 47, 105, 42, 180, 0, 11, 21, 11, 47, 109, 97, 55, 9, 132, 11, 1, 167, 255, 146, 31, 22, 7, 105, 33, 22, 5, 105, 101, 31, 22, 9, 105, 33, 33, 105, 101, 184, 0] := by decide +kernel
theorem dX1_slope_97 : decode cX1_slope 97 = .ok (.aload_n 0, 1) := dk_42 (c := cX1_slope) (pc := 97) (dk_at bnames00cX1_slope_96 1)
theorem dX1_slope_98 : decode cX1_slope 98 = .ok (.getfield 15, 3) := dk_180 (c := cX1_slope) (pc := 98) (a := 0) (b := 15) (dk_at bnames00cX1_slope_96 2) rfl
theorem dX1_slope_101 : decode cX1_slope 101 = .ok (.iload 11, 2) := dk_21 (c := cX1_slope) (pc := 101) (a := 11) (dk_at bnames00cX1_slope_96 5) rfl
theorem dX1_slope_103 : decode cX1_slope 103 = .ok (.laload, 1) := dk_47 (c := cX1_slope) (pc := 103) (dk_at bnames00cX1_slope_96 7)
theorem dX1_slope_104 : decode cX1_slope 104 = .ok (.aload_n 0, 1) := dk_42 (c := cX1_slope) (pc := 104) (dk_at bnames00cX1_slope_96 8)
theorem dX1_slope_105 : decode cX1_slope 105 = .ok (.getfield 15, 3) := dk_180 (c := cX1_slope) (pc := 105) (a := 0) (b := 15) (dk_at bnames00cX1_slope_96 9) rfl
theorem dX1_slope_108 : decode cX1_slope 108 = .ok (.iload 11, 2) := dk_21 (c := cX1_slope) (pc := 108) (a := 11) (dk_at bnames00cX1_slope_96 12) rfl
theorem dX1_slope_110 : decode cX1_slope 110 = .ok (.laload, 1) := dk_47 (c := cX1_slope) (pc := 110) (dk_at bnames00cX1_slope_96 14)
theorem dX1_slope_111 : decode cX1_slope 111 = .ok (.lmul, 1) := dk_105 (c := cX1_slope) (pc := 111) (dk_at bnames00cX1_slope_96 15)
theorem dX1_slope_112 : decode cX1_slope 112 = .ok (.aload_n 0, 1) := dk_42 (c := cX1_slope) (pc := 112) (dk_at bnames00cX1_slope_96 16)
theorem dX1_slope_113 : decode cX1_slope 113 = .ok (.getfield 11, 3) := dk_180 (c := cX1_slope) (pc := 113) (a := 0) (b := 11) (dk_at bnames00cX1_slope_96 17) rfl
theorem dX1_slope_116 : decode cX1_slope 116 = .ok (.iload 11, 2) := dk_21 (c := cX1_slope) (pc := 116) (a := 11) (dk_at bnames00cX1_slope_96 20) rfl
theorem dX1_slope_118 : decode cX1_slope 118 = .ok (.laload, 1) := dk_47 (c := cX1_slope) (pc := 118) (dk_at bnames00cX1_slope_96 22)
theorem dX1_slope_119 : decode cX1_slope 119 = .ok (.ldiv, 1) := dk_109 (c := cX1_slope) (pc := 119) (dk_at bnames00cX1_slope_96 23)
theorem dX1_slope_120 : decode cX1_slope 120 = .ok (.ladd, 1) := dk_97 (c := cX1_slope) (pc := 120) (dk_at bnames00cX1_slope_96 24)
theorem dX1_slope_121 : decode cX1_slope 121 = .ok (.lstore 9, 2) := dk_55 (c := cX1_slope) (pc := 121) (a := 9) (dk_at bnames00cX1_slope_96 25) rfl
theorem dX1_slope_123 : decode cX1_slope 123 = .ok (.iinc 11 1, 3) := dk_132 (c := cX1_slope) (pc := 123) (a := 11) (b := 1) (dk_at bnames00cX1_slope_96 27) rfl (by decide)
theorem dX1_slope_126 : decode cX1_slope 126 = .ok (.goto (-110), 3) := dk_167 (c := cX1_slope) (pc := 126) (a := 255) (b := 146) (dk_at bnames00cX1_slope_96 30) (by decide)
theorem dX1_slope_129 : decode cX1_slope 129 = .ok (.lload_n 1, 1) := dk_31 (c := cX1_slope) (pc := 129) (dk_at bnames00cX1_slope_96 33)
theorem dX1_slope_130 : decode cX1_slope 130 = .ok (.lload 7, 2) := dk_22 (c := cX1_slope) (pc := 130) (a := 7) (dk_at bnames00cX1_slope_96 34) rfl
theorem dX1_slope_132 : decode cX1_slope 132 = .ok (.lmul, 1) := dk_105 (c := cX1_slope) (pc := 132) (dk_at bnames00cX1_slope_96 36)
theorem dX1_slope_133 : decode cX1_slope 133 = .ok (.lload_n 3, 1) := dk_33 (c := cX1_slope) (pc := 133) (dk_at bnames00cX1_slope_96 37)
theorem dX1_slope_134 : decode cX1_slope 134 = .ok (.lload 5, 2) := dk_22 (c := cX1_slope) (pc := 134) (a := 5) (dk_at bnames00cX1_slope_96 38) rfl
theorem dX1_slope_136 : decode cX1_slope 136 = .ok (.lmul, 1) := dk_105 (c := cX1_slope) (pc := 136) (dk_at bnames00cX1_slope_96 40)
theorem dX1_slope_137 : decode cX1_slope 137 = .ok (.lsub, 1) := dk_101 (c := cX1_slope) (pc := 137) (dk_at bnames00cX1_slope_96 41)
theorem dX1_slope_138 : decode cX1_slope 138 = .ok (.lload_n 1, 1) := dk_31 (c := cX1_slope) (pc := 138) (dk_at bnames00cX1_slope_96 42)
theorem dX1_slope_139 : decode cX1_slope 139 = .ok (.lload 9, 2) := dk_22 (c := cX1_slope) (pc := 139) (a := 9) (dk_at bnames00cX1_slope_96 43) rfl
theorem dX1_slope_141 : decode cX1_slope 141 = .ok (.lmul, 1) := dk_105 (c := cX1_slope) (pc := 141) (dk_at bnames00cX1_slope_96 45)
theorem dX1_slope_142 : decode cX1_slope 142 = .ok (.lload_n 3, 1) := dk_33 (c := cX1_slope) (pc := 142) (dk_at bnames00cX1_slope_96 46)
theorem dX1_slope_143 : decode cX1_slope 143 = .ok (.lload_n 3, 1) := dk_33 (c := cX1_slope) (pc := 143) (dk_at bnames00cX1_slope_96 47)
theorem bnames00cX1_slope_144 : ((dk_l cX1_slope).drop 144).take 6 = [105, 101, 184, 0, 44, 173] := by decide +kernel
theorem dX1_slope_144 : decode cX1_slope 144 = .ok (.lmul, 1) := dk_105 (c := cX1_slope) (pc := 144) (dk_at bnames00cX1_slope_144 0)
theorem dX1_slope_145 : decode cX1_slope 145 = .ok (.lsub, 1) := dk_101 (c := cX1_slope) (pc := 145) (dk_at bnames00cX1_slope_144 1)
theorem dX1_slope_146 : decode cX1_slope 146 = .ok (.invokestatic 44, 3) := dk_184 (c := cX1_slope) (pc := 146) (a := 0) (b := 44) (dk_at bnames00cX1_slope_144 2) rfl
theorem dX1_slope_149 : decode cX1_slope 149 = .ok (.lreturn, 1) := dk_173 (c := cX1_slope) (pc := 149) (dk_at bnames00cX1_slope_144 5)
set_option maxRecDepth 20000 in
theorem ggX3_clear_J7_fill_53178 : GoodIn wsX3_clear wsJ7_fill_53178 := goodIn_r _ [12] rfl (by decide +kernel)
set_option maxRecDepth 20000 in
theorem gX3_clear_J7_fill_53178 : GoodIn wsX3_clear (va_wsS RX3 39 yJ7_fill_53178 wsJ7_fill_53178) := goodIn_app (goodIn_r _ [9, 10, 11] rfl (by decide +kernel)) ggX3_clear_J7_fill_53178
theorem bnames00cX3_clear_0 : ((dk_l cX3_clear).drop 0).take 44 = [42, 3, 181, 0, 45, 42, 3, 181, 0, 49, 42, 3, 181, 0, 52, 42, 3, 181, 0, 55, 42, 3, 181, 0, 58, 42, 3, 181, 0, 61, 42, 3, 181, 0, 64, 42, 180, 0, 30, 2, 184, 0, 39, 177] := by decide +kernel
theorem dX3_clear_0 : decode cX3_clear 0 = .ok (.aload_n 0, 1) := dk_42 (c := cX3_clear) (pc := 0) (dk_at bnames00cX3_clear_0 0)
theorem dX3_clear_1 : decode cX3_clear 1 = .ok (.iconst 0, 1) := dk_3 (c := cX3_clear) (pc := 1) (dk_at bnames00cX3_clear_0 1)
theorem dX3_clear_2 : decode cX3_clear 2 = .ok (.putfield 45, 3) := dk_181 (c := cX3_clear) (pc := 2) (a := 0) (b := 45) (dk_at bnames00cX3_clear_0 2) rfl
theorem dX3_clear_5 : decode cX3_clear 5 = .ok (.aload_n 0, 1) := dk_42 (c := cX3_clear) (pc := 5) (dk_at bnames00cX3_clear_0 5)
theorem dX3_clear_6 : decode cX3_clear 6 = .ok (.iconst 0, 1) := dk_3 (c := cX3_clear) (pc := 6) (dk_at bnames00cX3_clear_0 6)
theorem dX3_clear_7 : decode cX3_clear 7 = .ok (.putfield 49, 3) := dk_181 (c := cX3_clear) (pc := 7) (a := 0) (b := 49) (dk_at bnames00cX3_clear_0 7) rfl
theorem dX3_clear_10 : decode cX3_clear 10 = .ok (.aload_n 0, 1) := dk_42 (c := cX3_clear) (pc := 10) (dk_at bnames00cX3_clear_0 10)
theorem dX3_clear_11 : decode cX3_clear 11 = .ok (.iconst 0, 1) := dk_3 (c := cX3_clear) (pc := 11) (dk_at bnames00cX3_clear_0 11)
theorem dX3_clear_12 : decode cX3_clear 12 = .ok (.putfield 52, 3) := dk_181 (c := cX3_clear) (pc := 12) (a := 0) (b := 52) (dk_at bnames00cX3_clear_0 12) rfl
theorem dX3_clear_15 : decode cX3_clear 15 = .ok (.aload_n 0, 1) := dk_42 (c := cX3_clear) (pc := 15) (dk_at bnames00cX3_clear_0 15)
theorem dX3_clear_16 : decode cX3_clear 16 = .ok (.iconst 0, 1) := dk_3 (c := cX3_clear) (pc := 16) (dk_at bnames00cX3_clear_0 16)
theorem dX3_clear_17 : decode cX3_clear 17 = .ok (.putfield 55, 3) := dk_181 (c := cX3_clear) (pc := 17) (a := 0) (b := 55) (dk_at bnames00cX3_clear_0 17) rfl
theorem dX3_clear_20 : decode cX3_clear 20 = .ok (.aload_n 0, 1) := dk_42 (c := cX3_clear) (pc := 20) (dk_at bnames00cX3_clear_0 20)
theorem dX3_clear_21 : decode cX3_clear 21 = .ok (.iconst 0, 1) := dk_3 (c := cX3_clear) (pc := 21) (dk_at bnames00cX3_clear_0 21)
theorem dX3_clear_22 : decode cX3_clear 22 = .ok (.putfield 58, 3) := dk_181 (c := cX3_clear) (pc := 22) (a := 0) (b := 58) (dk_at bnames00cX3_clear_0 22) rfl
theorem dX3_clear_25 : decode cX3_clear 25 = .ok (.aload_n 0, 1) := dk_42 (c := cX3_clear) (pc := 25) (dk_at bnames00cX3_clear_0 25)
theorem dX3_clear_26 : decode cX3_clear 26 = .ok (.iconst 0, 1) := dk_3 (c := cX3_clear) (pc := 26) (dk_at bnames00cX3_clear_0 26)
theorem dX3_clear_27 : decode cX3_clear 27 = .ok (.putfield 61, 3) := dk_181 (c := cX3_clear) (pc := 27) (a := 0) (b := 61) (dk_at bnames00cX3_clear_0 27) rfl
theorem dX3_clear_30 : decode cX3_clear 30 = .ok (.aload_n 0, 1) := dk_42 (c := cX3_clear) (pc := 30) (dk_at bnames00cX3_clear_0 30)
theorem dX3_clear_31 : decode cX3_clear 31 = .ok (.iconst 0, 1) := dk_3 (c := cX3_clear) (pc := 31) (dk_at bnames00cX3_clear_0 31)
theorem dX3_clear_32 : decode cX3_clear 32 = .ok (.putfield 64, 3) := dk_181 (c := cX3_clear) (pc := 32) (a := 0) (b := 64) (dk_at bnames00cX3_clear_0 32) rfl
theorem dX3_clear_35 : decode cX3_clear 35 = .ok (.aload_n 0, 1) := dk_42 (c := cX3_clear) (pc := 35) (dk_at bnames00cX3_clear_0 35)
theorem dX3_clear_36 : decode cX3_clear 36 = .ok (.getfield 30, 3) := dk_180 (c := cX3_clear) (pc := 36) (a := 0) (b := 30) (dk_at bnames00cX3_clear_0 36) rfl
theorem dX3_clear_39 : decode cX3_clear 39 = .ok (.iconst (-1), 1) := dk_2 (c := cX3_clear) (pc := 39) (dk_at bnames00cX3_clear_0 39)
theorem dX3_clear_40 : decode cX3_clear 40 = .ok (.invokestatic 39, 3) := dk_184 (c := cX3_clear) (pc := 40) (a := 0) (b := 39) (dk_at bnames00cX3_clear_0 40) rfl
theorem dX3_clear_43 : decode cX3_clear 43 = .ok (.return_, 1) := dk_177 (c := cX3_clear) (pc := 43) (dk_at bnames00cX3_clear_0 43)
theorem bnames00cX3_copyOf_0 : ((dk_l cX3_copyOf).drop 0).take 52 = [42, 43, 180, 0, 45, 181, 0, 45, 42, 43, 180, 0, 49, 181, 0, 49, 42, 43, 180, 0, 52, 181, 0, 52, 42, 43, 180, 0, 55, 181, 0, 55, 42, 43, 180, 0, 58, 181, 0, 58, 42, 43, 180, 0, 61, 181, 0, 61, 42, 43, 180, 0] := by decide +kernel
theorem dX3_copyOf_0 : decode cX3_copyOf 0 = .ok (.aload_n 0, 1) := dk_42 (c := cX3_copyOf) (pc := 0) (dk_at bnames00cX3_copyOf_0 0)
theorem dX3_copyOf_1 : decode cX3_copyOf 1 = .ok (.aload_n 1, 1) := dk_43 (c := cX3_copyOf) (pc := 1) (dk_at bnames00cX3_copyOf_0 1)
theorem dX3_copyOf_2 : decode cX3_copyOf 2 = .ok (.getfield 45, 3) := dk_180 (c := cX3_copyOf) (pc := 2) (a := 0) (b := 45) (dk_at bnames00cX3_copyOf_0 2) rfl
theorem dX3_copyOf_5 : decode cX3_copyOf 5 = .ok (.putfield 45, 3) := dk_181 (c := cX3_copyOf) (pc := 5) (a := 0) (b := 45) (dk_at bnames00cX3_copyOf_0 5) rfl
theorem dX3_copyOf_8 : decode cX3_copyOf 8 = .ok (.aload_n 0, 1) := dk_42 (c := cX3_copyOf) (pc := 8) (dk_at bnames00cX3_copyOf_0 8)
theorem dX3_copyOf_9 : decode cX3_copyOf 9 = .ok (.aload_n 1, 1) := dk_43 (c := cX3_copyOf) (pc := 9) (dk_at bnames00cX3_copyOf_0 9)
theorem dX3_copyOf_10 : decode cX3_copyOf 10 = .ok (.getfield 49, 3) := dk_180 (c := cX3_copyOf) (pc := 10) (a := 0) (b := 49) (dk_at bnames00cX3_copyOf_0 10) rfl
theorem dX3_copyOf_13 : decode cX3_copyOf 13 = .ok (.putfield 49, 3) := dk_181 (c := cX3_copyOf) (pc := 13) (a := 0) (b := 49) (dk_at bnames00cX3_copyOf_0 13) rfl
theorem dX3_copyOf_16 : decode cX3_copyOf 16 = .ok (.aload_n 0, 1) := dk_42 (c := cX3_copyOf) (pc := 16) (dk_at bnames00cX3_copyOf_0 16)
theorem dX3_copyOf_17 : decode cX3_copyOf 17 = .ok (.aload_n 1, 1) := dk_43 (c := cX3_copyOf) (pc := 17) (dk_at bnames00cX3_copyOf_0 17)
theorem dX3_copyOf_18 : decode cX3_copyOf 18 = .ok (.getfield 52, 3) := dk_180 (c := cX3_copyOf) (pc := 18) (a := 0) (b := 52) (dk_at bnames00cX3_copyOf_0 18) rfl
theorem dX3_copyOf_21 : decode cX3_copyOf 21 = .ok (.putfield 52, 3) := dk_181 (c := cX3_copyOf) (pc := 21) (a := 0) (b := 52) (dk_at bnames00cX3_copyOf_0 21) rfl
theorem dX3_copyOf_24 : decode cX3_copyOf 24 = .ok (.aload_n 0, 1) := dk_42 (c := cX3_copyOf) (pc := 24) (dk_at bnames00cX3_copyOf_0 24)
theorem dX3_copyOf_25 : decode cX3_copyOf 25 = .ok (.aload_n 1, 1) := dk_43 (c := cX3_copyOf) (pc := 25) (dk_at bnames00cX3_copyOf_0 25)
theorem dX3_copyOf_26 : decode cX3_copyOf 26 = .ok (.getfield 55, 3) := dk_180 (c := cX3_copyOf) (pc := 26) (a := 0) (b := 55) (dk_at bnames00cX3_copyOf_0 26) rfl
theorem dX3_copyOf_29 : decode cX3_copyOf 29 = .ok (.putfield 55, 3) := dk_181 (c := cX3_copyOf) (pc := 29) (a := 0) (b := 55) (dk_at bnames00cX3_copyOf_0 29) rfl
theorem dX3_copyOf_32 : decode cX3_copyOf 32 = .ok (.aload_n 0, 1) := dk_42 (c := cX3_copyOf) (pc := 32) (dk_at bnames00cX3_copyOf_0 32)
theorem dX3_copyOf_33 : decode cX3_copyOf 33 = .ok (.aload_n 1, 1) := dk_43 (c := cX3_copyOf) (pc := 33) (dk_at bnames00cX3_copyOf_0 33)
theorem dX3_copyOf_34 : decode cX3_copyOf 34 = .ok (.getfield 58, 3) := dk_180 (c := cX3_copyOf) (pc := 34) (a := 0) (b := 58) (dk_at bnames00cX3_copyOf_0 34) rfl
theorem dX3_copyOf_37 : decode cX3_copyOf 37 = .ok (.putfield 58, 3) := dk_181 (c := cX3_copyOf) (pc := 37) (a := 0) (b := 58) (dk_at bnames00cX3_copyOf_0 37) rfl
theorem dX3_copyOf_40 : decode cX3_copyOf 40 = .ok (.aload_n 0, 1) := dk_42 (c := cX3_copyOf) (pc := 40) (dk_at bnames00cX3_copyOf_0 40)
theorem dX3_copyOf_41 : decode cX3_copyOf 41 = .ok (.aload_n 1, 1) := dk_43 (c := cX3_copyOf) (pc := 41) (dk_at bnames00cX3_copyOf_0 41)
theorem dX3_copyOf_42 : decode cX3_copyOf 42 = .ok (.getfield 61, 3) := dk_180 (c := cX3_copyOf) (pc := 42) (a := 0) (b := 61) (dk_at bnames00cX3_copyOf_0 42) rfl
theorem dX3_copyOf_45 : decode cX3_copyOf 45 = .ok (.putfield 61, 3) := dk_181 (c := cX3_copyOf) (pc := 45) (a := 0) (b := 61) (dk_at bnames00cX3_copyOf_0 45) rfl
theorem bnames00cX3_copyOf_48 : ((dk_l cX3_copyOf).drop 48).take 52 = [42, 43, 180, 0, 64, 181, 0, 64, 43, 180, 0, 9, 3, 42, 180, 0, 9, 3, 16, 6, 184, 0, 68, 43, 180, 0, 15, 3, 42, 180, 0, 15, 3, 16, 6, 184, 0, 68, 43, 180, 0, 18, 3, 42, 180, 0, 18, 3, 16, 8, 184, 0] := by decide +kernel
theorem dX3_copyOf_48 : decode cX3_copyOf 48 = .ok (.aload_n 0, 1) := dk_42 (c := cX3_copyOf) (pc := 48) (dk_at bnames00cX3_copyOf_48 0)
theorem dX3_copyOf_49 : decode cX3_copyOf 49 = .ok (.aload_n 1, 1) := dk_43 (c := cX3_copyOf) (pc := 49) (dk_at bnames00cX3_copyOf_48 1)
theorem dX3_copyOf_50 : decode cX3_copyOf 50 = .ok (.getfield 64, 3) := dk_180 (c := cX3_copyOf) (pc := 50) (a := 0) (b := 64) (dk_at bnames00cX3_copyOf_48 2) rfl
theorem dX3_copyOf_53 : decode cX3_copyOf 53 = .ok (.putfield 64, 3) := dk_181 (c := cX3_copyOf) (pc := 53) (a := 0) (b := 64) (dk_at bnames00cX3_copyOf_48 5) rfl
theorem dX3_copyOf_56 : decode cX3_copyOf 56 = .ok (.aload_n 1, 1) := dk_43 (c := cX3_copyOf) (pc := 56) (dk_at bnames00cX3_copyOf_48 8)
theorem dX3_copyOf_57 : decode cX3_copyOf 57 = .ok (.getfield 9, 3) := dk_180 (c := cX3_copyOf) (pc := 57) (a := 0) (b := 9) (dk_at bnames00cX3_copyOf_48 9) rfl
theorem dX3_copyOf_60 : decode cX3_copyOf 60 = .ok (.iconst 0, 1) := dk_3 (c := cX3_copyOf) (pc := 60) (dk_at bnames00cX3_copyOf_48 12)
theorem dX3_copyOf_61 : decode cX3_copyOf 61 = .ok (.aload_n 0, 1) := dk_42 (c := cX3_copyOf) (pc := 61) (dk_at bnames00cX3_copyOf_48 13)
theorem dX3_copyOf_62 : decode cX3_copyOf 62 = .ok (.getfield 9, 3) := dk_180 (c := cX3_copyOf) (pc := 62) (a := 0) (b := 9) (dk_at bnames00cX3_copyOf_48 14) rfl
theorem dX3_copyOf_65 : decode cX3_copyOf 65 = .ok (.iconst 0, 1) := dk_3 (c := cX3_copyOf) (pc := 65) (dk_at bnames00cX3_copyOf_48 17)
theorem dX3_copyOf_66 : decode cX3_copyOf 66 = .ok (.bipush 6, 2) := dk_16 (c := cX3_copyOf) (pc := 66) (a := 6) (dk_at bnames00cX3_copyOf_48 18) (by decide)
theorem dX3_copyOf_68 : decode cX3_copyOf 68 = .ok (.invokestatic 68, 3) := dk_184 (c := cX3_copyOf) (pc := 68) (a := 0) (b := 68) (dk_at bnames00cX3_copyOf_48 20) rfl
theorem dX3_copyOf_71 : decode cX3_copyOf 71 = .ok (.aload_n 1, 1) := dk_43 (c := cX3_copyOf) (pc := 71) (dk_at bnames00cX3_copyOf_48 23)
theorem dX3_copyOf_72 : decode cX3_copyOf 72 = .ok (.getfield 15, 3) := dk_180 (c := cX3_copyOf) (pc := 72) (a := 0) (b := 15) (dk_at bnames00cX3_copyOf_48 24) rfl
theorem dX3_copyOf_75 : decode cX3_copyOf 75 = .ok (.iconst 0, 1) := dk_3 (c := cX3_copyOf) (pc := 75) (dk_at bnames00cX3_copyOf_48 27)
theorem dX3_copyOf_76 : decode cX3_copyOf 76 = .ok (.aload_n 0, 1) := dk_42 (c := cX3_copyOf) (pc := 76) (dk_at bnames00cX3_copyOf_48 28)
theorem dX3_copyOf_77 : decode cX3_copyOf 77 = .ok (.getfield 15, 3) := dk_180 (c := cX3_copyOf) (pc := 77) (a := 0) (b := 15) (dk_at bnames00cX3_copyOf_48 29) rfl
theorem dX3_copyOf_80 : decode cX3_copyOf 80 = .ok (.iconst 0, 1) := dk_3 (c := cX3_copyOf) (pc := 80) (dk_at bnames00cX3_copyOf_48 32)
theorem dX3_copyOf_81 : decode cX3_copyOf 81 = .ok (.bipush 6, 2) := dk_16 (c := cX3_copyOf) (pc := 81) (a := 6) (dk_at bnames00cX3_copyOf_48 33) (by decide)
theorem dX3_copyOf_83 : decode cX3_copyOf 83 = .ok (.invokestatic 68, 3) := dk_184 (c := cX3_copyOf) (pc := 83) (a := 0) (b := 68) (dk_at bnames00cX3_copyOf_48 35) rfl
theorem dX3_copyOf_86 : decode cX3_copyOf 86 = .ok (.aload_n 1, 1) := dk_43 (c := cX3_copyOf) (pc := 86) (dk_at bnames00cX3_copyOf_48 38)
theorem dX3_copyOf_87 : decode cX3_copyOf 87 = .ok (.getfield 18, 3) := dk_180 (c := cX3_copyOf) (pc := 87) (a := 0) (b := 18) (dk_at bnames00cX3_copyOf_48 39) rfl
theorem dX3_copyOf_90 : decode cX3_copyOf 90 = .ok (.iconst 0, 1) := dk_3 (c := cX3_copyOf) (pc := 90) (dk_at bnames00cX3_copyOf_48 42)
theorem dX3_copyOf_91 : decode cX3_copyOf 91 = .ok (.aload_n 0, 1) := dk_42 (c := cX3_copyOf) (pc := 91) (dk_at bnames00cX3_copyOf_48 43)
theorem dX3_copyOf_92 : decode cX3_copyOf 92 = .ok (.getfield 18, 3) := dk_180 (c := cX3_copyOf) (pc := 92) (a := 0) (b := 18) (dk_at bnames00cX3_copyOf_48 44) rfl
theorem dX3_copyOf_95 : decode cX3_copyOf 95 = .ok (.iconst 0, 1) := dk_3 (c := cX3_copyOf) (pc := 95) (dk_at bnames00cX3_copyOf_48 47)
theorem bnames00cX3_copyOf_96 : ((dk_l cX3_copyOf).drop 96).take 52 = [16, 8, 184, 0, 68, 43, 180, 0, 21, 3, 42, 180, 0, 21, 3, 16, 8, 184, 0, 68, 43, 180, 0, 24, 3, 42, 180, 0, 24, 3, 16, 8, 184, 0, 68, 43, 180, 0, 27, 3, 42, 180, 0, 27, 3, 16, 8, 184, 0, 68, 43, 180] := by decide +kernel
theorem dX3_copyOf_96 : decode cX3_copyOf 96 = .ok (.bipush 8, 2) := dk_16 (c := cX3_copyOf) (pc := 96) (a := 8) (dk_at bnames00cX3_copyOf_96 0) (by decide)
theorem dX3_copyOf_98 : decode cX3_copyOf 98 = .ok (.invokestatic 68, 3) := dk_184 (c := cX3_copyOf) (pc := 98) (a := 0) (b := 68) (dk_at bnames00cX3_copyOf_96 2) rfl
theorem dX3_copyOf_101 : decode cX3_copyOf 101 = .ok (.aload_n 1, 1) := dk_43 (c := cX3_copyOf) (pc := 101) (dk_at bnames00cX3_copyOf_96 5)
theorem dX3_copyOf_102 : decode cX3_copyOf 102 = .ok (.getfield 21, 3) := dk_180 (c := cX3_copyOf) (pc := 102) (a := 0) (b := 21) (dk_at bnames00cX3_copyOf_96 6) rfl
theorem dX3_copyOf_105 : decode cX3_copyOf 105 = .ok (.iconst 0, 1) := dk_3 (c := cX3_copyOf) (pc := 105) (dk_at bnames00cX3_copyOf_96 9)
theorem dX3_copyOf_106 : decode cX3_copyOf 106 = .ok (.aload_n 0, 1) := dk_42 (c := cX3_copyOf) (pc := 106) (dk_at bnames00cX3_copyOf_96 10)
theorem dX3_copyOf_107 : decode cX3_copyOf 107 = .ok (.getfield 21, 3) := dk_180 (c := cX3_copyOf) (pc := 107) (a := 0) (b := 21) (dk_at bnames00cX3_copyOf_96 11) rfl
theorem dX3_copyOf_110 : decode cX3_copyOf 110 = .ok (.iconst 0, 1) := dk_3 (c := cX3_copyOf) (pc := 110) (dk_at bnames00cX3_copyOf_96 14)
theorem dX3_copyOf_111 : decode cX3_copyOf 111 = .ok (.bipush 8, 2) := dk_16 (c := cX3_copyOf) (pc := 111) (a := 8) (dk_at bnames00cX3_copyOf_96 15) (by decide)
theorem dX3_copyOf_113 : decode cX3_copyOf 113 = .ok (.invokestatic 68, 3) := dk_184 (c := cX3_copyOf) (pc := 113) (a := 0) (b := 68) (dk_at bnames00cX3_copyOf_96 17) rfl
theorem dX3_copyOf_116 : decode cX3_copyOf 116 = .ok (.aload_n 1, 1) := dk_43 (c := cX3_copyOf) (pc := 116) (dk_at bnames00cX3_copyOf_96 20)
theorem dX3_copyOf_117 : decode cX3_copyOf 117 = .ok (.getfield 24, 3) := dk_180 (c := cX3_copyOf) (pc := 117) (a := 0) (b := 24) (dk_at bnames00cX3_copyOf_96 21) rfl
theorem dX3_copyOf_120 : decode cX3_copyOf 120 = .ok (.iconst 0, 1) := dk_3 (c := cX3_copyOf) (pc := 120) (dk_at bnames00cX3_copyOf_96 24)
theorem dX3_copyOf_121 : decode cX3_copyOf 121 = .ok (.aload_n 0, 1) := dk_42 (c := cX3_copyOf) (pc := 121) (dk_at bnames00cX3_copyOf_96 25)
theorem dX3_copyOf_122 : decode cX3_copyOf 122 = .ok (.getfield 24, 3) := dk_180 (c := cX3_copyOf) (pc := 122) (a := 0) (b := 24) (dk_at bnames00cX3_copyOf_96 26) rfl
theorem dX3_copyOf_125 : decode cX3_copyOf 125 = .ok (.iconst 0, 1) := dk_3 (c := cX3_copyOf) (pc := 125) (dk_at bnames00cX3_copyOf_96 29)
theorem dX3_copyOf_126 : decode cX3_copyOf 126 = .ok (.bipush 8, 2) := dk_16 (c := cX3_copyOf) (pc := 126) (a := 8) (dk_at bnames00cX3_copyOf_96 30) (by decide)
theorem dX3_copyOf_128 : decode cX3_copyOf 128 = .ok (.invokestatic 68, 3) := dk_184 (c := cX3_copyOf) (pc := 128) (a := 0) (b := 68) (dk_at bnames00cX3_copyOf_96 32) rfl
theorem dX3_copyOf_131 : decode cX3_copyOf 131 = .ok (.aload_n 1, 1) := dk_43 (c := cX3_copyOf) (pc := 131) (dk_at bnames00cX3_copyOf_96 35)
theorem dX3_copyOf_132 : decode cX3_copyOf 132 = .ok (.getfield 27, 3) := dk_180 (c := cX3_copyOf) (pc := 132) (a := 0) (b := 27) (dk_at bnames00cX3_copyOf_96 36) rfl
theorem dX3_copyOf_135 : decode cX3_copyOf 135 = .ok (.iconst 0, 1) := dk_3 (c := cX3_copyOf) (pc := 135) (dk_at bnames00cX3_copyOf_96 39)
theorem dX3_copyOf_136 : decode cX3_copyOf 136 = .ok (.aload_n 0, 1) := dk_42 (c := cX3_copyOf) (pc := 136) (dk_at bnames00cX3_copyOf_96 40)
theorem dX3_copyOf_137 : decode cX3_copyOf 137 = .ok (.getfield 27, 3) := dk_180 (c := cX3_copyOf) (pc := 137) (a := 0) (b := 27) (dk_at bnames00cX3_copyOf_96 41) rfl
theorem dX3_copyOf_140 : decode cX3_copyOf 140 = .ok (.iconst 0, 1) := dk_3 (c := cX3_copyOf) (pc := 140) (dk_at bnames00cX3_copyOf_96 44)
theorem dX3_copyOf_141 : decode cX3_copyOf 141 = .ok (.bipush 8, 2) := dk_16 (c := cX3_copyOf) (pc := 141) (a := 8) (dk_at bnames00cX3_copyOf_96 45) (by decide)
theorem dX3_copyOf_143 : decode cX3_copyOf 143 = .ok (.invokestatic 68, 3) := dk_184 (c := cX3_copyOf) (pc := 143) (a := 0) (b := 68) (dk_at bnames00cX3_copyOf_96 47) rfl
theorem bnames00cX3_copyOf_144 : ((dk_l cX3_copyOf).drop 144).take 48 = [0, 68, 43, 180, 0, 30, 3, 42, 180, 0, 30, 3, 16, 13, 184, 0, 68, 43, 180, 0, 33, 3, 42, 180, 0, 33, 3, 16, 120, 184, 0, 68, 43, 180, 0, 36, 3, 42, 180, 0, 36, 3, 16, 120, 184, 0, 68, 177] := by decide +kernel
theorem dX3_copyOf_146 : decode cX3_copyOf 146 = .ok (.aload_n 1, 1) := dk_43 (c := cX3_copyOf) (pc := 146) (dk_at bnames00cX3_copyOf_144 2)
theorem dX3_copyOf_147 : decode cX3_copyOf 147 = .ok (.getfield 30, 3) := dk_180 (c := cX3_copyOf) (pc := 147) (a := 0) (b := 30) (dk_at bnames00cX3_copyOf_144 3) rfl
theorem dX3_copyOf_150 : decode cX3_copyOf 150 = .ok (.iconst 0, 1) := dk_3 (c := cX3_copyOf) (pc := 150) (dk_at bnames00cX3_copyOf_144 6)
theorem dX3_copyOf_151 : decode cX3_copyOf 151 = .ok (.aload_n 0, 1) := dk_42 (c := cX3_copyOf) (pc := 151) (dk_at bnames00cX3_copyOf_144 7)
theorem dX3_copyOf_152 : decode cX3_copyOf 152 = .ok (.getfield 30, 3) := dk_180 (c := cX3_copyOf) (pc := 152) (a := 0) (b := 30) (dk_at bnames00cX3_copyOf_144 8) rfl
theorem dX3_copyOf_155 : decode cX3_copyOf 155 = .ok (.iconst 0, 1) := dk_3 (c := cX3_copyOf) (pc := 155) (dk_at bnames00cX3_copyOf_144 11)
theorem dX3_copyOf_156 : decode cX3_copyOf 156 = .ok (.bipush 13, 2) := dk_16 (c := cX3_copyOf) (pc := 156) (a := 13) (dk_at bnames00cX3_copyOf_144 12) (by decide)
theorem dX3_copyOf_158 : decode cX3_copyOf 158 = .ok (.invokestatic 68, 3) := dk_184 (c := cX3_copyOf) (pc := 158) (a := 0) (b := 68) (dk_at bnames00cX3_copyOf_144 14) rfl
theorem dX3_copyOf_161 : decode cX3_copyOf 161 = .ok (.aload_n 1, 1) := dk_43 (c := cX3_copyOf) (pc := 161) (dk_at bnames00cX3_copyOf_144 17)
theorem dX3_copyOf_162 : decode cX3_copyOf 162 = .ok (.getfield 33, 3) := dk_180 (c := cX3_copyOf) (pc := 162) (a := 0) (b := 33) (dk_at bnames00cX3_copyOf_144 18) rfl
theorem dX3_copyOf_165 : decode cX3_copyOf 165 = .ok (.iconst 0, 1) := dk_3 (c := cX3_copyOf) (pc := 165) (dk_at bnames00cX3_copyOf_144 21)
theorem dX3_copyOf_166 : decode cX3_copyOf 166 = .ok (.aload_n 0, 1) := dk_42 (c := cX3_copyOf) (pc := 166) (dk_at bnames00cX3_copyOf_144 22)
theorem dX3_copyOf_167 : decode cX3_copyOf 167 = .ok (.getfield 33, 3) := dk_180 (c := cX3_copyOf) (pc := 167) (a := 0) (b := 33) (dk_at bnames00cX3_copyOf_144 23) rfl
theorem dX3_copyOf_170 : decode cX3_copyOf 170 = .ok (.iconst 0, 1) := dk_3 (c := cX3_copyOf) (pc := 170) (dk_at bnames00cX3_copyOf_144 26)
theorem dX3_copyOf_171 : decode cX3_copyOf 171 = .ok (.bipush 120, 2) := dk_16 (c := cX3_copyOf) (pc := 171) (a := 120) (dk_at bnames00cX3_copyOf_144 27) (by decide)
theorem dX3_copyOf_173 : decode cX3_copyOf 173 = .ok (.invokestatic 68, 3) := dk_184 (c := cX3_copyOf) (pc := 173) (a := 0) (b := 68) (dk_at bnames00cX3_copyOf_144 29) rfl
theorem dX3_copyOf_176 : decode cX3_copyOf 176 = .ok (.aload_n 1, 1) := dk_43 (c := cX3_copyOf) (pc := 176) (dk_at bnames00cX3_copyOf_144 32)
theorem dX3_copyOf_177 : decode cX3_copyOf 177 = .ok (.getfield 36, 3) := dk_180 (c := cX3_copyOf) (pc := 177) (a := 0) (b := 36) (dk_at bnames00cX3_copyOf_144 33) rfl
theorem dX3_copyOf_180 : decode cX3_copyOf 180 = .ok (.iconst 0, 1) := dk_3 (c := cX3_copyOf) (pc := 180) (dk_at bnames00cX3_copyOf_144 36)
theorem dX3_copyOf_181 : decode cX3_copyOf 181 = .ok (.aload_n 0, 1) := dk_42 (c := cX3_copyOf) (pc := 181) (dk_at bnames00cX3_copyOf_144 37)
theorem dX3_copyOf_182 : decode cX3_copyOf 182 = .ok (.getfield 36, 3) := dk_180 (c := cX3_copyOf) (pc := 182) (a := 0) (b := 36) (dk_at bnames00cX3_copyOf_144 38) rfl
theorem dX3_copyOf_185 : decode cX3_copyOf 185 = .ok (.iconst 0, 1) := dk_3 (c := cX3_copyOf) (pc := 185) (dk_at bnames00cX3_copyOf_144 41)
theorem dX3_copyOf_186 : decode cX3_copyOf 186 = .ok (.bipush 120, 2) := dk_16 (c := cX3_copyOf) (pc := 186) (a := 120) (dk_at bnames00cX3_copyOf_144 42) (by decide)
theorem dX3_copyOf_188 : decode cX3_copyOf 188 = .ok (.invokestatic 68, 3) := dk_184 (c := cX3_copyOf) (pc := 188) (a := 0) (b := 68) (dk_at bnames00cX3_copyOf_144 44) rfl
theorem dX3_copyOf_191 : decode cX3_copyOf 191 = .ok (.return_, 1) := dk_177 (c := cX3_copyOf) (pc := 191) (dk_at bnames00cX3_copyOf_144 47)
theorem bnames00cX3_addLaw_0 : ((dk_l cX3_addLaw).drop 0).take 40 = [42, 180, 0, 49, 16, 6, 162, 0, 33, 42, 180, 0, 9, 42, 180, 0, 49, 27, 79, 42, 180, 0, 15, 42, 180, 0, 49, 28, 79, 42, 89, 180, 0, 49, 4, 96, 181, 0, 49, 177] := by decide +kernel
theorem dX3_addLaw_0 : decode cX3_addLaw 0 = .ok (.aload_n 0, 1) := dk_42 (c := cX3_addLaw) (pc := 0) (dk_at bnames00cX3_addLaw_0 0)
theorem dX3_addLaw_1 : decode cX3_addLaw 1 = .ok (.getfield 49, 3) := dk_180 (c := cX3_addLaw) (pc := 1) (a := 0) (b := 49) (dk_at bnames00cX3_addLaw_0 1) rfl
theorem dX3_addLaw_4 : decode cX3_addLaw 4 = .ok (.bipush 6, 2) := dk_16 (c := cX3_addLaw) (pc := 4) (a := 6) (dk_at bnames00cX3_addLaw_0 4) (by decide)
theorem dX3_addLaw_6 : decode cX3_addLaw 6 = .ok (.if_icmp .ge 33, 3) := dk_162 (c := cX3_addLaw) (pc := 6) (a := 0) (b := 33) (dk_at bnames00cX3_addLaw_0 6) (by decide)
theorem dX3_addLaw_9 : decode cX3_addLaw 9 = .ok (.aload_n 0, 1) := dk_42 (c := cX3_addLaw) (pc := 9) (dk_at bnames00cX3_addLaw_0 9)
theorem dX3_addLaw_10 : decode cX3_addLaw 10 = .ok (.getfield 9, 3) := dk_180 (c := cX3_addLaw) (pc := 10) (a := 0) (b := 9) (dk_at bnames00cX3_addLaw_0 10) rfl
theorem dX3_addLaw_13 : decode cX3_addLaw 13 = .ok (.aload_n 0, 1) := dk_42 (c := cX3_addLaw) (pc := 13) (dk_at bnames00cX3_addLaw_0 13)
theorem dX3_addLaw_14 : decode cX3_addLaw 14 = .ok (.getfield 49, 3) := dk_180 (c := cX3_addLaw) (pc := 14) (a := 0) (b := 49) (dk_at bnames00cX3_addLaw_0 14) rfl
theorem dX3_addLaw_17 : decode cX3_addLaw 17 = .ok (.iload_n 1, 1) := dk_27 (c := cX3_addLaw) (pc := 17) (dk_at bnames00cX3_addLaw_0 17)
theorem dX3_addLaw_18 : decode cX3_addLaw 18 = .ok (.iastore, 1) := dk_79 (c := cX3_addLaw) (pc := 18) (dk_at bnames00cX3_addLaw_0 18)
theorem dX3_addLaw_19 : decode cX3_addLaw 19 = .ok (.aload_n 0, 1) := dk_42 (c := cX3_addLaw) (pc := 19) (dk_at bnames00cX3_addLaw_0 19)
theorem dX3_addLaw_20 : decode cX3_addLaw 20 = .ok (.getfield 15, 3) := dk_180 (c := cX3_addLaw) (pc := 20) (a := 0) (b := 15) (dk_at bnames00cX3_addLaw_0 20) rfl
theorem dX3_addLaw_23 : decode cX3_addLaw 23 = .ok (.aload_n 0, 1) := dk_42 (c := cX3_addLaw) (pc := 23) (dk_at bnames00cX3_addLaw_0 23)
theorem dX3_addLaw_24 : decode cX3_addLaw 24 = .ok (.getfield 49, 3) := dk_180 (c := cX3_addLaw) (pc := 24) (a := 0) (b := 49) (dk_at bnames00cX3_addLaw_0 24) rfl
theorem dX3_addLaw_27 : decode cX3_addLaw 27 = .ok (.iload_n 2, 1) := dk_28 (c := cX3_addLaw) (pc := 27) (dk_at bnames00cX3_addLaw_0 27)
theorem dX3_addLaw_28 : decode cX3_addLaw 28 = .ok (.iastore, 1) := dk_79 (c := cX3_addLaw) (pc := 28) (dk_at bnames00cX3_addLaw_0 28)
theorem dX3_addLaw_29 : decode cX3_addLaw 29 = .ok (.aload_n 0, 1) := dk_42 (c := cX3_addLaw) (pc := 29) (dk_at bnames00cX3_addLaw_0 29)
theorem dX3_addLaw_30 : decode cX3_addLaw 30 = .ok (.dup, 1) := dk_89 (c := cX3_addLaw) (pc := 30) (dk_at bnames00cX3_addLaw_0 30)
theorem dX3_addLaw_31 : decode cX3_addLaw 31 = .ok (.getfield 49, 3) := dk_180 (c := cX3_addLaw) (pc := 31) (a := 0) (b := 49) (dk_at bnames00cX3_addLaw_0 31) rfl
theorem dX3_addLaw_34 : decode cX3_addLaw 34 = .ok (.iconst 1, 1) := dk_4 (c := cX3_addLaw) (pc := 34) (dk_at bnames00cX3_addLaw_0 34)
theorem dX3_addLaw_35 : decode cX3_addLaw 35 = .ok (.iadd, 1) := dk_96 (c := cX3_addLaw) (pc := 35) (dk_at bnames00cX3_addLaw_0 35)
theorem dX3_addLaw_36 : decode cX3_addLaw 36 = .ok (.putfield 49, 3) := dk_181 (c := cX3_addLaw) (pc := 36) (a := 0) (b := 49) (dk_at bnames00cX3_addLaw_0 36) rfl
theorem dX3_addLaw_39 : decode cX3_addLaw 39 = .ok (.return_, 1) := dk_177 (c := cX3_addLaw) (pc := 39) (dk_at bnames00cX3_addLaw_0 39)
theorem bnames00cX3_addSort_0 : ((dk_l cX3_addSort).drop 0).take 52 = [42, 180, 0, 52, 16, 8, 162, 0, 64, 42, 180, 0, 18, 42, 180, 0, 52, 27, 79, 42, 180, 0, 21, 42, 180, 0, 52, 28, 79, 42, 180, 0, 24, 42, 180, 0, 52, 29, 79, 42, 180, 0, 27, 42, 180, 0, 52, 21, 4, 79, 42, 89] := by decide +kernel
theorem dX3_addSort_0 : decode cX3_addSort 0 = .ok (.aload_n 0, 1) := dk_42 (c := cX3_addSort) (pc := 0) (dk_at bnames00cX3_addSort_0 0)
theorem dX3_addSort_1 : decode cX3_addSort 1 = .ok (.getfield 52, 3) := dk_180 (c := cX3_addSort) (pc := 1) (a := 0) (b := 52) (dk_at bnames00cX3_addSort_0 1) rfl
theorem dX3_addSort_4 : decode cX3_addSort 4 = .ok (.bipush 8, 2) := dk_16 (c := cX3_addSort) (pc := 4) (a := 8) (dk_at bnames00cX3_addSort_0 4) (by decide)
theorem dX3_addSort_6 : decode cX3_addSort 6 = .ok (.if_icmp .ge 64, 3) := dk_162 (c := cX3_addSort) (pc := 6) (a := 0) (b := 64) (dk_at bnames00cX3_addSort_0 6) (by decide)
theorem dX3_addSort_9 : decode cX3_addSort 9 = .ok (.aload_n 0, 1) := dk_42 (c := cX3_addSort) (pc := 9) (dk_at bnames00cX3_addSort_0 9)
theorem dX3_addSort_10 : decode cX3_addSort 10 = .ok (.getfield 18, 3) := dk_180 (c := cX3_addSort) (pc := 10) (a := 0) (b := 18) (dk_at bnames00cX3_addSort_0 10) rfl
theorem dX3_addSort_13 : decode cX3_addSort 13 = .ok (.aload_n 0, 1) := dk_42 (c := cX3_addSort) (pc := 13) (dk_at bnames00cX3_addSort_0 13)
theorem dX3_addSort_14 : decode cX3_addSort 14 = .ok (.getfield 52, 3) := dk_180 (c := cX3_addSort) (pc := 14) (a := 0) (b := 52) (dk_at bnames00cX3_addSort_0 14) rfl
theorem dX3_addSort_17 : decode cX3_addSort 17 = .ok (.iload_n 1, 1) := dk_27 (c := cX3_addSort) (pc := 17) (dk_at bnames00cX3_addSort_0 17)
theorem dX3_addSort_18 : decode cX3_addSort 18 = .ok (.iastore, 1) := dk_79 (c := cX3_addSort) (pc := 18) (dk_at bnames00cX3_addSort_0 18)
theorem dX3_addSort_19 : decode cX3_addSort 19 = .ok (.aload_n 0, 1) := dk_42 (c := cX3_addSort) (pc := 19) (dk_at bnames00cX3_addSort_0 19)
theorem dX3_addSort_20 : decode cX3_addSort 20 = .ok (.getfield 21, 3) := dk_180 (c := cX3_addSort) (pc := 20) (a := 0) (b := 21) (dk_at bnames00cX3_addSort_0 20) rfl
theorem dX3_addSort_23 : decode cX3_addSort 23 = .ok (.aload_n 0, 1) := dk_42 (c := cX3_addSort) (pc := 23) (dk_at bnames00cX3_addSort_0 23)
theorem dX3_addSort_24 : decode cX3_addSort 24 = .ok (.getfield 52, 3) := dk_180 (c := cX3_addSort) (pc := 24) (a := 0) (b := 52) (dk_at bnames00cX3_addSort_0 24) rfl
theorem dX3_addSort_27 : decode cX3_addSort 27 = .ok (.iload_n 2, 1) := dk_28 (c := cX3_addSort) (pc := 27) (dk_at bnames00cX3_addSort_0 27)
theorem dX3_addSort_28 : decode cX3_addSort 28 = .ok (.iastore, 1) := dk_79 (c := cX3_addSort) (pc := 28) (dk_at bnames00cX3_addSort_0 28)
theorem dX3_addSort_29 : decode cX3_addSort 29 = .ok (.aload_n 0, 1) := dk_42 (c := cX3_addSort) (pc := 29) (dk_at bnames00cX3_addSort_0 29)
theorem dX3_addSort_30 : decode cX3_addSort 30 = .ok (.getfield 24, 3) := dk_180 (c := cX3_addSort) (pc := 30) (a := 0) (b := 24) (dk_at bnames00cX3_addSort_0 30) rfl
theorem dX3_addSort_33 : decode cX3_addSort 33 = .ok (.aload_n 0, 1) := dk_42 (c := cX3_addSort) (pc := 33) (dk_at bnames00cX3_addSort_0 33)
theorem dX3_addSort_34 : decode cX3_addSort 34 = .ok (.getfield 52, 3) := dk_180 (c := cX3_addSort) (pc := 34) (a := 0) (b := 52) (dk_at bnames00cX3_addSort_0 34) rfl
theorem dX3_addSort_37 : decode cX3_addSort 37 = .ok (.iload_n 3, 1) := dk_29 (c := cX3_addSort) (pc := 37) (dk_at bnames00cX3_addSort_0 37)
theorem dX3_addSort_38 : decode cX3_addSort 38 = .ok (.iastore, 1) := dk_79 (c := cX3_addSort) (pc := 38) (dk_at bnames00cX3_addSort_0 38)
theorem dX3_addSort_39 : decode cX3_addSort 39 = .ok (.aload_n 0, 1) := dk_42 (c := cX3_addSort) (pc := 39) (dk_at bnames00cX3_addSort_0 39)
theorem dX3_addSort_40 : decode cX3_addSort 40 = .ok (.getfield 27, 3) := dk_180 (c := cX3_addSort) (pc := 40) (a := 0) (b := 27) (dk_at bnames00cX3_addSort_0 40) rfl
theorem dX3_addSort_43 : decode cX3_addSort 43 = .ok (.aload_n 0, 1) := dk_42 (c := cX3_addSort) (pc := 43) (dk_at bnames00cX3_addSort_0 43)
theorem dX3_addSort_44 : decode cX3_addSort 44 = .ok (.getfield 52, 3) := dk_180 (c := cX3_addSort) (pc := 44) (a := 0) (b := 52) (dk_at bnames00cX3_addSort_0 44) rfl
theorem dX3_addSort_47 : decode cX3_addSort 47 = .ok (.iload 4, 2) := dk_21 (c := cX3_addSort) (pc := 47) (a := 4) (dk_at bnames00cX3_addSort_0 47) rfl
theorem bnames00cX3_addSort_48 : ((dk_l cX3_addSort).drop 48).take 23 = [4, 79, 42, 89, 180, 0, 55, 27, 96, 181, 0, 55, 42, 89, 180, 0, 52, 4, 96, 181, 0, 52, 177] := by decide +kernel
theorem dX3_addSort_49 : decode cX3_addSort 49 = .ok (.iastore, 1) := dk_79 (c := cX3_addSort) (pc := 49) (dk_at bnames00cX3_addSort_48 1)
theorem dX3_addSort_50 : decode cX3_addSort 50 = .ok (.aload_n 0, 1) := dk_42 (c := cX3_addSort) (pc := 50) (dk_at bnames00cX3_addSort_48 2)
theorem dX3_addSort_51 : decode cX3_addSort 51 = .ok (.dup, 1) := dk_89 (c := cX3_addSort) (pc := 51) (dk_at bnames00cX3_addSort_48 3)
theorem dX3_addSort_52 : decode cX3_addSort 52 = .ok (.getfield 55, 3) := dk_180 (c := cX3_addSort) (pc := 52) (a := 0) (b := 55) (dk_at bnames00cX3_addSort_48 4) rfl
theorem dX3_addSort_55 : decode cX3_addSort 55 = .ok (.iload_n 1, 1) := dk_27 (c := cX3_addSort) (pc := 55) (dk_at bnames00cX3_addSort_48 7)
theorem dX3_addSort_56 : decode cX3_addSort 56 = .ok (.iadd, 1) := dk_96 (c := cX3_addSort) (pc := 56) (dk_at bnames00cX3_addSort_48 8)
theorem dX3_addSort_57 : decode cX3_addSort 57 = .ok (.putfield 55, 3) := dk_181 (c := cX3_addSort) (pc := 57) (a := 0) (b := 55) (dk_at bnames00cX3_addSort_48 9) rfl
theorem dX3_addSort_60 : decode cX3_addSort 60 = .ok (.aload_n 0, 1) := dk_42 (c := cX3_addSort) (pc := 60) (dk_at bnames00cX3_addSort_48 12)
theorem dX3_addSort_61 : decode cX3_addSort 61 = .ok (.dup, 1) := dk_89 (c := cX3_addSort) (pc := 61) (dk_at bnames00cX3_addSort_48 13)
theorem dX3_addSort_62 : decode cX3_addSort 62 = .ok (.getfield 52, 3) := dk_180 (c := cX3_addSort) (pc := 62) (a := 0) (b := 52) (dk_at bnames00cX3_addSort_48 14) rfl
theorem dX3_addSort_65 : decode cX3_addSort 65 = .ok (.iconst 1, 1) := dk_4 (c := cX3_addSort) (pc := 65) (dk_at bnames00cX3_addSort_48 17)
theorem dX3_addSort_66 : decode cX3_addSort 66 = .ok (.iadd, 1) := dk_96 (c := cX3_addSort) (pc := 66) (dk_at bnames00cX3_addSort_48 18)
theorem dX3_addSort_67 : decode cX3_addSort 67 = .ok (.putfield 52, 3) := dk_181 (c := cX3_addSort) (pc := 67) (a := 0) (b := 52) (dk_at bnames00cX3_addSort_48 19) rfl
theorem dX3_addSort_70 : decode cX3_addSort 70 = .ok (.return_, 1) := dk_177 (c := cX3_addSort) (pc := 70) (dk_at bnames00cX3_addSort_48 22)
theorem bnames00cX3_addPart_0 : ((dk_l cX3_addPart).drop 0).take 40 = [42, 180, 0, 58, 16, 120, 162, 0, 33, 42, 180, 0, 33, 42, 180, 0, 58, 27, 79, 42, 180, 0, 36, 42, 180, 0, 58, 28, 79, 42, 89, 180, 0, 58, 4, 96, 181, 0, 58, 177] := by decide +kernel
theorem dX3_addPart_0 : decode cX3_addPart 0 = .ok (.aload_n 0, 1) := dk_42 (c := cX3_addPart) (pc := 0) (dk_at bnames00cX3_addPart_0 0)
theorem dX3_addPart_1 : decode cX3_addPart 1 = .ok (.getfield 58, 3) := dk_180 (c := cX3_addPart) (pc := 1) (a := 0) (b := 58) (dk_at bnames00cX3_addPart_0 1) rfl
theorem dX3_addPart_4 : decode cX3_addPart 4 = .ok (.bipush 120, 2) := dk_16 (c := cX3_addPart) (pc := 4) (a := 120) (dk_at bnames00cX3_addPart_0 4) (by decide)
theorem dX3_addPart_6 : decode cX3_addPart 6 = .ok (.if_icmp .ge 33, 3) := dk_162 (c := cX3_addPart) (pc := 6) (a := 0) (b := 33) (dk_at bnames00cX3_addPart_0 6) (by decide)
theorem dX3_addPart_9 : decode cX3_addPart 9 = .ok (.aload_n 0, 1) := dk_42 (c := cX3_addPart) (pc := 9) (dk_at bnames00cX3_addPart_0 9)
theorem dX3_addPart_10 : decode cX3_addPart 10 = .ok (.getfield 33, 3) := dk_180 (c := cX3_addPart) (pc := 10) (a := 0) (b := 33) (dk_at bnames00cX3_addPart_0 10) rfl
theorem dX3_addPart_13 : decode cX3_addPart 13 = .ok (.aload_n 0, 1) := dk_42 (c := cX3_addPart) (pc := 13) (dk_at bnames00cX3_addPart_0 13)
theorem dX3_addPart_14 : decode cX3_addPart 14 = .ok (.getfield 58, 3) := dk_180 (c := cX3_addPart) (pc := 14) (a := 0) (b := 58) (dk_at bnames00cX3_addPart_0 14) rfl
theorem dX3_addPart_17 : decode cX3_addPart 17 = .ok (.iload_n 1, 1) := dk_27 (c := cX3_addPart) (pc := 17) (dk_at bnames00cX3_addPart_0 17)
theorem dX3_addPart_18 : decode cX3_addPart 18 = .ok (.iastore, 1) := dk_79 (c := cX3_addPart) (pc := 18) (dk_at bnames00cX3_addPart_0 18)
theorem dX3_addPart_19 : decode cX3_addPart 19 = .ok (.aload_n 0, 1) := dk_42 (c := cX3_addPart) (pc := 19) (dk_at bnames00cX3_addPart_0 19)
theorem dX3_addPart_20 : decode cX3_addPart 20 = .ok (.getfield 36, 3) := dk_180 (c := cX3_addPart) (pc := 20) (a := 0) (b := 36) (dk_at bnames00cX3_addPart_0 20) rfl
theorem dX3_addPart_23 : decode cX3_addPart 23 = .ok (.aload_n 0, 1) := dk_42 (c := cX3_addPart) (pc := 23) (dk_at bnames00cX3_addPart_0 23)
theorem dX3_addPart_24 : decode cX3_addPart 24 = .ok (.getfield 58, 3) := dk_180 (c := cX3_addPart) (pc := 24) (a := 0) (b := 58) (dk_at bnames00cX3_addPart_0 24) rfl
theorem dX3_addPart_27 : decode cX3_addPart 27 = .ok (.iload_n 2, 1) := dk_28 (c := cX3_addPart) (pc := 27) (dk_at bnames00cX3_addPart_0 27)
theorem dX3_addPart_28 : decode cX3_addPart 28 = .ok (.iastore, 1) := dk_79 (c := cX3_addPart) (pc := 28) (dk_at bnames00cX3_addPart_0 28)
theorem dX3_addPart_29 : decode cX3_addPart 29 = .ok (.aload_n 0, 1) := dk_42 (c := cX3_addPart) (pc := 29) (dk_at bnames00cX3_addPart_0 29)
theorem dX3_addPart_30 : decode cX3_addPart 30 = .ok (.dup, 1) := dk_89 (c := cX3_addPart) (pc := 30) (dk_at bnames00cX3_addPart_0 30)
theorem dX3_addPart_31 : decode cX3_addPart 31 = .ok (.getfield 58, 3) := dk_180 (c := cX3_addPart) (pc := 31) (a := 0) (b := 58) (dk_at bnames00cX3_addPart_0 31) rfl
theorem dX3_addPart_34 : decode cX3_addPart 34 = .ok (.iconst 1, 1) := dk_4 (c := cX3_addPart) (pc := 34) (dk_at bnames00cX3_addPart_0 34)
theorem dX3_addPart_35 : decode cX3_addPart 35 = .ok (.iadd, 1) := dk_96 (c := cX3_addPart) (pc := 35) (dk_at bnames00cX3_addPart_0 35)
theorem dX3_addPart_36 : decode cX3_addPart 36 = .ok (.putfield 58, 3) := dk_181 (c := cX3_addPart) (pc := 36) (a := 0) (b := 58) (dk_at bnames00cX3_addPart_0 36) rfl
theorem dX3_addPart_39 : decode cX3_addPart 39 = .ok (.return_, 1) := dk_177 (c := cX3_addPart) (pc := 39) (dk_at bnames00cX3_addPart_0 39)
theorem bnames00cX3_hasState_0 : ((dk_l cX3_hasState).drop 0).take 18 = [27, 155, 0, 15, 27, 42, 180, 0, 49, 162, 0, 7, 4, 167, 0, 4, 3, 172] := by decide +kernel
theorem dX3_hasState_0 : decode cX3_hasState 0 = .ok (.iload_n 1, 1) := dk_27 (c := cX3_hasState) (pc := 0) (dk_at bnames00cX3_hasState_0 0)
theorem dX3_hasState_1 : decode cX3_hasState 1 = .ok (.ifCond .lt 15, 3) := dk_155 (c := cX3_hasState) (pc := 1) (a := 0) (b := 15) (dk_at bnames00cX3_hasState_0 1) (by decide)
theorem dX3_hasState_4 : decode cX3_hasState 4 = .ok (.iload_n 1, 1) := dk_27 (c := cX3_hasState) (pc := 4) (dk_at bnames00cX3_hasState_0 4)
theorem dX3_hasState_5 : decode cX3_hasState 5 = .ok (.aload_n 0, 1) := dk_42 (c := cX3_hasState) (pc := 5) (dk_at bnames00cX3_hasState_0 5)
theorem dX3_hasState_6 : decode cX3_hasState 6 = .ok (.getfield 49, 3) := dk_180 (c := cX3_hasState) (pc := 6) (a := 0) (b := 49) (dk_at bnames00cX3_hasState_0 6) rfl
theorem dX3_hasState_9 : decode cX3_hasState 9 = .ok (.if_icmp .ge 7, 3) := dk_162 (c := cX3_hasState) (pc := 9) (a := 0) (b := 7) (dk_at bnames00cX3_hasState_0 9) (by decide)
theorem dX3_hasState_12 : decode cX3_hasState 12 = .ok (.iconst 1, 1) := dk_4 (c := cX3_hasState) (pc := 12) (dk_at bnames00cX3_hasState_0 12)
theorem dX3_hasState_13 : decode cX3_hasState 13 = .ok (.goto 4, 3) := dk_167 (c := cX3_hasState) (pc := 13) (a := 0) (b := 4) (dk_at bnames00cX3_hasState_0 13) (by decide)
theorem dX3_hasState_16 : decode cX3_hasState 16 = .ok (.iconst 0, 1) := dk_3 (c := cX3_hasState) (pc := 16) (dk_at bnames00cX3_hasState_0 16)
theorem dX3_hasState_17 : decode cX3_hasState 17 = .ok (.ireturn, 1) := dk_172 (c := cX3_hasState) (pc := 17) (dk_at bnames00cX3_hasState_0 17)
set_option maxRecDepth 20000 in
theorem ggX3_hasLeak_X8_isMonth : GoodIn wsX3_hasLeak wsX8_isMonth := goodIn_r _ [4, 5, 6, 3, 7] rfl (by decide +kernel)
set_option maxRecDepth 20000 in
theorem gX3_hasLeak_X8_isMonth_n74 : GoodIn wsX3_hasLeak (wsX8_isMonth) := ggX3_hasLeak_X8_isMonth
theorem bnames00cX3_hasLeak_0 : ((dk_l cX3_hasLeak).drop 0).take 23 = [27, 184, 0, 74, 153, 0, 17, 42, 180, 0, 30, 27, 46, 2, 159, 0, 7, 4, 167, 0, 4, 3, 172] := by decide +kernel
theorem dX3_hasLeak_0 : decode cX3_hasLeak 0 = .ok (.iload_n 1, 1) := dk_27 (c := cX3_hasLeak) (pc := 0) (dk_at bnames00cX3_hasLeak_0 0)
theorem dX3_hasLeak_1 : decode cX3_hasLeak 1 = .ok (.invokestatic 74, 3) := dk_184 (c := cX3_hasLeak) (pc := 1) (a := 0) (b := 74) (dk_at bnames00cX3_hasLeak_0 1) rfl
theorem dX3_hasLeak_4 : decode cX3_hasLeak 4 = .ok (.ifCond .eq 17, 3) := dk_153 (c := cX3_hasLeak) (pc := 4) (a := 0) (b := 17) (dk_at bnames00cX3_hasLeak_0 4) (by decide)
theorem dX3_hasLeak_7 : decode cX3_hasLeak 7 = .ok (.aload_n 0, 1) := dk_42 (c := cX3_hasLeak) (pc := 7) (dk_at bnames00cX3_hasLeak_0 7)
theorem dX3_hasLeak_8 : decode cX3_hasLeak 8 = .ok (.getfield 30, 3) := dk_180 (c := cX3_hasLeak) (pc := 8) (a := 0) (b := 30) (dk_at bnames00cX3_hasLeak_0 8) rfl
theorem dX3_hasLeak_11 : decode cX3_hasLeak 11 = .ok (.iload_n 1, 1) := dk_27 (c := cX3_hasLeak) (pc := 11) (dk_at bnames00cX3_hasLeak_0 11)
theorem dX3_hasLeak_12 : decode cX3_hasLeak 12 = .ok (.iaload, 1) := dk_46 (c := cX3_hasLeak) (pc := 12) (dk_at bnames00cX3_hasLeak_0 12)
theorem dX3_hasLeak_13 : decode cX3_hasLeak 13 = .ok (.iconst (-1), 1) := dk_2 (c := cX3_hasLeak) (pc := 13) (dk_at bnames00cX3_hasLeak_0 13)
theorem dX3_hasLeak_14 : decode cX3_hasLeak 14 = .ok (.if_icmp .eq 7, 3) := dk_159 (c := cX3_hasLeak) (pc := 14) (a := 0) (b := 7) (dk_at bnames00cX3_hasLeak_0 14) (by decide)
theorem dX3_hasLeak_17 : decode cX3_hasLeak 17 = .ok (.iconst 1, 1) := dk_4 (c := cX3_hasLeak) (pc := 17) (dk_at bnames00cX3_hasLeak_0 17)
theorem dX3_hasLeak_18 : decode cX3_hasLeak 18 = .ok (.goto 4, 3) := dk_167 (c := cX3_hasLeak) (pc := 18) (a := 0) (b := 4) (dk_at bnames00cX3_hasLeak_0 18) (by decide)
theorem dX3_hasLeak_21 : decode cX3_hasLeak 21 = .ok (.iconst 0, 1) := dk_3 (c := cX3_hasLeak) (pc := 21) (dk_at bnames00cX3_hasLeak_0 21)
theorem dX3_hasLeak_22 : decode cX3_hasLeak 22 = .ok (.ireturn, 1) := dk_172 (c := cX3_hasLeak) (pc := 22) (dk_at bnames00cX3_hasLeak_0 22)
set_option maxRecDepth 20000 in
theorem ggX3_leakOf_X3_hasLeak : GoodIn wsX3_leakOf wsX3_hasLeak := goodIn_r _ [6, 1, 7, 8, 9, 10, 11, 12, 13, 14, 15, 16, 17, 18, 19, 20, 21, 22, 23, 24, 25, 26, 27, 28] rfl (by decide +kernel)
set_option maxRecDepth 20000 in
theorem gX3_leakOf_X3_hasLeak : GoodIn wsX3_leakOf (wsV RX3 78 RX3 yX3_hasLeak wsX3_hasLeak) := goodIn_app (goodIn_r _ [2, 3, 4, 5] rfl (by decide +kernel)) ggX3_leakOf_X3_hasLeak
theorem bnames00cX3_leakOf_0 : ((dk_l cX3_leakOf).drop 0).take 19 = [42, 27, 182, 0, 78, 153, 0, 12, 42, 180, 0, 30, 27, 46, 167, 0, 4, 3, 172] := by decide +kernel
theorem dX3_leakOf_0 : decode cX3_leakOf 0 = .ok (.aload_n 0, 1) := dk_42 (c := cX3_leakOf) (pc := 0) (dk_at bnames00cX3_leakOf_0 0)
theorem dX3_leakOf_1 : decode cX3_leakOf 1 = .ok (.iload_n 1, 1) := dk_27 (c := cX3_leakOf) (pc := 1) (dk_at bnames00cX3_leakOf_0 1)
theorem dX3_leakOf_2 : decode cX3_leakOf 2 = .ok (.invokevirtual 78, 3) := dk_182 (c := cX3_leakOf) (pc := 2) (a := 0) (b := 78) (dk_at bnames00cX3_leakOf_0 2) rfl
theorem dX3_leakOf_5 : decode cX3_leakOf 5 = .ok (.ifCond .eq 12, 3) := dk_153 (c := cX3_leakOf) (pc := 5) (a := 0) (b := 12) (dk_at bnames00cX3_leakOf_0 5) (by decide)
theorem dX3_leakOf_8 : decode cX3_leakOf 8 = .ok (.aload_n 0, 1) := dk_42 (c := cX3_leakOf) (pc := 8) (dk_at bnames00cX3_leakOf_0 8)
theorem dX3_leakOf_9 : decode cX3_leakOf 9 = .ok (.getfield 30, 3) := dk_180 (c := cX3_leakOf) (pc := 9) (a := 0) (b := 30) (dk_at bnames00cX3_leakOf_0 9) rfl
theorem dX3_leakOf_12 : decode cX3_leakOf 12 = .ok (.iload_n 1, 1) := dk_27 (c := cX3_leakOf) (pc := 12) (dk_at bnames00cX3_leakOf_0 12)
theorem dX3_leakOf_13 : decode cX3_leakOf 13 = .ok (.iaload, 1) := dk_46 (c := cX3_leakOf) (pc := 13) (dk_at bnames00cX3_leakOf_0 13)
theorem dX3_leakOf_14 : decode cX3_leakOf 14 = .ok (.goto 4, 3) := dk_167 (c := cX3_leakOf) (pc := 14) (a := 0) (b := 4) (dk_at bnames00cX3_leakOf_0 14) (by decide)
theorem dX3_leakOf_17 : decode cX3_leakOf 17 = .ok (.iconst 0, 1) := dk_3 (c := cX3_leakOf) (pc := 17) (dk_at bnames00cX3_leakOf_0 17)
theorem dX3_leakOf_18 : decode cX3_leakOf 18 = .ok (.ireturn, 1) := dk_172 (c := cX3_leakOf) (pc := 18) (dk_at bnames00cX3_leakOf_0 18)
theorem bnames00cX3_canBeDrawnFrom_0 : ((dk_l cX3_canBeDrawnFrom).drop 0).take 20 = [42, 180, 0, 49, 158, 0, 14, 42, 180, 0, 52, 158, 0, 7, 4, 167, 0, 4, 3, 172] := by decide +kernel
theorem dX3_canBeDrawnFrom_0 : decode cX3_canBeDrawnFrom 0 = .ok (.aload_n 0, 1) := dk_42 (c := cX3_canBeDrawnFrom) (pc := 0) (dk_at bnames00cX3_canBeDrawnFrom_0 0)
theorem dX3_canBeDrawnFrom_1 : decode cX3_canBeDrawnFrom 1 = .ok (.getfield 49, 3) := dk_180 (c := cX3_canBeDrawnFrom) (pc := 1) (a := 0) (b := 49) (dk_at bnames00cX3_canBeDrawnFrom_0 1) rfl
theorem dX3_canBeDrawnFrom_4 : decode cX3_canBeDrawnFrom 4 = .ok (.ifCond .le 14, 3) := dk_158 (c := cX3_canBeDrawnFrom) (pc := 4) (a := 0) (b := 14) (dk_at bnames00cX3_canBeDrawnFrom_0 4) (by decide)
theorem dX3_canBeDrawnFrom_7 : decode cX3_canBeDrawnFrom 7 = .ok (.aload_n 0, 1) := dk_42 (c := cX3_canBeDrawnFrom) (pc := 7) (dk_at bnames00cX3_canBeDrawnFrom_0 7)
theorem dX3_canBeDrawnFrom_8 : decode cX3_canBeDrawnFrom 8 = .ok (.getfield 52, 3) := dk_180 (c := cX3_canBeDrawnFrom) (pc := 8) (a := 0) (b := 52) (dk_at bnames00cX3_canBeDrawnFrom_0 8) rfl
theorem dX3_canBeDrawnFrom_11 : decode cX3_canBeDrawnFrom 11 = .ok (.ifCond .le 7, 3) := dk_158 (c := cX3_canBeDrawnFrom) (pc := 11) (a := 0) (b := 7) (dk_at bnames00cX3_canBeDrawnFrom_0 11) (by decide)
theorem dX3_canBeDrawnFrom_14 : decode cX3_canBeDrawnFrom 14 = .ok (.iconst 1, 1) := dk_4 (c := cX3_canBeDrawnFrom) (pc := 14) (dk_at bnames00cX3_canBeDrawnFrom_0 14)
theorem dX3_canBeDrawnFrom_15 : decode cX3_canBeDrawnFrom 15 = .ok (.goto 4, 3) := dk_167 (c := cX3_canBeDrawnFrom) (pc := 15) (a := 0) (b := 4) (dk_at bnames00cX3_canBeDrawnFrom_0 15) (by decide)
theorem dX3_canBeDrawnFrom_18 : decode cX3_canBeDrawnFrom 18 = .ok (.iconst 0, 1) := dk_3 (c := cX3_canBeDrawnFrom) (pc := 18) (dk_at bnames00cX3_canBeDrawnFrom_0 18)
theorem dX3_canBeDrawnFrom_19 : decode cX3_canBeDrawnFrom 19 = .ok (.ireturn, 1) := dk_172 (c := cX3_canBeDrawnFrom) (pc := 19) (dk_at bnames00cX3_canBeDrawnFrom_0 19)
theorem bnames00cX3_oldAt_0 : ((dk_l cX3_oldAt).drop 0).take 15 = [16, 12, 42, 180, 0, 9, 27, 46, 104, 16, 9, 96, 28, 100, 172] := by decide +kernel
theorem dX3_oldAt_0 : decode cX3_oldAt 0 = .ok (.bipush 12, 2) := dk_16 (c := cX3_oldAt) (pc := 0) (a := 12) (dk_at bnames00cX3_oldAt_0 0) (by decide)
theorem dX3_oldAt_2 : decode cX3_oldAt 2 = .ok (.aload_n 0, 1) := dk_42 (c := cX3_oldAt) (pc := 2) (dk_at bnames00cX3_oldAt_0 2)
theorem dX3_oldAt_3 : decode cX3_oldAt 3 = .ok (.getfield 9, 3) := dk_180 (c := cX3_oldAt) (pc := 3) (a := 0) (b := 9) (dk_at bnames00cX3_oldAt_0 3) rfl
theorem dX3_oldAt_6 : decode cX3_oldAt 6 = .ok (.iload_n 1, 1) := dk_27 (c := cX3_oldAt) (pc := 6) (dk_at bnames00cX3_oldAt_0 6)
theorem dX3_oldAt_7 : decode cX3_oldAt 7 = .ok (.iaload, 1) := dk_46 (c := cX3_oldAt) (pc := 7) (dk_at bnames00cX3_oldAt_0 7)
theorem dX3_oldAt_8 : decode cX3_oldAt 8 = .ok (.imul, 1) := dk_104 (c := cX3_oldAt) (pc := 8) (dk_at bnames00cX3_oldAt_0 8)
theorem dX3_oldAt_9 : decode cX3_oldAt 9 = .ok (.bipush 9, 2) := dk_16 (c := cX3_oldAt) (pc := 9) (a := 9) (dk_at bnames00cX3_oldAt_0 9) (by decide)
theorem dX3_oldAt_11 : decode cX3_oldAt 11 = .ok (.iadd, 1) := dk_96 (c := cX3_oldAt) (pc := 11) (dk_at bnames00cX3_oldAt_0 11)
theorem dX3_oldAt_12 : decode cX3_oldAt 12 = .ok (.iload_n 2, 1) := dk_28 (c := cX3_oldAt) (pc := 12) (dk_at bnames00cX3_oldAt_0 12)
theorem dX3_oldAt_13 : decode cX3_oldAt 13 = .ok (.isub, 1) := dk_100 (c := cX3_oldAt) (pc := 13) (dk_at bnames00cX3_oldAt_0 13)
theorem dX3_oldAt_14 : decode cX3_oldAt 14 = .ok (.ireturn, 1) := dk_172 (c := cX3_oldAt) (pc := 14) (dk_at bnames00cX3_oldAt_0 14)
set_option maxRecDepth 20000 in
theorem ggX3_forcedAt_X3_oldAt : GoodIn wsX3_forcedAt wsX3_oldAt := goodIn_r _ [6, 7, 8, 9, 10, 11, 12, 13, 14, 15, 16, 17, 18, 19, 20, 21, 22, 23] rfl (by decide +kernel)
set_option maxRecDepth 20000 in
theorem gX3_forcedAt_X3_oldAt : GoodIn wsX3_forcedAt (wsV RX3 81 RX3 yX3_oldAt wsX3_oldAt) := goodIn_app (goodIn_r _ [2, 3, 4, 5] rfl (by decide +kernel)) ggX3_forcedAt_X3_oldAt
theorem bnames00cX3_forcedAt_0 : ((dk_l cX3_forcedAt).drop 0).take 17 = [16, 12, 42, 180, 0, 15, 27, 46, 104, 42, 27, 28, 182, 0, 81, 100, 172] := by decide +kernel
theorem dX3_forcedAt_0 : decode cX3_forcedAt 0 = .ok (.bipush 12, 2) := dk_16 (c := cX3_forcedAt) (pc := 0) (a := 12) (dk_at bnames00cX3_forcedAt_0 0) (by decide)
theorem dX3_forcedAt_2 : decode cX3_forcedAt 2 = .ok (.aload_n 0, 1) := dk_42 (c := cX3_forcedAt) (pc := 2) (dk_at bnames00cX3_forcedAt_0 2)
theorem dX3_forcedAt_3 : decode cX3_forcedAt 3 = .ok (.getfield 15, 3) := dk_180 (c := cX3_forcedAt) (pc := 3) (a := 0) (b := 15) (dk_at bnames00cX3_forcedAt_0 3) rfl
theorem dX3_forcedAt_6 : decode cX3_forcedAt 6 = .ok (.iload_n 1, 1) := dk_27 (c := cX3_forcedAt) (pc := 6) (dk_at bnames00cX3_forcedAt_0 6)
theorem dX3_forcedAt_7 : decode cX3_forcedAt 7 = .ok (.iaload, 1) := dk_46 (c := cX3_forcedAt) (pc := 7) (dk_at bnames00cX3_forcedAt_0 7)
theorem dX3_forcedAt_8 : decode cX3_forcedAt 8 = .ok (.imul, 1) := dk_104 (c := cX3_forcedAt) (pc := 8) (dk_at bnames00cX3_forcedAt_0 8)
theorem dX3_forcedAt_9 : decode cX3_forcedAt 9 = .ok (.aload_n 0, 1) := dk_42 (c := cX3_forcedAt) (pc := 9) (dk_at bnames00cX3_forcedAt_0 9)
theorem dX3_forcedAt_10 : decode cX3_forcedAt 10 = .ok (.iload_n 1, 1) := dk_27 (c := cX3_forcedAt) (pc := 10) (dk_at bnames00cX3_forcedAt_0 10)
theorem dX3_forcedAt_11 : decode cX3_forcedAt 11 = .ok (.iload_n 2, 1) := dk_28 (c := cX3_forcedAt) (pc := 11) (dk_at bnames00cX3_forcedAt_0 11)
theorem dX3_forcedAt_12 : decode cX3_forcedAt 12 = .ok (.invokevirtual 81, 3) := dk_182 (c := cX3_forcedAt) (pc := 12) (a := 0) (b := 81) (dk_at bnames00cX3_forcedAt_0 12) rfl
theorem dX3_forcedAt_15 : decode cX3_forcedAt 15 = .ok (.isub, 1) := dk_100 (c := cX3_forcedAt) (pc := 15) (dk_at bnames00cX3_forcedAt_0 15)
theorem dX3_forcedAt_16 : decode cX3_forcedAt 16 = .ok (.ireturn, 1) := dk_172 (c := cX3_forcedAt) (pc := 16) (dk_at bnames00cX3_forcedAt_0 16)
theorem bnames00cX3_sortAt_0 : ((dk_l cX3_sortAt).drop 0).take 36 = [3, 61, 3, 62, 29, 42, 180, 0, 52, 162, 0, 25, 28, 42, 180, 0, 18, 29, 46, 96, 61, 28, 27, 164, 0, 5, 29, 172, 132, 3, 1, 167, 255, 229, 3, 172] := by decide +kernel
theorem dX3_sortAt_0 : decode cX3_sortAt 0 = .ok (.iconst 0, 1) := dk_3 (c := cX3_sortAt) (pc := 0) (dk_at bnames00cX3_sortAt_0 0)
theorem dX3_sortAt_1 : decode cX3_sortAt 1 = .ok (.istore_n 2, 1) := dk_61 (c := cX3_sortAt) (pc := 1) (dk_at bnames00cX3_sortAt_0 1)
theorem dX3_sortAt_2 : decode cX3_sortAt 2 = .ok (.iconst 0, 1) := dk_3 (c := cX3_sortAt) (pc := 2) (dk_at bnames00cX3_sortAt_0 2)
theorem dX3_sortAt_3 : decode cX3_sortAt 3 = .ok (.istore_n 3, 1) := dk_62 (c := cX3_sortAt) (pc := 3) (dk_at bnames00cX3_sortAt_0 3)
theorem dX3_sortAt_4 : decode cX3_sortAt 4 = .ok (.iload_n 3, 1) := dk_29 (c := cX3_sortAt) (pc := 4) (dk_at bnames00cX3_sortAt_0 4)
theorem dX3_sortAt_5 : decode cX3_sortAt 5 = .ok (.aload_n 0, 1) := dk_42 (c := cX3_sortAt) (pc := 5) (dk_at bnames00cX3_sortAt_0 5)
theorem dX3_sortAt_6 : decode cX3_sortAt 6 = .ok (.getfield 52, 3) := dk_180 (c := cX3_sortAt) (pc := 6) (a := 0) (b := 52) (dk_at bnames00cX3_sortAt_0 6) rfl
theorem dX3_sortAt_9 : decode cX3_sortAt 9 = .ok (.if_icmp .ge 25, 3) := dk_162 (c := cX3_sortAt) (pc := 9) (a := 0) (b := 25) (dk_at bnames00cX3_sortAt_0 9) (by decide)
theorem dX3_sortAt_12 : decode cX3_sortAt 12 = .ok (.iload_n 2, 1) := dk_28 (c := cX3_sortAt) (pc := 12) (dk_at bnames00cX3_sortAt_0 12)
theorem dX3_sortAt_13 : decode cX3_sortAt 13 = .ok (.aload_n 0, 1) := dk_42 (c := cX3_sortAt) (pc := 13) (dk_at bnames00cX3_sortAt_0 13)
theorem dX3_sortAt_14 : decode cX3_sortAt 14 = .ok (.getfield 18, 3) := dk_180 (c := cX3_sortAt) (pc := 14) (a := 0) (b := 18) (dk_at bnames00cX3_sortAt_0 14) rfl
theorem dX3_sortAt_17 : decode cX3_sortAt 17 = .ok (.iload_n 3, 1) := dk_29 (c := cX3_sortAt) (pc := 17) (dk_at bnames00cX3_sortAt_0 17)
theorem dX3_sortAt_18 : decode cX3_sortAt 18 = .ok (.iaload, 1) := dk_46 (c := cX3_sortAt) (pc := 18) (dk_at bnames00cX3_sortAt_0 18)
theorem dX3_sortAt_19 : decode cX3_sortAt 19 = .ok (.iadd, 1) := dk_96 (c := cX3_sortAt) (pc := 19) (dk_at bnames00cX3_sortAt_0 19)
theorem dX3_sortAt_20 : decode cX3_sortAt 20 = .ok (.istore_n 2, 1) := dk_61 (c := cX3_sortAt) (pc := 20) (dk_at bnames00cX3_sortAt_0 20)
theorem dX3_sortAt_21 : decode cX3_sortAt 21 = .ok (.iload_n 2, 1) := dk_28 (c := cX3_sortAt) (pc := 21) (dk_at bnames00cX3_sortAt_0 21)
theorem dX3_sortAt_22 : decode cX3_sortAt 22 = .ok (.iload_n 1, 1) := dk_27 (c := cX3_sortAt) (pc := 22) (dk_at bnames00cX3_sortAt_0 22)
theorem dX3_sortAt_23 : decode cX3_sortAt 23 = .ok (.if_icmp .le 5, 3) := dk_164 (c := cX3_sortAt) (pc := 23) (a := 0) (b := 5) (dk_at bnames00cX3_sortAt_0 23) (by decide)
theorem dX3_sortAt_26 : decode cX3_sortAt 26 = .ok (.iload_n 3, 1) := dk_29 (c := cX3_sortAt) (pc := 26) (dk_at bnames00cX3_sortAt_0 26)
theorem dX3_sortAt_27 : decode cX3_sortAt 27 = .ok (.ireturn, 1) := dk_172 (c := cX3_sortAt) (pc := 27) (dk_at bnames00cX3_sortAt_0 27)
theorem dX3_sortAt_28 : decode cX3_sortAt 28 = .ok (.iinc 3 1, 3) := dk_132 (c := cX3_sortAt) (pc := 28) (a := 3) (b := 1) (dk_at bnames00cX3_sortAt_0 28) rfl (by decide)
theorem dX3_sortAt_31 : decode cX3_sortAt 31 = .ok (.goto (-27), 3) := dk_167 (c := cX3_sortAt) (pc := 31) (a := 255) (b := 229) (dk_at bnames00cX3_sortAt_0 31) (by decide)
theorem dX3_sortAt_34 : decode cX3_sortAt 34 = .ok (.iconst 0, 1) := dk_3 (c := cX3_sortAt) (pc := 34) (dk_at bnames00cX3_sortAt_0 34)
theorem dX3_sortAt_35 : decode cX3_sortAt 35 = .ok (.ireturn, 1) := dk_172 (c := cX3_sortAt) (pc := 35) (dk_at bnames00cX3_sortAt_0 35)
set_option maxRecDepth 20000 in
theorem ggX3_payFor_X3_partAt : GoodIn wsX3_payFor wsX3_partAt := goodIn_r _ [8, 9, 10, 11, 7, 12, 13, 14, 15, 16, 17, 18, 35, 36, 37, 38, 39, 40, 41, 42, 43, 44, 45, 46, 47, 48, 49, 50] rfl (by decide +kernel)
set_option maxRecDepth 20000 in
theorem gX3_payFor_X3_partAt : GoodIn wsX3_payFor (wsV RX3 85 RX3 yX3_partAt wsX3_partAt) := goodIn_app (goodIn_r _ [4, 5, 6, 7] rfl (by decide +kernel)) ggX3_payFor_X3_partAt
set_option maxRecDepth 20000 in
theorem ggX3_payFor_X3_isTooFar : GoodIn wsX3_payFor wsX3_isTooFar := goodIn_r _ [21, 22, 23] rfl (by decide +kernel)
set_option maxRecDepth 20000 in
theorem gX3_payFor_X3_isTooFar : GoodIn wsX3_payFor (va_wsS RX3 89 yX3_isTooFar wsX3_isTooFar) := goodIn_app (goodIn_r _ [19, 20, 7] rfl (by decide +kernel)) ggX3_payFor_X3_isTooFar
set_option maxRecDepth 20000 in
theorem ggX3_payFor_X8_cutToWage : GoodIn wsX3_payFor wsX8_cutToWage := goodIn_r _ [26, 27, 28, 29, 30, 31, 32, 33, 34] rfl (by decide +kernel)
set_option maxRecDepth 20000 in
theorem gX3_payFor_X8_cutToWage_n93 : GoodIn wsX3_payFor (wsX8_cutToWage) := ggX3_payFor_X8_cutToWage
theorem bnames00cX3_payFor_0 : ((dk_l cX3_payFor).drop 0).take 52 = [9, 55, 5, 9, 55, 7, 4, 54, 9, 3, 54, 10, 21, 10, 42, 180, 0, 58, 162, 0, 130, 42, 42, 180, 0, 36, 21, 10, 46, 27, 28, 29, 21, 4, 182, 0, 85, 133, 55, 11, 42, 180, 0, 33, 21, 10, 46, 5, 160, 0, 13, 22] := by decide +kernel
theorem dX3_payFor_0 : decode cX3_payFor 0 = .ok (.lconst 0, 1) := dk_9 (c := cX3_payFor) (pc := 0) (dk_at bnames00cX3_payFor_0 0)
theorem dX3_payFor_1 : decode cX3_payFor 1 = .ok (.lstore 5, 2) := dk_55 (c := cX3_payFor) (pc := 1) (a := 5) (dk_at bnames00cX3_payFor_0 1) rfl
theorem dX3_payFor_3 : decode cX3_payFor 3 = .ok (.lconst 0, 1) := dk_9 (c := cX3_payFor) (pc := 3) (dk_at bnames00cX3_payFor_0 3)
theorem dX3_payFor_4 : decode cX3_payFor 4 = .ok (.lstore 7, 2) := dk_55 (c := cX3_payFor) (pc := 4) (a := 7) (dk_at bnames00cX3_payFor_0 4) rfl
theorem dX3_payFor_6 : decode cX3_payFor 6 = .ok (.iconst 1, 1) := dk_4 (c := cX3_payFor) (pc := 6) (dk_at bnames00cX3_payFor_0 6)
theorem dX3_payFor_7 : decode cX3_payFor 7 = .ok (.istore 9, 2) := dk_54 (c := cX3_payFor) (pc := 7) (a := 9) (dk_at bnames00cX3_payFor_0 7) rfl
theorem dX3_payFor_9 : decode cX3_payFor 9 = .ok (.iconst 0, 1) := dk_3 (c := cX3_payFor) (pc := 9) (dk_at bnames00cX3_payFor_0 9)
theorem dX3_payFor_10 : decode cX3_payFor 10 = .ok (.istore 10, 2) := dk_54 (c := cX3_payFor) (pc := 10) (a := 10) (dk_at bnames00cX3_payFor_0 10) rfl
theorem dX3_payFor_12 : decode cX3_payFor 12 = .ok (.iload 10, 2) := dk_21 (c := cX3_payFor) (pc := 12) (a := 10) (dk_at bnames00cX3_payFor_0 12) rfl
theorem dX3_payFor_14 : decode cX3_payFor 14 = .ok (.aload_n 0, 1) := dk_42 (c := cX3_payFor) (pc := 14) (dk_at bnames00cX3_payFor_0 14)
theorem dX3_payFor_15 : decode cX3_payFor 15 = .ok (.getfield 58, 3) := dk_180 (c := cX3_payFor) (pc := 15) (a := 0) (b := 58) (dk_at bnames00cX3_payFor_0 15) rfl
theorem dX3_payFor_18 : decode cX3_payFor 18 = .ok (.if_icmp .ge 130, 3) := dk_162 (c := cX3_payFor) (pc := 18) (a := 0) (b := 130) (dk_at bnames00cX3_payFor_0 18) (by decide)
theorem dX3_payFor_21 : decode cX3_payFor 21 = .ok (.aload_n 0, 1) := dk_42 (c := cX3_payFor) (pc := 21) (dk_at bnames00cX3_payFor_0 21)
theorem dX3_payFor_22 : decode cX3_payFor 22 = .ok (.aload_n 0, 1) := dk_42 (c := cX3_payFor) (pc := 22) (dk_at bnames00cX3_payFor_0 22)
theorem dX3_payFor_23 : decode cX3_payFor 23 = .ok (.getfield 36, 3) := dk_180 (c := cX3_payFor) (pc := 23) (a := 0) (b := 36) (dk_at bnames00cX3_payFor_0 23) rfl
theorem dX3_payFor_26 : decode cX3_payFor 26 = .ok (.iload 10, 2) := dk_21 (c := cX3_payFor) (pc := 26) (a := 10) (dk_at bnames00cX3_payFor_0 26) rfl
theorem dX3_payFor_28 : decode cX3_payFor 28 = .ok (.iaload, 1) := dk_46 (c := cX3_payFor) (pc := 28) (dk_at bnames00cX3_payFor_0 28)
theorem dX3_payFor_29 : decode cX3_payFor 29 = .ok (.iload_n 1, 1) := dk_27 (c := cX3_payFor) (pc := 29) (dk_at bnames00cX3_payFor_0 29)
theorem dX3_payFor_30 : decode cX3_payFor 30 = .ok (.iload_n 2, 1) := dk_28 (c := cX3_payFor) (pc := 30) (dk_at bnames00cX3_payFor_0 30)
theorem dX3_payFor_31 : decode cX3_payFor 31 = .ok (.iload_n 3, 1) := dk_29 (c := cX3_payFor) (pc := 31) (dk_at bnames00cX3_payFor_0 31)
theorem dX3_payFor_32 : decode cX3_payFor 32 = .ok (.iload 4, 2) := dk_21 (c := cX3_payFor) (pc := 32) (a := 4) (dk_at bnames00cX3_payFor_0 32) rfl
theorem dX3_payFor_34 : decode cX3_payFor 34 = .ok (.invokevirtual 85, 3) := dk_182 (c := cX3_payFor) (pc := 34) (a := 0) (b := 85) (dk_at bnames00cX3_payFor_0 34) rfl
theorem dX3_payFor_37 : decode cX3_payFor 37 = .ok (.i2l, 1) := dk_133 (c := cX3_payFor) (pc := 37) (dk_at bnames00cX3_payFor_0 37)
theorem dX3_payFor_38 : decode cX3_payFor 38 = .ok (.lstore 11, 2) := dk_55 (c := cX3_payFor) (pc := 38) (a := 11) (dk_at bnames00cX3_payFor_0 38) rfl
theorem dX3_payFor_40 : decode cX3_payFor 40 = .ok (.aload_n 0, 1) := dk_42 (c := cX3_payFor) (pc := 40) (dk_at bnames00cX3_payFor_0 40)
theorem dX3_payFor_41 : decode cX3_payFor 41 = .ok (.getfield 33, 3) := dk_180 (c := cX3_payFor) (pc := 41) (a := 0) (b := 33) (dk_at bnames00cX3_payFor_0 41) rfl
theorem dX3_payFor_44 : decode cX3_payFor 44 = .ok (.iload 10, 2) := dk_21 (c := cX3_payFor) (pc := 44) (a := 10) (dk_at bnames00cX3_payFor_0 44) rfl
theorem dX3_payFor_46 : decode cX3_payFor 46 = .ok (.iaload, 1) := dk_46 (c := cX3_payFor) (pc := 46) (dk_at bnames00cX3_payFor_0 46)
theorem dX3_payFor_47 : decode cX3_payFor 47 = .ok (.iconst 2, 1) := dk_5 (c := cX3_payFor) (pc := 47) (dk_at bnames00cX3_payFor_0 47)
theorem bnames00cX3_payFor_48 : ((dk_l cX3_payFor).drop 48).take 52 = [160, 0, 13, 22, 7, 22, 11, 105, 55, 7, 167, 0, 66, 42, 180, 0, 33, 21, 10, 46, 6, 160, 0, 22, 22, 11, 9, 148, 154, 0, 5, 3, 172, 22, 7, 22, 11, 109, 55, 7, 167, 0, 36, 22, 5, 21, 9, 133, 22, 7, 105, 97] := by decide +kernel
theorem dX3_payFor_48 : decode cX3_payFor 48 = .ok (.if_icmp .ne 13, 3) := dk_160 (c := cX3_payFor) (pc := 48) (a := 0) (b := 13) (dk_at bnames00cX3_payFor_48 0) (by decide)
theorem dX3_payFor_51 : decode cX3_payFor 51 = .ok (.lload 7, 2) := dk_22 (c := cX3_payFor) (pc := 51) (a := 7) (dk_at bnames00cX3_payFor_48 3) rfl
theorem dX3_payFor_53 : decode cX3_payFor 53 = .ok (.lload 11, 2) := dk_22 (c := cX3_payFor) (pc := 53) (a := 11) (dk_at bnames00cX3_payFor_48 5) rfl
theorem dX3_payFor_55 : decode cX3_payFor 55 = .ok (.lmul, 1) := dk_105 (c := cX3_payFor) (pc := 55) (dk_at bnames00cX3_payFor_48 7)
theorem dX3_payFor_56 : decode cX3_payFor 56 = .ok (.lstore 7, 2) := dk_55 (c := cX3_payFor) (pc := 56) (a := 7) (dk_at bnames00cX3_payFor_48 8) rfl
theorem dX3_payFor_58 : decode cX3_payFor 58 = .ok (.goto 66, 3) := dk_167 (c := cX3_payFor) (pc := 58) (a := 0) (b := 66) (dk_at bnames00cX3_payFor_48 10) (by decide)
theorem dX3_payFor_61 : decode cX3_payFor 61 = .ok (.aload_n 0, 1) := dk_42 (c := cX3_payFor) (pc := 61) (dk_at bnames00cX3_payFor_48 13)
theorem dX3_payFor_62 : decode cX3_payFor 62 = .ok (.getfield 33, 3) := dk_180 (c := cX3_payFor) (pc := 62) (a := 0) (b := 33) (dk_at bnames00cX3_payFor_48 14) rfl
theorem dX3_payFor_65 : decode cX3_payFor 65 = .ok (.iload 10, 2) := dk_21 (c := cX3_payFor) (pc := 65) (a := 10) (dk_at bnames00cX3_payFor_48 17) rfl
theorem dX3_payFor_67 : decode cX3_payFor 67 = .ok (.iaload, 1) := dk_46 (c := cX3_payFor) (pc := 67) (dk_at bnames00cX3_payFor_48 19)
theorem dX3_payFor_68 : decode cX3_payFor 68 = .ok (.iconst 3, 1) := dk_6 (c := cX3_payFor) (pc := 68) (dk_at bnames00cX3_payFor_48 20)
theorem dX3_payFor_69 : decode cX3_payFor 69 = .ok (.if_icmp .ne 22, 3) := dk_160 (c := cX3_payFor) (pc := 69) (a := 0) (b := 22) (dk_at bnames00cX3_payFor_48 21) (by decide)
theorem dX3_payFor_72 : decode cX3_payFor 72 = .ok (.lload 11, 2) := dk_22 (c := cX3_payFor) (pc := 72) (a := 11) (dk_at bnames00cX3_payFor_48 24) rfl
theorem dX3_payFor_74 : decode cX3_payFor 74 = .ok (.lconst 0, 1) := dk_9 (c := cX3_payFor) (pc := 74) (dk_at bnames00cX3_payFor_48 26)
theorem dX3_payFor_75 : decode cX3_payFor 75 = .ok (.lcmp, 1) := dk_148 (c := cX3_payFor) (pc := 75) (dk_at bnames00cX3_payFor_48 27)
theorem dX3_payFor_76 : decode cX3_payFor 76 = .ok (.ifCond .ne 5, 3) := dk_154 (c := cX3_payFor) (pc := 76) (a := 0) (b := 5) (dk_at bnames00cX3_payFor_48 28) (by decide)
theorem dX3_payFor_79 : decode cX3_payFor 79 = .ok (.iconst 0, 1) := dk_3 (c := cX3_payFor) (pc := 79) (dk_at bnames00cX3_payFor_48 31)
theorem dX3_payFor_80 : decode cX3_payFor 80 = .ok (.ireturn, 1) := dk_172 (c := cX3_payFor) (pc := 80) (dk_at bnames00cX3_payFor_48 32)
theorem dX3_payFor_81 : decode cX3_payFor 81 = .ok (.lload 7, 2) := dk_22 (c := cX3_payFor) (pc := 81) (a := 7) (dk_at bnames00cX3_payFor_48 33) rfl
theorem dX3_payFor_83 : decode cX3_payFor 83 = .ok (.lload 11, 2) := dk_22 (c := cX3_payFor) (pc := 83) (a := 11) (dk_at bnames00cX3_payFor_48 35) rfl
theorem dX3_payFor_85 : decode cX3_payFor 85 = .ok (.ldiv, 1) := dk_109 (c := cX3_payFor) (pc := 85) (dk_at bnames00cX3_payFor_48 37)
theorem dX3_payFor_86 : decode cX3_payFor 86 = .ok (.lstore 7, 2) := dk_55 (c := cX3_payFor) (pc := 86) (a := 7) (dk_at bnames00cX3_payFor_48 38) rfl
theorem dX3_payFor_88 : decode cX3_payFor 88 = .ok (.goto 36, 3) := dk_167 (c := cX3_payFor) (pc := 88) (a := 0) (b := 36) (dk_at bnames00cX3_payFor_48 40) (by decide)
theorem dX3_payFor_91 : decode cX3_payFor 91 = .ok (.lload 5, 2) := dk_22 (c := cX3_payFor) (pc := 91) (a := 5) (dk_at bnames00cX3_payFor_48 43) rfl
theorem dX3_payFor_93 : decode cX3_payFor 93 = .ok (.iload 9, 2) := dk_21 (c := cX3_payFor) (pc := 93) (a := 9) (dk_at bnames00cX3_payFor_48 45) rfl
theorem dX3_payFor_95 : decode cX3_payFor 95 = .ok (.i2l, 1) := dk_133 (c := cX3_payFor) (pc := 95) (dk_at bnames00cX3_payFor_48 47)
theorem bnames00cX3_payFor_96 : ((dk_l cX3_payFor).drop 96).take 52 = [22, 7, 105, 97, 55, 5, 22, 11, 55, 7, 42, 180, 0, 33, 21, 10, 46, 4, 160, 0, 7, 2, 167, 0, 4, 4, 54, 9, 22, 7, 184, 0, 89, 154, 0, 11, 22, 5, 184, 0, 89, 153, 0, 5, 3, 172, 132, 10, 1, 167, 255, 123] := by decide +kernel
theorem dX3_payFor_96 : decode cX3_payFor 96 = .ok (.lload 7, 2) := dk_22 (c := cX3_payFor) (pc := 96) (a := 7) (dk_at bnames00cX3_payFor_96 0) rfl
theorem dX3_payFor_98 : decode cX3_payFor 98 = .ok (.lmul, 1) := dk_105 (c := cX3_payFor) (pc := 98) (dk_at bnames00cX3_payFor_96 2)
theorem dX3_payFor_99 : decode cX3_payFor 99 = .ok (.ladd, 1) := dk_97 (c := cX3_payFor) (pc := 99) (dk_at bnames00cX3_payFor_96 3)
theorem dX3_payFor_100 : decode cX3_payFor 100 = .ok (.lstore 5, 2) := dk_55 (c := cX3_payFor) (pc := 100) (a := 5) (dk_at bnames00cX3_payFor_96 4) rfl
theorem dX3_payFor_102 : decode cX3_payFor 102 = .ok (.lload 11, 2) := dk_22 (c := cX3_payFor) (pc := 102) (a := 11) (dk_at bnames00cX3_payFor_96 6) rfl
theorem dX3_payFor_104 : decode cX3_payFor 104 = .ok (.lstore 7, 2) := dk_55 (c := cX3_payFor) (pc := 104) (a := 7) (dk_at bnames00cX3_payFor_96 8) rfl
theorem dX3_payFor_106 : decode cX3_payFor 106 = .ok (.aload_n 0, 1) := dk_42 (c := cX3_payFor) (pc := 106) (dk_at bnames00cX3_payFor_96 10)
theorem dX3_payFor_107 : decode cX3_payFor 107 = .ok (.getfield 33, 3) := dk_180 (c := cX3_payFor) (pc := 107) (a := 0) (b := 33) (dk_at bnames00cX3_payFor_96 11) rfl
theorem dX3_payFor_110 : decode cX3_payFor 110 = .ok (.iload 10, 2) := dk_21 (c := cX3_payFor) (pc := 110) (a := 10) (dk_at bnames00cX3_payFor_96 14) rfl
theorem dX3_payFor_112 : decode cX3_payFor 112 = .ok (.iaload, 1) := dk_46 (c := cX3_payFor) (pc := 112) (dk_at bnames00cX3_payFor_96 16)
theorem dX3_payFor_113 : decode cX3_payFor 113 = .ok (.iconst 1, 1) := dk_4 (c := cX3_payFor) (pc := 113) (dk_at bnames00cX3_payFor_96 17)
theorem dX3_payFor_114 : decode cX3_payFor 114 = .ok (.if_icmp .ne 7, 3) := dk_160 (c := cX3_payFor) (pc := 114) (a := 0) (b := 7) (dk_at bnames00cX3_payFor_96 18) (by decide)
theorem dX3_payFor_117 : decode cX3_payFor 117 = .ok (.iconst (-1), 1) := dk_2 (c := cX3_payFor) (pc := 117) (dk_at bnames00cX3_payFor_96 21)
theorem dX3_payFor_118 : decode cX3_payFor 118 = .ok (.goto 4, 3) := dk_167 (c := cX3_payFor) (pc := 118) (a := 0) (b := 4) (dk_at bnames00cX3_payFor_96 22) (by decide)
theorem dX3_payFor_121 : decode cX3_payFor 121 = .ok (.iconst 1, 1) := dk_4 (c := cX3_payFor) (pc := 121) (dk_at bnames00cX3_payFor_96 25)
theorem dX3_payFor_122 : decode cX3_payFor 122 = .ok (.istore 9, 2) := dk_54 (c := cX3_payFor) (pc := 122) (a := 9) (dk_at bnames00cX3_payFor_96 26) rfl
theorem dX3_payFor_124 : decode cX3_payFor 124 = .ok (.lload 7, 2) := dk_22 (c := cX3_payFor) (pc := 124) (a := 7) (dk_at bnames00cX3_payFor_96 28) rfl
theorem dX3_payFor_126 : decode cX3_payFor 126 = .ok (.invokestatic 89, 3) := dk_184 (c := cX3_payFor) (pc := 126) (a := 0) (b := 89) (dk_at bnames00cX3_payFor_96 30) rfl
theorem dX3_payFor_129 : decode cX3_payFor 129 = .ok (.ifCond .ne 11, 3) := dk_154 (c := cX3_payFor) (pc := 129) (a := 0) (b := 11) (dk_at bnames00cX3_payFor_96 33) (by decide)
theorem dX3_payFor_132 : decode cX3_payFor 132 = .ok (.lload 5, 2) := dk_22 (c := cX3_payFor) (pc := 132) (a := 5) (dk_at bnames00cX3_payFor_96 36) rfl
theorem dX3_payFor_134 : decode cX3_payFor 134 = .ok (.invokestatic 89, 3) := dk_184 (c := cX3_payFor) (pc := 134) (a := 0) (b := 89) (dk_at bnames00cX3_payFor_96 38) rfl
theorem dX3_payFor_137 : decode cX3_payFor 137 = .ok (.ifCond .eq 5, 3) := dk_153 (c := cX3_payFor) (pc := 137) (a := 0) (b := 5) (dk_at bnames00cX3_payFor_96 41) (by decide)
theorem dX3_payFor_140 : decode cX3_payFor 140 = .ok (.iconst 0, 1) := dk_3 (c := cX3_payFor) (pc := 140) (dk_at bnames00cX3_payFor_96 44)
theorem dX3_payFor_141 : decode cX3_payFor 141 = .ok (.ireturn, 1) := dk_172 (c := cX3_payFor) (pc := 141) (dk_at bnames00cX3_payFor_96 45)
theorem dX3_payFor_142 : decode cX3_payFor 142 = .ok (.iinc 10 1, 3) := dk_132 (c := cX3_payFor) (pc := 142) (a := 10) (b := 1) (dk_at bnames00cX3_payFor_96 46) rfl (by decide)
theorem bnames00cX3_payFor_144 : ((dk_l cX3_payFor).drop 144).take 33 = [1, 167, 255, 123, 22, 5, 21, 9, 133, 22, 7, 105, 97, 55, 5, 22, 5, 184, 0, 89, 153, 0, 7, 3, 167, 0, 8, 22, 5, 184, 0, 93, 172] := by decide +kernel
theorem dX3_payFor_145 : decode cX3_payFor 145 = .ok (.goto (-133), 3) := dk_167 (c := cX3_payFor) (pc := 145) (a := 255) (b := 123) (dk_at bnames00cX3_payFor_144 1) (by decide)
theorem dX3_payFor_148 : decode cX3_payFor 148 = .ok (.lload 5, 2) := dk_22 (c := cX3_payFor) (pc := 148) (a := 5) (dk_at bnames00cX3_payFor_144 4) rfl
theorem dX3_payFor_150 : decode cX3_payFor 150 = .ok (.iload 9, 2) := dk_21 (c := cX3_payFor) (pc := 150) (a := 9) (dk_at bnames00cX3_payFor_144 6) rfl
theorem dX3_payFor_152 : decode cX3_payFor 152 = .ok (.i2l, 1) := dk_133 (c := cX3_payFor) (pc := 152) (dk_at bnames00cX3_payFor_144 8)
theorem dX3_payFor_153 : decode cX3_payFor 153 = .ok (.lload 7, 2) := dk_22 (c := cX3_payFor) (pc := 153) (a := 7) (dk_at bnames00cX3_payFor_144 9) rfl
theorem dX3_payFor_155 : decode cX3_payFor 155 = .ok (.lmul, 1) := dk_105 (c := cX3_payFor) (pc := 155) (dk_at bnames00cX3_payFor_144 11)
theorem dX3_payFor_156 : decode cX3_payFor 156 = .ok (.ladd, 1) := dk_97 (c := cX3_payFor) (pc := 156) (dk_at bnames00cX3_payFor_144 12)
theorem dX3_payFor_157 : decode cX3_payFor 157 = .ok (.lstore 5, 2) := dk_55 (c := cX3_payFor) (pc := 157) (a := 5) (dk_at bnames00cX3_payFor_144 13) rfl
theorem dX3_payFor_159 : decode cX3_payFor 159 = .ok (.lload 5, 2) := dk_22 (c := cX3_payFor) (pc := 159) (a := 5) (dk_at bnames00cX3_payFor_144 15) rfl
theorem dX3_payFor_161 : decode cX3_payFor 161 = .ok (.invokestatic 89, 3) := dk_184 (c := cX3_payFor) (pc := 161) (a := 0) (b := 89) (dk_at bnames00cX3_payFor_144 17) rfl
theorem dX3_payFor_164 : decode cX3_payFor 164 = .ok (.ifCond .eq 7, 3) := dk_153 (c := cX3_payFor) (pc := 164) (a := 0) (b := 7) (dk_at bnames00cX3_payFor_144 20) (by decide)
theorem dX3_payFor_167 : decode cX3_payFor 167 = .ok (.iconst 0, 1) := dk_3 (c := cX3_payFor) (pc := 167) (dk_at bnames00cX3_payFor_144 23)
theorem dX3_payFor_168 : decode cX3_payFor 168 = .ok (.goto 8, 3) := dk_167 (c := cX3_payFor) (pc := 168) (a := 0) (b := 8) (dk_at bnames00cX3_payFor_144 24) (by decide)
theorem dX3_payFor_171 : decode cX3_payFor 171 = .ok (.lload 5, 2) := dk_22 (c := cX3_payFor) (pc := 171) (a := 5) (dk_at bnames00cX3_payFor_144 27) rfl
theorem dX3_payFor_173 : decode cX3_payFor 173 = .ok (.invokestatic 93, 3) := dk_184 (c := cX3_payFor) (pc := 173) (a := 0) (b := 93) (dk_at bnames00cX3_payFor_144 29) rfl
theorem dX3_payFor_176 : decode cX3_payFor 176 = .ok (.ireturn, 1) := dk_172 (c := cX3_payFor) (pc := 176) (dk_at bnames00cX3_payFor_144 32)
set_option maxRecDepth 20000 in
theorem ggX3_partAt_X3_oldAt : GoodIn wsX3_partAt wsX3_oldAt := goodIn_r _ [5, 6, 12, 13, 14, 15, 16, 17, 18, 19, 20, 21, 22, 23, 24, 25, 26, 27] rfl (by decide +kernel)
set_option maxRecDepth 20000 in
theorem gX3_partAt_X3_oldAt : GoodIn wsX3_partAt (wsV RX3 81 RX3 yX3_oldAt wsX3_oldAt) := goodIn_app (goodIn_r _ [1, 2, 3, 4] rfl (by decide +kernel)) ggX3_partAt_X3_oldAt
set_option maxRecDepth 20000 in
theorem ggX3_partAt_X3_forcedAt : GoodIn wsX3_partAt wsX3_forcedAt := goodIn_r _ [10, 11, 1, 2, 3, 4, 5, 6, 12, 13, 14, 15, 16, 17, 18, 19, 20, 21, 22, 23, 24, 25, 26, 27] rfl (by decide +kernel)
set_option maxRecDepth 20000 in
theorem gX3_partAt_X3_forcedAt : GoodIn wsX3_partAt (wsV RX3 97 RX3 yX3_forcedAt wsX3_forcedAt) := goodIn_app (goodIn_r _ [7, 8, 9, 4] rfl (by decide +kernel)) ggX3_partAt_X3_forcedAt
theorem bnames00cX3_partAt_0 : ((dk_l cX3_partAt).drop 0).take 52 = [27, 170, 0, 0, 0, 0, 0, 60, 0, 0, 3, 232, 0, 0, 3, 236, 0, 0, 0, 35, 0, 0, 0, 37, 0, 0, 0, 39, 0, 0, 0, 42, 0, 0, 0, 51, 28, 172, 29, 172, 21, 4, 172, 42, 21, 5, 21, 4, 182, 0, 81, 172] := by decide +kernel
theorem dX3_partAt_0 : decode cX3_partAt 0 = .ok (.iload_n 1, 1) := dk_27 (c := cX3_partAt) (pc := 0) (dk_at bnames00cX3_partAt_0 0)
theorem dX3_partAt_1 : decode cX3_partAt 1 = .ok (.tableswitch 60 1000 1004 #[35, 37, 39, 42, 51], 35) := by decide +kernel
theorem dX3_partAt_36 : decode cX3_partAt 36 = .ok (.iload_n 2, 1) := dk_28 (c := cX3_partAt) (pc := 36) (dk_at bnames00cX3_partAt_0 36)
theorem dX3_partAt_37 : decode cX3_partAt 37 = .ok (.ireturn, 1) := dk_172 (c := cX3_partAt) (pc := 37) (dk_at bnames00cX3_partAt_0 37)
theorem dX3_partAt_38 : decode cX3_partAt 38 = .ok (.iload_n 3, 1) := dk_29 (c := cX3_partAt) (pc := 38) (dk_at bnames00cX3_partAt_0 38)
theorem dX3_partAt_39 : decode cX3_partAt 39 = .ok (.ireturn, 1) := dk_172 (c := cX3_partAt) (pc := 39) (dk_at bnames00cX3_partAt_0 39)
theorem dX3_partAt_40 : decode cX3_partAt 40 = .ok (.iload 4, 2) := dk_21 (c := cX3_partAt) (pc := 40) (a := 4) (dk_at bnames00cX3_partAt_0 40) rfl
theorem dX3_partAt_42 : decode cX3_partAt 42 = .ok (.ireturn, 1) := dk_172 (c := cX3_partAt) (pc := 42) (dk_at bnames00cX3_partAt_0 42)
theorem dX3_partAt_43 : decode cX3_partAt 43 = .ok (.aload_n 0, 1) := dk_42 (c := cX3_partAt) (pc := 43) (dk_at bnames00cX3_partAt_0 43)
theorem dX3_partAt_44 : decode cX3_partAt 44 = .ok (.iload 5, 2) := dk_21 (c := cX3_partAt) (pc := 44) (a := 5) (dk_at bnames00cX3_partAt_0 44) rfl
theorem dX3_partAt_46 : decode cX3_partAt 46 = .ok (.iload 4, 2) := dk_21 (c := cX3_partAt) (pc := 46) (a := 4) (dk_at bnames00cX3_partAt_0 46) rfl
theorem bnames00cX3_partAt_48 : ((dk_l cX3_partAt).drop 48).take 15 = [182, 0, 81, 172, 42, 21, 5, 21, 4, 182, 0, 97, 172, 27, 172] := by decide +kernel
theorem dX3_partAt_48 : decode cX3_partAt 48 = .ok (.invokevirtual 81, 3) := dk_182 (c := cX3_partAt) (pc := 48) (a := 0) (b := 81) (dk_at bnames00cX3_partAt_48 0) rfl
theorem dX3_partAt_51 : decode cX3_partAt 51 = .ok (.ireturn, 1) := dk_172 (c := cX3_partAt) (pc := 51) (dk_at bnames00cX3_partAt_48 3)
theorem dX3_partAt_52 : decode cX3_partAt 52 = .ok (.aload_n 0, 1) := dk_42 (c := cX3_partAt) (pc := 52) (dk_at bnames00cX3_partAt_48 4)
theorem dX3_partAt_53 : decode cX3_partAt 53 = .ok (.iload 5, 2) := dk_21 (c := cX3_partAt) (pc := 53) (a := 5) (dk_at bnames00cX3_partAt_48 5) rfl
theorem dX3_partAt_55 : decode cX3_partAt 55 = .ok (.iload 4, 2) := dk_21 (c := cX3_partAt) (pc := 55) (a := 4) (dk_at bnames00cX3_partAt_48 7) rfl
theorem dX3_partAt_57 : decode cX3_partAt 57 = .ok (.invokevirtual 97, 3) := dk_182 (c := cX3_partAt) (pc := 57) (a := 0) (b := 97) (dk_at bnames00cX3_partAt_48 9) rfl
theorem dX3_partAt_60 : decode cX3_partAt 60 = .ok (.ireturn, 1) := dk_172 (c := cX3_partAt) (pc := 60) (dk_at bnames00cX3_partAt_48 12)
theorem dX3_partAt_61 : decode cX3_partAt 61 = .ok (.iload_n 1, 1) := dk_27 (c := cX3_partAt) (pc := 61) (dk_at bnames00cX3_partAt_48 13)
theorem dX3_partAt_62 : decode cX3_partAt 62 = .ok (.ireturn, 1) := dk_172 (c := cX3_partAt) (pc := 62) (dk_at bnames00cX3_partAt_48 14)
theorem bnames00cX3_isTooFar_0 : ((dk_l cX3_isTooFar).drop 0).take 22 = [30, 20, 0, 100, 148, 157, 0, 11, 30, 20, 0, 102, 148, 156, 0, 7, 4, 167, 0, 4, 3, 172] := by decide +kernel
theorem dX3_isTooFar_0 : decode cX3_isTooFar 0 = .ok (.lload_n 0, 1) := dk_30 (c := cX3_isTooFar) (pc := 0) (dk_at bnames00cX3_isTooFar_0 0)
theorem dX3_isTooFar_1 : decode cX3_isTooFar 1 = .ok (.ldc2_w 100, 3) := dk_20 (c := cX3_isTooFar) (pc := 1) (a := 0) (b := 100) (dk_at bnames00cX3_isTooFar_0 1) rfl
theorem dX3_isTooFar_4 : decode cX3_isTooFar 4 = .ok (.lcmp, 1) := dk_148 (c := cX3_isTooFar) (pc := 4) (dk_at bnames00cX3_isTooFar_0 4)
theorem dX3_isTooFar_5 : decode cX3_isTooFar 5 = .ok (.ifCond .gt 11, 3) := dk_157 (c := cX3_isTooFar) (pc := 5) (a := 0) (b := 11) (dk_at bnames00cX3_isTooFar_0 5) (by decide)
theorem dX3_isTooFar_8 : decode cX3_isTooFar 8 = .ok (.lload_n 0, 1) := dk_30 (c := cX3_isTooFar) (pc := 8) (dk_at bnames00cX3_isTooFar_0 8)
theorem dX3_isTooFar_9 : decode cX3_isTooFar 9 = .ok (.ldc2_w 102, 3) := dk_20 (c := cX3_isTooFar) (pc := 9) (a := 0) (b := 102) (dk_at bnames00cX3_isTooFar_0 9) rfl
theorem dX3_isTooFar_12 : decode cX3_isTooFar 12 = .ok (.lcmp, 1) := dk_148 (c := cX3_isTooFar) (pc := 12) (dk_at bnames00cX3_isTooFar_0 12)
theorem dX3_isTooFar_13 : decode cX3_isTooFar 13 = .ok (.ifCond .ge 7, 3) := dk_156 (c := cX3_isTooFar) (pc := 13) (a := 0) (b := 7) (dk_at bnames00cX3_isTooFar_0 13) (by decide)
theorem dX3_isTooFar_16 : decode cX3_isTooFar 16 = .ok (.iconst 1, 1) := dk_4 (c := cX3_isTooFar) (pc := 16) (dk_at bnames00cX3_isTooFar_0 16)
theorem dX3_isTooFar_17 : decode cX3_isTooFar 17 = .ok (.goto 4, 3) := dk_167 (c := cX3_isTooFar) (pc := 17) (a := 0) (b := 4) (dk_at bnames00cX3_isTooFar_0 17) (by decide)
theorem dX3_isTooFar_20 : decode cX3_isTooFar 20 = .ok (.iconst 0, 1) := dk_3 (c := cX3_isTooFar) (pc := 20) (dk_at bnames00cX3_isTooFar_0 20)
theorem dX3_isTooFar_21 : decode cX3_isTooFar 21 = .ok (.ireturn, 1) := dk_172 (c := cX3_isTooFar) (pc := 21) (dk_at bnames00cX3_isTooFar_0 21)
theorem bnames00cX4_stands_0 : ((dk_l cX4_stands).drop 0).take 14 = [42, 180, 0, 9, 2, 159, 0, 7, 4, 167, 0, 4, 3, 172] := by decide +kernel
theorem dX4_stands_0 : decode cX4_stands 0 = .ok (.aload_n 0, 1) := dk_42 (c := cX4_stands) (pc := 0) (dk_at bnames00cX4_stands_0 0)
theorem dX4_stands_1 : decode cX4_stands 1 = .ok (.getfield 9, 3) := dk_180 (c := cX4_stands) (pc := 1) (a := 0) (b := 9) (dk_at bnames00cX4_stands_0 1) rfl
theorem dX4_stands_4 : decode cX4_stands 4 = .ok (.iconst (-1), 1) := dk_2 (c := cX4_stands) (pc := 4) (dk_at bnames00cX4_stands_0 4)
theorem dX4_stands_5 : decode cX4_stands 5 = .ok (.if_icmp .eq 7, 3) := dk_159 (c := cX4_stands) (pc := 5) (a := 0) (b := 7) (dk_at bnames00cX4_stands_0 5) (by decide)
theorem dX4_stands_8 : decode cX4_stands 8 = .ok (.iconst 1, 1) := dk_4 (c := cX4_stands) (pc := 8) (dk_at bnames00cX4_stands_0 8)
theorem dX4_stands_9 : decode cX4_stands 9 = .ok (.goto 4, 3) := dk_167 (c := cX4_stands) (pc := 9) (a := 0) (b := 4) (dk_at bnames00cX4_stands_0 9) (by decide)
theorem dX4_stands_12 : decode cX4_stands 12 = .ok (.iconst 0, 1) := dk_3 (c := cX4_stands) (pc := 12) (dk_at bnames00cX4_stands_0 12)
theorem dX4_stands_13 : decode cX4_stands 13 = .ok (.ireturn, 1) := dk_172 (c := cX4_stands) (pc := 13) (dk_at bnames00cX4_stands_0 13)
set_option maxRecDepth 20000 in
theorem ggX4_make_J7_fill_d0a16 : GoodIn wsX4_make wsJ7_fill_d0a16 := goodIn_r _ [7] rfl (by decide +kernel)
set_option maxRecDepth 20000 in
theorem gX4_make_J7_fill_d0a16 : GoodIn wsX4_make (va_wsS RX4 22 yJ7_fill_d0a16 wsJ7_fill_d0a16) := goodIn_app (goodIn_r _ [4, 5, 6] rfl (by decide +kernel)) ggX4_make_J7_fill_d0a16
theorem bnames00cX4_make_0 : ((dk_l cX4_make).drop 0).take 29 = [28, 155, 0, 27, 28, 16, 60, 163, 0, 21, 42, 27, 181, 0, 9, 42, 28, 181, 0, 19, 42, 180, 0, 15, 9, 184, 0, 22, 177] := by decide +kernel
theorem dX4_make_0 : decode cX4_make 0 = .ok (.iload_n 2, 1) := dk_28 (c := cX4_make) (pc := 0) (dk_at bnames00cX4_make_0 0)
theorem dX4_make_1 : decode cX4_make 1 = .ok (.ifCond .lt 27, 3) := dk_155 (c := cX4_make) (pc := 1) (a := 0) (b := 27) (dk_at bnames00cX4_make_0 1) (by decide)
theorem dX4_make_4 : decode cX4_make 4 = .ok (.iload_n 2, 1) := dk_28 (c := cX4_make) (pc := 4) (dk_at bnames00cX4_make_0 4)
theorem dX4_make_5 : decode cX4_make 5 = .ok (.bipush 60, 2) := dk_16 (c := cX4_make) (pc := 5) (a := 60) (dk_at bnames00cX4_make_0 5) (by decide)
theorem dX4_make_7 : decode cX4_make 7 = .ok (.if_icmp .gt 21, 3) := dk_163 (c := cX4_make) (pc := 7) (a := 0) (b := 21) (dk_at bnames00cX4_make_0 7) (by decide)
theorem dX4_make_10 : decode cX4_make 10 = .ok (.aload_n 0, 1) := dk_42 (c := cX4_make) (pc := 10) (dk_at bnames00cX4_make_0 10)
theorem dX4_make_11 : decode cX4_make 11 = .ok (.iload_n 1, 1) := dk_27 (c := cX4_make) (pc := 11) (dk_at bnames00cX4_make_0 11)
theorem dX4_make_12 : decode cX4_make 12 = .ok (.putfield 9, 3) := dk_181 (c := cX4_make) (pc := 12) (a := 0) (b := 9) (dk_at bnames00cX4_make_0 12) rfl
theorem dX4_make_15 : decode cX4_make 15 = .ok (.aload_n 0, 1) := dk_42 (c := cX4_make) (pc := 15) (dk_at bnames00cX4_make_0 15)
theorem dX4_make_16 : decode cX4_make 16 = .ok (.iload_n 2, 1) := dk_28 (c := cX4_make) (pc := 16) (dk_at bnames00cX4_make_0 16)
theorem dX4_make_17 : decode cX4_make 17 = .ok (.putfield 19, 3) := dk_181 (c := cX4_make) (pc := 17) (a := 0) (b := 19) (dk_at bnames00cX4_make_0 17) rfl
theorem dX4_make_20 : decode cX4_make 20 = .ok (.aload_n 0, 1) := dk_42 (c := cX4_make) (pc := 20) (dk_at bnames00cX4_make_0 20)
theorem dX4_make_21 : decode cX4_make 21 = .ok (.getfield 15, 3) := dk_180 (c := cX4_make) (pc := 21) (a := 0) (b := 15) (dk_at bnames00cX4_make_0 21) rfl
theorem dX4_make_24 : decode cX4_make 24 = .ok (.lconst 0, 1) := dk_9 (c := cX4_make) (pc := 24) (dk_at bnames00cX4_make_0 24)
theorem dX4_make_25 : decode cX4_make 25 = .ok (.invokestatic 22, 3) := dk_184 (c := cX4_make) (pc := 25) (a := 0) (b := 22) (dk_at bnames00cX4_make_0 25) rfl
theorem dX4_make_28 : decode cX4_make 28 = .ok (.return_, 1) := dk_177 (c := cX4_make) (pc := 28) (dk_at bnames00cX4_make_0 28)
theorem bnames00cX4_holds_0 : ((dk_l cX4_holds).drop 0).take 28 = [27, 155, 0, 25, 28, 155, 0, 21, 27, 133, 28, 133, 97, 42, 180, 0, 19, 133, 148, 157, 0, 7, 4, 167, 0, 4, 3, 172] := by decide +kernel
theorem dX4_holds_0 : decode cX4_holds 0 = .ok (.iload_n 1, 1) := dk_27 (c := cX4_holds) (pc := 0) (dk_at bnames00cX4_holds_0 0)
theorem dX4_holds_1 : decode cX4_holds 1 = .ok (.ifCond .lt 25, 3) := dk_155 (c := cX4_holds) (pc := 1) (a := 0) (b := 25) (dk_at bnames00cX4_holds_0 1) (by decide)
theorem dX4_holds_4 : decode cX4_holds 4 = .ok (.iload_n 2, 1) := dk_28 (c := cX4_holds) (pc := 4) (dk_at bnames00cX4_holds_0 4)
theorem dX4_holds_5 : decode cX4_holds 5 = .ok (.ifCond .lt 21, 3) := dk_155 (c := cX4_holds) (pc := 5) (a := 0) (b := 21) (dk_at bnames00cX4_holds_0 5) (by decide)
theorem dX4_holds_8 : decode cX4_holds 8 = .ok (.iload_n 1, 1) := dk_27 (c := cX4_holds) (pc := 8) (dk_at bnames00cX4_holds_0 8)
theorem dX4_holds_9 : decode cX4_holds 9 = .ok (.i2l, 1) := dk_133 (c := cX4_holds) (pc := 9) (dk_at bnames00cX4_holds_0 9)
theorem dX4_holds_10 : decode cX4_holds 10 = .ok (.iload_n 2, 1) := dk_28 (c := cX4_holds) (pc := 10) (dk_at bnames00cX4_holds_0 10)
theorem dX4_holds_11 : decode cX4_holds 11 = .ok (.i2l, 1) := dk_133 (c := cX4_holds) (pc := 11) (dk_at bnames00cX4_holds_0 11)
theorem dX4_holds_12 : decode cX4_holds 12 = .ok (.ladd, 1) := dk_97 (c := cX4_holds) (pc := 12) (dk_at bnames00cX4_holds_0 12)
theorem dX4_holds_13 : decode cX4_holds 13 = .ok (.aload_n 0, 1) := dk_42 (c := cX4_holds) (pc := 13) (dk_at bnames00cX4_holds_0 13)
theorem dX4_holds_14 : decode cX4_holds 14 = .ok (.getfield 19, 3) := dk_180 (c := cX4_holds) (pc := 14) (a := 0) (b := 19) (dk_at bnames00cX4_holds_0 14) rfl
theorem dX4_holds_17 : decode cX4_holds 17 = .ok (.i2l, 1) := dk_133 (c := cX4_holds) (pc := 17) (dk_at bnames00cX4_holds_0 17)
theorem dX4_holds_18 : decode cX4_holds 18 = .ok (.lcmp, 1) := dk_148 (c := cX4_holds) (pc := 18) (dk_at bnames00cX4_holds_0 18)
theorem dX4_holds_19 : decode cX4_holds 19 = .ok (.ifCond .gt 7, 3) := dk_157 (c := cX4_holds) (pc := 19) (a := 0) (b := 7) (dk_at bnames00cX4_holds_0 19) (by decide)
theorem dX4_holds_22 : decode cX4_holds 22 = .ok (.iconst 1, 1) := dk_4 (c := cX4_holds) (pc := 22) (dk_at bnames00cX4_holds_0 22)
theorem dX4_holds_23 : decode cX4_holds 23 = .ok (.goto 4, 3) := dk_167 (c := cX4_holds) (pc := 23) (a := 0) (b := 4) (dk_at bnames00cX4_holds_0 23) (by decide)
theorem dX4_holds_26 : decode cX4_holds 26 = .ok (.iconst 0, 1) := dk_3 (c := cX4_holds) (pc := 26) (dk_at bnames00cX4_holds_0 26)
theorem dX4_holds_27 : decode cX4_holds 27 = .ok (.ireturn, 1) := dk_172 (c := cX4_holds) (pc := 27) (dk_at bnames00cX4_holds_0 27)
theorem bnames00cX5_has_0 : ((dk_l cX5_has).drop 0).take 18 = [27, 155, 0, 15, 27, 42, 180, 0, 30, 162, 0, 7, 4, 167, 0, 4, 3, 172] := by decide +kernel
theorem dX5_has_0 : decode cX5_has 0 = .ok (.iload_n 1, 1) := dk_27 (c := cX5_has) (pc := 0) (dk_at bnames00cX5_has_0 0)
theorem dX5_has_1 : decode cX5_has 1 = .ok (.ifCond .lt 15, 3) := dk_155 (c := cX5_has) (pc := 1) (a := 0) (b := 15) (dk_at bnames00cX5_has_0 1) (by decide)
theorem dX5_has_4 : decode cX5_has 4 = .ok (.iload_n 1, 1) := dk_27 (c := cX5_has) (pc := 4) (dk_at bnames00cX5_has_0 4)
theorem dX5_has_5 : decode cX5_has 5 = .ok (.aload_n 0, 1) := dk_42 (c := cX5_has) (pc := 5) (dk_at bnames00cX5_has_0 5)
theorem dX5_has_6 : decode cX5_has 6 = .ok (.getfield 30, 3) := dk_180 (c := cX5_has) (pc := 6) (a := 0) (b := 30) (dk_at bnames00cX5_has_0 6) rfl
theorem dX5_has_9 : decode cX5_has 9 = .ok (.if_icmp .ge 7, 3) := dk_162 (c := cX5_has) (pc := 9) (a := 0) (b := 7) (dk_at bnames00cX5_has_0 9) (by decide)
theorem dX5_has_12 : decode cX5_has 12 = .ok (.iconst 1, 1) := dk_4 (c := cX5_has) (pc := 12) (dk_at bnames00cX5_has_0 12)
theorem dX5_has_13 : decode cX5_has 13 = .ok (.goto 4, 3) := dk_167 (c := cX5_has) (pc := 13) (a := 0) (b := 4) (dk_at bnames00cX5_has_0 13) (by decide)
theorem dX5_has_16 : decode cX5_has 16 = .ok (.iconst 0, 1) := dk_3 (c := cX5_has) (pc := 16) (dk_at bnames00cX5_has_0 16)
theorem dX5_has_17 : decode cX5_has 17 = .ok (.ireturn, 1) := dk_172 (c := cX5_has) (pc := 17) (dk_at bnames00cX5_has_0 17)
theorem bnames00cX5_add_0 : ((dk_l cX5_add).drop 0).take 52 = [42, 180, 0, 30, 17, 0, 200, 162, 0, 76, 42, 180, 0, 9, 42, 180, 0, 30, 27, 79, 42, 180, 0, 15, 42, 180, 0, 30, 28, 79, 42, 180, 0, 18, 42, 180, 0, 30, 29, 79, 42, 180, 0, 21, 42, 180, 0, 30, 21, 4, 79, 42] := by decide +kernel
theorem dX5_add_0 : decode cX5_add 0 = .ok (.aload_n 0, 1) := dk_42 (c := cX5_add) (pc := 0) (dk_at bnames00cX5_add_0 0)
theorem dX5_add_1 : decode cX5_add 1 = .ok (.getfield 30, 3) := dk_180 (c := cX5_add) (pc := 1) (a := 0) (b := 30) (dk_at bnames00cX5_add_0 1) rfl
theorem dX5_add_4 : decode cX5_add 4 = .ok (.sipush 200, 3) := dk_17 (c := cX5_add) (pc := 4) (a := 0) (b := 200) (dk_at bnames00cX5_add_0 4) (by decide)
theorem dX5_add_7 : decode cX5_add 7 = .ok (.if_icmp .ge 76, 3) := dk_162 (c := cX5_add) (pc := 7) (a := 0) (b := 76) (dk_at bnames00cX5_add_0 7) (by decide)
theorem dX5_add_10 : decode cX5_add 10 = .ok (.aload_n 0, 1) := dk_42 (c := cX5_add) (pc := 10) (dk_at bnames00cX5_add_0 10)
theorem dX5_add_11 : decode cX5_add 11 = .ok (.getfield 9, 3) := dk_180 (c := cX5_add) (pc := 11) (a := 0) (b := 9) (dk_at bnames00cX5_add_0 11) rfl
theorem dX5_add_14 : decode cX5_add 14 = .ok (.aload_n 0, 1) := dk_42 (c := cX5_add) (pc := 14) (dk_at bnames00cX5_add_0 14)
theorem dX5_add_15 : decode cX5_add 15 = .ok (.getfield 30, 3) := dk_180 (c := cX5_add) (pc := 15) (a := 0) (b := 30) (dk_at bnames00cX5_add_0 15) rfl
theorem dX5_add_18 : decode cX5_add 18 = .ok (.iload_n 1, 1) := dk_27 (c := cX5_add) (pc := 18) (dk_at bnames00cX5_add_0 18)
theorem dX5_add_19 : decode cX5_add 19 = .ok (.iastore, 1) := dk_79 (c := cX5_add) (pc := 19) (dk_at bnames00cX5_add_0 19)
theorem dX5_add_20 : decode cX5_add 20 = .ok (.aload_n 0, 1) := dk_42 (c := cX5_add) (pc := 20) (dk_at bnames00cX5_add_0 20)
theorem dX5_add_21 : decode cX5_add 21 = .ok (.getfield 15, 3) := dk_180 (c := cX5_add) (pc := 21) (a := 0) (b := 15) (dk_at bnames00cX5_add_0 21) rfl
theorem dX5_add_24 : decode cX5_add 24 = .ok (.aload_n 0, 1) := dk_42 (c := cX5_add) (pc := 24) (dk_at bnames00cX5_add_0 24)
theorem dX5_add_25 : decode cX5_add 25 = .ok (.getfield 30, 3) := dk_180 (c := cX5_add) (pc := 25) (a := 0) (b := 30) (dk_at bnames00cX5_add_0 25) rfl
theorem dX5_add_28 : decode cX5_add 28 = .ok (.iload_n 2, 1) := dk_28 (c := cX5_add) (pc := 28) (dk_at bnames00cX5_add_0 28)
theorem dX5_add_29 : decode cX5_add 29 = .ok (.iastore, 1) := dk_79 (c := cX5_add) (pc := 29) (dk_at bnames00cX5_add_0 29)
theorem dX5_add_30 : decode cX5_add 30 = .ok (.aload_n 0, 1) := dk_42 (c := cX5_add) (pc := 30) (dk_at bnames00cX5_add_0 30)
theorem dX5_add_31 : decode cX5_add 31 = .ok (.getfield 18, 3) := dk_180 (c := cX5_add) (pc := 31) (a := 0) (b := 18) (dk_at bnames00cX5_add_0 31) rfl
theorem dX5_add_34 : decode cX5_add 34 = .ok (.aload_n 0, 1) := dk_42 (c := cX5_add) (pc := 34) (dk_at bnames00cX5_add_0 34)
theorem dX5_add_35 : decode cX5_add 35 = .ok (.getfield 30, 3) := dk_180 (c := cX5_add) (pc := 35) (a := 0) (b := 30) (dk_at bnames00cX5_add_0 35) rfl
theorem dX5_add_38 : decode cX5_add 38 = .ok (.iload_n 3, 1) := dk_29 (c := cX5_add) (pc := 38) (dk_at bnames00cX5_add_0 38)
theorem dX5_add_39 : decode cX5_add 39 = .ok (.iastore, 1) := dk_79 (c := cX5_add) (pc := 39) (dk_at bnames00cX5_add_0 39)
theorem dX5_add_40 : decode cX5_add 40 = .ok (.aload_n 0, 1) := dk_42 (c := cX5_add) (pc := 40) (dk_at bnames00cX5_add_0 40)
theorem dX5_add_41 : decode cX5_add 41 = .ok (.getfield 21, 3) := dk_180 (c := cX5_add) (pc := 41) (a := 0) (b := 21) (dk_at bnames00cX5_add_0 41) rfl
theorem dX5_add_44 : decode cX5_add 44 = .ok (.aload_n 0, 1) := dk_42 (c := cX5_add) (pc := 44) (dk_at bnames00cX5_add_0 44)
theorem dX5_add_45 : decode cX5_add 45 = .ok (.getfield 30, 3) := dk_180 (c := cX5_add) (pc := 45) (a := 0) (b := 30) (dk_at bnames00cX5_add_0 45) rfl
theorem bnames00cX5_add_48 : ((dk_l cX5_add).drop 48).take 36 = [21, 4, 79, 42, 180, 0, 24, 42, 180, 0, 30, 21, 5, 79, 42, 180, 0, 27, 42, 180, 0, 30, 21, 6, 79, 42, 89, 180, 0, 30, 4, 96, 181, 0, 30, 177] := by decide +kernel
theorem dX5_add_48 : decode cX5_add 48 = .ok (.iload 4, 2) := dk_21 (c := cX5_add) (pc := 48) (a := 4) (dk_at bnames00cX5_add_48 0) rfl
theorem dX5_add_50 : decode cX5_add 50 = .ok (.iastore, 1) := dk_79 (c := cX5_add) (pc := 50) (dk_at bnames00cX5_add_48 2)
theorem dX5_add_51 : decode cX5_add 51 = .ok (.aload_n 0, 1) := dk_42 (c := cX5_add) (pc := 51) (dk_at bnames00cX5_add_48 3)
theorem dX5_add_52 : decode cX5_add 52 = .ok (.getfield 24, 3) := dk_180 (c := cX5_add) (pc := 52) (a := 0) (b := 24) (dk_at bnames00cX5_add_48 4) rfl
theorem dX5_add_55 : decode cX5_add 55 = .ok (.aload_n 0, 1) := dk_42 (c := cX5_add) (pc := 55) (dk_at bnames00cX5_add_48 7)
theorem dX5_add_56 : decode cX5_add 56 = .ok (.getfield 30, 3) := dk_180 (c := cX5_add) (pc := 56) (a := 0) (b := 30) (dk_at bnames00cX5_add_48 8) rfl
theorem dX5_add_59 : decode cX5_add 59 = .ok (.iload 5, 2) := dk_21 (c := cX5_add) (pc := 59) (a := 5) (dk_at bnames00cX5_add_48 11) rfl
theorem dX5_add_61 : decode cX5_add 61 = .ok (.iastore, 1) := dk_79 (c := cX5_add) (pc := 61) (dk_at bnames00cX5_add_48 13)
theorem dX5_add_62 : decode cX5_add 62 = .ok (.aload_n 0, 1) := dk_42 (c := cX5_add) (pc := 62) (dk_at bnames00cX5_add_48 14)
theorem dX5_add_63 : decode cX5_add 63 = .ok (.getfield 27, 3) := dk_180 (c := cX5_add) (pc := 63) (a := 0) (b := 27) (dk_at bnames00cX5_add_48 15) rfl
theorem dX5_add_66 : decode cX5_add 66 = .ok (.aload_n 0, 1) := dk_42 (c := cX5_add) (pc := 66) (dk_at bnames00cX5_add_48 18)
theorem dX5_add_67 : decode cX5_add 67 = .ok (.getfield 30, 3) := dk_180 (c := cX5_add) (pc := 67) (a := 0) (b := 30) (dk_at bnames00cX5_add_48 19) rfl
theorem dX5_add_70 : decode cX5_add 70 = .ok (.iload 6, 2) := dk_21 (c := cX5_add) (pc := 70) (a := 6) (dk_at bnames00cX5_add_48 22) rfl
theorem dX5_add_72 : decode cX5_add 72 = .ok (.iastore, 1) := dk_79 (c := cX5_add) (pc := 72) (dk_at bnames00cX5_add_48 24)
theorem dX5_add_73 : decode cX5_add 73 = .ok (.aload_n 0, 1) := dk_42 (c := cX5_add) (pc := 73) (dk_at bnames00cX5_add_48 25)
theorem dX5_add_74 : decode cX5_add 74 = .ok (.dup, 1) := dk_89 (c := cX5_add) (pc := 74) (dk_at bnames00cX5_add_48 26)
theorem dX5_add_75 : decode cX5_add 75 = .ok (.getfield 30, 3) := dk_180 (c := cX5_add) (pc := 75) (a := 0) (b := 30) (dk_at bnames00cX5_add_48 27) rfl
theorem dX5_add_78 : decode cX5_add 78 = .ok (.iconst 1, 1) := dk_4 (c := cX5_add) (pc := 78) (dk_at bnames00cX5_add_48 30)
theorem dX5_add_79 : decode cX5_add 79 = .ok (.iadd, 1) := dk_96 (c := cX5_add) (pc := 79) (dk_at bnames00cX5_add_48 31)
theorem dX5_add_80 : decode cX5_add 80 = .ok (.putfield 30, 3) := dk_181 (c := cX5_add) (pc := 80) (a := 0) (b := 30) (dk_at bnames00cX5_add_48 32) rfl
theorem dX5_add_83 : decode cX5_add 83 = .ok (.return_, 1) := dk_177 (c := cX5_add) (pc := 83) (dk_at bnames00cX5_add_48 35)
set_option maxRecDepth 20000 in
theorem ggX5_leave_X5_add : GoodIn wsX5_leave wsX5_add := goodIn_r _ [12, 1, 2, 3, 4, 5, 6, 7, 13, 14, 15, 16, 17, 18, 19] rfl (by decide +kernel)
set_option maxRecDepth 20000 in
theorem gX5_leave_X5_add : GoodIn wsX5_leave (wsV RX5 34 RX5 yX5_add wsX5_add) := goodIn_app (goodIn_r _ [8, 9, 10, 11] rfl (by decide +kernel)) ggX5_leave_X5_add
theorem bnames00cX5_leave_0 : ((dk_l cX5_leave).drop 0).take 52 = [42, 180, 0, 30, 61, 42, 3, 181, 0, 30, 3, 62, 29, 28, 162, 0, 59, 42, 180, 0, 9, 29, 46, 27, 160, 0, 43, 42, 42, 180, 0, 9, 29, 46, 42, 180, 0, 15, 29, 46, 42, 180, 0, 18, 29, 46, 42, 180, 0, 21, 29, 46] := by decide +kernel
theorem dX5_leave_0 : decode cX5_leave 0 = .ok (.aload_n 0, 1) := dk_42 (c := cX5_leave) (pc := 0) (dk_at bnames00cX5_leave_0 0)
theorem dX5_leave_1 : decode cX5_leave 1 = .ok (.getfield 30, 3) := dk_180 (c := cX5_leave) (pc := 1) (a := 0) (b := 30) (dk_at bnames00cX5_leave_0 1) rfl
theorem dX5_leave_4 : decode cX5_leave 4 = .ok (.istore_n 2, 1) := dk_61 (c := cX5_leave) (pc := 4) (dk_at bnames00cX5_leave_0 4)
theorem dX5_leave_5 : decode cX5_leave 5 = .ok (.aload_n 0, 1) := dk_42 (c := cX5_leave) (pc := 5) (dk_at bnames00cX5_leave_0 5)
theorem dX5_leave_6 : decode cX5_leave 6 = .ok (.iconst 0, 1) := dk_3 (c := cX5_leave) (pc := 6) (dk_at bnames00cX5_leave_0 6)
theorem dX5_leave_7 : decode cX5_leave 7 = .ok (.putfield 30, 3) := dk_181 (c := cX5_leave) (pc := 7) (a := 0) (b := 30) (dk_at bnames00cX5_leave_0 7) rfl
theorem dX5_leave_10 : decode cX5_leave 10 = .ok (.iconst 0, 1) := dk_3 (c := cX5_leave) (pc := 10) (dk_at bnames00cX5_leave_0 10)
theorem dX5_leave_11 : decode cX5_leave 11 = .ok (.istore_n 3, 1) := dk_62 (c := cX5_leave) (pc := 11) (dk_at bnames00cX5_leave_0 11)
theorem dX5_leave_12 : decode cX5_leave 12 = .ok (.iload_n 3, 1) := dk_29 (c := cX5_leave) (pc := 12) (dk_at bnames00cX5_leave_0 12)
theorem dX5_leave_13 : decode cX5_leave 13 = .ok (.iload_n 2, 1) := dk_28 (c := cX5_leave) (pc := 13) (dk_at bnames00cX5_leave_0 13)
theorem dX5_leave_14 : decode cX5_leave 14 = .ok (.if_icmp .ge 59, 3) := dk_162 (c := cX5_leave) (pc := 14) (a := 0) (b := 59) (dk_at bnames00cX5_leave_0 14) (by decide)
theorem dX5_leave_17 : decode cX5_leave 17 = .ok (.aload_n 0, 1) := dk_42 (c := cX5_leave) (pc := 17) (dk_at bnames00cX5_leave_0 17)
theorem dX5_leave_18 : decode cX5_leave 18 = .ok (.getfield 9, 3) := dk_180 (c := cX5_leave) (pc := 18) (a := 0) (b := 9) (dk_at bnames00cX5_leave_0 18) rfl
theorem dX5_leave_21 : decode cX5_leave 21 = .ok (.iload_n 3, 1) := dk_29 (c := cX5_leave) (pc := 21) (dk_at bnames00cX5_leave_0 21)
theorem dX5_leave_22 : decode cX5_leave 22 = .ok (.iaload, 1) := dk_46 (c := cX5_leave) (pc := 22) (dk_at bnames00cX5_leave_0 22)
theorem dX5_leave_23 : decode cX5_leave 23 = .ok (.iload_n 1, 1) := dk_27 (c := cX5_leave) (pc := 23) (dk_at bnames00cX5_leave_0 23)
theorem dX5_leave_24 : decode cX5_leave 24 = .ok (.if_icmp .ne 43, 3) := dk_160 (c := cX5_leave) (pc := 24) (a := 0) (b := 43) (dk_at bnames00cX5_leave_0 24) (by decide)
theorem dX5_leave_27 : decode cX5_leave 27 = .ok (.aload_n 0, 1) := dk_42 (c := cX5_leave) (pc := 27) (dk_at bnames00cX5_leave_0 27)
theorem dX5_leave_28 : decode cX5_leave 28 = .ok (.aload_n 0, 1) := dk_42 (c := cX5_leave) (pc := 28) (dk_at bnames00cX5_leave_0 28)
theorem dX5_leave_29 : decode cX5_leave 29 = .ok (.getfield 9, 3) := dk_180 (c := cX5_leave) (pc := 29) (a := 0) (b := 9) (dk_at bnames00cX5_leave_0 29) rfl
theorem dX5_leave_32 : decode cX5_leave 32 = .ok (.iload_n 3, 1) := dk_29 (c := cX5_leave) (pc := 32) (dk_at bnames00cX5_leave_0 32)
theorem dX5_leave_33 : decode cX5_leave 33 = .ok (.iaload, 1) := dk_46 (c := cX5_leave) (pc := 33) (dk_at bnames00cX5_leave_0 33)
theorem dX5_leave_34 : decode cX5_leave 34 = .ok (.aload_n 0, 1) := dk_42 (c := cX5_leave) (pc := 34) (dk_at bnames00cX5_leave_0 34)
theorem dX5_leave_35 : decode cX5_leave 35 = .ok (.getfield 15, 3) := dk_180 (c := cX5_leave) (pc := 35) (a := 0) (b := 15) (dk_at bnames00cX5_leave_0 35) rfl
theorem dX5_leave_38 : decode cX5_leave 38 = .ok (.iload_n 3, 1) := dk_29 (c := cX5_leave) (pc := 38) (dk_at bnames00cX5_leave_0 38)
theorem dX5_leave_39 : decode cX5_leave 39 = .ok (.iaload, 1) := dk_46 (c := cX5_leave) (pc := 39) (dk_at bnames00cX5_leave_0 39)
theorem dX5_leave_40 : decode cX5_leave 40 = .ok (.aload_n 0, 1) := dk_42 (c := cX5_leave) (pc := 40) (dk_at bnames00cX5_leave_0 40)
theorem dX5_leave_41 : decode cX5_leave 41 = .ok (.getfield 18, 3) := dk_180 (c := cX5_leave) (pc := 41) (a := 0) (b := 18) (dk_at bnames00cX5_leave_0 41) rfl
theorem dX5_leave_44 : decode cX5_leave 44 = .ok (.iload_n 3, 1) := dk_29 (c := cX5_leave) (pc := 44) (dk_at bnames00cX5_leave_0 44)
theorem dX5_leave_45 : decode cX5_leave 45 = .ok (.iaload, 1) := dk_46 (c := cX5_leave) (pc := 45) (dk_at bnames00cX5_leave_0 45)
theorem dX5_leave_46 : decode cX5_leave 46 = .ok (.aload_n 0, 1) := dk_42 (c := cX5_leave) (pc := 46) (dk_at bnames00cX5_leave_0 46)
theorem dX5_leave_47 : decode cX5_leave 47 = .ok (.getfield 21, 3) := dk_180 (c := cX5_leave) (pc := 47) (a := 0) (b := 21) (dk_at bnames00cX5_leave_0 47) rfl
theorem bnames00cX5_leave_48 : ((dk_l cX5_leave).drop 48).take 26 = [0, 21, 29, 46, 42, 180, 0, 24, 29, 46, 42, 180, 0, 27, 29, 46, 182, 0, 34, 132, 3, 1, 167, 255, 198, 177] := by decide +kernel
theorem dX5_leave_50 : decode cX5_leave 50 = .ok (.iload_n 3, 1) := dk_29 (c := cX5_leave) (pc := 50) (dk_at bnames00cX5_leave_48 2)
theorem dX5_leave_51 : decode cX5_leave 51 = .ok (.iaload, 1) := dk_46 (c := cX5_leave) (pc := 51) (dk_at bnames00cX5_leave_48 3)
theorem dX5_leave_52 : decode cX5_leave 52 = .ok (.aload_n 0, 1) := dk_42 (c := cX5_leave) (pc := 52) (dk_at bnames00cX5_leave_48 4)
theorem dX5_leave_53 : decode cX5_leave 53 = .ok (.getfield 24, 3) := dk_180 (c := cX5_leave) (pc := 53) (a := 0) (b := 24) (dk_at bnames00cX5_leave_48 5) rfl
theorem dX5_leave_56 : decode cX5_leave 56 = .ok (.iload_n 3, 1) := dk_29 (c := cX5_leave) (pc := 56) (dk_at bnames00cX5_leave_48 8)
theorem dX5_leave_57 : decode cX5_leave 57 = .ok (.iaload, 1) := dk_46 (c := cX5_leave) (pc := 57) (dk_at bnames00cX5_leave_48 9)
theorem dX5_leave_58 : decode cX5_leave 58 = .ok (.aload_n 0, 1) := dk_42 (c := cX5_leave) (pc := 58) (dk_at bnames00cX5_leave_48 10)
theorem dX5_leave_59 : decode cX5_leave 59 = .ok (.getfield 27, 3) := dk_180 (c := cX5_leave) (pc := 59) (a := 0) (b := 27) (dk_at bnames00cX5_leave_48 11) rfl
theorem dX5_leave_62 : decode cX5_leave 62 = .ok (.iload_n 3, 1) := dk_29 (c := cX5_leave) (pc := 62) (dk_at bnames00cX5_leave_48 14)
theorem dX5_leave_63 : decode cX5_leave 63 = .ok (.iaload, 1) := dk_46 (c := cX5_leave) (pc := 63) (dk_at bnames00cX5_leave_48 15)
theorem dX5_leave_64 : decode cX5_leave 64 = .ok (.invokevirtual 34, 3) := dk_182 (c := cX5_leave) (pc := 64) (a := 0) (b := 34) (dk_at bnames00cX5_leave_48 16) rfl
theorem dX5_leave_67 : decode cX5_leave 67 = .ok (.iinc 3 1, 3) := dk_132 (c := cX5_leave) (pc := 67) (a := 3) (b := 1) (dk_at bnames00cX5_leave_48 19) rfl (by decide)
theorem dX5_leave_70 : decode cX5_leave 70 = .ok (.goto (-58), 3) := dk_167 (c := cX5_leave) (pc := 70) (a := 255) (b := 198) (dk_at bnames00cX5_leave_48 22) (by decide)
theorem dX5_leave_73 : decode cX5_leave 73 = .ok (.return_, 1) := dk_177 (c := cX5_leave) (pc := 73) (dk_at bnames00cX5_leave_48 25)
theorem bnames00cX5_copyOf_0 : ((dk_l cX5_copyOf).drop 0).take 52 = [42, 43, 180, 0, 30, 181, 0, 30, 43, 180, 0, 9, 3, 42, 180, 0, 9, 3, 42, 180, 0, 30, 184, 0, 38, 43, 180, 0, 15, 3, 42, 180, 0, 15, 3, 42, 180, 0, 30, 184, 0, 38, 43, 180, 0, 18, 3, 42, 180, 0, 18, 3] := by decide +kernel
theorem dX5_copyOf_0 : decode cX5_copyOf 0 = .ok (.aload_n 0, 1) := dk_42 (c := cX5_copyOf) (pc := 0) (dk_at bnames00cX5_copyOf_0 0)
theorem dX5_copyOf_1 : decode cX5_copyOf 1 = .ok (.aload_n 1, 1) := dk_43 (c := cX5_copyOf) (pc := 1) (dk_at bnames00cX5_copyOf_0 1)
theorem dX5_copyOf_2 : decode cX5_copyOf 2 = .ok (.getfield 30, 3) := dk_180 (c := cX5_copyOf) (pc := 2) (a := 0) (b := 30) (dk_at bnames00cX5_copyOf_0 2) rfl
theorem dX5_copyOf_5 : decode cX5_copyOf 5 = .ok (.putfield 30, 3) := dk_181 (c := cX5_copyOf) (pc := 5) (a := 0) (b := 30) (dk_at bnames00cX5_copyOf_0 5) rfl
theorem dX5_copyOf_8 : decode cX5_copyOf 8 = .ok (.aload_n 1, 1) := dk_43 (c := cX5_copyOf) (pc := 8) (dk_at bnames00cX5_copyOf_0 8)
theorem dX5_copyOf_9 : decode cX5_copyOf 9 = .ok (.getfield 9, 3) := dk_180 (c := cX5_copyOf) (pc := 9) (a := 0) (b := 9) (dk_at bnames00cX5_copyOf_0 9) rfl
theorem dX5_copyOf_12 : decode cX5_copyOf 12 = .ok (.iconst 0, 1) := dk_3 (c := cX5_copyOf) (pc := 12) (dk_at bnames00cX5_copyOf_0 12)
theorem dX5_copyOf_13 : decode cX5_copyOf 13 = .ok (.aload_n 0, 1) := dk_42 (c := cX5_copyOf) (pc := 13) (dk_at bnames00cX5_copyOf_0 13)
theorem dX5_copyOf_14 : decode cX5_copyOf 14 = .ok (.getfield 9, 3) := dk_180 (c := cX5_copyOf) (pc := 14) (a := 0) (b := 9) (dk_at bnames00cX5_copyOf_0 14) rfl
theorem dX5_copyOf_17 : decode cX5_copyOf 17 = .ok (.iconst 0, 1) := dk_3 (c := cX5_copyOf) (pc := 17) (dk_at bnames00cX5_copyOf_0 17)
theorem dX5_copyOf_18 : decode cX5_copyOf 18 = .ok (.aload_n 0, 1) := dk_42 (c := cX5_copyOf) (pc := 18) (dk_at bnames00cX5_copyOf_0 18)
theorem dX5_copyOf_19 : decode cX5_copyOf 19 = .ok (.getfield 30, 3) := dk_180 (c := cX5_copyOf) (pc := 19) (a := 0) (b := 30) (dk_at bnames00cX5_copyOf_0 19) rfl
theorem dX5_copyOf_22 : decode cX5_copyOf 22 = .ok (.invokestatic 38, 3) := dk_184 (c := cX5_copyOf) (pc := 22) (a := 0) (b := 38) (dk_at bnames00cX5_copyOf_0 22) rfl
theorem dX5_copyOf_25 : decode cX5_copyOf 25 = .ok (.aload_n 1, 1) := dk_43 (c := cX5_copyOf) (pc := 25) (dk_at bnames00cX5_copyOf_0 25)
theorem dX5_copyOf_26 : decode cX5_copyOf 26 = .ok (.getfield 15, 3) := dk_180 (c := cX5_copyOf) (pc := 26) (a := 0) (b := 15) (dk_at bnames00cX5_copyOf_0 26) rfl
theorem dX5_copyOf_29 : decode cX5_copyOf 29 = .ok (.iconst 0, 1) := dk_3 (c := cX5_copyOf) (pc := 29) (dk_at bnames00cX5_copyOf_0 29)
theorem dX5_copyOf_30 : decode cX5_copyOf 30 = .ok (.aload_n 0, 1) := dk_42 (c := cX5_copyOf) (pc := 30) (dk_at bnames00cX5_copyOf_0 30)
theorem dX5_copyOf_31 : decode cX5_copyOf 31 = .ok (.getfield 15, 3) := dk_180 (c := cX5_copyOf) (pc := 31) (a := 0) (b := 15) (dk_at bnames00cX5_copyOf_0 31) rfl
theorem dX5_copyOf_34 : decode cX5_copyOf 34 = .ok (.iconst 0, 1) := dk_3 (c := cX5_copyOf) (pc := 34) (dk_at bnames00cX5_copyOf_0 34)
theorem dX5_copyOf_35 : decode cX5_copyOf 35 = .ok (.aload_n 0, 1) := dk_42 (c := cX5_copyOf) (pc := 35) (dk_at bnames00cX5_copyOf_0 35)
theorem dX5_copyOf_36 : decode cX5_copyOf 36 = .ok (.getfield 30, 3) := dk_180 (c := cX5_copyOf) (pc := 36) (a := 0) (b := 30) (dk_at bnames00cX5_copyOf_0 36) rfl
theorem dX5_copyOf_39 : decode cX5_copyOf 39 = .ok (.invokestatic 38, 3) := dk_184 (c := cX5_copyOf) (pc := 39) (a := 0) (b := 38) (dk_at bnames00cX5_copyOf_0 39) rfl
theorem dX5_copyOf_42 : decode cX5_copyOf 42 = .ok (.aload_n 1, 1) := dk_43 (c := cX5_copyOf) (pc := 42) (dk_at bnames00cX5_copyOf_0 42)
theorem dX5_copyOf_43 : decode cX5_copyOf 43 = .ok (.getfield 18, 3) := dk_180 (c := cX5_copyOf) (pc := 43) (a := 0) (b := 18) (dk_at bnames00cX5_copyOf_0 43) rfl
theorem dX5_copyOf_46 : decode cX5_copyOf 46 = .ok (.iconst 0, 1) := dk_3 (c := cX5_copyOf) (pc := 46) (dk_at bnames00cX5_copyOf_0 46)
theorem dX5_copyOf_47 : decode cX5_copyOf 47 = .ok (.aload_n 0, 1) := dk_42 (c := cX5_copyOf) (pc := 47) (dk_at bnames00cX5_copyOf_0 47)
theorem bnames00cX5_copyOf_48 : ((dk_l cX5_copyOf).drop 48).take 52 = [180, 0, 18, 3, 42, 180, 0, 30, 184, 0, 38, 43, 180, 0, 21, 3, 42, 180, 0, 21, 3, 42, 180, 0, 30, 184, 0, 38, 43, 180, 0, 24, 3, 42, 180, 0, 24, 3, 42, 180, 0, 30, 184, 0, 38, 43, 180, 0, 27, 3, 42, 180] := by decide +kernel
theorem dX5_copyOf_48 : decode cX5_copyOf 48 = .ok (.getfield 18, 3) := dk_180 (c := cX5_copyOf) (pc := 48) (a := 0) (b := 18) (dk_at bnames00cX5_copyOf_48 0) rfl
theorem dX5_copyOf_51 : decode cX5_copyOf 51 = .ok (.iconst 0, 1) := dk_3 (c := cX5_copyOf) (pc := 51) (dk_at bnames00cX5_copyOf_48 3)
theorem dX5_copyOf_52 : decode cX5_copyOf 52 = .ok (.aload_n 0, 1) := dk_42 (c := cX5_copyOf) (pc := 52) (dk_at bnames00cX5_copyOf_48 4)
theorem dX5_copyOf_53 : decode cX5_copyOf 53 = .ok (.getfield 30, 3) := dk_180 (c := cX5_copyOf) (pc := 53) (a := 0) (b := 30) (dk_at bnames00cX5_copyOf_48 5) rfl
theorem dX5_copyOf_56 : decode cX5_copyOf 56 = .ok (.invokestatic 38, 3) := dk_184 (c := cX5_copyOf) (pc := 56) (a := 0) (b := 38) (dk_at bnames00cX5_copyOf_48 8) rfl
theorem dX5_copyOf_59 : decode cX5_copyOf 59 = .ok (.aload_n 1, 1) := dk_43 (c := cX5_copyOf) (pc := 59) (dk_at bnames00cX5_copyOf_48 11)
theorem dX5_copyOf_60 : decode cX5_copyOf 60 = .ok (.getfield 21, 3) := dk_180 (c := cX5_copyOf) (pc := 60) (a := 0) (b := 21) (dk_at bnames00cX5_copyOf_48 12) rfl
theorem dX5_copyOf_63 : decode cX5_copyOf 63 = .ok (.iconst 0, 1) := dk_3 (c := cX5_copyOf) (pc := 63) (dk_at bnames00cX5_copyOf_48 15)
theorem dX5_copyOf_64 : decode cX5_copyOf 64 = .ok (.aload_n 0, 1) := dk_42 (c := cX5_copyOf) (pc := 64) (dk_at bnames00cX5_copyOf_48 16)
theorem dX5_copyOf_65 : decode cX5_copyOf 65 = .ok (.getfield 21, 3) := dk_180 (c := cX5_copyOf) (pc := 65) (a := 0) (b := 21) (dk_at bnames00cX5_copyOf_48 17) rfl
theorem dX5_copyOf_68 : decode cX5_copyOf 68 = .ok (.iconst 0, 1) := dk_3 (c := cX5_copyOf) (pc := 68) (dk_at bnames00cX5_copyOf_48 20)
theorem dX5_copyOf_69 : decode cX5_copyOf 69 = .ok (.aload_n 0, 1) := dk_42 (c := cX5_copyOf) (pc := 69) (dk_at bnames00cX5_copyOf_48 21)
theorem dX5_copyOf_70 : decode cX5_copyOf 70 = .ok (.getfield 30, 3) := dk_180 (c := cX5_copyOf) (pc := 70) (a := 0) (b := 30) (dk_at bnames00cX5_copyOf_48 22) rfl
theorem dX5_copyOf_73 : decode cX5_copyOf 73 = .ok (.invokestatic 38, 3) := dk_184 (c := cX5_copyOf) (pc := 73) (a := 0) (b := 38) (dk_at bnames00cX5_copyOf_48 25) rfl
theorem dX5_copyOf_76 : decode cX5_copyOf 76 = .ok (.aload_n 1, 1) := dk_43 (c := cX5_copyOf) (pc := 76) (dk_at bnames00cX5_copyOf_48 28)
theorem dX5_copyOf_77 : decode cX5_copyOf 77 = .ok (.getfield 24, 3) := dk_180 (c := cX5_copyOf) (pc := 77) (a := 0) (b := 24) (dk_at bnames00cX5_copyOf_48 29) rfl
theorem dX5_copyOf_80 : decode cX5_copyOf 80 = .ok (.iconst 0, 1) := dk_3 (c := cX5_copyOf) (pc := 80) (dk_at bnames00cX5_copyOf_48 32)
theorem dX5_copyOf_81 : decode cX5_copyOf 81 = .ok (.aload_n 0, 1) := dk_42 (c := cX5_copyOf) (pc := 81) (dk_at bnames00cX5_copyOf_48 33)
theorem dX5_copyOf_82 : decode cX5_copyOf 82 = .ok (.getfield 24, 3) := dk_180 (c := cX5_copyOf) (pc := 82) (a := 0) (b := 24) (dk_at bnames00cX5_copyOf_48 34) rfl
theorem dX5_copyOf_85 : decode cX5_copyOf 85 = .ok (.iconst 0, 1) := dk_3 (c := cX5_copyOf) (pc := 85) (dk_at bnames00cX5_copyOf_48 37)
theorem dX5_copyOf_86 : decode cX5_copyOf 86 = .ok (.aload_n 0, 1) := dk_42 (c := cX5_copyOf) (pc := 86) (dk_at bnames00cX5_copyOf_48 38)
theorem dX5_copyOf_87 : decode cX5_copyOf 87 = .ok (.getfield 30, 3) := dk_180 (c := cX5_copyOf) (pc := 87) (a := 0) (b := 30) (dk_at bnames00cX5_copyOf_48 39) rfl
theorem dX5_copyOf_90 : decode cX5_copyOf 90 = .ok (.invokestatic 38, 3) := dk_184 (c := cX5_copyOf) (pc := 90) (a := 0) (b := 38) (dk_at bnames00cX5_copyOf_48 42) rfl
theorem dX5_copyOf_93 : decode cX5_copyOf 93 = .ok (.aload_n 1, 1) := dk_43 (c := cX5_copyOf) (pc := 93) (dk_at bnames00cX5_copyOf_48 45)
theorem dX5_copyOf_94 : decode cX5_copyOf 94 = .ok (.getfield 27, 3) := dk_180 (c := cX5_copyOf) (pc := 94) (a := 0) (b := 27) (dk_at bnames00cX5_copyOf_48 46) rfl
theorem bnames00cX5_copyOf_96 : ((dk_l cX5_copyOf).drop 96).take 15 = [27, 3, 42, 180, 0, 27, 3, 42, 180, 0, 30, 184, 0, 38, 177] := by decide +kernel
theorem dX5_copyOf_97 : decode cX5_copyOf 97 = .ok (.iconst 0, 1) := dk_3 (c := cX5_copyOf) (pc := 97) (dk_at bnames00cX5_copyOf_96 1)
theorem dX5_copyOf_98 : decode cX5_copyOf 98 = .ok (.aload_n 0, 1) := dk_42 (c := cX5_copyOf) (pc := 98) (dk_at bnames00cX5_copyOf_96 2)
theorem dX5_copyOf_99 : decode cX5_copyOf 99 = .ok (.getfield 27, 3) := dk_180 (c := cX5_copyOf) (pc := 99) (a := 0) (b := 27) (dk_at bnames00cX5_copyOf_96 3) rfl
theorem dX5_copyOf_102 : decode cX5_copyOf 102 = .ok (.iconst 0, 1) := dk_3 (c := cX5_copyOf) (pc := 102) (dk_at bnames00cX5_copyOf_96 6)
theorem dX5_copyOf_103 : decode cX5_copyOf 103 = .ok (.aload_n 0, 1) := dk_42 (c := cX5_copyOf) (pc := 103) (dk_at bnames00cX5_copyOf_96 7)
theorem dX5_copyOf_104 : decode cX5_copyOf 104 = .ok (.getfield 30, 3) := dk_180 (c := cX5_copyOf) (pc := 104) (a := 0) (b := 30) (dk_at bnames00cX5_copyOf_96 8) rfl
theorem dX5_copyOf_107 : decode cX5_copyOf 107 = .ok (.invokestatic 38, 3) := dk_184 (c := cX5_copyOf) (pc := 107) (a := 0) (b := 38) (dk_at bnames00cX5_copyOf_96 11) rfl
theorem dX5_copyOf_110 : decode cX5_copyOf 110 = .ok (.return_, 1) := dk_177 (c := cX5_copyOf) (pc := 110) (dk_at bnames00cX5_copyOf_96 14)
theorem bnames00cX6_clear_0 : ((dk_l cX6_clear).drop 0).take 52 = [42, 9, 181, 0, 9, 42, 9, 181, 0, 15, 42, 9, 181, 0, 18, 42, 9, 181, 0, 21, 42, 9, 181, 0, 24, 42, 9, 181, 0, 27, 42, 9, 181, 0, 30, 42, 9, 181, 0, 33, 42, 9, 181, 0, 36, 42, 9, 181, 0, 39, 42, 9] := by decide +kernel
theorem dX6_clear_0 : decode cX6_clear 0 = .ok (.aload_n 0, 1) := dk_42 (c := cX6_clear) (pc := 0) (dk_at bnames00cX6_clear_0 0)
theorem dX6_clear_1 : decode cX6_clear 1 = .ok (.lconst 0, 1) := dk_9 (c := cX6_clear) (pc := 1) (dk_at bnames00cX6_clear_0 1)
theorem dX6_clear_2 : decode cX6_clear 2 = .ok (.putfield 9, 3) := dk_181 (c := cX6_clear) (pc := 2) (a := 0) (b := 9) (dk_at bnames00cX6_clear_0 2) rfl
theorem dX6_clear_5 : decode cX6_clear 5 = .ok (.aload_n 0, 1) := dk_42 (c := cX6_clear) (pc := 5) (dk_at bnames00cX6_clear_0 5)
theorem dX6_clear_6 : decode cX6_clear 6 = .ok (.lconst 0, 1) := dk_9 (c := cX6_clear) (pc := 6) (dk_at bnames00cX6_clear_0 6)
theorem dX6_clear_7 : decode cX6_clear 7 = .ok (.putfield 15, 3) := dk_181 (c := cX6_clear) (pc := 7) (a := 0) (b := 15) (dk_at bnames00cX6_clear_0 7) rfl
theorem dX6_clear_10 : decode cX6_clear 10 = .ok (.aload_n 0, 1) := dk_42 (c := cX6_clear) (pc := 10) (dk_at bnames00cX6_clear_0 10)
theorem dX6_clear_11 : decode cX6_clear 11 = .ok (.lconst 0, 1) := dk_9 (c := cX6_clear) (pc := 11) (dk_at bnames00cX6_clear_0 11)
theorem dX6_clear_12 : decode cX6_clear 12 = .ok (.putfield 18, 3) := dk_181 (c := cX6_clear) (pc := 12) (a := 0) (b := 18) (dk_at bnames00cX6_clear_0 12) rfl
theorem dX6_clear_15 : decode cX6_clear 15 = .ok (.aload_n 0, 1) := dk_42 (c := cX6_clear) (pc := 15) (dk_at bnames00cX6_clear_0 15)
theorem dX6_clear_16 : decode cX6_clear 16 = .ok (.lconst 0, 1) := dk_9 (c := cX6_clear) (pc := 16) (dk_at bnames00cX6_clear_0 16)
theorem dX6_clear_17 : decode cX6_clear 17 = .ok (.putfield 21, 3) := dk_181 (c := cX6_clear) (pc := 17) (a := 0) (b := 21) (dk_at bnames00cX6_clear_0 17) rfl
theorem dX6_clear_20 : decode cX6_clear 20 = .ok (.aload_n 0, 1) := dk_42 (c := cX6_clear) (pc := 20) (dk_at bnames00cX6_clear_0 20)
theorem dX6_clear_21 : decode cX6_clear 21 = .ok (.lconst 0, 1) := dk_9 (c := cX6_clear) (pc := 21) (dk_at bnames00cX6_clear_0 21)
theorem dX6_clear_22 : decode cX6_clear 22 = .ok (.putfield 24, 3) := dk_181 (c := cX6_clear) (pc := 22) (a := 0) (b := 24) (dk_at bnames00cX6_clear_0 22) rfl
theorem dX6_clear_25 : decode cX6_clear 25 = .ok (.aload_n 0, 1) := dk_42 (c := cX6_clear) (pc := 25) (dk_at bnames00cX6_clear_0 25)
theorem dX6_clear_26 : decode cX6_clear 26 = .ok (.lconst 0, 1) := dk_9 (c := cX6_clear) (pc := 26) (dk_at bnames00cX6_clear_0 26)
theorem dX6_clear_27 : decode cX6_clear 27 = .ok (.putfield 27, 3) := dk_181 (c := cX6_clear) (pc := 27) (a := 0) (b := 27) (dk_at bnames00cX6_clear_0 27) rfl
theorem dX6_clear_30 : decode cX6_clear 30 = .ok (.aload_n 0, 1) := dk_42 (c := cX6_clear) (pc := 30) (dk_at bnames00cX6_clear_0 30)
theorem dX6_clear_31 : decode cX6_clear 31 = .ok (.lconst 0, 1) := dk_9 (c := cX6_clear) (pc := 31) (dk_at bnames00cX6_clear_0 31)
theorem dX6_clear_32 : decode cX6_clear 32 = .ok (.putfield 30, 3) := dk_181 (c := cX6_clear) (pc := 32) (a := 0) (b := 30) (dk_at bnames00cX6_clear_0 32) rfl
theorem dX6_clear_35 : decode cX6_clear 35 = .ok (.aload_n 0, 1) := dk_42 (c := cX6_clear) (pc := 35) (dk_at bnames00cX6_clear_0 35)
theorem dX6_clear_36 : decode cX6_clear 36 = .ok (.lconst 0, 1) := dk_9 (c := cX6_clear) (pc := 36) (dk_at bnames00cX6_clear_0 36)
theorem dX6_clear_37 : decode cX6_clear 37 = .ok (.putfield 33, 3) := dk_181 (c := cX6_clear) (pc := 37) (a := 0) (b := 33) (dk_at bnames00cX6_clear_0 37) rfl
theorem dX6_clear_40 : decode cX6_clear 40 = .ok (.aload_n 0, 1) := dk_42 (c := cX6_clear) (pc := 40) (dk_at bnames00cX6_clear_0 40)
theorem dX6_clear_41 : decode cX6_clear 41 = .ok (.lconst 0, 1) := dk_9 (c := cX6_clear) (pc := 41) (dk_at bnames00cX6_clear_0 41)
theorem dX6_clear_42 : decode cX6_clear 42 = .ok (.putfield 36, 3) := dk_181 (c := cX6_clear) (pc := 42) (a := 0) (b := 36) (dk_at bnames00cX6_clear_0 42) rfl
theorem dX6_clear_45 : decode cX6_clear 45 = .ok (.aload_n 0, 1) := dk_42 (c := cX6_clear) (pc := 45) (dk_at bnames00cX6_clear_0 45)
theorem dX6_clear_46 : decode cX6_clear 46 = .ok (.lconst 0, 1) := dk_9 (c := cX6_clear) (pc := 46) (dk_at bnames00cX6_clear_0 46)
theorem dX6_clear_47 : decode cX6_clear 47 = .ok (.putfield 39, 3) := dk_181 (c := cX6_clear) (pc := 47) (a := 0) (b := 39) (dk_at bnames00cX6_clear_0 47) rfl
theorem bnames00cX6_clear_48 : ((dk_l cX6_clear).drop 48).take 8 = [0, 39, 42, 9, 181, 0, 42, 177] := by decide +kernel
theorem dX6_clear_50 : decode cX6_clear 50 = .ok (.aload_n 0, 1) := dk_42 (c := cX6_clear) (pc := 50) (dk_at bnames00cX6_clear_48 2)
theorem dX6_clear_51 : decode cX6_clear 51 = .ok (.lconst 0, 1) := dk_9 (c := cX6_clear) (pc := 51) (dk_at bnames00cX6_clear_48 3)
theorem dX6_clear_52 : decode cX6_clear 52 = .ok (.putfield 42, 3) := dk_181 (c := cX6_clear) (pc := 52) (a := 0) (b := 42) (dk_at bnames00cX6_clear_48 4) rfl
theorem dX6_clear_55 : decode cX6_clear 55 = .ok (.return_, 1) := dk_177 (c := cX6_clear) (pc := 55) (dk_at bnames00cX6_clear_48 7)
theorem bnames00cX6_take_0 : ((dk_l cX6_take).drop 0).take 52 = [43, 180, 0, 45, 28, 46, 133, 55, 4, 43, 180, 0, 50, 28, 46, 133, 55, 6, 42, 89, 180, 0, 36, 22, 4, 22, 4, 105, 97, 181, 0, 36, 42, 89, 180, 0, 39, 22, 4, 22, 6, 105, 97, 181, 0, 39, 42, 89, 180, 0, 42, 22] := by decide +kernel
theorem dX6_take_0 : decode cX6_take 0 = .ok (.aload_n 1, 1) := dk_43 (c := cX6_take) (pc := 0) (dk_at bnames00cX6_take_0 0)
theorem dX6_take_1 : decode cX6_take 1 = .ok (.getfield 45, 3) := dk_180 (c := cX6_take) (pc := 1) (a := 0) (b := 45) (dk_at bnames00cX6_take_0 1) rfl
theorem dX6_take_4 : decode cX6_take 4 = .ok (.iload_n 2, 1) := dk_28 (c := cX6_take) (pc := 4) (dk_at bnames00cX6_take_0 4)
theorem dX6_take_5 : decode cX6_take 5 = .ok (.iaload, 1) := dk_46 (c := cX6_take) (pc := 5) (dk_at bnames00cX6_take_0 5)
theorem dX6_take_6 : decode cX6_take 6 = .ok (.i2l, 1) := dk_133 (c := cX6_take) (pc := 6) (dk_at bnames00cX6_take_0 6)
theorem dX6_take_7 : decode cX6_take 7 = .ok (.lstore 4, 2) := dk_55 (c := cX6_take) (pc := 7) (a := 4) (dk_at bnames00cX6_take_0 7) rfl
theorem dX6_take_9 : decode cX6_take 9 = .ok (.aload_n 1, 1) := dk_43 (c := cX6_take) (pc := 9) (dk_at bnames00cX6_take_0 9)
theorem dX6_take_10 : decode cX6_take 10 = .ok (.getfield 50, 3) := dk_180 (c := cX6_take) (pc := 10) (a := 0) (b := 50) (dk_at bnames00cX6_take_0 10) rfl
theorem dX6_take_13 : decode cX6_take 13 = .ok (.iload_n 2, 1) := dk_28 (c := cX6_take) (pc := 13) (dk_at bnames00cX6_take_0 13)
theorem dX6_take_14 : decode cX6_take 14 = .ok (.iaload, 1) := dk_46 (c := cX6_take) (pc := 14) (dk_at bnames00cX6_take_0 14)
theorem dX6_take_15 : decode cX6_take 15 = .ok (.i2l, 1) := dk_133 (c := cX6_take) (pc := 15) (dk_at bnames00cX6_take_0 15)
theorem dX6_take_16 : decode cX6_take 16 = .ok (.lstore 6, 2) := dk_55 (c := cX6_take) (pc := 16) (a := 6) (dk_at bnames00cX6_take_0 16) rfl
theorem dX6_take_18 : decode cX6_take 18 = .ok (.aload_n 0, 1) := dk_42 (c := cX6_take) (pc := 18) (dk_at bnames00cX6_take_0 18)
theorem dX6_take_19 : decode cX6_take 19 = .ok (.dup, 1) := dk_89 (c := cX6_take) (pc := 19) (dk_at bnames00cX6_take_0 19)
theorem dX6_take_20 : decode cX6_take 20 = .ok (.getfield 36, 3) := dk_180 (c := cX6_take) (pc := 20) (a := 0) (b := 36) (dk_at bnames00cX6_take_0 20) rfl
theorem dX6_take_23 : decode cX6_take 23 = .ok (.lload 4, 2) := dk_22 (c := cX6_take) (pc := 23) (a := 4) (dk_at bnames00cX6_take_0 23) rfl
theorem dX6_take_25 : decode cX6_take 25 = .ok (.lload 4, 2) := dk_22 (c := cX6_take) (pc := 25) (a := 4) (dk_at bnames00cX6_take_0 25) rfl
theorem dX6_take_27 : decode cX6_take 27 = .ok (.lmul, 1) := dk_105 (c := cX6_take) (pc := 27) (dk_at bnames00cX6_take_0 27)
theorem dX6_take_28 : decode cX6_take 28 = .ok (.ladd, 1) := dk_97 (c := cX6_take) (pc := 28) (dk_at bnames00cX6_take_0 28)
theorem dX6_take_29 : decode cX6_take 29 = .ok (.putfield 36, 3) := dk_181 (c := cX6_take) (pc := 29) (a := 0) (b := 36) (dk_at bnames00cX6_take_0 29) rfl
theorem dX6_take_32 : decode cX6_take 32 = .ok (.aload_n 0, 1) := dk_42 (c := cX6_take) (pc := 32) (dk_at bnames00cX6_take_0 32)
theorem dX6_take_33 : decode cX6_take 33 = .ok (.dup, 1) := dk_89 (c := cX6_take) (pc := 33) (dk_at bnames00cX6_take_0 33)
theorem dX6_take_34 : decode cX6_take 34 = .ok (.getfield 39, 3) := dk_180 (c := cX6_take) (pc := 34) (a := 0) (b := 39) (dk_at bnames00cX6_take_0 34) rfl
theorem dX6_take_37 : decode cX6_take 37 = .ok (.lload 4, 2) := dk_22 (c := cX6_take) (pc := 37) (a := 4) (dk_at bnames00cX6_take_0 37) rfl
theorem dX6_take_39 : decode cX6_take 39 = .ok (.lload 6, 2) := dk_22 (c := cX6_take) (pc := 39) (a := 6) (dk_at bnames00cX6_take_0 39) rfl
theorem dX6_take_41 : decode cX6_take 41 = .ok (.lmul, 1) := dk_105 (c := cX6_take) (pc := 41) (dk_at bnames00cX6_take_0 41)
theorem dX6_take_42 : decode cX6_take 42 = .ok (.ladd, 1) := dk_97 (c := cX6_take) (pc := 42) (dk_at bnames00cX6_take_0 42)
theorem dX6_take_43 : decode cX6_take 43 = .ok (.putfield 39, 3) := dk_181 (c := cX6_take) (pc := 43) (a := 0) (b := 39) (dk_at bnames00cX6_take_0 43) rfl
theorem dX6_take_46 : decode cX6_take 46 = .ok (.aload_n 0, 1) := dk_42 (c := cX6_take) (pc := 46) (dk_at bnames00cX6_take_0 46)
theorem dX6_take_47 : decode cX6_take 47 = .ok (.dup, 1) := dk_89 (c := cX6_take) (pc := 47) (dk_at bnames00cX6_take_0 47)
theorem bnames00cX6_take_48 : ((dk_l cX6_take).drop 48).take 52 = [180, 0, 42, 22, 6, 22, 6, 105, 97, 181, 0, 42, 29, 153, 0, 54, 42, 89, 180, 0, 9, 10, 97, 181, 0, 9, 42, 89, 180, 0, 15, 22, 4, 97, 181, 0, 15, 42, 89, 180, 0, 18, 22, 6, 97, 181, 0, 18, 42, 89, 180, 0] := by decide +kernel
theorem dX6_take_48 : decode cX6_take 48 = .ok (.getfield 42, 3) := dk_180 (c := cX6_take) (pc := 48) (a := 0) (b := 42) (dk_at bnames00cX6_take_48 0) rfl
theorem dX6_take_51 : decode cX6_take 51 = .ok (.lload 6, 2) := dk_22 (c := cX6_take) (pc := 51) (a := 6) (dk_at bnames00cX6_take_48 3) rfl
theorem dX6_take_53 : decode cX6_take 53 = .ok (.lload 6, 2) := dk_22 (c := cX6_take) (pc := 53) (a := 6) (dk_at bnames00cX6_take_48 5) rfl
theorem dX6_take_55 : decode cX6_take 55 = .ok (.lmul, 1) := dk_105 (c := cX6_take) (pc := 55) (dk_at bnames00cX6_take_48 7)
theorem dX6_take_56 : decode cX6_take 56 = .ok (.ladd, 1) := dk_97 (c := cX6_take) (pc := 56) (dk_at bnames00cX6_take_48 8)
theorem dX6_take_57 : decode cX6_take 57 = .ok (.putfield 42, 3) := dk_181 (c := cX6_take) (pc := 57) (a := 0) (b := 42) (dk_at bnames00cX6_take_48 9) rfl
theorem dX6_take_60 : decode cX6_take 60 = .ok (.iload_n 3, 1) := dk_29 (c := cX6_take) (pc := 60) (dk_at bnames00cX6_take_48 12)
theorem dX6_take_61 : decode cX6_take 61 = .ok (.ifCond .eq 54, 3) := dk_153 (c := cX6_take) (pc := 61) (a := 0) (b := 54) (dk_at bnames00cX6_take_48 13) (by decide)
theorem dX6_take_64 : decode cX6_take 64 = .ok (.aload_n 0, 1) := dk_42 (c := cX6_take) (pc := 64) (dk_at bnames00cX6_take_48 16)
theorem dX6_take_65 : decode cX6_take 65 = .ok (.dup, 1) := dk_89 (c := cX6_take) (pc := 65) (dk_at bnames00cX6_take_48 17)
theorem dX6_take_66 : decode cX6_take 66 = .ok (.getfield 9, 3) := dk_180 (c := cX6_take) (pc := 66) (a := 0) (b := 9) (dk_at bnames00cX6_take_48 18) rfl
theorem dX6_take_69 : decode cX6_take 69 = .ok (.lconst 1, 1) := dk_10 (c := cX6_take) (pc := 69) (dk_at bnames00cX6_take_48 21)
theorem dX6_take_70 : decode cX6_take 70 = .ok (.ladd, 1) := dk_97 (c := cX6_take) (pc := 70) (dk_at bnames00cX6_take_48 22)
theorem dX6_take_71 : decode cX6_take 71 = .ok (.putfield 9, 3) := dk_181 (c := cX6_take) (pc := 71) (a := 0) (b := 9) (dk_at bnames00cX6_take_48 23) rfl
theorem dX6_take_74 : decode cX6_take 74 = .ok (.aload_n 0, 1) := dk_42 (c := cX6_take) (pc := 74) (dk_at bnames00cX6_take_48 26)
theorem dX6_take_75 : decode cX6_take 75 = .ok (.dup, 1) := dk_89 (c := cX6_take) (pc := 75) (dk_at bnames00cX6_take_48 27)
theorem dX6_take_76 : decode cX6_take 76 = .ok (.getfield 15, 3) := dk_180 (c := cX6_take) (pc := 76) (a := 0) (b := 15) (dk_at bnames00cX6_take_48 28) rfl
theorem dX6_take_79 : decode cX6_take 79 = .ok (.lload 4, 2) := dk_22 (c := cX6_take) (pc := 79) (a := 4) (dk_at bnames00cX6_take_48 31) rfl
theorem dX6_take_81 : decode cX6_take 81 = .ok (.ladd, 1) := dk_97 (c := cX6_take) (pc := 81) (dk_at bnames00cX6_take_48 33)
theorem dX6_take_82 : decode cX6_take 82 = .ok (.putfield 15, 3) := dk_181 (c := cX6_take) (pc := 82) (a := 0) (b := 15) (dk_at bnames00cX6_take_48 34) rfl
theorem dX6_take_85 : decode cX6_take 85 = .ok (.aload_n 0, 1) := dk_42 (c := cX6_take) (pc := 85) (dk_at bnames00cX6_take_48 37)
theorem dX6_take_86 : decode cX6_take 86 = .ok (.dup, 1) := dk_89 (c := cX6_take) (pc := 86) (dk_at bnames00cX6_take_48 38)
theorem dX6_take_87 : decode cX6_take 87 = .ok (.getfield 18, 3) := dk_180 (c := cX6_take) (pc := 87) (a := 0) (b := 18) (dk_at bnames00cX6_take_48 39) rfl
theorem dX6_take_90 : decode cX6_take 90 = .ok (.lload 6, 2) := dk_22 (c := cX6_take) (pc := 90) (a := 6) (dk_at bnames00cX6_take_48 42) rfl
theorem dX6_take_92 : decode cX6_take 92 = .ok (.ladd, 1) := dk_97 (c := cX6_take) (pc := 92) (dk_at bnames00cX6_take_48 44)
theorem dX6_take_93 : decode cX6_take 93 = .ok (.putfield 18, 3) := dk_181 (c := cX6_take) (pc := 93) (a := 0) (b := 18) (dk_at bnames00cX6_take_48 45) rfl
theorem bnames00cX6_take_96 : ((dk_l cX6_take).drop 96).take 52 = [42, 89, 180, 0, 21, 43, 180, 0, 52, 28, 46, 133, 97, 181, 0, 21, 167, 0, 51, 42, 89, 180, 0, 24, 10, 97, 181, 0, 24, 42, 89, 180, 0, 27, 22, 4, 97, 181, 0, 27, 42, 89, 180, 0, 30, 22, 6, 97, 181, 0, 30, 42] := by decide +kernel
theorem dX6_take_96 : decode cX6_take 96 = .ok (.aload_n 0, 1) := dk_42 (c := cX6_take) (pc := 96) (dk_at bnames00cX6_take_96 0)
theorem dX6_take_97 : decode cX6_take 97 = .ok (.dup, 1) := dk_89 (c := cX6_take) (pc := 97) (dk_at bnames00cX6_take_96 1)
theorem dX6_take_98 : decode cX6_take 98 = .ok (.getfield 21, 3) := dk_180 (c := cX6_take) (pc := 98) (a := 0) (b := 21) (dk_at bnames00cX6_take_96 2) rfl
theorem dX6_take_101 : decode cX6_take 101 = .ok (.aload_n 1, 1) := dk_43 (c := cX6_take) (pc := 101) (dk_at bnames00cX6_take_96 5)
theorem dX6_take_102 : decode cX6_take 102 = .ok (.getfield 52, 3) := dk_180 (c := cX6_take) (pc := 102) (a := 0) (b := 52) (dk_at bnames00cX6_take_96 6) rfl
theorem dX6_take_105 : decode cX6_take 105 = .ok (.iload_n 2, 1) := dk_28 (c := cX6_take) (pc := 105) (dk_at bnames00cX6_take_96 9)
theorem dX6_take_106 : decode cX6_take 106 = .ok (.iaload, 1) := dk_46 (c := cX6_take) (pc := 106) (dk_at bnames00cX6_take_96 10)
theorem dX6_take_107 : decode cX6_take 107 = .ok (.i2l, 1) := dk_133 (c := cX6_take) (pc := 107) (dk_at bnames00cX6_take_96 11)
theorem dX6_take_108 : decode cX6_take 108 = .ok (.ladd, 1) := dk_97 (c := cX6_take) (pc := 108) (dk_at bnames00cX6_take_96 12)
theorem dX6_take_109 : decode cX6_take 109 = .ok (.putfield 21, 3) := dk_181 (c := cX6_take) (pc := 109) (a := 0) (b := 21) (dk_at bnames00cX6_take_96 13) rfl
theorem dX6_take_112 : decode cX6_take 112 = .ok (.goto 51, 3) := dk_167 (c := cX6_take) (pc := 112) (a := 0) (b := 51) (dk_at bnames00cX6_take_96 16) (by decide)
theorem dX6_take_115 : decode cX6_take 115 = .ok (.aload_n 0, 1) := dk_42 (c := cX6_take) (pc := 115) (dk_at bnames00cX6_take_96 19)
theorem dX6_take_116 : decode cX6_take 116 = .ok (.dup, 1) := dk_89 (c := cX6_take) (pc := 116) (dk_at bnames00cX6_take_96 20)
theorem dX6_take_117 : decode cX6_take 117 = .ok (.getfield 24, 3) := dk_180 (c := cX6_take) (pc := 117) (a := 0) (b := 24) (dk_at bnames00cX6_take_96 21) rfl
theorem dX6_take_120 : decode cX6_take 120 = .ok (.lconst 1, 1) := dk_10 (c := cX6_take) (pc := 120) (dk_at bnames00cX6_take_96 24)
theorem dX6_take_121 : decode cX6_take 121 = .ok (.ladd, 1) := dk_97 (c := cX6_take) (pc := 121) (dk_at bnames00cX6_take_96 25)
theorem dX6_take_122 : decode cX6_take 122 = .ok (.putfield 24, 3) := dk_181 (c := cX6_take) (pc := 122) (a := 0) (b := 24) (dk_at bnames00cX6_take_96 26) rfl
theorem dX6_take_125 : decode cX6_take 125 = .ok (.aload_n 0, 1) := dk_42 (c := cX6_take) (pc := 125) (dk_at bnames00cX6_take_96 29)
theorem dX6_take_126 : decode cX6_take 126 = .ok (.dup, 1) := dk_89 (c := cX6_take) (pc := 126) (dk_at bnames00cX6_take_96 30)
theorem dX6_take_127 : decode cX6_take 127 = .ok (.getfield 27, 3) := dk_180 (c := cX6_take) (pc := 127) (a := 0) (b := 27) (dk_at bnames00cX6_take_96 31) rfl
theorem dX6_take_130 : decode cX6_take 130 = .ok (.lload 4, 2) := dk_22 (c := cX6_take) (pc := 130) (a := 4) (dk_at bnames00cX6_take_96 34) rfl
theorem dX6_take_132 : decode cX6_take 132 = .ok (.ladd, 1) := dk_97 (c := cX6_take) (pc := 132) (dk_at bnames00cX6_take_96 36)
theorem dX6_take_133 : decode cX6_take 133 = .ok (.putfield 27, 3) := dk_181 (c := cX6_take) (pc := 133) (a := 0) (b := 27) (dk_at bnames00cX6_take_96 37) rfl
theorem dX6_take_136 : decode cX6_take 136 = .ok (.aload_n 0, 1) := dk_42 (c := cX6_take) (pc := 136) (dk_at bnames00cX6_take_96 40)
theorem dX6_take_137 : decode cX6_take 137 = .ok (.dup, 1) := dk_89 (c := cX6_take) (pc := 137) (dk_at bnames00cX6_take_96 41)
theorem dX6_take_138 : decode cX6_take 138 = .ok (.getfield 30, 3) := dk_180 (c := cX6_take) (pc := 138) (a := 0) (b := 30) (dk_at bnames00cX6_take_96 42) rfl
theorem dX6_take_141 : decode cX6_take 141 = .ok (.lload 6, 2) := dk_22 (c := cX6_take) (pc := 141) (a := 6) (dk_at bnames00cX6_take_96 45) rfl
theorem dX6_take_143 : decode cX6_take 143 = .ok (.ladd, 1) := dk_97 (c := cX6_take) (pc := 143) (dk_at bnames00cX6_take_96 47)
theorem bnames00cX6_take_144 : ((dk_l cX6_take).drop 144).take 20 = [181, 0, 30, 42, 89, 180, 0, 33, 43, 180, 0, 52, 28, 46, 133, 97, 181, 0, 33, 177] := by decide +kernel
theorem dX6_take_144 : decode cX6_take 144 = .ok (.putfield 30, 3) := dk_181 (c := cX6_take) (pc := 144) (a := 0) (b := 30) (dk_at bnames00cX6_take_144 0) rfl
theorem dX6_take_147 : decode cX6_take 147 = .ok (.aload_n 0, 1) := dk_42 (c := cX6_take) (pc := 147) (dk_at bnames00cX6_take_144 3)
theorem dX6_take_148 : decode cX6_take 148 = .ok (.dup, 1) := dk_89 (c := cX6_take) (pc := 148) (dk_at bnames00cX6_take_144 4)
theorem dX6_take_149 : decode cX6_take 149 = .ok (.getfield 33, 3) := dk_180 (c := cX6_take) (pc := 149) (a := 0) (b := 33) (dk_at bnames00cX6_take_144 5) rfl
theorem dX6_take_152 : decode cX6_take 152 = .ok (.aload_n 1, 1) := dk_43 (c := cX6_take) (pc := 152) (dk_at bnames00cX6_take_144 8)
theorem dX6_take_153 : decode cX6_take 153 = .ok (.getfield 52, 3) := dk_180 (c := cX6_take) (pc := 153) (a := 0) (b := 52) (dk_at bnames00cX6_take_144 9) rfl
theorem dX6_take_156 : decode cX6_take 156 = .ok (.iload_n 2, 1) := dk_28 (c := cX6_take) (pc := 156) (dk_at bnames00cX6_take_144 12)
theorem dX6_take_157 : decode cX6_take 157 = .ok (.iaload, 1) := dk_46 (c := cX6_take) (pc := 157) (dk_at bnames00cX6_take_144 13)
theorem dX6_take_158 : decode cX6_take 158 = .ok (.i2l, 1) := dk_133 (c := cX6_take) (pc := 158) (dk_at bnames00cX6_take_144 14)
theorem dX6_take_159 : decode cX6_take 159 = .ok (.ladd, 1) := dk_97 (c := cX6_take) (pc := 159) (dk_at bnames00cX6_take_144 15)
theorem dX6_take_160 : decode cX6_take 160 = .ok (.putfield 33, 3) := dk_181 (c := cX6_take) (pc := 160) (a := 0) (b := 33) (dk_at bnames00cX6_take_144 16) rfl
theorem dX6_take_163 : decode cX6_take 163 = .ok (.return_, 1) := dk_177 (c := cX6_take) (pc := 163) (dk_at bnames00cX6_take_144 19)
theorem bnames00cX6_hasBoth_0 : ((dk_l cX6_hasBoth).drop 0).take 24 = [42, 180, 0, 9, 9, 148, 158, 0, 16, 42, 180, 0, 24, 9, 148, 158, 0, 7, 4, 167, 0, 4, 3, 172] := by decide +kernel
theorem dX6_hasBoth_0 : decode cX6_hasBoth 0 = .ok (.aload_n 0, 1) := dk_42 (c := cX6_hasBoth) (pc := 0) (dk_at bnames00cX6_hasBoth_0 0)
theorem dX6_hasBoth_1 : decode cX6_hasBoth 1 = .ok (.getfield 9, 3) := dk_180 (c := cX6_hasBoth) (pc := 1) (a := 0) (b := 9) (dk_at bnames00cX6_hasBoth_0 1) rfl
theorem dX6_hasBoth_4 : decode cX6_hasBoth 4 = .ok (.lconst 0, 1) := dk_9 (c := cX6_hasBoth) (pc := 4) (dk_at bnames00cX6_hasBoth_0 4)
theorem dX6_hasBoth_5 : decode cX6_hasBoth 5 = .ok (.lcmp, 1) := dk_148 (c := cX6_hasBoth) (pc := 5) (dk_at bnames00cX6_hasBoth_0 5)
theorem dX6_hasBoth_6 : decode cX6_hasBoth 6 = .ok (.ifCond .le 16, 3) := dk_158 (c := cX6_hasBoth) (pc := 6) (a := 0) (b := 16) (dk_at bnames00cX6_hasBoth_0 6) (by decide)
theorem dX6_hasBoth_9 : decode cX6_hasBoth 9 = .ok (.aload_n 0, 1) := dk_42 (c := cX6_hasBoth) (pc := 9) (dk_at bnames00cX6_hasBoth_0 9)
theorem dX6_hasBoth_10 : decode cX6_hasBoth 10 = .ok (.getfield 24, 3) := dk_180 (c := cX6_hasBoth) (pc := 10) (a := 0) (b := 24) (dk_at bnames00cX6_hasBoth_0 10) rfl
theorem dX6_hasBoth_13 : decode cX6_hasBoth 13 = .ok (.lconst 0, 1) := dk_9 (c := cX6_hasBoth) (pc := 13) (dk_at bnames00cX6_hasBoth_0 13)
theorem dX6_hasBoth_14 : decode cX6_hasBoth 14 = .ok (.lcmp, 1) := dk_148 (c := cX6_hasBoth) (pc := 14) (dk_at bnames00cX6_hasBoth_0 14)
theorem dX6_hasBoth_15 : decode cX6_hasBoth 15 = .ok (.ifCond .le 7, 3) := dk_158 (c := cX6_hasBoth) (pc := 15) (a := 0) (b := 7) (dk_at bnames00cX6_hasBoth_0 15) (by decide)
theorem dX6_hasBoth_18 : decode cX6_hasBoth 18 = .ok (.iconst 1, 1) := dk_4 (c := cX6_hasBoth) (pc := 18) (dk_at bnames00cX6_hasBoth_0 18)
theorem dX6_hasBoth_19 : decode cX6_hasBoth 19 = .ok (.goto 4, 3) := dk_167 (c := cX6_hasBoth) (pc := 19) (a := 0) (b := 4) (dk_at bnames00cX6_hasBoth_0 19) (by decide)
theorem dX6_hasBoth_22 : decode cX6_hasBoth 22 = .ok (.iconst 0, 1) := dk_3 (c := cX6_hasBoth) (pc := 22) (dk_at bnames00cX6_hasBoth_0 22)
theorem dX6_hasBoth_23 : decode cX6_hasBoth 23 = .ok (.ireturn, 1) := dk_172 (c := cX6_hasBoth) (pc := 23) (dk_at bnames00cX6_hasBoth_0 23)
set_option maxRecDepth 20000 in
theorem ggX6_hasSpan_X6_hasBoth : GoodIn wsX6_hasSpan wsX6_hasBoth := goodIn_r _ [8, 1, 2, 9, 10, 11, 12, 13, 14, 15, 16, 17, 18, 19] rfl (by decide +kernel)
set_option maxRecDepth 20000 in
theorem gX6_hasSpan_X6_hasBoth : GoodIn wsX6_hasSpan (wsV RX6 54 RX6 yX6_hasBoth wsX6_hasBoth) := goodIn_app (goodIn_r _ [4, 5, 6, 7] rfl (by decide +kernel)) ggX6_hasSpan_X6_hasBoth
theorem bnames00cX6_hasSpan_0 : ((dk_l cX6_hasSpan).drop 0).take 29 = [42, 182, 0, 54, 153, 0, 23, 42, 180, 0, 9, 42, 180, 0, 24, 97, 20, 0, 58, 148, 155, 0, 7, 4, 167, 0, 4, 3, 172] := by decide +kernel
theorem dX6_hasSpan_0 : decode cX6_hasSpan 0 = .ok (.aload_n 0, 1) := dk_42 (c := cX6_hasSpan) (pc := 0) (dk_at bnames00cX6_hasSpan_0 0)
theorem dX6_hasSpan_1 : decode cX6_hasSpan 1 = .ok (.invokevirtual 54, 3) := dk_182 (c := cX6_hasSpan) (pc := 1) (a := 0) (b := 54) (dk_at bnames00cX6_hasSpan_0 1) rfl
theorem dX6_hasSpan_4 : decode cX6_hasSpan 4 = .ok (.ifCond .eq 23, 3) := dk_153 (c := cX6_hasSpan) (pc := 4) (a := 0) (b := 23) (dk_at bnames00cX6_hasSpan_0 4) (by decide)
theorem dX6_hasSpan_7 : decode cX6_hasSpan 7 = .ok (.aload_n 0, 1) := dk_42 (c := cX6_hasSpan) (pc := 7) (dk_at bnames00cX6_hasSpan_0 7)
theorem dX6_hasSpan_8 : decode cX6_hasSpan 8 = .ok (.getfield 9, 3) := dk_180 (c := cX6_hasSpan) (pc := 8) (a := 0) (b := 9) (dk_at bnames00cX6_hasSpan_0 8) rfl
theorem dX6_hasSpan_11 : decode cX6_hasSpan 11 = .ok (.aload_n 0, 1) := dk_42 (c := cX6_hasSpan) (pc := 11) (dk_at bnames00cX6_hasSpan_0 11)
theorem dX6_hasSpan_12 : decode cX6_hasSpan 12 = .ok (.getfield 24, 3) := dk_180 (c := cX6_hasSpan) (pc := 12) (a := 0) (b := 24) (dk_at bnames00cX6_hasSpan_0 12) rfl
theorem dX6_hasSpan_15 : decode cX6_hasSpan 15 = .ok (.ladd, 1) := dk_97 (c := cX6_hasSpan) (pc := 15) (dk_at bnames00cX6_hasSpan_0 15)
theorem dX6_hasSpan_16 : decode cX6_hasSpan 16 = .ok (.ldc2_w 58, 3) := dk_20 (c := cX6_hasSpan) (pc := 16) (a := 0) (b := 58) (dk_at bnames00cX6_hasSpan_0 16) rfl
theorem dX6_hasSpan_19 : decode cX6_hasSpan 19 = .ok (.lcmp, 1) := dk_148 (c := cX6_hasSpan) (pc := 19) (dk_at bnames00cX6_hasSpan_0 19)
theorem dX6_hasSpan_20 : decode cX6_hasSpan 20 = .ok (.ifCond .lt 7, 3) := dk_155 (c := cX6_hasSpan) (pc := 20) (a := 0) (b := 7) (dk_at bnames00cX6_hasSpan_0 20) (by decide)
theorem dX6_hasSpan_23 : decode cX6_hasSpan 23 = .ok (.iconst 1, 1) := dk_4 (c := cX6_hasSpan) (pc := 23) (dk_at bnames00cX6_hasSpan_0 23)
theorem dX6_hasSpan_24 : decode cX6_hasSpan 24 = .ok (.goto 4, 3) := dk_167 (c := cX6_hasSpan) (pc := 24) (a := 0) (b := 4) (dk_at bnames00cX6_hasSpan_0 24) (by decide)
theorem dX6_hasSpan_27 : decode cX6_hasSpan 27 = .ok (.iconst 0, 1) := dk_3 (c := cX6_hasSpan) (pc := 27) (dk_at bnames00cX6_hasSpan_0 27)
theorem dX6_hasSpan_28 : decode cX6_hasSpan 28 = .ok (.ireturn, 1) := dk_172 (c := cX6_hasSpan) (pc := 28) (dk_at bnames00cX6_hasSpan_0 28)
set_option maxRecDepth 20000 in
theorem ggX6_hasUsualSpan_X6_byMoved : GoodIn wsX6_hasUsualSpan wsX6_byMoved := goodIn_r _ [9, 10, 11, 12, 8, 13, 14, 15, 1, 2, 16, 17, 18, 19, 20, 21, 22, 23, 24, 25, 26, 27, 33, 34, 35, 36, 37, 38, 39, 40, 41, 42, 43] rfl (by decide +kernel)
set_option maxRecDepth 20000 in
theorem gX6_hasUsualSpan_X6_byMoved : GoodIn wsX6_hasUsualSpan (wsV RX6 60 RX6 yX6_byMoved wsX6_byMoved) := goodIn_app (goodIn_r _ [5, 6, 7, 8] rfl (by decide +kernel)) ggX6_hasUsualSpan_X6_byMoved
set_option maxRecDepth 20000 in
theorem ggX6_hasUsualSpan_X6_hasSpan : GoodIn wsX6_hasUsualSpan wsX6_hasSpan := goodIn_r _ [31, 18, 19, 32, 24, 25, 26, 8, 27, 33, 34, 35, 36, 37, 38, 39, 40, 41, 42, 43] rfl (by decide +kernel)
set_option maxRecDepth 20000 in
theorem gX6_hasUsualSpan_X6_hasSpan : GoodIn wsX6_hasUsualSpan (wsV RX6 66 RX6 yX6_hasSpan wsX6_hasSpan) := goodIn_app (goodIn_r _ [28, 29, 30, 8] rfl (by decide +kernel)) ggX6_hasUsualSpan_X6_hasSpan
theorem bnames00cX6_hasUsualSpan_0 : ((dk_l cX6_hasUsualSpan).drop 0).take 52 = [42, 182, 0, 60, 64, 31, 20, 0, 64, 148, 153, 0, 10, 42, 182, 0, 66, 154, 0, 5, 3, 172, 31, 20, 0, 69, 109, 20, 0, 71, 148, 155, 0, 19, 31, 20, 0, 69, 109, 20, 0, 73, 148, 157, 0, 7, 4, 167, 0, 4, 3, 172] := by decide +kernel
theorem dX6_hasUsualSpan_0 : decode cX6_hasUsualSpan 0 = .ok (.aload_n 0, 1) := dk_42 (c := cX6_hasUsualSpan) (pc := 0) (dk_at bnames00cX6_hasUsualSpan_0 0)
theorem dX6_hasUsualSpan_1 : decode cX6_hasUsualSpan 1 = .ok (.invokevirtual 60, 3) := dk_182 (c := cX6_hasUsualSpan) (pc := 1) (a := 0) (b := 60) (dk_at bnames00cX6_hasUsualSpan_0 1) rfl
theorem dX6_hasUsualSpan_4 : decode cX6_hasUsualSpan 4 = .ok (.lstore_n 1, 1) := dk_64 (c := cX6_hasUsualSpan) (pc := 4) (dk_at bnames00cX6_hasUsualSpan_0 4)
theorem dX6_hasUsualSpan_5 : decode cX6_hasUsualSpan 5 = .ok (.lload_n 1, 1) := dk_31 (c := cX6_hasUsualSpan) (pc := 5) (dk_at bnames00cX6_hasUsualSpan_0 5)
theorem dX6_hasUsualSpan_6 : decode cX6_hasUsualSpan 6 = .ok (.ldc2_w 64, 3) := dk_20 (c := cX6_hasUsualSpan) (pc := 6) (a := 0) (b := 64) (dk_at bnames00cX6_hasUsualSpan_0 6) rfl
theorem dX6_hasUsualSpan_9 : decode cX6_hasUsualSpan 9 = .ok (.lcmp, 1) := dk_148 (c := cX6_hasUsualSpan) (pc := 9) (dk_at bnames00cX6_hasUsualSpan_0 9)
theorem dX6_hasUsualSpan_10 : decode cX6_hasUsualSpan 10 = .ok (.ifCond .eq 10, 3) := dk_153 (c := cX6_hasUsualSpan) (pc := 10) (a := 0) (b := 10) (dk_at bnames00cX6_hasUsualSpan_0 10) (by decide)
theorem dX6_hasUsualSpan_13 : decode cX6_hasUsualSpan 13 = .ok (.aload_n 0, 1) := dk_42 (c := cX6_hasUsualSpan) (pc := 13) (dk_at bnames00cX6_hasUsualSpan_0 13)
theorem dX6_hasUsualSpan_14 : decode cX6_hasUsualSpan 14 = .ok (.invokevirtual 66, 3) := dk_182 (c := cX6_hasUsualSpan) (pc := 14) (a := 0) (b := 66) (dk_at bnames00cX6_hasUsualSpan_0 14) rfl
theorem dX6_hasUsualSpan_17 : decode cX6_hasUsualSpan 17 = .ok (.ifCond .ne 5, 3) := dk_154 (c := cX6_hasUsualSpan) (pc := 17) (a := 0) (b := 5) (dk_at bnames00cX6_hasUsualSpan_0 17) (by decide)
theorem dX6_hasUsualSpan_20 : decode cX6_hasUsualSpan 20 = .ok (.iconst 0, 1) := dk_3 (c := cX6_hasUsualSpan) (pc := 20) (dk_at bnames00cX6_hasUsualSpan_0 20)
theorem dX6_hasUsualSpan_21 : decode cX6_hasUsualSpan 21 = .ok (.ireturn, 1) := dk_172 (c := cX6_hasUsualSpan) (pc := 21) (dk_at bnames00cX6_hasUsualSpan_0 21)
theorem dX6_hasUsualSpan_22 : decode cX6_hasUsualSpan 22 = .ok (.lload_n 1, 1) := dk_31 (c := cX6_hasUsualSpan) (pc := 22) (dk_at bnames00cX6_hasUsualSpan_0 22)
theorem dX6_hasUsualSpan_23 : decode cX6_hasUsualSpan 23 = .ok (.ldc2_w 69, 3) := dk_20 (c := cX6_hasUsualSpan) (pc := 23) (a := 0) (b := 69) (dk_at bnames00cX6_hasUsualSpan_0 23) rfl
theorem dX6_hasUsualSpan_26 : decode cX6_hasUsualSpan 26 = .ok (.ldiv, 1) := dk_109 (c := cX6_hasUsualSpan) (pc := 26) (dk_at bnames00cX6_hasUsualSpan_0 26)
theorem dX6_hasUsualSpan_27 : decode cX6_hasUsualSpan 27 = .ok (.ldc2_w 71, 3) := dk_20 (c := cX6_hasUsualSpan) (pc := 27) (a := 0) (b := 71) (dk_at bnames00cX6_hasUsualSpan_0 27) rfl
theorem dX6_hasUsualSpan_30 : decode cX6_hasUsualSpan 30 = .ok (.lcmp, 1) := dk_148 (c := cX6_hasUsualSpan) (pc := 30) (dk_at bnames00cX6_hasUsualSpan_0 30)
theorem dX6_hasUsualSpan_31 : decode cX6_hasUsualSpan 31 = .ok (.ifCond .lt 19, 3) := dk_155 (c := cX6_hasUsualSpan) (pc := 31) (a := 0) (b := 19) (dk_at bnames00cX6_hasUsualSpan_0 31) (by decide)
theorem dX6_hasUsualSpan_34 : decode cX6_hasUsualSpan 34 = .ok (.lload_n 1, 1) := dk_31 (c := cX6_hasUsualSpan) (pc := 34) (dk_at bnames00cX6_hasUsualSpan_0 34)
theorem dX6_hasUsualSpan_35 : decode cX6_hasUsualSpan 35 = .ok (.ldc2_w 69, 3) := dk_20 (c := cX6_hasUsualSpan) (pc := 35) (a := 0) (b := 69) (dk_at bnames00cX6_hasUsualSpan_0 35) rfl
theorem dX6_hasUsualSpan_38 : decode cX6_hasUsualSpan 38 = .ok (.ldiv, 1) := dk_109 (c := cX6_hasUsualSpan) (pc := 38) (dk_at bnames00cX6_hasUsualSpan_0 38)
theorem dX6_hasUsualSpan_39 : decode cX6_hasUsualSpan 39 = .ok (.ldc2_w 73, 3) := dk_20 (c := cX6_hasUsualSpan) (pc := 39) (a := 0) (b := 73) (dk_at bnames00cX6_hasUsualSpan_0 39) rfl
theorem dX6_hasUsualSpan_42 : decode cX6_hasUsualSpan 42 = .ok (.lcmp, 1) := dk_148 (c := cX6_hasUsualSpan) (pc := 42) (dk_at bnames00cX6_hasUsualSpan_0 42)
theorem dX6_hasUsualSpan_43 : decode cX6_hasUsualSpan 43 = .ok (.ifCond .gt 7, 3) := dk_157 (c := cX6_hasUsualSpan) (pc := 43) (a := 0) (b := 7) (dk_at bnames00cX6_hasUsualSpan_0 43) (by decide)
theorem dX6_hasUsualSpan_46 : decode cX6_hasUsualSpan 46 = .ok (.iconst 1, 1) := dk_4 (c := cX6_hasUsualSpan) (pc := 46) (dk_at bnames00cX6_hasUsualSpan_0 46)
theorem dX6_hasUsualSpan_47 : decode cX6_hasUsualSpan 47 = .ok (.goto 4, 3) := dk_167 (c := cX6_hasUsualSpan) (pc := 47) (a := 0) (b := 4) (dk_at bnames00cX6_hasUsualSpan_0 47) (by decide)
theorem bnames00cX6_hasUsualSpan_48 : ((dk_l cX6_hasUsualSpan).drop 48).take 4 = [0, 4, 3, 172] := by decide +kernel
theorem dX6_hasUsualSpan_50 : decode cX6_hasUsualSpan 50 = .ok (.iconst 0, 1) := dk_3 (c := cX6_hasUsualSpan) (pc := 50) (dk_at bnames00cX6_hasUsualSpan_48 2)
theorem dX6_hasUsualSpan_51 : decode cX6_hasUsualSpan 51 = .ok (.ireturn, 1) := dk_172 (c := cX6_hasUsualSpan) (pc := 51) (dk_at bnames00cX6_hasUsualSpan_48 3)
theorem bnames00cX6_gapOf_0 : ((dk_l cX6_gapOf).drop 0).take 14 = [31, 42, 180, 0, 24, 105, 33, 42, 180, 0, 9, 105, 101, 173] := by decide +kernel
theorem dX6_gapOf_0 : decode cX6_gapOf 0 = .ok (.lload_n 1, 1) := dk_31 (c := cX6_gapOf) (pc := 0) (dk_at bnames00cX6_gapOf_0 0)
theorem dX6_gapOf_1 : decode cX6_gapOf 1 = .ok (.aload_n 0, 1) := dk_42 (c := cX6_gapOf) (pc := 1) (dk_at bnames00cX6_gapOf_0 1)
theorem dX6_gapOf_2 : decode cX6_gapOf 2 = .ok (.getfield 24, 3) := dk_180 (c := cX6_gapOf) (pc := 2) (a := 0) (b := 24) (dk_at bnames00cX6_gapOf_0 2) rfl
theorem dX6_gapOf_5 : decode cX6_gapOf 5 = .ok (.lmul, 1) := dk_105 (c := cX6_gapOf) (pc := 5) (dk_at bnames00cX6_gapOf_0 5)
theorem dX6_gapOf_6 : decode cX6_gapOf 6 = .ok (.lload_n 3, 1) := dk_33 (c := cX6_gapOf) (pc := 6) (dk_at bnames00cX6_gapOf_0 6)
theorem dX6_gapOf_7 : decode cX6_gapOf 7 = .ok (.aload_n 0, 1) := dk_42 (c := cX6_gapOf) (pc := 7) (dk_at bnames00cX6_gapOf_0 7)
theorem dX6_gapOf_8 : decode cX6_gapOf 8 = .ok (.getfield 9, 3) := dk_180 (c := cX6_gapOf) (pc := 8) (a := 0) (b := 9) (dk_at bnames00cX6_gapOf_0 8) rfl
theorem dX6_gapOf_11 : decode cX6_gapOf 11 = .ok (.lmul, 1) := dk_105 (c := cX6_gapOf) (pc := 11) (dk_at bnames00cX6_gapOf_0 11)
theorem dX6_gapOf_12 : decode cX6_gapOf 12 = .ok (.lsub, 1) := dk_101 (c := cX6_gapOf) (pc := 12) (dk_at bnames00cX6_gapOf_0 12)
theorem dX6_gapOf_13 : decode cX6_gapOf 13 = .ok (.lreturn, 1) := dk_173 (c := cX6_gapOf) (pc := 13) (dk_at bnames00cX6_gapOf_0 13)
set_option maxRecDepth 20000 in
theorem ggX6_meanGap_X6_hasBoth : GoodIn wsX6_meanGap wsX6_hasBoth := goodIn_r _ [8, 1, 2, 18, 19, 20, 21, 22, 23, 24, 25, 26, 27, 28] rfl (by decide +kernel)
set_option maxRecDepth 20000 in
theorem gX6_meanGap_X6_hasBoth : GoodIn wsX6_meanGap (wsV RX6 54 RX6 yX6_hasBoth wsX6_hasBoth) := goodIn_app (goodIn_r _ [4, 5, 6, 7] rfl (by decide +kernel)) ggX6_meanGap_X6_hasBoth
set_option maxRecDepth 20000 in
theorem ggX6_meanGap_X6_gapOf : GoodIn wsX6_meanGap wsX6_gapOf := goodIn_r _ [12, 2, 1, 18, 19, 20, 21, 22, 23, 24, 25, 26, 27, 28] rfl (by decide +kernel)
set_option maxRecDepth 20000 in
theorem gX6_meanGap_X6_gapOf : GoodIn wsX6_meanGap (wsV RX6 75 RX6 yX6_gapOf wsX6_gapOf) := goodIn_app (goodIn_r _ [9, 10, 11, 7] rfl (by decide +kernel)) ggX6_meanGap_X6_gapOf
set_option maxRecDepth 20000 in
theorem ggX6_meanGap_X8_thousandths : GoodIn wsX6_meanGap wsX8_thousandths := goodIn_r _ [15, 16, 17] rfl (by decide +kernel)
set_option maxRecDepth 20000 in
theorem gX6_meanGap_X8_thousandths_n79 : GoodIn wsX6_meanGap (wsX8_thousandths) := ggX6_meanGap_X8_thousandths
theorem bnames00cX6_meanGap_0 : ((dk_l cX6_meanGap).drop 0).take 32 = [42, 182, 0, 54, 153, 0, 24, 42, 31, 33, 182, 0, 75, 42, 180, 0, 9, 42, 180, 0, 24, 105, 184, 0, 79, 167, 0, 6, 20, 0, 64, 173] := by decide +kernel
theorem dX6_meanGap_0 : decode cX6_meanGap 0 = .ok (.aload_n 0, 1) := dk_42 (c := cX6_meanGap) (pc := 0) (dk_at bnames00cX6_meanGap_0 0)
theorem dX6_meanGap_1 : decode cX6_meanGap 1 = .ok (.invokevirtual 54, 3) := dk_182 (c := cX6_meanGap) (pc := 1) (a := 0) (b := 54) (dk_at bnames00cX6_meanGap_0 1) rfl
theorem dX6_meanGap_4 : decode cX6_meanGap 4 = .ok (.ifCond .eq 24, 3) := dk_153 (c := cX6_meanGap) (pc := 4) (a := 0) (b := 24) (dk_at bnames00cX6_meanGap_0 4) (by decide)
theorem dX6_meanGap_7 : decode cX6_meanGap 7 = .ok (.aload_n 0, 1) := dk_42 (c := cX6_meanGap) (pc := 7) (dk_at bnames00cX6_meanGap_0 7)
theorem dX6_meanGap_8 : decode cX6_meanGap 8 = .ok (.lload_n 1, 1) := dk_31 (c := cX6_meanGap) (pc := 8) (dk_at bnames00cX6_meanGap_0 8)
theorem dX6_meanGap_9 : decode cX6_meanGap 9 = .ok (.lload_n 3, 1) := dk_33 (c := cX6_meanGap) (pc := 9) (dk_at bnames00cX6_meanGap_0 9)
theorem dX6_meanGap_10 : decode cX6_meanGap 10 = .ok (.invokevirtual 75, 3) := dk_182 (c := cX6_meanGap) (pc := 10) (a := 0) (b := 75) (dk_at bnames00cX6_meanGap_0 10) rfl
theorem dX6_meanGap_13 : decode cX6_meanGap 13 = .ok (.aload_n 0, 1) := dk_42 (c := cX6_meanGap) (pc := 13) (dk_at bnames00cX6_meanGap_0 13)
theorem dX6_meanGap_14 : decode cX6_meanGap 14 = .ok (.getfield 9, 3) := dk_180 (c := cX6_meanGap) (pc := 14) (a := 0) (b := 9) (dk_at bnames00cX6_meanGap_0 14) rfl
theorem dX6_meanGap_17 : decode cX6_meanGap 17 = .ok (.aload_n 0, 1) := dk_42 (c := cX6_meanGap) (pc := 17) (dk_at bnames00cX6_meanGap_0 17)
theorem dX6_meanGap_18 : decode cX6_meanGap 18 = .ok (.getfield 24, 3) := dk_180 (c := cX6_meanGap) (pc := 18) (a := 0) (b := 24) (dk_at bnames00cX6_meanGap_0 18) rfl
theorem dX6_meanGap_21 : decode cX6_meanGap 21 = .ok (.lmul, 1) := dk_105 (c := cX6_meanGap) (pc := 21) (dk_at bnames00cX6_meanGap_0 21)
theorem dX6_meanGap_22 : decode cX6_meanGap 22 = .ok (.invokestatic 79, 3) := dk_184 (c := cX6_meanGap) (pc := 22) (a := 0) (b := 79) (dk_at bnames00cX6_meanGap_0 22) rfl
theorem dX6_meanGap_25 : decode cX6_meanGap 25 = .ok (.goto 6, 3) := dk_167 (c := cX6_meanGap) (pc := 25) (a := 0) (b := 6) (dk_at bnames00cX6_meanGap_0 25) (by decide)
theorem dX6_meanGap_28 : decode cX6_meanGap 28 = .ok (.ldc2_w 64, 3) := dk_20 (c := cX6_meanGap) (pc := 28) (a := 0) (b := 64) (dk_at bnames00cX6_meanGap_0 28) rfl
theorem dX6_meanGap_31 : decode cX6_meanGap 31 = .ok (.lreturn, 1) := dk_173 (c := cX6_meanGap) (pc := 31) (dk_at bnames00cX6_meanGap_0 31)
set_option maxRecDepth 20000 in
theorem ggX6_byMoved_X6_byMovedLess : GoodIn wsX6_byMoved wsX6_byMovedLess := goodIn_r _ [5, 6, 7, 8, 9, 10, 11, 12, 13, 14, 15, 16, 4, 17, 18, 19, 20, 21, 22, 23, 24, 25, 26, 27, 28, 29, 30, 31, 32] rfl (by decide +kernel)
set_option maxRecDepth 20000 in
theorem gX6_byMoved_X6_byMovedLess : GoodIn wsX6_byMoved (wsV RX6 82 RX6 yX6_byMovedLess wsX6_byMovedLess) := goodIn_app (goodIn_r _ [1, 2, 3, 4] rfl (by decide +kernel)) ggX6_byMoved_X6_byMovedLess
theorem bnames00cX6_byMoved_0 : ((dk_l cX6_byMoved).drop 0).take 6 = [42, 9, 182, 0, 82, 173] := by decide +kernel
theorem dX6_byMoved_0 : decode cX6_byMoved 0 = .ok (.aload_n 0, 1) := dk_42 (c := cX6_byMoved) (pc := 0) (dk_at bnames00cX6_byMoved_0 0)
theorem dX6_byMoved_1 : decode cX6_byMoved 1 = .ok (.lconst 0, 1) := dk_9 (c := cX6_byMoved) (pc := 1) (dk_at bnames00cX6_byMoved_0 1)
theorem dX6_byMoved_2 : decode cX6_byMoved 2 = .ok (.invokevirtual 82, 3) := dk_182 (c := cX6_byMoved) (pc := 2) (a := 0) (b := 82) (dk_at bnames00cX6_byMoved_0 2) rfl
theorem dX6_byMoved_5 : decode cX6_byMoved 5 = .ok (.lreturn, 1) := dk_173 (c := cX6_byMoved) (pc := 5) (dk_at bnames00cX6_byMoved_0 5)
set_option maxRecDepth 20000 in
theorem ggX6_byMovedLess_X6_gapOf : GoodIn wsX6_byMovedLess wsX6_gapOf := goodIn_r _ [13, 8, 7, 18, 19, 20, 21, 22, 23, 24, 25, 26, 27, 28] rfl (by decide +kernel)
set_option maxRecDepth 20000 in
theorem gX6_byMovedLess_X6_gapOf : GoodIn wsX6_byMovedLess (wsV RX6 75 RX6 yX6_gapOf wsX6_gapOf) := goodIn_app (goodIn_r _ [9, 10, 11, 12] rfl (by decide +kernel)) ggX6_byMovedLess_X6_gapOf
set_option maxRecDepth 20000 in
theorem ggX6_byMovedLess_X6_hasBoth : GoodIn wsX6_byMovedLess wsX6_hasBoth := goodIn_r _ [17, 7, 8, 18, 19, 20, 21, 22, 23, 24, 25, 26, 27, 28] rfl (by decide +kernel)
set_option maxRecDepth 20000 in
theorem gX6_byMovedLess_X6_hasBoth : GoodIn wsX6_byMovedLess (wsV RX6 54 RX6 yX6_hasBoth wsX6_hasBoth) := goodIn_app (goodIn_r _ [14, 15, 16, 12] rfl (by decide +kernel)) ggX6_byMovedLess_X6_hasBoth
theorem bnames00cX6_byMovedLess_0 : ((dk_l cX6_byMovedLess).drop 0).take 52 = [42, 42, 180, 0, 15, 42, 180, 0, 27, 182, 0, 75, 66, 42, 182, 0, 54, 153, 0, 9, 33, 9, 148, 154, 0, 7, 20, 0, 64, 173, 20, 0, 69, 42, 42, 180, 0, 18, 42, 180, 0, 30, 182, 0, 75, 105, 31, 42, 180, 0, 9, 105] := by decide +kernel
theorem dX6_byMovedLess_0 : decode cX6_byMovedLess 0 = .ok (.aload_n 0, 1) := dk_42 (c := cX6_byMovedLess) (pc := 0) (dk_at bnames00cX6_byMovedLess_0 0)
theorem dX6_byMovedLess_1 : decode cX6_byMovedLess 1 = .ok (.aload_n 0, 1) := dk_42 (c := cX6_byMovedLess) (pc := 1) (dk_at bnames00cX6_byMovedLess_0 1)
theorem dX6_byMovedLess_2 : decode cX6_byMovedLess 2 = .ok (.getfield 15, 3) := dk_180 (c := cX6_byMovedLess) (pc := 2) (a := 0) (b := 15) (dk_at bnames00cX6_byMovedLess_0 2) rfl
theorem dX6_byMovedLess_5 : decode cX6_byMovedLess 5 = .ok (.aload_n 0, 1) := dk_42 (c := cX6_byMovedLess) (pc := 5) (dk_at bnames00cX6_byMovedLess_0 5)
theorem dX6_byMovedLess_6 : decode cX6_byMovedLess 6 = .ok (.getfield 27, 3) := dk_180 (c := cX6_byMovedLess) (pc := 6) (a := 0) (b := 27) (dk_at bnames00cX6_byMovedLess_0 6) rfl
theorem dX6_byMovedLess_9 : decode cX6_byMovedLess 9 = .ok (.invokevirtual 75, 3) := dk_182 (c := cX6_byMovedLess) (pc := 9) (a := 0) (b := 75) (dk_at bnames00cX6_byMovedLess_0 9) rfl
theorem dX6_byMovedLess_12 : decode cX6_byMovedLess 12 = .ok (.lstore_n 3, 1) := dk_66 (c := cX6_byMovedLess) (pc := 12) (dk_at bnames00cX6_byMovedLess_0 12)
theorem dX6_byMovedLess_13 : decode cX6_byMovedLess 13 = .ok (.aload_n 0, 1) := dk_42 (c := cX6_byMovedLess) (pc := 13) (dk_at bnames00cX6_byMovedLess_0 13)
theorem dX6_byMovedLess_14 : decode cX6_byMovedLess 14 = .ok (.invokevirtual 54, 3) := dk_182 (c := cX6_byMovedLess) (pc := 14) (a := 0) (b := 54) (dk_at bnames00cX6_byMovedLess_0 14) rfl
theorem dX6_byMovedLess_17 : decode cX6_byMovedLess 17 = .ok (.ifCond .eq 9, 3) := dk_153 (c := cX6_byMovedLess) (pc := 17) (a := 0) (b := 9) (dk_at bnames00cX6_byMovedLess_0 17) (by decide)
theorem dX6_byMovedLess_20 : decode cX6_byMovedLess 20 = .ok (.lload_n 3, 1) := dk_33 (c := cX6_byMovedLess) (pc := 20) (dk_at bnames00cX6_byMovedLess_0 20)
theorem dX6_byMovedLess_21 : decode cX6_byMovedLess 21 = .ok (.lconst 0, 1) := dk_9 (c := cX6_byMovedLess) (pc := 21) (dk_at bnames00cX6_byMovedLess_0 21)
theorem dX6_byMovedLess_22 : decode cX6_byMovedLess 22 = .ok (.lcmp, 1) := dk_148 (c := cX6_byMovedLess) (pc := 22) (dk_at bnames00cX6_byMovedLess_0 22)
theorem dX6_byMovedLess_23 : decode cX6_byMovedLess 23 = .ok (.ifCond .ne 7, 3) := dk_154 (c := cX6_byMovedLess) (pc := 23) (a := 0) (b := 7) (dk_at bnames00cX6_byMovedLess_0 23) (by decide)
theorem dX6_byMovedLess_26 : decode cX6_byMovedLess 26 = .ok (.ldc2_w 64, 3) := dk_20 (c := cX6_byMovedLess) (pc := 26) (a := 0) (b := 64) (dk_at bnames00cX6_byMovedLess_0 26) rfl
theorem dX6_byMovedLess_29 : decode cX6_byMovedLess 29 = .ok (.lreturn, 1) := dk_173 (c := cX6_byMovedLess) (pc := 29) (dk_at bnames00cX6_byMovedLess_0 29)
theorem dX6_byMovedLess_30 : decode cX6_byMovedLess 30 = .ok (.ldc2_w 69, 3) := dk_20 (c := cX6_byMovedLess) (pc := 30) (a := 0) (b := 69) (dk_at bnames00cX6_byMovedLess_0 30) rfl
theorem dX6_byMovedLess_33 : decode cX6_byMovedLess 33 = .ok (.aload_n 0, 1) := dk_42 (c := cX6_byMovedLess) (pc := 33) (dk_at bnames00cX6_byMovedLess_0 33)
theorem dX6_byMovedLess_34 : decode cX6_byMovedLess 34 = .ok (.aload_n 0, 1) := dk_42 (c := cX6_byMovedLess) (pc := 34) (dk_at bnames00cX6_byMovedLess_0 34)
theorem dX6_byMovedLess_35 : decode cX6_byMovedLess 35 = .ok (.getfield 18, 3) := dk_180 (c := cX6_byMovedLess) (pc := 35) (a := 0) (b := 18) (dk_at bnames00cX6_byMovedLess_0 35) rfl
theorem dX6_byMovedLess_38 : decode cX6_byMovedLess 38 = .ok (.aload_n 0, 1) := dk_42 (c := cX6_byMovedLess) (pc := 38) (dk_at bnames00cX6_byMovedLess_0 38)
theorem dX6_byMovedLess_39 : decode cX6_byMovedLess 39 = .ok (.getfield 30, 3) := dk_180 (c := cX6_byMovedLess) (pc := 39) (a := 0) (b := 30) (dk_at bnames00cX6_byMovedLess_0 39) rfl
theorem dX6_byMovedLess_42 : decode cX6_byMovedLess 42 = .ok (.invokevirtual 75, 3) := dk_182 (c := cX6_byMovedLess) (pc := 42) (a := 0) (b := 75) (dk_at bnames00cX6_byMovedLess_0 42) rfl
theorem dX6_byMovedLess_45 : decode cX6_byMovedLess 45 = .ok (.lmul, 1) := dk_105 (c := cX6_byMovedLess) (pc := 45) (dk_at bnames00cX6_byMovedLess_0 45)
theorem dX6_byMovedLess_46 : decode cX6_byMovedLess 46 = .ok (.lload_n 1, 1) := dk_31 (c := cX6_byMovedLess) (pc := 46) (dk_at bnames00cX6_byMovedLess_0 46)
theorem dX6_byMovedLess_47 : decode cX6_byMovedLess 47 = .ok (.aload_n 0, 1) := dk_42 (c := cX6_byMovedLess) (pc := 47) (dk_at bnames00cX6_byMovedLess_0 47)
theorem bnames00cX6_byMovedLess_48 : ((dk_l cX6_byMovedLess).drop 48).take 13 = [180, 0, 9, 105, 42, 180, 0, 24, 105, 101, 33, 109, 173] := by decide +kernel
theorem dX6_byMovedLess_48 : decode cX6_byMovedLess 48 = .ok (.getfield 9, 3) := dk_180 (c := cX6_byMovedLess) (pc := 48) (a := 0) (b := 9) (dk_at bnames00cX6_byMovedLess_48 0) rfl
theorem dX6_byMovedLess_51 : decode cX6_byMovedLess 51 = .ok (.lmul, 1) := dk_105 (c := cX6_byMovedLess) (pc := 51) (dk_at bnames00cX6_byMovedLess_48 3)
theorem dX6_byMovedLess_52 : decode cX6_byMovedLess 52 = .ok (.aload_n 0, 1) := dk_42 (c := cX6_byMovedLess) (pc := 52) (dk_at bnames00cX6_byMovedLess_48 4)
theorem dX6_byMovedLess_53 : decode cX6_byMovedLess 53 = .ok (.getfield 24, 3) := dk_180 (c := cX6_byMovedLess) (pc := 53) (a := 0) (b := 24) (dk_at bnames00cX6_byMovedLess_48 5) rfl
theorem dX6_byMovedLess_56 : decode cX6_byMovedLess 56 = .ok (.lmul, 1) := dk_105 (c := cX6_byMovedLess) (pc := 56) (dk_at bnames00cX6_byMovedLess_48 8)
theorem dX6_byMovedLess_57 : decode cX6_byMovedLess 57 = .ok (.lsub, 1) := dk_101 (c := cX6_byMovedLess) (pc := 57) (dk_at bnames00cX6_byMovedLess_48 9)
theorem dX6_byMovedLess_58 : decode cX6_byMovedLess 58 = .ok (.lload_n 3, 1) := dk_33 (c := cX6_byMovedLess) (pc := 58) (dk_at bnames00cX6_byMovedLess_48 10)
theorem dX6_byMovedLess_59 : decode cX6_byMovedLess 59 = .ok (.ldiv, 1) := dk_109 (c := cX6_byMovedLess) (pc := 59) (dk_at bnames00cX6_byMovedLess_48 11)
theorem dX6_byMovedLess_60 : decode cX6_byMovedLess 60 = .ok (.lreturn, 1) := dk_173 (c := cX6_byMovedLess) (pc := 60) (dk_at bnames00cX6_byMovedLess_48 12)
set_option maxRecDepth 20000 in
theorem ggX6_strength_X6_hasSpan : GoodIn wsX6_strength wsX6_hasSpan := goodIn_r _ [14, 7, 8, 15, 16, 17, 18, 13, 19, 28, 29, 30, 31, 32, 33, 34, 35, 36, 37, 38] rfl (by decide +kernel)
set_option maxRecDepth 20000 in
theorem gX6_strength_X6_hasSpan : GoodIn wsX6_strength (wsV RX6 66 RX6 yX6_hasSpan wsX6_hasSpan) := goodIn_app (goodIn_r _ [10, 11, 12, 13] rfl (by decide +kernel)) ggX6_strength_X6_hasSpan
set_option maxRecDepth 20000 in
theorem ggX6_strength_X6_gapOf : GoodIn wsX6_strength wsX6_gapOf := goodIn_r _ [23, 8, 7, 28, 29, 30, 31, 32, 33, 34, 35, 36, 37, 38] rfl (by decide +kernel)
set_option maxRecDepth 20000 in
theorem gX6_strength_X6_gapOf : GoodIn wsX6_strength (wsV RX6 75 RX6 yX6_gapOf wsX6_gapOf) := goodIn_app (goodIn_r _ [20, 21, 22, 13] rfl (by decide +kernel)) ggX6_strength_X6_gapOf
set_option maxRecDepth 20000 in
theorem ggX6_strength_X6_withinOf : GoodIn wsX6_strength wsX6_withinOf := goodIn_r _ [27, 7, 8, 28, 29, 30, 31, 32, 33, 34, 35, 36, 37, 38] rfl (by decide +kernel)
set_option maxRecDepth 20000 in
theorem gX6_strength_X6_withinOf : GoodIn wsX6_strength (wsV RX6 86 RX6 yX6_withinOf wsX6_withinOf) := goodIn_app (goodIn_r _ [24, 25, 26, 13] rfl (by decide +kernel)) ggX6_strength_X6_withinOf
theorem bnames00cX6_strength_0 : ((dk_l cX6_strength).drop 0).take 52 = [42, 182, 0, 66, 154, 0, 7, 20, 0, 64, 173, 42, 42, 180, 0, 15, 42, 180, 0, 27, 182, 0, 75, 64, 42, 42, 180, 0, 15, 42, 180, 0, 27, 42, 180, 0, 36, 182, 0, 86, 66, 33, 9, 148, 154, 0, 17, 31, 9, 148, 154, 0] := by decide +kernel
theorem dX6_strength_0 : decode cX6_strength 0 = .ok (.aload_n 0, 1) := dk_42 (c := cX6_strength) (pc := 0) (dk_at bnames00cX6_strength_0 0)
theorem dX6_strength_1 : decode cX6_strength 1 = .ok (.invokevirtual 66, 3) := dk_182 (c := cX6_strength) (pc := 1) (a := 0) (b := 66) (dk_at bnames00cX6_strength_0 1) rfl
theorem dX6_strength_4 : decode cX6_strength 4 = .ok (.ifCond .ne 7, 3) := dk_154 (c := cX6_strength) (pc := 4) (a := 0) (b := 7) (dk_at bnames00cX6_strength_0 4) (by decide)
theorem dX6_strength_7 : decode cX6_strength 7 = .ok (.ldc2_w 64, 3) := dk_20 (c := cX6_strength) (pc := 7) (a := 0) (b := 64) (dk_at bnames00cX6_strength_0 7) rfl
theorem dX6_strength_10 : decode cX6_strength 10 = .ok (.lreturn, 1) := dk_173 (c := cX6_strength) (pc := 10) (dk_at bnames00cX6_strength_0 10)
theorem dX6_strength_11 : decode cX6_strength 11 = .ok (.aload_n 0, 1) := dk_42 (c := cX6_strength) (pc := 11) (dk_at bnames00cX6_strength_0 11)
theorem dX6_strength_12 : decode cX6_strength 12 = .ok (.aload_n 0, 1) := dk_42 (c := cX6_strength) (pc := 12) (dk_at bnames00cX6_strength_0 12)
theorem dX6_strength_13 : decode cX6_strength 13 = .ok (.getfield 15, 3) := dk_180 (c := cX6_strength) (pc := 13) (a := 0) (b := 15) (dk_at bnames00cX6_strength_0 13) rfl
theorem dX6_strength_16 : decode cX6_strength 16 = .ok (.aload_n 0, 1) := dk_42 (c := cX6_strength) (pc := 16) (dk_at bnames00cX6_strength_0 16)
theorem dX6_strength_17 : decode cX6_strength 17 = .ok (.getfield 27, 3) := dk_180 (c := cX6_strength) (pc := 17) (a := 0) (b := 27) (dk_at bnames00cX6_strength_0 17) rfl
theorem dX6_strength_20 : decode cX6_strength 20 = .ok (.invokevirtual 75, 3) := dk_182 (c := cX6_strength) (pc := 20) (a := 0) (b := 75) (dk_at bnames00cX6_strength_0 20) rfl
theorem dX6_strength_23 : decode cX6_strength 23 = .ok (.lstore_n 1, 1) := dk_64 (c := cX6_strength) (pc := 23) (dk_at bnames00cX6_strength_0 23)
theorem dX6_strength_24 : decode cX6_strength 24 = .ok (.aload_n 0, 1) := dk_42 (c := cX6_strength) (pc := 24) (dk_at bnames00cX6_strength_0 24)
theorem dX6_strength_25 : decode cX6_strength 25 = .ok (.aload_n 0, 1) := dk_42 (c := cX6_strength) (pc := 25) (dk_at bnames00cX6_strength_0 25)
theorem dX6_strength_26 : decode cX6_strength 26 = .ok (.getfield 15, 3) := dk_180 (c := cX6_strength) (pc := 26) (a := 0) (b := 15) (dk_at bnames00cX6_strength_0 26) rfl
theorem dX6_strength_29 : decode cX6_strength 29 = .ok (.aload_n 0, 1) := dk_42 (c := cX6_strength) (pc := 29) (dk_at bnames00cX6_strength_0 29)
theorem dX6_strength_30 : decode cX6_strength 30 = .ok (.getfield 27, 3) := dk_180 (c := cX6_strength) (pc := 30) (a := 0) (b := 27) (dk_at bnames00cX6_strength_0 30) rfl
theorem dX6_strength_33 : decode cX6_strength 33 = .ok (.aload_n 0, 1) := dk_42 (c := cX6_strength) (pc := 33) (dk_at bnames00cX6_strength_0 33)
theorem dX6_strength_34 : decode cX6_strength 34 = .ok (.getfield 36, 3) := dk_180 (c := cX6_strength) (pc := 34) (a := 0) (b := 36) (dk_at bnames00cX6_strength_0 34) rfl
theorem dX6_strength_37 : decode cX6_strength 37 = .ok (.invokevirtual 86, 3) := dk_182 (c := cX6_strength) (pc := 37) (a := 0) (b := 86) (dk_at bnames00cX6_strength_0 37) rfl
theorem dX6_strength_40 : decode cX6_strength 40 = .ok (.lstore_n 3, 1) := dk_66 (c := cX6_strength) (pc := 40) (dk_at bnames00cX6_strength_0 40)
theorem dX6_strength_41 : decode cX6_strength 41 = .ok (.lload_n 3, 1) := dk_33 (c := cX6_strength) (pc := 41) (dk_at bnames00cX6_strength_0 41)
theorem dX6_strength_42 : decode cX6_strength 42 = .ok (.lconst 0, 1) := dk_9 (c := cX6_strength) (pc := 42) (dk_at bnames00cX6_strength_0 42)
theorem dX6_strength_43 : decode cX6_strength 43 = .ok (.lcmp, 1) := dk_148 (c := cX6_strength) (pc := 43) (dk_at bnames00cX6_strength_0 43)
theorem dX6_strength_44 : decode cX6_strength 44 = .ok (.ifCond .ne 17, 3) := dk_154 (c := cX6_strength) (pc := 44) (a := 0) (b := 17) (dk_at bnames00cX6_strength_0 44) (by decide)
theorem dX6_strength_47 : decode cX6_strength 47 = .ok (.lload_n 1, 1) := dk_31 (c := cX6_strength) (pc := 47) (dk_at bnames00cX6_strength_0 47)
theorem bnames00cX6_strength_48 : ((dk_l cX6_strength).drop 48).take 47 = [9, 148, 154, 0, 7, 9, 167, 0, 6, 20, 0, 90, 173, 20, 0, 92, 42, 180, 0, 9, 42, 180, 0, 24, 97, 20, 0, 94, 101, 105, 31, 105, 31, 105, 42, 180, 0, 9, 42, 180, 0, 24, 97, 33, 105, 109, 173] := by decide +kernel
theorem dX6_strength_48 : decode cX6_strength 48 = .ok (.lconst 0, 1) := dk_9 (c := cX6_strength) (pc := 48) (dk_at bnames00cX6_strength_48 0)
theorem dX6_strength_49 : decode cX6_strength 49 = .ok (.lcmp, 1) := dk_148 (c := cX6_strength) (pc := 49) (dk_at bnames00cX6_strength_48 1)
theorem dX6_strength_50 : decode cX6_strength 50 = .ok (.ifCond .ne 7, 3) := dk_154 (c := cX6_strength) (pc := 50) (a := 0) (b := 7) (dk_at bnames00cX6_strength_48 2) (by decide)
theorem dX6_strength_53 : decode cX6_strength 53 = .ok (.lconst 0, 1) := dk_9 (c := cX6_strength) (pc := 53) (dk_at bnames00cX6_strength_48 5)
theorem dX6_strength_54 : decode cX6_strength 54 = .ok (.goto 6, 3) := dk_167 (c := cX6_strength) (pc := 54) (a := 0) (b := 6) (dk_at bnames00cX6_strength_48 6) (by decide)
theorem dX6_strength_57 : decode cX6_strength 57 = .ok (.ldc2_w 90, 3) := dk_20 (c := cX6_strength) (pc := 57) (a := 0) (b := 90) (dk_at bnames00cX6_strength_48 9) rfl
theorem dX6_strength_60 : decode cX6_strength 60 = .ok (.lreturn, 1) := dk_173 (c := cX6_strength) (pc := 60) (dk_at bnames00cX6_strength_48 12)
theorem dX6_strength_61 : decode cX6_strength 61 = .ok (.ldc2_w 92, 3) := dk_20 (c := cX6_strength) (pc := 61) (a := 0) (b := 92) (dk_at bnames00cX6_strength_48 13) rfl
theorem dX6_strength_64 : decode cX6_strength 64 = .ok (.aload_n 0, 1) := dk_42 (c := cX6_strength) (pc := 64) (dk_at bnames00cX6_strength_48 16)
theorem dX6_strength_65 : decode cX6_strength 65 = .ok (.getfield 9, 3) := dk_180 (c := cX6_strength) (pc := 65) (a := 0) (b := 9) (dk_at bnames00cX6_strength_48 17) rfl
theorem dX6_strength_68 : decode cX6_strength 68 = .ok (.aload_n 0, 1) := dk_42 (c := cX6_strength) (pc := 68) (dk_at bnames00cX6_strength_48 20)
theorem dX6_strength_69 : decode cX6_strength 69 = .ok (.getfield 24, 3) := dk_180 (c := cX6_strength) (pc := 69) (a := 0) (b := 24) (dk_at bnames00cX6_strength_48 21) rfl
theorem dX6_strength_72 : decode cX6_strength 72 = .ok (.ladd, 1) := dk_97 (c := cX6_strength) (pc := 72) (dk_at bnames00cX6_strength_48 24)
theorem dX6_strength_73 : decode cX6_strength 73 = .ok (.ldc2_w 94, 3) := dk_20 (c := cX6_strength) (pc := 73) (a := 0) (b := 94) (dk_at bnames00cX6_strength_48 25) rfl
theorem dX6_strength_76 : decode cX6_strength 76 = .ok (.lsub, 1) := dk_101 (c := cX6_strength) (pc := 76) (dk_at bnames00cX6_strength_48 28)
theorem dX6_strength_77 : decode cX6_strength 77 = .ok (.lmul, 1) := dk_105 (c := cX6_strength) (pc := 77) (dk_at bnames00cX6_strength_48 29)
theorem dX6_strength_78 : decode cX6_strength 78 = .ok (.lload_n 1, 1) := dk_31 (c := cX6_strength) (pc := 78) (dk_at bnames00cX6_strength_48 30)
theorem dX6_strength_79 : decode cX6_strength 79 = .ok (.lmul, 1) := dk_105 (c := cX6_strength) (pc := 79) (dk_at bnames00cX6_strength_48 31)
theorem dX6_strength_80 : decode cX6_strength 80 = .ok (.lload_n 1, 1) := dk_31 (c := cX6_strength) (pc := 80) (dk_at bnames00cX6_strength_48 32)
theorem dX6_strength_81 : decode cX6_strength 81 = .ok (.lmul, 1) := dk_105 (c := cX6_strength) (pc := 81) (dk_at bnames00cX6_strength_48 33)
theorem dX6_strength_82 : decode cX6_strength 82 = .ok (.aload_n 0, 1) := dk_42 (c := cX6_strength) (pc := 82) (dk_at bnames00cX6_strength_48 34)
theorem dX6_strength_83 : decode cX6_strength 83 = .ok (.getfield 9, 3) := dk_180 (c := cX6_strength) (pc := 83) (a := 0) (b := 9) (dk_at bnames00cX6_strength_48 35) rfl
theorem dX6_strength_86 : decode cX6_strength 86 = .ok (.aload_n 0, 1) := dk_42 (c := cX6_strength) (pc := 86) (dk_at bnames00cX6_strength_48 38)
theorem dX6_strength_87 : decode cX6_strength 87 = .ok (.getfield 24, 3) := dk_180 (c := cX6_strength) (pc := 87) (a := 0) (b := 24) (dk_at bnames00cX6_strength_48 39) rfl
theorem dX6_strength_90 : decode cX6_strength 90 = .ok (.ladd, 1) := dk_97 (c := cX6_strength) (pc := 90) (dk_at bnames00cX6_strength_48 42)
theorem dX6_strength_91 : decode cX6_strength 91 = .ok (.lload_n 3, 1) := dk_33 (c := cX6_strength) (pc := 91) (dk_at bnames00cX6_strength_48 43)
theorem dX6_strength_92 : decode cX6_strength 92 = .ok (.lmul, 1) := dk_105 (c := cX6_strength) (pc := 92) (dk_at bnames00cX6_strength_48 44)
theorem dX6_strength_93 : decode cX6_strength 93 = .ok (.ldiv, 1) := dk_109 (c := cX6_strength) (pc := 93) (dk_at bnames00cX6_strength_48 45)
theorem dX6_strength_94 : decode cX6_strength 94 = .ok (.lreturn, 1) := dk_173 (c := cX6_strength) (pc := 94) (dk_at bnames00cX6_strength_48 46)
theorem bnames00cX6_withinOf_0 : ((dk_l cX6_withinOf).drop 0).take 31 = [42, 180, 0, 9, 42, 180, 0, 24, 105, 22, 5, 105, 31, 31, 105, 42, 180, 0, 24, 105, 101, 33, 33, 105, 42, 180, 0, 9, 105, 101, 173] := by decide +kernel
theorem dX6_withinOf_0 : decode cX6_withinOf 0 = .ok (.aload_n 0, 1) := dk_42 (c := cX6_withinOf) (pc := 0) (dk_at bnames00cX6_withinOf_0 0)
theorem dX6_withinOf_1 : decode cX6_withinOf 1 = .ok (.getfield 9, 3) := dk_180 (c := cX6_withinOf) (pc := 1) (a := 0) (b := 9) (dk_at bnames00cX6_withinOf_0 1) rfl
theorem dX6_withinOf_4 : decode cX6_withinOf 4 = .ok (.aload_n 0, 1) := dk_42 (c := cX6_withinOf) (pc := 4) (dk_at bnames00cX6_withinOf_0 4)
theorem dX6_withinOf_5 : decode cX6_withinOf 5 = .ok (.getfield 24, 3) := dk_180 (c := cX6_withinOf) (pc := 5) (a := 0) (b := 24) (dk_at bnames00cX6_withinOf_0 5) rfl
theorem dX6_withinOf_8 : decode cX6_withinOf 8 = .ok (.lmul, 1) := dk_105 (c := cX6_withinOf) (pc := 8) (dk_at bnames00cX6_withinOf_0 8)
theorem dX6_withinOf_9 : decode cX6_withinOf 9 = .ok (.lload 5, 2) := dk_22 (c := cX6_withinOf) (pc := 9) (a := 5) (dk_at bnames00cX6_withinOf_0 9) rfl
theorem dX6_withinOf_11 : decode cX6_withinOf 11 = .ok (.lmul, 1) := dk_105 (c := cX6_withinOf) (pc := 11) (dk_at bnames00cX6_withinOf_0 11)
theorem dX6_withinOf_12 : decode cX6_withinOf 12 = .ok (.lload_n 1, 1) := dk_31 (c := cX6_withinOf) (pc := 12) (dk_at bnames00cX6_withinOf_0 12)
theorem dX6_withinOf_13 : decode cX6_withinOf 13 = .ok (.lload_n 1, 1) := dk_31 (c := cX6_withinOf) (pc := 13) (dk_at bnames00cX6_withinOf_0 13)
theorem dX6_withinOf_14 : decode cX6_withinOf 14 = .ok (.lmul, 1) := dk_105 (c := cX6_withinOf) (pc := 14) (dk_at bnames00cX6_withinOf_0 14)
theorem dX6_withinOf_15 : decode cX6_withinOf 15 = .ok (.aload_n 0, 1) := dk_42 (c := cX6_withinOf) (pc := 15) (dk_at bnames00cX6_withinOf_0 15)
theorem dX6_withinOf_16 : decode cX6_withinOf 16 = .ok (.getfield 24, 3) := dk_180 (c := cX6_withinOf) (pc := 16) (a := 0) (b := 24) (dk_at bnames00cX6_withinOf_0 16) rfl
theorem dX6_withinOf_19 : decode cX6_withinOf 19 = .ok (.lmul, 1) := dk_105 (c := cX6_withinOf) (pc := 19) (dk_at bnames00cX6_withinOf_0 19)
theorem dX6_withinOf_20 : decode cX6_withinOf 20 = .ok (.lsub, 1) := dk_101 (c := cX6_withinOf) (pc := 20) (dk_at bnames00cX6_withinOf_0 20)
theorem dX6_withinOf_21 : decode cX6_withinOf 21 = .ok (.lload_n 3, 1) := dk_33 (c := cX6_withinOf) (pc := 21) (dk_at bnames00cX6_withinOf_0 21)
theorem dX6_withinOf_22 : decode cX6_withinOf 22 = .ok (.lload_n 3, 1) := dk_33 (c := cX6_withinOf) (pc := 22) (dk_at bnames00cX6_withinOf_0 22)
theorem dX6_withinOf_23 : decode cX6_withinOf 23 = .ok (.lmul, 1) := dk_105 (c := cX6_withinOf) (pc := 23) (dk_at bnames00cX6_withinOf_0 23)
theorem dX6_withinOf_24 : decode cX6_withinOf 24 = .ok (.aload_n 0, 1) := dk_42 (c := cX6_withinOf) (pc := 24) (dk_at bnames00cX6_withinOf_0 24)
theorem dX6_withinOf_25 : decode cX6_withinOf 25 = .ok (.getfield 9, 3) := dk_180 (c := cX6_withinOf) (pc := 25) (a := 0) (b := 9) (dk_at bnames00cX6_withinOf_0 25) rfl
theorem dX6_withinOf_28 : decode cX6_withinOf 28 = .ok (.lmul, 1) := dk_105 (c := cX6_withinOf) (pc := 28) (dk_at bnames00cX6_withinOf_0 28)
theorem dX6_withinOf_29 : decode cX6_withinOf 29 = .ok (.lsub, 1) := dk_101 (c := cX6_withinOf) (pc := 29) (dk_at bnames00cX6_withinOf_0 29)
theorem dX6_withinOf_30 : decode cX6_withinOf 30 = .ok (.lreturn, 1) := dk_173 (c := cX6_withinOf) (pc := 30) (dk_at bnames00cX6_withinOf_0 30)
set_option maxRecDepth 20000 in
theorem ggX6_leftGap_X6_gapOf : GoodIn wsX6_leftGap wsX6_gapOf := goodIn_r _ [9, 10, 11, 12, 13, 14, 15, 16, 17, 18, 19, 20, 21, 22] rfl (by decide +kernel)
set_option maxRecDepth 20000 in
theorem gX6_leftGap_X6_gapOf : GoodIn wsX6_leftGap (wsV RX6 75 RX6 yX6_gapOf wsX6_gapOf) := goodIn_app (goodIn_r _ [5, 6, 7, 8] rfl (by decide +kernel)) ggX6_leftGap_X6_gapOf
theorem bnames00cX6_leftGap_0 : ((dk_l cX6_leftGap).drop 0).take 27 = [42, 42, 180, 0, 18, 31, 42, 180, 0, 15, 105, 101, 42, 180, 0, 30, 31, 42, 180, 0, 27, 105, 101, 182, 0, 75, 173] := by decide +kernel
theorem dX6_leftGap_0 : decode cX6_leftGap 0 = .ok (.aload_n 0, 1) := dk_42 (c := cX6_leftGap) (pc := 0) (dk_at bnames00cX6_leftGap_0 0)
theorem dX6_leftGap_1 : decode cX6_leftGap 1 = .ok (.aload_n 0, 1) := dk_42 (c := cX6_leftGap) (pc := 1) (dk_at bnames00cX6_leftGap_0 1)
theorem dX6_leftGap_2 : decode cX6_leftGap 2 = .ok (.getfield 18, 3) := dk_180 (c := cX6_leftGap) (pc := 2) (a := 0) (b := 18) (dk_at bnames00cX6_leftGap_0 2) rfl
theorem dX6_leftGap_5 : decode cX6_leftGap 5 = .ok (.lload_n 1, 1) := dk_31 (c := cX6_leftGap) (pc := 5) (dk_at bnames00cX6_leftGap_0 5)
theorem dX6_leftGap_6 : decode cX6_leftGap 6 = .ok (.aload_n 0, 1) := dk_42 (c := cX6_leftGap) (pc := 6) (dk_at bnames00cX6_leftGap_0 6)
theorem dX6_leftGap_7 : decode cX6_leftGap 7 = .ok (.getfield 15, 3) := dk_180 (c := cX6_leftGap) (pc := 7) (a := 0) (b := 15) (dk_at bnames00cX6_leftGap_0 7) rfl
theorem dX6_leftGap_10 : decode cX6_leftGap 10 = .ok (.lmul, 1) := dk_105 (c := cX6_leftGap) (pc := 10) (dk_at bnames00cX6_leftGap_0 10)
theorem dX6_leftGap_11 : decode cX6_leftGap 11 = .ok (.lsub, 1) := dk_101 (c := cX6_leftGap) (pc := 11) (dk_at bnames00cX6_leftGap_0 11)
theorem dX6_leftGap_12 : decode cX6_leftGap 12 = .ok (.aload_n 0, 1) := dk_42 (c := cX6_leftGap) (pc := 12) (dk_at bnames00cX6_leftGap_0 12)
theorem dX6_leftGap_13 : decode cX6_leftGap 13 = .ok (.getfield 30, 3) := dk_180 (c := cX6_leftGap) (pc := 13) (a := 0) (b := 30) (dk_at bnames00cX6_leftGap_0 13) rfl
theorem dX6_leftGap_16 : decode cX6_leftGap 16 = .ok (.lload_n 1, 1) := dk_31 (c := cX6_leftGap) (pc := 16) (dk_at bnames00cX6_leftGap_0 16)
theorem dX6_leftGap_17 : decode cX6_leftGap 17 = .ok (.aload_n 0, 1) := dk_42 (c := cX6_leftGap) (pc := 17) (dk_at bnames00cX6_leftGap_0 17)
theorem dX6_leftGap_18 : decode cX6_leftGap 18 = .ok (.getfield 27, 3) := dk_180 (c := cX6_leftGap) (pc := 18) (a := 0) (b := 27) (dk_at bnames00cX6_leftGap_0 18) rfl
theorem dX6_leftGap_21 : decode cX6_leftGap 21 = .ok (.lmul, 1) := dk_105 (c := cX6_leftGap) (pc := 21) (dk_at bnames00cX6_leftGap_0 21)
theorem dX6_leftGap_22 : decode cX6_leftGap 22 = .ok (.lsub, 1) := dk_101 (c := cX6_leftGap) (pc := 22) (dk_at bnames00cX6_leftGap_0 22)
theorem dX6_leftGap_23 : decode cX6_leftGap 23 = .ok (.invokevirtual 75, 3) := dk_182 (c := cX6_leftGap) (pc := 23) (a := 0) (b := 75) (dk_at bnames00cX6_leftGap_0 23) rfl
theorem dX6_leftGap_26 : decode cX6_leftGap 26 = .ok (.lreturn, 1) := dk_173 (c := cX6_leftGap) (pc := 26) (dk_at bnames00cX6_leftGap_0 26)
set_option maxRecDepth 20000 in
theorem ggX6_leftWithin_X6_withinOf : GoodIn wsX6_leftWithin wsX6_withinOf := goodIn_r _ [13, 14, 15, 16, 17, 18, 19, 20, 21, 22, 23, 24, 25, 26] rfl (by decide +kernel)
set_option maxRecDepth 20000 in
theorem gX6_leftWithin_X6_withinOf : GoodIn wsX6_leftWithin (wsV RX6 86 RX6 yX6_withinOf wsX6_withinOf) := goodIn_app (goodIn_r _ [9, 10, 11, 12] rfl (by decide +kernel)) ggX6_leftWithin_X6_withinOf
theorem bnames00cX6_leftWithin_0 : ((dk_l cX6_leftWithin).drop 0).take 52 = [42, 180, 0, 42, 20, 0, 94, 31, 105, 42, 180, 0, 39, 105, 101, 31, 31, 105, 42, 180, 0, 36, 105, 97, 66, 42, 42, 180, 0, 18, 31, 42, 180, 0, 15, 105, 101, 42, 180, 0, 30, 31, 42, 180, 0, 27, 105, 101, 33, 182, 0, 86] := by decide +kernel
theorem dX6_leftWithin_0 : decode cX6_leftWithin 0 = .ok (.aload_n 0, 1) := dk_42 (c := cX6_leftWithin) (pc := 0) (dk_at bnames00cX6_leftWithin_0 0)
theorem dX6_leftWithin_1 : decode cX6_leftWithin 1 = .ok (.getfield 42, 3) := dk_180 (c := cX6_leftWithin) (pc := 1) (a := 0) (b := 42) (dk_at bnames00cX6_leftWithin_0 1) rfl
theorem dX6_leftWithin_4 : decode cX6_leftWithin 4 = .ok (.ldc2_w 94, 3) := dk_20 (c := cX6_leftWithin) (pc := 4) (a := 0) (b := 94) (dk_at bnames00cX6_leftWithin_0 4) rfl
theorem dX6_leftWithin_7 : decode cX6_leftWithin 7 = .ok (.lload_n 1, 1) := dk_31 (c := cX6_leftWithin) (pc := 7) (dk_at bnames00cX6_leftWithin_0 7)
theorem dX6_leftWithin_8 : decode cX6_leftWithin 8 = .ok (.lmul, 1) := dk_105 (c := cX6_leftWithin) (pc := 8) (dk_at bnames00cX6_leftWithin_0 8)
theorem dX6_leftWithin_9 : decode cX6_leftWithin 9 = .ok (.aload_n 0, 1) := dk_42 (c := cX6_leftWithin) (pc := 9) (dk_at bnames00cX6_leftWithin_0 9)
theorem dX6_leftWithin_10 : decode cX6_leftWithin 10 = .ok (.getfield 39, 3) := dk_180 (c := cX6_leftWithin) (pc := 10) (a := 0) (b := 39) (dk_at bnames00cX6_leftWithin_0 10) rfl
theorem dX6_leftWithin_13 : decode cX6_leftWithin 13 = .ok (.lmul, 1) := dk_105 (c := cX6_leftWithin) (pc := 13) (dk_at bnames00cX6_leftWithin_0 13)
theorem dX6_leftWithin_14 : decode cX6_leftWithin 14 = .ok (.lsub, 1) := dk_101 (c := cX6_leftWithin) (pc := 14) (dk_at bnames00cX6_leftWithin_0 14)
theorem dX6_leftWithin_15 : decode cX6_leftWithin 15 = .ok (.lload_n 1, 1) := dk_31 (c := cX6_leftWithin) (pc := 15) (dk_at bnames00cX6_leftWithin_0 15)
theorem dX6_leftWithin_16 : decode cX6_leftWithin 16 = .ok (.lload_n 1, 1) := dk_31 (c := cX6_leftWithin) (pc := 16) (dk_at bnames00cX6_leftWithin_0 16)
theorem dX6_leftWithin_17 : decode cX6_leftWithin 17 = .ok (.lmul, 1) := dk_105 (c := cX6_leftWithin) (pc := 17) (dk_at bnames00cX6_leftWithin_0 17)
theorem dX6_leftWithin_18 : decode cX6_leftWithin 18 = .ok (.aload_n 0, 1) := dk_42 (c := cX6_leftWithin) (pc := 18) (dk_at bnames00cX6_leftWithin_0 18)
theorem dX6_leftWithin_19 : decode cX6_leftWithin 19 = .ok (.getfield 36, 3) := dk_180 (c := cX6_leftWithin) (pc := 19) (a := 0) (b := 36) (dk_at bnames00cX6_leftWithin_0 19) rfl
theorem dX6_leftWithin_22 : decode cX6_leftWithin 22 = .ok (.lmul, 1) := dk_105 (c := cX6_leftWithin) (pc := 22) (dk_at bnames00cX6_leftWithin_0 22)
theorem dX6_leftWithin_23 : decode cX6_leftWithin 23 = .ok (.ladd, 1) := dk_97 (c := cX6_leftWithin) (pc := 23) (dk_at bnames00cX6_leftWithin_0 23)
theorem dX6_leftWithin_24 : decode cX6_leftWithin 24 = .ok (.lstore_n 3, 1) := dk_66 (c := cX6_leftWithin) (pc := 24) (dk_at bnames00cX6_leftWithin_0 24)
theorem dX6_leftWithin_25 : decode cX6_leftWithin 25 = .ok (.aload_n 0, 1) := dk_42 (c := cX6_leftWithin) (pc := 25) (dk_at bnames00cX6_leftWithin_0 25)
theorem dX6_leftWithin_26 : decode cX6_leftWithin 26 = .ok (.aload_n 0, 1) := dk_42 (c := cX6_leftWithin) (pc := 26) (dk_at bnames00cX6_leftWithin_0 26)
theorem dX6_leftWithin_27 : decode cX6_leftWithin 27 = .ok (.getfield 18, 3) := dk_180 (c := cX6_leftWithin) (pc := 27) (a := 0) (b := 18) (dk_at bnames00cX6_leftWithin_0 27) rfl
theorem dX6_leftWithin_30 : decode cX6_leftWithin 30 = .ok (.lload_n 1, 1) := dk_31 (c := cX6_leftWithin) (pc := 30) (dk_at bnames00cX6_leftWithin_0 30)
theorem dX6_leftWithin_31 : decode cX6_leftWithin 31 = .ok (.aload_n 0, 1) := dk_42 (c := cX6_leftWithin) (pc := 31) (dk_at bnames00cX6_leftWithin_0 31)
theorem dX6_leftWithin_32 : decode cX6_leftWithin 32 = .ok (.getfield 15, 3) := dk_180 (c := cX6_leftWithin) (pc := 32) (a := 0) (b := 15) (dk_at bnames00cX6_leftWithin_0 32) rfl
theorem dX6_leftWithin_35 : decode cX6_leftWithin 35 = .ok (.lmul, 1) := dk_105 (c := cX6_leftWithin) (pc := 35) (dk_at bnames00cX6_leftWithin_0 35)
theorem dX6_leftWithin_36 : decode cX6_leftWithin 36 = .ok (.lsub, 1) := dk_101 (c := cX6_leftWithin) (pc := 36) (dk_at bnames00cX6_leftWithin_0 36)
theorem dX6_leftWithin_37 : decode cX6_leftWithin 37 = .ok (.aload_n 0, 1) := dk_42 (c := cX6_leftWithin) (pc := 37) (dk_at bnames00cX6_leftWithin_0 37)
theorem dX6_leftWithin_38 : decode cX6_leftWithin 38 = .ok (.getfield 30, 3) := dk_180 (c := cX6_leftWithin) (pc := 38) (a := 0) (b := 30) (dk_at bnames00cX6_leftWithin_0 38) rfl
theorem dX6_leftWithin_41 : decode cX6_leftWithin 41 = .ok (.lload_n 1, 1) := dk_31 (c := cX6_leftWithin) (pc := 41) (dk_at bnames00cX6_leftWithin_0 41)
theorem dX6_leftWithin_42 : decode cX6_leftWithin 42 = .ok (.aload_n 0, 1) := dk_42 (c := cX6_leftWithin) (pc := 42) (dk_at bnames00cX6_leftWithin_0 42)
theorem dX6_leftWithin_43 : decode cX6_leftWithin 43 = .ok (.getfield 27, 3) := dk_180 (c := cX6_leftWithin) (pc := 43) (a := 0) (b := 27) (dk_at bnames00cX6_leftWithin_0 43) rfl
theorem dX6_leftWithin_46 : decode cX6_leftWithin 46 = .ok (.lmul, 1) := dk_105 (c := cX6_leftWithin) (pc := 46) (dk_at bnames00cX6_leftWithin_0 46)
theorem dX6_leftWithin_47 : decode cX6_leftWithin 47 = .ok (.lsub, 1) := dk_101 (c := cX6_leftWithin) (pc := 47) (dk_at bnames00cX6_leftWithin_0 47)
theorem bnames00cX6_leftWithin_48 : ((dk_l cX6_leftWithin).drop 48).take 5 = [33, 182, 0, 86, 173] := by decide +kernel
theorem dX6_leftWithin_48 : decode cX6_leftWithin 48 = .ok (.lload_n 3, 1) := dk_33 (c := cX6_leftWithin) (pc := 48) (dk_at bnames00cX6_leftWithin_48 0)
theorem dX6_leftWithin_49 : decode cX6_leftWithin 49 = .ok (.invokevirtual 86, 3) := dk_182 (c := cX6_leftWithin) (pc := 49) (a := 0) (b := 86) (dk_at bnames00cX6_leftWithin_48 1) rfl
theorem dX6_leftWithin_52 : decode cX6_leftWithin 52 = .ok (.lreturn, 1) := dk_173 (c := cX6_leftWithin) (pc := 52) (dk_at bnames00cX6_leftWithin_48 4)
set_option maxRecDepth 20000 in
theorem ggX6_keeps_X6_leftGap : GoodIn wsX6_keeps wsX6_leftGap := goodIn_r _ [8, 9, 10, 11, 12, 13, 14, 15, 7, 16, 2, 1, 17, 18, 19, 20, 21, 22, 23, 24, 25, 26, 27] rfl (by decide +kernel)
set_option maxRecDepth 20000 in
theorem gX6_keeps_X6_leftGap : GoodIn wsX6_keeps (wsV RX6 96 RX6 yX6_leftGap wsX6_leftGap) := goodIn_app (goodIn_r _ [4, 5, 6, 7] rfl (by decide +kernel)) ggX6_keeps_X6_leftGap
theorem bnames00cX6_keeps_0 : ((dk_l cX6_keeps).drop 0).take 52 = [42, 31, 182, 0, 96, 55, 6, 42, 180, 0, 9, 42, 180, 0, 24, 97, 20, 0, 94, 101, 55, 8, 22, 8, 9, 148, 158, 0, 34, 22, 6, 22, 6, 105, 21, 5, 133, 42, 180, 0, 9, 42, 180, 0, 24, 97, 105, 33, 105, 22, 8, 109] := by decide +kernel
theorem dX6_keeps_0 : decode cX6_keeps 0 = .ok (.aload_n 0, 1) := dk_42 (c := cX6_keeps) (pc := 0) (dk_at bnames00cX6_keeps_0 0)
theorem dX6_keeps_1 : decode cX6_keeps 1 = .ok (.lload_n 1, 1) := dk_31 (c := cX6_keeps) (pc := 1) (dk_at bnames00cX6_keeps_0 1)
theorem dX6_keeps_2 : decode cX6_keeps 2 = .ok (.invokevirtual 96, 3) := dk_182 (c := cX6_keeps) (pc := 2) (a := 0) (b := 96) (dk_at bnames00cX6_keeps_0 2) rfl
theorem dX6_keeps_5 : decode cX6_keeps 5 = .ok (.lstore 6, 2) := dk_55 (c := cX6_keeps) (pc := 5) (a := 6) (dk_at bnames00cX6_keeps_0 5) rfl
theorem dX6_keeps_7 : decode cX6_keeps 7 = .ok (.aload_n 0, 1) := dk_42 (c := cX6_keeps) (pc := 7) (dk_at bnames00cX6_keeps_0 7)
theorem dX6_keeps_8 : decode cX6_keeps 8 = .ok (.getfield 9, 3) := dk_180 (c := cX6_keeps) (pc := 8) (a := 0) (b := 9) (dk_at bnames00cX6_keeps_0 8) rfl
theorem dX6_keeps_11 : decode cX6_keeps 11 = .ok (.aload_n 0, 1) := dk_42 (c := cX6_keeps) (pc := 11) (dk_at bnames00cX6_keeps_0 11)
theorem dX6_keeps_12 : decode cX6_keeps 12 = .ok (.getfield 24, 3) := dk_180 (c := cX6_keeps) (pc := 12) (a := 0) (b := 24) (dk_at bnames00cX6_keeps_0 12) rfl
theorem dX6_keeps_15 : decode cX6_keeps 15 = .ok (.ladd, 1) := dk_97 (c := cX6_keeps) (pc := 15) (dk_at bnames00cX6_keeps_0 15)
theorem dX6_keeps_16 : decode cX6_keeps 16 = .ok (.ldc2_w 94, 3) := dk_20 (c := cX6_keeps) (pc := 16) (a := 0) (b := 94) (dk_at bnames00cX6_keeps_0 16) rfl
theorem dX6_keeps_19 : decode cX6_keeps 19 = .ok (.lsub, 1) := dk_101 (c := cX6_keeps) (pc := 19) (dk_at bnames00cX6_keeps_0 19)
theorem dX6_keeps_20 : decode cX6_keeps 20 = .ok (.lstore 8, 2) := dk_55 (c := cX6_keeps) (pc := 20) (a := 8) (dk_at bnames00cX6_keeps_0 20) rfl
theorem dX6_keeps_22 : decode cX6_keeps 22 = .ok (.lload 8, 2) := dk_22 (c := cX6_keeps) (pc := 22) (a := 8) (dk_at bnames00cX6_keeps_0 22) rfl
theorem dX6_keeps_24 : decode cX6_keeps 24 = .ok (.lconst 0, 1) := dk_9 (c := cX6_keeps) (pc := 24) (dk_at bnames00cX6_keeps_0 24)
theorem dX6_keeps_25 : decode cX6_keeps 25 = .ok (.lcmp, 1) := dk_148 (c := cX6_keeps) (pc := 25) (dk_at bnames00cX6_keeps_0 25)
theorem dX6_keeps_26 : decode cX6_keeps 26 = .ok (.ifCond .le 34, 3) := dk_158 (c := cX6_keeps) (pc := 26) (a := 0) (b := 34) (dk_at bnames00cX6_keeps_0 26) (by decide)
theorem dX6_keeps_29 : decode cX6_keeps 29 = .ok (.lload 6, 2) := dk_22 (c := cX6_keeps) (pc := 29) (a := 6) (dk_at bnames00cX6_keeps_0 29) rfl
theorem dX6_keeps_31 : decode cX6_keeps 31 = .ok (.lload 6, 2) := dk_22 (c := cX6_keeps) (pc := 31) (a := 6) (dk_at bnames00cX6_keeps_0 31) rfl
theorem dX6_keeps_33 : decode cX6_keeps 33 = .ok (.lmul, 1) := dk_105 (c := cX6_keeps) (pc := 33) (dk_at bnames00cX6_keeps_0 33)
theorem dX6_keeps_34 : decode cX6_keeps 34 = .ok (.iload 5, 2) := dk_21 (c := cX6_keeps) (pc := 34) (a := 5) (dk_at bnames00cX6_keeps_0 34) rfl
theorem dX6_keeps_36 : decode cX6_keeps 36 = .ok (.i2l, 1) := dk_133 (c := cX6_keeps) (pc := 36) (dk_at bnames00cX6_keeps_0 36)
theorem dX6_keeps_37 : decode cX6_keeps 37 = .ok (.aload_n 0, 1) := dk_42 (c := cX6_keeps) (pc := 37) (dk_at bnames00cX6_keeps_0 37)
theorem dX6_keeps_38 : decode cX6_keeps 38 = .ok (.getfield 9, 3) := dk_180 (c := cX6_keeps) (pc := 38) (a := 0) (b := 9) (dk_at bnames00cX6_keeps_0 38) rfl
theorem dX6_keeps_41 : decode cX6_keeps 41 = .ok (.aload_n 0, 1) := dk_42 (c := cX6_keeps) (pc := 41) (dk_at bnames00cX6_keeps_0 41)
theorem dX6_keeps_42 : decode cX6_keeps 42 = .ok (.getfield 24, 3) := dk_180 (c := cX6_keeps) (pc := 42) (a := 0) (b := 24) (dk_at bnames00cX6_keeps_0 42) rfl
theorem dX6_keeps_45 : decode cX6_keeps 45 = .ok (.ladd, 1) := dk_97 (c := cX6_keeps) (pc := 45) (dk_at bnames00cX6_keeps_0 45)
theorem dX6_keeps_46 : decode cX6_keeps 46 = .ok (.lmul, 1) := dk_105 (c := cX6_keeps) (pc := 46) (dk_at bnames00cX6_keeps_0 46)
theorem dX6_keeps_47 : decode cX6_keeps 47 = .ok (.lload_n 3, 1) := dk_33 (c := cX6_keeps) (pc := 47) (dk_at bnames00cX6_keeps_0 47)
theorem bnames00cX6_keeps_48 : ((dk_l cX6_keeps).drop 48).take 14 = [105, 22, 8, 109, 148, 157, 0, 7, 4, 167, 0, 4, 3, 172] := by decide +kernel
theorem dX6_keeps_48 : decode cX6_keeps 48 = .ok (.lmul, 1) := dk_105 (c := cX6_keeps) (pc := 48) (dk_at bnames00cX6_keeps_48 0)
theorem dX6_keeps_49 : decode cX6_keeps 49 = .ok (.lload 8, 2) := dk_22 (c := cX6_keeps) (pc := 49) (a := 8) (dk_at bnames00cX6_keeps_48 1) rfl
theorem dX6_keeps_51 : decode cX6_keeps 51 = .ok (.ldiv, 1) := dk_109 (c := cX6_keeps) (pc := 51) (dk_at bnames00cX6_keeps_48 3)
theorem dX6_keeps_52 : decode cX6_keeps 52 = .ok (.lcmp, 1) := dk_148 (c := cX6_keeps) (pc := 52) (dk_at bnames00cX6_keeps_48 4)
theorem dX6_keeps_53 : decode cX6_keeps 53 = .ok (.ifCond .gt 7, 3) := dk_157 (c := cX6_keeps) (pc := 53) (a := 0) (b := 7) (dk_at bnames00cX6_keeps_48 5) (by decide)
theorem dX6_keeps_56 : decode cX6_keeps 56 = .ok (.iconst 1, 1) := dk_4 (c := cX6_keeps) (pc := 56) (dk_at bnames00cX6_keeps_48 8)
theorem dX6_keeps_57 : decode cX6_keeps 57 = .ok (.goto 4, 3) := dk_167 (c := cX6_keeps) (pc := 57) (a := 0) (b := 4) (dk_at bnames00cX6_keeps_48 9) (by decide)
theorem dX6_keeps_60 : decode cX6_keeps 60 = .ok (.iconst 0, 1) := dk_3 (c := cX6_keeps) (pc := 60) (dk_at bnames00cX6_keeps_48 12)
theorem dX6_keeps_61 : decode cX6_keeps 61 = .ok (.ireturn, 1) := dk_172 (c := cX6_keeps) (pc := 61) (dk_at bnames00cX6_keeps_48 13)
set_option maxRecDepth 20000 in
theorem ggX6_inTrueSpan_X6_leftWithin : GoodIn wsX6_inTrueSpan wsX6_leftWithin := goodIn_r _ [5, 6, 7, 8, 9, 10, 11, 12, 13, 14, 15, 16, 4, 17, 18, 19, 32, 33, 34, 35, 36, 37, 38, 39, 40, 41, 42] rfl (by decide +kernel)
set_option maxRecDepth 20000 in
theorem gX6_inTrueSpan_X6_leftWithin : GoodIn wsX6_inTrueSpan (wsV RX6 99 RX6 yX6_leftWithin wsX6_leftWithin) := goodIn_app (goodIn_r _ [1, 2, 3, 4] rfl (by decide +kernel)) ggX6_inTrueSpan_X6_leftWithin
set_option maxRecDepth 20000 in
theorem ggX6_inTrueSpan_X6_keeps : GoodIn wsX6_inTrueSpan wsX6_keeps := goodIn_r _ [23, 18, 19, 7, 24, 25, 26, 4, 27, 10, 11, 12, 13, 28, 29, 30, 31, 32, 33, 34, 35, 36, 37, 38, 39, 40, 41, 42] rfl (by decide +kernel)
set_option maxRecDepth 20000 in
theorem gX6_inTrueSpan_X6_keeps : GoodIn wsX6_inTrueSpan (wsV RX6 102 RX6 yX6_keeps wsX6_keeps) := goodIn_app (goodIn_r _ [20, 21, 22, 4] rfl (by decide +kernel)) ggX6_inTrueSpan_X6_keeps
theorem bnames00cX6_inTrueSpan_0 : ((dk_l cX6_inTrueSpan).drop 0).take 12 = [42, 31, 42, 31, 182, 0, 99, 29, 182, 0, 102, 172] := by decide +kernel
theorem dX6_inTrueSpan_0 : decode cX6_inTrueSpan 0 = .ok (.aload_n 0, 1) := dk_42 (c := cX6_inTrueSpan) (pc := 0) (dk_at bnames00cX6_inTrueSpan_0 0)
theorem dX6_inTrueSpan_1 : decode cX6_inTrueSpan 1 = .ok (.lload_n 1, 1) := dk_31 (c := cX6_inTrueSpan) (pc := 1) (dk_at bnames00cX6_inTrueSpan_0 1)
theorem dX6_inTrueSpan_2 : decode cX6_inTrueSpan 2 = .ok (.aload_n 0, 1) := dk_42 (c := cX6_inTrueSpan) (pc := 2) (dk_at bnames00cX6_inTrueSpan_0 2)
theorem dX6_inTrueSpan_3 : decode cX6_inTrueSpan 3 = .ok (.lload_n 1, 1) := dk_31 (c := cX6_inTrueSpan) (pc := 3) (dk_at bnames00cX6_inTrueSpan_0 3)
theorem dX6_inTrueSpan_4 : decode cX6_inTrueSpan 4 = .ok (.invokevirtual 99, 3) := dk_182 (c := cX6_inTrueSpan) (pc := 4) (a := 0) (b := 99) (dk_at bnames00cX6_inTrueSpan_0 4) rfl
theorem dX6_inTrueSpan_7 : decode cX6_inTrueSpan 7 = .ok (.iload_n 3, 1) := dk_29 (c := cX6_inTrueSpan) (pc := 7) (dk_at bnames00cX6_inTrueSpan_0 7)
theorem dX6_inTrueSpan_8 : decode cX6_inTrueSpan 8 = .ok (.invokevirtual 102, 3) := dk_182 (c := cX6_inTrueSpan) (pc := 8) (a := 0) (b := 102) (dk_at bnames00cX6_inTrueSpan_0 8) rfl
theorem dX6_inTrueSpan_11 : decode cX6_inTrueSpan 11 = .ok (.ireturn, 1) := dk_172 (c := cX6_inTrueSpan) (pc := 11) (dk_at bnames00cX6_inTrueSpan_0 11)
set_option maxRecDepth 20000 in
theorem ggX6_inUsualSpan_X6_byMoved : GoodIn wsX6_inUsualSpan wsX6_byMoved := goodIn_r _ [6, 7, 8, 9, 5, 10, 11, 12, 13, 1, 14, 15, 16, 17, 18, 19, 20, 21, 22, 23, 24, 25, 46, 47, 48, 49, 50, 51, 52, 53, 54, 55, 56] rfl (by decide +kernel)
set_option maxRecDepth 20000 in
theorem gX6_inUsualSpan_X6_byMoved : GoodIn wsX6_inUsualSpan (wsV RX6 60 RX6 yX6_byMoved wsX6_byMoved) := goodIn_app (goodIn_r _ [2, 3, 4, 5] rfl (by decide +kernel)) ggX6_inUsualSpan_X6_byMoved
set_option maxRecDepth 20000 in
theorem ggX6_inUsualSpan_X6_leftWithin : GoodIn wsX6_inUsualSpan wsX6_leftWithin := goodIn_r _ [29, 30, 31, 32, 33, 14, 11, 15, 12, 34, 35, 36, 5, 37, 16, 17, 46, 47, 48, 49, 50, 51, 52, 53, 54, 55, 56] rfl (by decide +kernel)
set_option maxRecDepth 20000 in
theorem gX6_inUsualSpan_X6_leftWithin : GoodIn wsX6_inUsualSpan (wsV RX6 99 RX6 yX6_leftWithin wsX6_leftWithin) := goodIn_app (goodIn_r _ [26, 27, 28, 5] rfl (by decide +kernel)) ggX6_inUsualSpan_X6_leftWithin
set_option maxRecDepth 20000 in
theorem ggX6_inUsualSpan_X6_keeps : GoodIn wsX6_inUsualSpan wsX6_keeps := goodIn_r _ [41, 16, 17, 31, 42, 43, 44, 5, 45, 14, 11, 15, 12, 18, 19, 20, 21, 46, 47, 48, 49, 50, 51, 52, 53, 54, 55, 56] rfl (by decide +kernel)
set_option maxRecDepth 20000 in
theorem gX6_inUsualSpan_X6_keeps : GoodIn wsX6_inUsualSpan (wsV RX6 102 RX6 yX6_keeps wsX6_keeps) := goodIn_app (goodIn_r _ [38, 39, 40, 5] rfl (by decide +kernel)) ggX6_inUsualSpan_X6_keeps
theorem bnames00cX6_inUsualSpan_0 : ((dk_l cX6_inUsualSpan).drop 0).take 19 = [42, 31, 42, 42, 182, 0, 60, 20, 0, 69, 109, 182, 0, 99, 29, 182, 0, 102, 172] := by decide +kernel
theorem dX6_inUsualSpan_0 : decode cX6_inUsualSpan 0 = .ok (.aload_n 0, 1) := dk_42 (c := cX6_inUsualSpan) (pc := 0) (dk_at bnames00cX6_inUsualSpan_0 0)
theorem dX6_inUsualSpan_1 : decode cX6_inUsualSpan 1 = .ok (.lload_n 1, 1) := dk_31 (c := cX6_inUsualSpan) (pc := 1) (dk_at bnames00cX6_inUsualSpan_0 1)
theorem dX6_inUsualSpan_2 : decode cX6_inUsualSpan 2 = .ok (.aload_n 0, 1) := dk_42 (c := cX6_inUsualSpan) (pc := 2) (dk_at bnames00cX6_inUsualSpan_0 2)
theorem dX6_inUsualSpan_3 : decode cX6_inUsualSpan 3 = .ok (.aload_n 0, 1) := dk_42 (c := cX6_inUsualSpan) (pc := 3) (dk_at bnames00cX6_inUsualSpan_0 3)
theorem dX6_inUsualSpan_4 : decode cX6_inUsualSpan 4 = .ok (.invokevirtual 60, 3) := dk_182 (c := cX6_inUsualSpan) (pc := 4) (a := 0) (b := 60) (dk_at bnames00cX6_inUsualSpan_0 4) rfl
theorem dX6_inUsualSpan_7 : decode cX6_inUsualSpan 7 = .ok (.ldc2_w 69, 3) := dk_20 (c := cX6_inUsualSpan) (pc := 7) (a := 0) (b := 69) (dk_at bnames00cX6_inUsualSpan_0 7) rfl
theorem dX6_inUsualSpan_10 : decode cX6_inUsualSpan 10 = .ok (.ldiv, 1) := dk_109 (c := cX6_inUsualSpan) (pc := 10) (dk_at bnames00cX6_inUsualSpan_0 10)
theorem dX6_inUsualSpan_11 : decode cX6_inUsualSpan 11 = .ok (.invokevirtual 99, 3) := dk_182 (c := cX6_inUsualSpan) (pc := 11) (a := 0) (b := 99) (dk_at bnames00cX6_inUsualSpan_0 11) rfl
theorem dX6_inUsualSpan_14 : decode cX6_inUsualSpan 14 = .ok (.iload_n 3, 1) := dk_29 (c := cX6_inUsualSpan) (pc := 14) (dk_at bnames00cX6_inUsualSpan_0 14)
theorem dX6_inUsualSpan_15 : decode cX6_inUsualSpan 15 = .ok (.invokevirtual 102, 3) := dk_182 (c := cX6_inUsualSpan) (pc := 15) (a := 0) (b := 102) (dk_at bnames00cX6_inUsualSpan_0 15) rfl
theorem dX6_inUsualSpan_18 : decode cX6_inUsualSpan 18 = .ok (.ireturn, 1) := dk_172 (c := cX6_inUsualSpan) (pc := 18) (dk_at bnames00cX6_inUsualSpan_0 18)
set_option maxRecDepth 20000 in
theorem ggX6_trueSpan_X6_spanBy : GoodIn wsX6_trueSpan wsX6_spanBy := goodIn_r _ [5, 6, 7, 8, 9, 4, 10, 11, 12, 13, 14, 15, 16, 17, 18, 19, 20, 21, 22, 23, 24, 25, 26, 27, 28, 29, 30, 31, 32, 33, 34, 35, 36, 37, 38, 39, 40, 41, 42, 43, 44, 45, 46, 47, 48, 49, 50, 51, 52, 53, 54, 55, 56, 57, 58, 59, 60, 61, 62, 63, 64, 65, 66, 67, 68, 69] rfl (by decide +kernel)
set_option maxRecDepth 20000 in
theorem gX6_trueSpan_X6_spanBy : GoodIn wsX6_trueSpan (wsV RX6 106 RX6 yX6_spanBy wsX6_spanBy) := goodIn_app (goodIn_r _ [1, 2, 3, 4] rfl (by decide +kernel)) ggX6_trueSpan_X6_spanBy
theorem bnames00cX6_trueSpan_0 : ((dk_l cX6_trueSpan).drop 0).take 8 = [42, 27, 28, 3, 182, 0, 106, 172] := by decide +kernel
theorem dX6_trueSpan_0 : decode cX6_trueSpan 0 = .ok (.aload_n 0, 1) := dk_42 (c := cX6_trueSpan) (pc := 0) (dk_at bnames00cX6_trueSpan_0 0)
theorem dX6_trueSpan_1 : decode cX6_trueSpan 1 = .ok (.iload_n 1, 1) := dk_27 (c := cX6_trueSpan) (pc := 1) (dk_at bnames00cX6_trueSpan_0 1)
theorem dX6_trueSpan_2 : decode cX6_trueSpan 2 = .ok (.iload_n 2, 1) := dk_28 (c := cX6_trueSpan) (pc := 2) (dk_at bnames00cX6_trueSpan_0 2)
theorem dX6_trueSpan_3 : decode cX6_trueSpan 3 = .ok (.iconst 0, 1) := dk_3 (c := cX6_trueSpan) (pc := 3) (dk_at bnames00cX6_trueSpan_0 3)
theorem dX6_trueSpan_4 : decode cX6_trueSpan 4 = .ok (.invokevirtual 106, 3) := dk_182 (c := cX6_trueSpan) (pc := 4) (a := 0) (b := 106) (dk_at bnames00cX6_trueSpan_0 4) rfl
theorem dX6_trueSpan_7 : decode cX6_trueSpan 7 = .ok (.ireturn, 1) := dk_172 (c := cX6_trueSpan) (pc := 7) (dk_at bnames00cX6_trueSpan_0 7)
set_option maxRecDepth 20000 in
theorem ggX6_usualSpan_X6_spanBy : GoodIn wsX6_usualSpan wsX6_spanBy := goodIn_r _ [5, 6, 7, 8, 9, 4, 10, 11, 12, 13, 14, 15, 16, 17, 18, 19, 20, 21, 22, 23, 24, 25, 26, 27, 28, 29, 30, 31, 32, 33, 34, 35, 36, 37, 38, 39, 40, 41, 42, 43, 44, 45, 46, 47, 48, 49, 50, 51, 52, 53, 54, 55, 56, 57, 58, 59, 60, 61, 62, 63, 64, 65, 66, 67, 68, 69] rfl (by decide +kernel)
set_option maxRecDepth 20000 in
theorem gX6_usualSpan_X6_spanBy : GoodIn wsX6_usualSpan (wsV RX6 106 RX6 yX6_spanBy wsX6_spanBy) := goodIn_app (goodIn_r _ [1, 2, 3, 4] rfl (by decide +kernel)) ggX6_usualSpan_X6_spanBy
theorem bnames00cX6_usualSpan_0 : ((dk_l cX6_usualSpan).drop 0).take 8 = [42, 27, 28, 4, 182, 0, 106, 172] := by decide +kernel
theorem dX6_usualSpan_0 : decode cX6_usualSpan 0 = .ok (.aload_n 0, 1) := dk_42 (c := cX6_usualSpan) (pc := 0) (dk_at bnames00cX6_usualSpan_0 0)
theorem dX6_usualSpan_1 : decode cX6_usualSpan 1 = .ok (.iload_n 1, 1) := dk_27 (c := cX6_usualSpan) (pc := 1) (dk_at bnames00cX6_usualSpan_0 1)
theorem dX6_usualSpan_2 : decode cX6_usualSpan 2 = .ok (.iload_n 2, 1) := dk_28 (c := cX6_usualSpan) (pc := 2) (dk_at bnames00cX6_usualSpan_0 2)
theorem dX6_usualSpan_3 : decode cX6_usualSpan 3 = .ok (.iconst 1, 1) := dk_4 (c := cX6_usualSpan) (pc := 3) (dk_at bnames00cX6_usualSpan_0 3)
theorem dX6_usualSpan_4 : decode cX6_usualSpan 4 = .ok (.invokevirtual 106, 3) := dk_182 (c := cX6_usualSpan) (pc := 4) (a := 0) (b := 106) (dk_at bnames00cX6_usualSpan_0 4) rfl
theorem dX6_usualSpan_7 : decode cX6_usualSpan 7 = .ok (.ireturn, 1) := dk_172 (c := cX6_usualSpan) (pc := 7) (dk_at bnames00cX6_usualSpan_0 7)
set_option maxRecDepth 20000 in
theorem ggX6_spanBy_X6_inUsualSpan : GoodIn wsX6_spanBy wsX6_inUsualSpan := goodIn_r _ [6, 7, 8, 9, 10, 5, 11, 12, 13, 14, 15, 16, 17, 18, 19, 20, 21, 22, 23, 24, 25, 26, 27, 28, 29, 30, 31, 32, 33, 34, 35, 36, 37, 38, 39, 40, 41, 42, 43, 44, 45, 46, 47, 48, 49, 50, 55, 56, 57, 58, 59, 60, 61, 62, 63, 64, 65] rfl (by decide +kernel)
set_option maxRecDepth 20000 in
theorem gX6_spanBy_X6_inUsualSpan : GoodIn wsX6_spanBy (wsV RX6 111 RX6 yX6_inUsualSpan wsX6_inUsualSpan) := goodIn_app (goodIn_r _ [2, 3, 4, 5] rfl (by decide +kernel)) ggX6_spanBy_X6_inUsualSpan
set_option maxRecDepth 20000 in
theorem ggX6_spanBy_X6_inTrueSpan : GoodIn wsX6_spanBy wsX6_inTrueSpan := goodIn_r _ [54, 31, 32, 33, 5, 34, 35, 36, 37, 38, 19, 16, 20, 17, 39, 40, 41, 42, 21, 22, 43, 44, 45, 46, 47, 48, 49, 50, 23, 24, 25, 26, 55, 56, 57, 58, 59, 60, 61, 62, 63, 64, 65] rfl (by decide +kernel)
set_option maxRecDepth 20000 in
theorem gX6_spanBy_X6_inTrueSpan : GoodIn wsX6_spanBy (wsV RX6 115 RX6 yX6_inTrueSpan wsX6_inTrueSpan) := goodIn_app (goodIn_r _ [51, 52, 53, 5] rfl (by decide +kernel)) ggX6_spanBy_X6_inTrueSpan
theorem bnames00cX6_spanBy_0 : ((dk_l cX6_spanBy).drop 0).take 52 = [3, 54, 4, 18, 110, 54, 5, 18, 110, 54, 6, 16, 157, 54, 7, 21, 7, 16, 99, 163, 0, 59, 29, 153, 0, 17, 42, 21, 7, 133, 27, 182, 0, 111, 153, 0, 38, 167, 0, 14, 42, 21, 7, 133, 27, 182, 0, 115, 153, 0, 24, 21] := by decide +kernel
theorem dX6_spanBy_0 : decode cX6_spanBy 0 = .ok (.iconst 0, 1) := dk_3 (c := cX6_spanBy) (pc := 0) (dk_at bnames00cX6_spanBy_0 0)
theorem dX6_spanBy_1 : decode cX6_spanBy 1 = .ok (.istore 4, 2) := dk_54 (c := cX6_spanBy) (pc := 1) (a := 4) (dk_at bnames00cX6_spanBy_0 1) rfl
theorem dX6_spanBy_3 : decode cX6_spanBy 3 = .ok (.ldc 110, 2) := dk_18 (c := cX6_spanBy) (pc := 3) (a := 110) (dk_at bnames00cX6_spanBy_0 3) rfl
theorem dX6_spanBy_5 : decode cX6_spanBy 5 = .ok (.istore 5, 2) := dk_54 (c := cX6_spanBy) (pc := 5) (a := 5) (dk_at bnames00cX6_spanBy_0 5) rfl
theorem dX6_spanBy_7 : decode cX6_spanBy 7 = .ok (.ldc 110, 2) := dk_18 (c := cX6_spanBy) (pc := 7) (a := 110) (dk_at bnames00cX6_spanBy_0 7) rfl
theorem dX6_spanBy_9 : decode cX6_spanBy 9 = .ok (.istore 6, 2) := dk_54 (c := cX6_spanBy) (pc := 9) (a := 6) (dk_at bnames00cX6_spanBy_0 9) rfl
theorem dX6_spanBy_11 : decode cX6_spanBy 11 = .ok (.bipush (-99), 2) := dk_16 (c := cX6_spanBy) (pc := 11) (a := 157) (dk_at bnames00cX6_spanBy_0 11) (by decide)
theorem dX6_spanBy_13 : decode cX6_spanBy 13 = .ok (.istore 7, 2) := dk_54 (c := cX6_spanBy) (pc := 13) (a := 7) (dk_at bnames00cX6_spanBy_0 13) rfl
theorem dX6_spanBy_15 : decode cX6_spanBy 15 = .ok (.iload 7, 2) := dk_21 (c := cX6_spanBy) (pc := 15) (a := 7) (dk_at bnames00cX6_spanBy_0 15) rfl
theorem dX6_spanBy_17 : decode cX6_spanBy 17 = .ok (.bipush 99, 2) := dk_16 (c := cX6_spanBy) (pc := 17) (a := 99) (dk_at bnames00cX6_spanBy_0 17) (by decide)
theorem dX6_spanBy_19 : decode cX6_spanBy 19 = .ok (.if_icmp .gt 59, 3) := dk_163 (c := cX6_spanBy) (pc := 19) (a := 0) (b := 59) (dk_at bnames00cX6_spanBy_0 19) (by decide)
theorem dX6_spanBy_22 : decode cX6_spanBy 22 = .ok (.iload_n 3, 1) := dk_29 (c := cX6_spanBy) (pc := 22) (dk_at bnames00cX6_spanBy_0 22)
theorem dX6_spanBy_23 : decode cX6_spanBy 23 = .ok (.ifCond .eq 17, 3) := dk_153 (c := cX6_spanBy) (pc := 23) (a := 0) (b := 17) (dk_at bnames00cX6_spanBy_0 23) (by decide)
theorem dX6_spanBy_26 : decode cX6_spanBy 26 = .ok (.aload_n 0, 1) := dk_42 (c := cX6_spanBy) (pc := 26) (dk_at bnames00cX6_spanBy_0 26)
theorem dX6_spanBy_27 : decode cX6_spanBy 27 = .ok (.iload 7, 2) := dk_21 (c := cX6_spanBy) (pc := 27) (a := 7) (dk_at bnames00cX6_spanBy_0 27) rfl
theorem dX6_spanBy_29 : decode cX6_spanBy 29 = .ok (.i2l, 1) := dk_133 (c := cX6_spanBy) (pc := 29) (dk_at bnames00cX6_spanBy_0 29)
theorem dX6_spanBy_30 : decode cX6_spanBy 30 = .ok (.iload_n 1, 1) := dk_27 (c := cX6_spanBy) (pc := 30) (dk_at bnames00cX6_spanBy_0 30)
theorem dX6_spanBy_31 : decode cX6_spanBy 31 = .ok (.invokevirtual 111, 3) := dk_182 (c := cX6_spanBy) (pc := 31) (a := 0) (b := 111) (dk_at bnames00cX6_spanBy_0 31) rfl
theorem dX6_spanBy_34 : decode cX6_spanBy 34 = .ok (.ifCond .eq 38, 3) := dk_153 (c := cX6_spanBy) (pc := 34) (a := 0) (b := 38) (dk_at bnames00cX6_spanBy_0 34) (by decide)
theorem dX6_spanBy_37 : decode cX6_spanBy 37 = .ok (.goto 14, 3) := dk_167 (c := cX6_spanBy) (pc := 37) (a := 0) (b := 14) (dk_at bnames00cX6_spanBy_0 37) (by decide)
theorem dX6_spanBy_40 : decode cX6_spanBy 40 = .ok (.aload_n 0, 1) := dk_42 (c := cX6_spanBy) (pc := 40) (dk_at bnames00cX6_spanBy_0 40)
theorem dX6_spanBy_41 : decode cX6_spanBy 41 = .ok (.iload 7, 2) := dk_21 (c := cX6_spanBy) (pc := 41) (a := 7) (dk_at bnames00cX6_spanBy_0 41) rfl
theorem dX6_spanBy_43 : decode cX6_spanBy 43 = .ok (.i2l, 1) := dk_133 (c := cX6_spanBy) (pc := 43) (dk_at bnames00cX6_spanBy_0 43)
theorem dX6_spanBy_44 : decode cX6_spanBy 44 = .ok (.iload_n 1, 1) := dk_27 (c := cX6_spanBy) (pc := 44) (dk_at bnames00cX6_spanBy_0 44)
theorem dX6_spanBy_45 : decode cX6_spanBy 45 = .ok (.invokevirtual 115, 3) := dk_182 (c := cX6_spanBy) (pc := 45) (a := 0) (b := 115) (dk_at bnames00cX6_spanBy_0 45) rfl
theorem bnames00cX6_spanBy_48 : ((dk_l cX6_spanBy).drop 48).take 52 = [153, 0, 24, 21, 4, 154, 0, 8, 21, 7, 167, 0, 5, 21, 5, 54, 5, 21, 7, 54, 6, 132, 4, 1, 132, 7, 1, 167, 255, 196, 28, 170, 0, 0, 0, 34, 0, 0, 0, 0, 0, 0, 0, 2, 0, 0, 0, 25, 0, 0, 0, 28] := by decide +kernel
theorem dX6_spanBy_48 : decode cX6_spanBy 48 = .ok (.ifCond .eq 24, 3) := dk_153 (c := cX6_spanBy) (pc := 48) (a := 0) (b := 24) (dk_at bnames00cX6_spanBy_48 0) (by decide)
theorem dX6_spanBy_51 : decode cX6_spanBy 51 = .ok (.iload 4, 2) := dk_21 (c := cX6_spanBy) (pc := 51) (a := 4) (dk_at bnames00cX6_spanBy_48 3) rfl
theorem dX6_spanBy_53 : decode cX6_spanBy 53 = .ok (.ifCond .ne 8, 3) := dk_154 (c := cX6_spanBy) (pc := 53) (a := 0) (b := 8) (dk_at bnames00cX6_spanBy_48 5) (by decide)
theorem dX6_spanBy_56 : decode cX6_spanBy 56 = .ok (.iload 7, 2) := dk_21 (c := cX6_spanBy) (pc := 56) (a := 7) (dk_at bnames00cX6_spanBy_48 8) rfl
theorem dX6_spanBy_58 : decode cX6_spanBy 58 = .ok (.goto 5, 3) := dk_167 (c := cX6_spanBy) (pc := 58) (a := 0) (b := 5) (dk_at bnames00cX6_spanBy_48 10) (by decide)
theorem dX6_spanBy_61 : decode cX6_spanBy 61 = .ok (.iload 5, 2) := dk_21 (c := cX6_spanBy) (pc := 61) (a := 5) (dk_at bnames00cX6_spanBy_48 13) rfl
theorem dX6_spanBy_63 : decode cX6_spanBy 63 = .ok (.istore 5, 2) := dk_54 (c := cX6_spanBy) (pc := 63) (a := 5) (dk_at bnames00cX6_spanBy_48 15) rfl
theorem dX6_spanBy_65 : decode cX6_spanBy 65 = .ok (.iload 7, 2) := dk_21 (c := cX6_spanBy) (pc := 65) (a := 7) (dk_at bnames00cX6_spanBy_48 17) rfl
theorem dX6_spanBy_67 : decode cX6_spanBy 67 = .ok (.istore 6, 2) := dk_54 (c := cX6_spanBy) (pc := 67) (a := 6) (dk_at bnames00cX6_spanBy_48 19) rfl
theorem dX6_spanBy_69 : decode cX6_spanBy 69 = .ok (.iinc 4 1, 3) := dk_132 (c := cX6_spanBy) (pc := 69) (a := 4) (b := 1) (dk_at bnames00cX6_spanBy_48 21) rfl (by decide)
theorem dX6_spanBy_72 : decode cX6_spanBy 72 = .ok (.iinc 7 1, 3) := dk_132 (c := cX6_spanBy) (pc := 72) (a := 7) (b := 1) (dk_at bnames00cX6_spanBy_48 24) rfl (by decide)
theorem dX6_spanBy_75 : decode cX6_spanBy 75 = .ok (.goto (-60), 3) := dk_167 (c := cX6_spanBy) (pc := 75) (a := 255) (b := 196) (dk_at bnames00cX6_spanBy_48 27) (by decide)
theorem dX6_spanBy_78 : decode cX6_spanBy 78 = .ok (.iload_n 2, 1) := dk_28 (c := cX6_spanBy) (pc := 78) (dk_at bnames00cX6_spanBy_48 30)
theorem dX6_spanBy_79 : decode cX6_spanBy 79 = .ok (.tableswitch 34 0 2 #[25, 28, 31], 25) := by decide +kernel
theorem bnames00cX6_spanBy_96 : ((dk_l cX6_spanBy).drop 96).take 40 = [0, 0, 0, 28, 0, 0, 0, 31, 21, 4, 172, 21, 5, 172, 21, 6, 172, 21, 4, 158, 0, 19, 21, 6, 21, 5, 100, 4, 96, 21, 4, 160, 0, 7, 4, 167, 0, 4, 3, 172] := by decide +kernel
theorem dX6_spanBy_104 : decode cX6_spanBy 104 = .ok (.iload 4, 2) := dk_21 (c := cX6_spanBy) (pc := 104) (a := 4) (dk_at bnames00cX6_spanBy_96 8) rfl
theorem dX6_spanBy_106 : decode cX6_spanBy 106 = .ok (.ireturn, 1) := dk_172 (c := cX6_spanBy) (pc := 106) (dk_at bnames00cX6_spanBy_96 10)
theorem dX6_spanBy_107 : decode cX6_spanBy 107 = .ok (.iload 5, 2) := dk_21 (c := cX6_spanBy) (pc := 107) (a := 5) (dk_at bnames00cX6_spanBy_96 11) rfl
theorem dX6_spanBy_109 : decode cX6_spanBy 109 = .ok (.ireturn, 1) := dk_172 (c := cX6_spanBy) (pc := 109) (dk_at bnames00cX6_spanBy_96 13)
theorem dX6_spanBy_110 : decode cX6_spanBy 110 = .ok (.iload 6, 2) := dk_21 (c := cX6_spanBy) (pc := 110) (a := 6) (dk_at bnames00cX6_spanBy_96 14) rfl
theorem dX6_spanBy_112 : decode cX6_spanBy 112 = .ok (.ireturn, 1) := dk_172 (c := cX6_spanBy) (pc := 112) (dk_at bnames00cX6_spanBy_96 16)
theorem dX6_spanBy_113 : decode cX6_spanBy 113 = .ok (.iload 4, 2) := dk_21 (c := cX6_spanBy) (pc := 113) (a := 4) (dk_at bnames00cX6_spanBy_96 17) rfl
theorem dX6_spanBy_115 : decode cX6_spanBy 115 = .ok (.ifCond .le 19, 3) := dk_158 (c := cX6_spanBy) (pc := 115) (a := 0) (b := 19) (dk_at bnames00cX6_spanBy_96 19) (by decide)
theorem dX6_spanBy_118 : decode cX6_spanBy 118 = .ok (.iload 6, 2) := dk_21 (c := cX6_spanBy) (pc := 118) (a := 6) (dk_at bnames00cX6_spanBy_96 22) rfl
theorem dX6_spanBy_120 : decode cX6_spanBy 120 = .ok (.iload 5, 2) := dk_21 (c := cX6_spanBy) (pc := 120) (a := 5) (dk_at bnames00cX6_spanBy_96 24) rfl
theorem dX6_spanBy_122 : decode cX6_spanBy 122 = .ok (.isub, 1) := dk_100 (c := cX6_spanBy) (pc := 122) (dk_at bnames00cX6_spanBy_96 26)
theorem dX6_spanBy_123 : decode cX6_spanBy 123 = .ok (.iconst 1, 1) := dk_4 (c := cX6_spanBy) (pc := 123) (dk_at bnames00cX6_spanBy_96 27)
theorem dX6_spanBy_124 : decode cX6_spanBy 124 = .ok (.iadd, 1) := dk_96 (c := cX6_spanBy) (pc := 124) (dk_at bnames00cX6_spanBy_96 28)
theorem dX6_spanBy_125 : decode cX6_spanBy 125 = .ok (.iload 4, 2) := dk_21 (c := cX6_spanBy) (pc := 125) (a := 4) (dk_at bnames00cX6_spanBy_96 29) rfl
theorem dX6_spanBy_127 : decode cX6_spanBy 127 = .ok (.if_icmp .ne 7, 3) := dk_160 (c := cX6_spanBy) (pc := 127) (a := 0) (b := 7) (dk_at bnames00cX6_spanBy_96 31) (by decide)
theorem dX6_spanBy_130 : decode cX6_spanBy 130 = .ok (.iconst 1, 1) := dk_4 (c := cX6_spanBy) (pc := 130) (dk_at bnames00cX6_spanBy_96 34)
theorem dX6_spanBy_131 : decode cX6_spanBy 131 = .ok (.goto 4, 3) := dk_167 (c := cX6_spanBy) (pc := 131) (a := 0) (b := 4) (dk_at bnames00cX6_spanBy_96 35) (by decide)
theorem dX6_spanBy_134 : decode cX6_spanBy 134 = .ok (.iconst 0, 1) := dk_3 (c := cX6_spanBy) (pc := 134) (dk_at bnames00cX6_spanBy_96 38)
theorem dX6_spanBy_135 : decode cX6_spanBy 135 = .ok (.ireturn, 1) := dk_172 (c := cX6_spanBy) (pc := 135) (dk_at bnames00cX6_spanBy_96 39)
theorem bnames00cX7_addFour_0 : ((dk_l cX7_addFour).drop 0).take 47 = [16, 24, 61, 28, 155, 0, 42, 42, 180, 0, 19, 17, 2, 88, 162, 0, 32, 42, 180, 0, 9, 42, 180, 0, 19, 27, 28, 122, 145, 84, 42, 89, 180, 0, 19, 4, 96, 181, 0, 19, 132, 2, 248, 167, 255, 216, 177] := by decide +kernel
theorem dX7_addFour_0 : decode cX7_addFour 0 = .ok (.bipush 24, 2) := dk_16 (c := cX7_addFour) (pc := 0) (a := 24) (dk_at bnames00cX7_addFour_0 0) (by decide)
theorem dX7_addFour_2 : decode cX7_addFour 2 = .ok (.istore_n 2, 1) := dk_61 (c := cX7_addFour) (pc := 2) (dk_at bnames00cX7_addFour_0 2)
theorem dX7_addFour_3 : decode cX7_addFour 3 = .ok (.iload_n 2, 1) := dk_28 (c := cX7_addFour) (pc := 3) (dk_at bnames00cX7_addFour_0 3)
theorem dX7_addFour_4 : decode cX7_addFour 4 = .ok (.ifCond .lt 42, 3) := dk_155 (c := cX7_addFour) (pc := 4) (a := 0) (b := 42) (dk_at bnames00cX7_addFour_0 4) (by decide)
theorem dX7_addFour_7 : decode cX7_addFour 7 = .ok (.aload_n 0, 1) := dk_42 (c := cX7_addFour) (pc := 7) (dk_at bnames00cX7_addFour_0 7)
theorem dX7_addFour_8 : decode cX7_addFour 8 = .ok (.getfield 19, 3) := dk_180 (c := cX7_addFour) (pc := 8) (a := 0) (b := 19) (dk_at bnames00cX7_addFour_0 8) rfl
theorem dX7_addFour_11 : decode cX7_addFour 11 = .ok (.sipush 600, 3) := dk_17 (c := cX7_addFour) (pc := 11) (a := 2) (b := 88) (dk_at bnames00cX7_addFour_0 11) (by decide)
theorem dX7_addFour_14 : decode cX7_addFour 14 = .ok (.if_icmp .ge 32, 3) := dk_162 (c := cX7_addFour) (pc := 14) (a := 0) (b := 32) (dk_at bnames00cX7_addFour_0 14) (by decide)
theorem dX7_addFour_17 : decode cX7_addFour 17 = .ok (.aload_n 0, 1) := dk_42 (c := cX7_addFour) (pc := 17) (dk_at bnames00cX7_addFour_0 17)
theorem dX7_addFour_18 : decode cX7_addFour 18 = .ok (.getfield 9, 3) := dk_180 (c := cX7_addFour) (pc := 18) (a := 0) (b := 9) (dk_at bnames00cX7_addFour_0 18) rfl
theorem dX7_addFour_21 : decode cX7_addFour 21 = .ok (.aload_n 0, 1) := dk_42 (c := cX7_addFour) (pc := 21) (dk_at bnames00cX7_addFour_0 21)
theorem dX7_addFour_22 : decode cX7_addFour 22 = .ok (.getfield 19, 3) := dk_180 (c := cX7_addFour) (pc := 22) (a := 0) (b := 19) (dk_at bnames00cX7_addFour_0 22) rfl
theorem dX7_addFour_25 : decode cX7_addFour 25 = .ok (.iload_n 1, 1) := dk_27 (c := cX7_addFour) (pc := 25) (dk_at bnames00cX7_addFour_0 25)
theorem dX7_addFour_26 : decode cX7_addFour 26 = .ok (.iload_n 2, 1) := dk_28 (c := cX7_addFour) (pc := 26) (dk_at bnames00cX7_addFour_0 26)
theorem dX7_addFour_27 : decode cX7_addFour 27 = .ok (.ishr, 1) := dk_122 (c := cX7_addFour) (pc := 27) (dk_at bnames00cX7_addFour_0 27)
theorem dX7_addFour_28 : decode cX7_addFour 28 = .ok (.i2b, 1) := dk_145 (c := cX7_addFour) (pc := 28) (dk_at bnames00cX7_addFour_0 28)
theorem dX7_addFour_29 : decode cX7_addFour 29 = .ok (.bastore, 1) := dk_84 (c := cX7_addFour) (pc := 29) (dk_at bnames00cX7_addFour_0 29)
theorem dX7_addFour_30 : decode cX7_addFour 30 = .ok (.aload_n 0, 1) := dk_42 (c := cX7_addFour) (pc := 30) (dk_at bnames00cX7_addFour_0 30)
theorem dX7_addFour_31 : decode cX7_addFour 31 = .ok (.dup, 1) := dk_89 (c := cX7_addFour) (pc := 31) (dk_at bnames00cX7_addFour_0 31)
theorem dX7_addFour_32 : decode cX7_addFour 32 = .ok (.getfield 19, 3) := dk_180 (c := cX7_addFour) (pc := 32) (a := 0) (b := 19) (dk_at bnames00cX7_addFour_0 32) rfl
theorem dX7_addFour_35 : decode cX7_addFour 35 = .ok (.iconst 1, 1) := dk_4 (c := cX7_addFour) (pc := 35) (dk_at bnames00cX7_addFour_0 35)
theorem dX7_addFour_36 : decode cX7_addFour 36 = .ok (.iadd, 1) := dk_96 (c := cX7_addFour) (pc := 36) (dk_at bnames00cX7_addFour_0 36)
theorem dX7_addFour_37 : decode cX7_addFour 37 = .ok (.putfield 19, 3) := dk_181 (c := cX7_addFour) (pc := 37) (a := 0) (b := 19) (dk_at bnames00cX7_addFour_0 37) rfl
theorem dX7_addFour_40 : decode cX7_addFour 40 = .ok (.iinc 2 (-8), 3) := dk_132 (c := cX7_addFour) (pc := 40) (a := 2) (b := 248) (dk_at bnames00cX7_addFour_0 40) rfl (by decide)
theorem dX7_addFour_43 : decode cX7_addFour 43 = .ok (.goto (-40), 3) := dk_167 (c := cX7_addFour) (pc := 43) (a := 255) (b := 216) (dk_at bnames00cX7_addFour_0 43) (by decide)
theorem dX7_addFour_46 : decode cX7_addFour 46 = .ok (.return_, 1) := dk_177 (c := cX7_addFour) (pc := 46) (dk_at bnames00cX7_addFour_0 46)
set_option maxRecDepth 20000 in
theorem ggX7_passSemicolon_X7_refuse : GoodIn wsX7_passSemicolon wsX7_refuse := goodIn_r _ [7, 2, 8, 9, 29, 30, 31, 32, 33, 34, 35, 36] rfl (by decide +kernel)
set_option maxRecDepth 20000 in
theorem gX7_passSemicolon_X7_refuse : GoodIn wsX7_passSemicolon (wsV RX7 75 RX7 yX7_refuse wsX7_refuse) := goodIn_app (goodIn_r _ [3, 4, 5, 6] rfl (by decide +kernel)) ggX7_passSemicolon_X7_refuse
set_option maxRecDepth 20000 in
theorem ggX7_passSemicolon_X7_step : GoodIn wsX7_passSemicolon wsX7_step := goodIn_r _ [13, 14, 15, 16, 8, 17, 1, 18, 19, 20, 21, 22, 23, 24, 6, 25, 26, 27, 28, 29, 30, 31, 32, 33, 34, 35, 36] rfl (by decide +kernel)
set_option maxRecDepth 20000 in
theorem gX7_passSemicolon_X7_step : GoodIn wsX7_passSemicolon (wsV RX7 33 RX7 yX7_step wsX7_step) := goodIn_app (goodIn_r _ [10, 11, 12, 6] rfl (by decide +kernel)) ggX7_passSemicolon_X7_step
theorem bnames00cX7_passSemicolon_0 : ((dk_l cX7_passSemicolon).drop 0).take 25 = [42, 180, 0, 36, 6, 159, 0, 8, 42, 4, 182, 0, 75, 42, 180, 0, 22, 154, 0, 7, 42, 182, 0, 33, 177] := by decide +kernel
theorem dX7_passSemicolon_0 : decode cX7_passSemicolon 0 = .ok (.aload_n 0, 1) := dk_42 (c := cX7_passSemicolon) (pc := 0) (dk_at bnames00cX7_passSemicolon_0 0)
theorem dX7_passSemicolon_1 : decode cX7_passSemicolon 1 = .ok (.getfield 36, 3) := dk_180 (c := cX7_passSemicolon) (pc := 1) (a := 0) (b := 36) (dk_at bnames00cX7_passSemicolon_0 1) rfl
theorem dX7_passSemicolon_4 : decode cX7_passSemicolon 4 = .ok (.iconst 3, 1) := dk_6 (c := cX7_passSemicolon) (pc := 4) (dk_at bnames00cX7_passSemicolon_0 4)
theorem dX7_passSemicolon_5 : decode cX7_passSemicolon 5 = .ok (.if_icmp .eq 8, 3) := dk_159 (c := cX7_passSemicolon) (pc := 5) (a := 0) (b := 8) (dk_at bnames00cX7_passSemicolon_0 5) (by decide)
theorem dX7_passSemicolon_8 : decode cX7_passSemicolon 8 = .ok (.aload_n 0, 1) := dk_42 (c := cX7_passSemicolon) (pc := 8) (dk_at bnames00cX7_passSemicolon_0 8)
theorem dX7_passSemicolon_9 : decode cX7_passSemicolon 9 = .ok (.iconst 1, 1) := dk_4 (c := cX7_passSemicolon) (pc := 9) (dk_at bnames00cX7_passSemicolon_0 9)
theorem dX7_passSemicolon_10 : decode cX7_passSemicolon 10 = .ok (.invokevirtual 75, 3) := dk_182 (c := cX7_passSemicolon) (pc := 10) (a := 0) (b := 75) (dk_at bnames00cX7_passSemicolon_0 10) rfl
theorem dX7_passSemicolon_13 : decode cX7_passSemicolon 13 = .ok (.aload_n 0, 1) := dk_42 (c := cX7_passSemicolon) (pc := 13) (dk_at bnames00cX7_passSemicolon_0 13)
theorem dX7_passSemicolon_14 : decode cX7_passSemicolon 14 = .ok (.getfield 22, 3) := dk_180 (c := cX7_passSemicolon) (pc := 14) (a := 0) (b := 22) (dk_at bnames00cX7_passSemicolon_0 14) rfl
theorem dX7_passSemicolon_17 : decode cX7_passSemicolon 17 = .ok (.ifCond .ne 7, 3) := dk_154 (c := cX7_passSemicolon) (pc := 17) (a := 0) (b := 7) (dk_at bnames00cX7_passSemicolon_0 17) (by decide)
theorem dX7_passSemicolon_20 : decode cX7_passSemicolon 20 = .ok (.aload_n 0, 1) := dk_42 (c := cX7_passSemicolon) (pc := 20) (dk_at bnames00cX7_passSemicolon_0 20)
theorem dX7_passSemicolon_21 : decode cX7_passSemicolon 21 = .ok (.invokevirtual 33, 3) := dk_182 (c := cX7_passSemicolon) (pc := 21) (a := 0) (b := 33) (dk_at bnames00cX7_passSemicolon_0 21) rfl
theorem dX7_passSemicolon_24 : decode cX7_passSemicolon 24 = .ok (.return_, 1) := dk_177 (c := cX7_passSemicolon) (pc := 24) (dk_at bnames00cX7_passSemicolon_0 24)
set_option maxRecDepth 20000 in
theorem ggX7_passNumber_X7_refuse : GoodIn wsX7_passNumber wsX7_refuse := goodIn_r _ [8, 3, 9, 10, 29, 30, 31, 32, 33, 34, 35, 36] rfl (by decide +kernel)
set_option maxRecDepth 20000 in
theorem gX7_passNumber_X7_refuse : GoodIn wsX7_passNumber (wsV RX7 75 RX7 yX7_refuse wsX7_refuse) := goodIn_app (goodIn_r _ [4, 5, 6, 7] rfl (by decide +kernel)) ggX7_passNumber_X7_refuse
set_option maxRecDepth 20000 in
theorem ggX7_passNumber_X7_step : GoodIn wsX7_passNumber wsX7_step := goodIn_r _ [14, 15, 16, 17, 9, 2, 1, 18, 19, 20, 21, 22, 23, 24, 7, 25, 26, 27, 28, 29, 30, 31, 32, 33, 34, 35, 36] rfl (by decide +kernel)
set_option maxRecDepth 20000 in
theorem gX7_passNumber_X7_step : GoodIn wsX7_passNumber (wsV RX7 33 RX7 yX7_step wsX7_step) := goodIn_app (goodIn_r _ [11, 12, 13, 7] rfl (by decide +kernel)) ggX7_passNumber_X7_step
theorem bnames00cX7_passNumber_0 : ((dk_l cX7_passNumber).drop 0).take 52 = [42, 180, 0, 36, 5, 159, 0, 11, 42, 4, 182, 0, 75, 167, 0, 24, 42, 180, 0, 116, 27, 161, 0, 11, 42, 180, 0, 116, 28, 164, 0, 8, 42, 5, 182, 0, 75, 42, 180, 0, 22, 153, 0, 5, 27, 172, 42, 180, 0, 116, 62, 42] := by decide +kernel
theorem dX7_passNumber_0 : decode cX7_passNumber 0 = .ok (.aload_n 0, 1) := dk_42 (c := cX7_passNumber) (pc := 0) (dk_at bnames00cX7_passNumber_0 0)
theorem dX7_passNumber_1 : decode cX7_passNumber 1 = .ok (.getfield 36, 3) := dk_180 (c := cX7_passNumber) (pc := 1) (a := 0) (b := 36) (dk_at bnames00cX7_passNumber_0 1) rfl
theorem dX7_passNumber_4 : decode cX7_passNumber 4 = .ok (.iconst 2, 1) := dk_5 (c := cX7_passNumber) (pc := 4) (dk_at bnames00cX7_passNumber_0 4)
theorem dX7_passNumber_5 : decode cX7_passNumber 5 = .ok (.if_icmp .eq 11, 3) := dk_159 (c := cX7_passNumber) (pc := 5) (a := 0) (b := 11) (dk_at bnames00cX7_passNumber_0 5) (by decide)
theorem dX7_passNumber_8 : decode cX7_passNumber 8 = .ok (.aload_n 0, 1) := dk_42 (c := cX7_passNumber) (pc := 8) (dk_at bnames00cX7_passNumber_0 8)
theorem dX7_passNumber_9 : decode cX7_passNumber 9 = .ok (.iconst 1, 1) := dk_4 (c := cX7_passNumber) (pc := 9) (dk_at bnames00cX7_passNumber_0 9)
theorem dX7_passNumber_10 : decode cX7_passNumber 10 = .ok (.invokevirtual 75, 3) := dk_182 (c := cX7_passNumber) (pc := 10) (a := 0) (b := 75) (dk_at bnames00cX7_passNumber_0 10) rfl
theorem dX7_passNumber_13 : decode cX7_passNumber 13 = .ok (.goto 24, 3) := dk_167 (c := cX7_passNumber) (pc := 13) (a := 0) (b := 24) (dk_at bnames00cX7_passNumber_0 13) (by decide)
theorem dX7_passNumber_16 : decode cX7_passNumber 16 = .ok (.aload_n 0, 1) := dk_42 (c := cX7_passNumber) (pc := 16) (dk_at bnames00cX7_passNumber_0 16)
theorem dX7_passNumber_17 : decode cX7_passNumber 17 = .ok (.getfield 116, 3) := dk_180 (c := cX7_passNumber) (pc := 17) (a := 0) (b := 116) (dk_at bnames00cX7_passNumber_0 17) rfl
theorem dX7_passNumber_20 : decode cX7_passNumber 20 = .ok (.iload_n 1, 1) := dk_27 (c := cX7_passNumber) (pc := 20) (dk_at bnames00cX7_passNumber_0 20)
theorem dX7_passNumber_21 : decode cX7_passNumber 21 = .ok (.if_icmp .lt 11, 3) := dk_161 (c := cX7_passNumber) (pc := 21) (a := 0) (b := 11) (dk_at bnames00cX7_passNumber_0 21) (by decide)
theorem dX7_passNumber_24 : decode cX7_passNumber 24 = .ok (.aload_n 0, 1) := dk_42 (c := cX7_passNumber) (pc := 24) (dk_at bnames00cX7_passNumber_0 24)
theorem dX7_passNumber_25 : decode cX7_passNumber 25 = .ok (.getfield 116, 3) := dk_180 (c := cX7_passNumber) (pc := 25) (a := 0) (b := 116) (dk_at bnames00cX7_passNumber_0 25) rfl
theorem dX7_passNumber_28 : decode cX7_passNumber 28 = .ok (.iload_n 2, 1) := dk_28 (c := cX7_passNumber) (pc := 28) (dk_at bnames00cX7_passNumber_0 28)
theorem dX7_passNumber_29 : decode cX7_passNumber 29 = .ok (.if_icmp .le 8, 3) := dk_164 (c := cX7_passNumber) (pc := 29) (a := 0) (b := 8) (dk_at bnames00cX7_passNumber_0 29) (by decide)
theorem dX7_passNumber_32 : decode cX7_passNumber 32 = .ok (.aload_n 0, 1) := dk_42 (c := cX7_passNumber) (pc := 32) (dk_at bnames00cX7_passNumber_0 32)
theorem dX7_passNumber_33 : decode cX7_passNumber 33 = .ok (.iconst 2, 1) := dk_5 (c := cX7_passNumber) (pc := 33) (dk_at bnames00cX7_passNumber_0 33)
theorem dX7_passNumber_34 : decode cX7_passNumber 34 = .ok (.invokevirtual 75, 3) := dk_182 (c := cX7_passNumber) (pc := 34) (a := 0) (b := 75) (dk_at bnames00cX7_passNumber_0 34) rfl
theorem dX7_passNumber_37 : decode cX7_passNumber 37 = .ok (.aload_n 0, 1) := dk_42 (c := cX7_passNumber) (pc := 37) (dk_at bnames00cX7_passNumber_0 37)
