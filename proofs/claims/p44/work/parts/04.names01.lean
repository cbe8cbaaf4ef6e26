theorem bnames01cX7_passNumber_0 : ((dk_l cX7_passNumber).drop 0).take 52 = [42, 180, 0, 36, 5, 159, 0, 11, 42, 4, 182, 0, 75, 167, 0, 24, 42, 180, 0, 116, 27, 161, 0, 11, 42, 180, 0, 116, 28, 164, 0, 8, 42, 5, 182, 0, 75, 42, 180, 0, 22, 153, 0, 5, 27, 172, 42, 180, 0, 116, 62, 42] := by decide +kernel
theorem dX7_passNumber_38 : decode cX7_passNumber 38 = .ok (.getfield 22, 3) := dk_180 (c := cX7_passNumber) (pc := 38) (a := 0) (b := 22) (dk_at bnames01cX7_passNumber_0 38) rfl
theorem dX7_passNumber_41 : decode cX7_passNumber 41 = .ok (.ifCond .eq 5, 3) := dk_153 (c := cX7_passNumber) (pc := 41) (a := 0) (b := 5) (dk_at bnames01cX7_passNumber_0 41) (by decide)
theorem dX7_passNumber_44 : decode cX7_passNumber 44 = .ok (.iload_n 1, 1) := dk_27 (c := cX7_passNumber) (pc := 44) (dk_at bnames01cX7_passNumber_0 44)
theorem dX7_passNumber_45 : decode cX7_passNumber 45 = .ok (.ireturn, 1) := dk_172 (c := cX7_passNumber) (pc := 45) (dk_at bnames01cX7_passNumber_0 45)
theorem dX7_passNumber_46 : decode cX7_passNumber 46 = .ok (.aload_n 0, 1) := dk_42 (c := cX7_passNumber) (pc := 46) (dk_at bnames01cX7_passNumber_0 46)
theorem dX7_passNumber_47 : decode cX7_passNumber 47 = .ok (.getfield 116, 3) := dk_180 (c := cX7_passNumber) (pc := 47) (a := 0) (b := 116) (dk_at bnames01cX7_passNumber_0 47) rfl
theorem bnames01cX7_passNumber_48 : ((dk_l cX7_passNumber).drop 48).take 9 = [0, 116, 62, 42, 182, 0, 33, 29, 172] := by decide +kernel
theorem dX7_passNumber_50 : decode cX7_passNumber 50 = .ok (.istore_n 3, 1) := dk_62 (c := cX7_passNumber) (pc := 50) (dk_at bnames01cX7_passNumber_48 2)
theorem dX7_passNumber_51 : decode cX7_passNumber 51 = .ok (.aload_n 0, 1) := dk_42 (c := cX7_passNumber) (pc := 51) (dk_at bnames01cX7_passNumber_48 3)
theorem dX7_passNumber_52 : decode cX7_passNumber 52 = .ok (.invokevirtual 33, 3) := dk_182 (c := cX7_passNumber) (pc := 52) (a := 0) (b := 33) (dk_at bnames01cX7_passNumber_48 4) rfl
theorem dX7_passNumber_55 : decode cX7_passNumber 55 = .ok (.iload_n 3, 1) := dk_29 (c := cX7_passNumber) (pc := 55) (dk_at bnames01cX7_passNumber_48 7)
theorem dX7_passNumber_56 : decode cX7_passNumber 56 = .ok (.ireturn, 1) := dk_172 (c := cX7_passNumber) (pc := 56) (dk_at bnames01cX7_passNumber_48 8)
theorem bnames01cX7_refuse_0 : ((dk_l cX7_refuse).drop 0).take 21 = [42, 180, 0, 22, 154, 0, 16, 42, 27, 181, 0, 22, 42, 42, 180, 0, 170, 181, 0, 15, 177] := by decide +kernel
theorem dX7_refuse_0 : decode cX7_refuse 0 = .ok (.aload_n 0, 1) := dk_42 (c := cX7_refuse) (pc := 0) (dk_at bnames01cX7_refuse_0 0)
theorem dX7_refuse_1 : decode cX7_refuse 1 = .ok (.getfield 22, 3) := dk_180 (c := cX7_refuse) (pc := 1) (a := 0) (b := 22) (dk_at bnames01cX7_refuse_0 1) rfl
theorem dX7_refuse_4 : decode cX7_refuse 4 = .ok (.ifCond .ne 16, 3) := dk_154 (c := cX7_refuse) (pc := 4) (a := 0) (b := 16) (dk_at bnames01cX7_refuse_0 4) (by decide)
theorem dX7_refuse_7 : decode cX7_refuse 7 = .ok (.aload_n 0, 1) := dk_42 (c := cX7_refuse) (pc := 7) (dk_at bnames01cX7_refuse_0 7)
theorem dX7_refuse_8 : decode cX7_refuse 8 = .ok (.iload_n 1, 1) := dk_27 (c := cX7_refuse) (pc := 8) (dk_at bnames01cX7_refuse_0 8)
theorem dX7_refuse_9 : decode cX7_refuse 9 = .ok (.putfield 22, 3) := dk_181 (c := cX7_refuse) (pc := 9) (a := 0) (b := 22) (dk_at bnames01cX7_refuse_0 9) rfl
theorem dX7_refuse_12 : decode cX7_refuse 12 = .ok (.aload_n 0, 1) := dk_42 (c := cX7_refuse) (pc := 12) (dk_at bnames01cX7_refuse_0 12)
theorem dX7_refuse_13 : decode cX7_refuse 13 = .ok (.aload_n 0, 1) := dk_42 (c := cX7_refuse) (pc := 13) (dk_at bnames01cX7_refuse_0 13)
theorem dX7_refuse_14 : decode cX7_refuse 14 = .ok (.getfield 170, 3) := dk_180 (c := cX7_refuse) (pc := 14) (a := 0) (b := 170) (dk_at bnames01cX7_refuse_0 14) rfl
theorem dX7_refuse_17 : decode cX7_refuse 17 = .ok (.putfield 15, 3) := dk_181 (c := cX7_refuse) (pc := 17) (a := 0) (b := 15) (dk_at bnames01cX7_refuse_0 17) rfl
theorem dX7_refuse_20 : decode cX7_refuse 20 = .ok (.return_, 1) := dk_177 (c := cX7_refuse) (pc := 20) (dk_at bnames01cX7_refuse_0 20)
set_option maxRecDepth 20000 in
theorem ggX7_step_X7_isLetter : GoodIn wsX7_step wsX7_isLetter := goodIn_r _ [15] rfl (by decide +kernel)
set_option maxRecDepth 20000 in
theorem gX7_step_X7_isLetter : GoodIn wsX7_step (va_wsS RX7 181 yX7_isLetter wsX7_isLetter) := goodIn_app (goodIn_r _ [12, 13, 14] rfl (by decide +kernel)) ggX7_step_X7_isLetter
set_option maxRecDepth 20000 in
theorem ggX7_step_X7_isDigit : GoodIn wsX7_step wsX7_isDigit := goodIn_r _ [18] rfl (by decide +kernel)
set_option maxRecDepth 20000 in
theorem gX7_step_X7_isDigit : GoodIn wsX7_step (va_wsS RX7 185 yX7_isDigit wsX7_isDigit) := goodIn_app (goodIn_r _ [16, 17, 14] rfl (by decide +kernel)) ggX7_step_X7_isDigit
theorem bnames01cX7_step_0 : ((dk_l cX7_step).drop 0).take 52 = [42, 180, 0, 25, 42, 180, 0, 19, 162, 0, 44, 42, 180, 0, 9, 42, 180, 0, 25, 51, 16, 32, 159, 0, 17, 42, 180, 0, 9, 42, 180, 0, 25, 51, 16, 10, 160, 0, 16, 42, 89, 180, 0, 25, 4, 96, 181, 0, 25, 167, 255, 207] := by decide +kernel
theorem dX7_step_0 : decode cX7_step 0 = .ok (.aload_n 0, 1) := dk_42 (c := cX7_step) (pc := 0) (dk_at bnames01cX7_step_0 0)
theorem dX7_step_1 : decode cX7_step 1 = .ok (.getfield 25, 3) := dk_180 (c := cX7_step) (pc := 1) (a := 0) (b := 25) (dk_at bnames01cX7_step_0 1) rfl
theorem dX7_step_4 : decode cX7_step 4 = .ok (.aload_n 0, 1) := dk_42 (c := cX7_step) (pc := 4) (dk_at bnames01cX7_step_0 4)
theorem dX7_step_5 : decode cX7_step 5 = .ok (.getfield 19, 3) := dk_180 (c := cX7_step) (pc := 5) (a := 0) (b := 19) (dk_at bnames01cX7_step_0 5) rfl
theorem dX7_step_8 : decode cX7_step 8 = .ok (.if_icmp .ge 44, 3) := dk_162 (c := cX7_step) (pc := 8) (a := 0) (b := 44) (dk_at bnames01cX7_step_0 8) (by decide)
theorem dX7_step_11 : decode cX7_step 11 = .ok (.aload_n 0, 1) := dk_42 (c := cX7_step) (pc := 11) (dk_at bnames01cX7_step_0 11)
theorem dX7_step_12 : decode cX7_step 12 = .ok (.getfield 9, 3) := dk_180 (c := cX7_step) (pc := 12) (a := 0) (b := 9) (dk_at bnames01cX7_step_0 12) rfl
theorem dX7_step_15 : decode cX7_step 15 = .ok (.aload_n 0, 1) := dk_42 (c := cX7_step) (pc := 15) (dk_at bnames01cX7_step_0 15)
theorem dX7_step_16 : decode cX7_step 16 = .ok (.getfield 25, 3) := dk_180 (c := cX7_step) (pc := 16) (a := 0) (b := 25) (dk_at bnames01cX7_step_0 16) rfl
theorem dX7_step_19 : decode cX7_step 19 = .ok (.baload, 1) := dk_51 (c := cX7_step) (pc := 19) (dk_at bnames01cX7_step_0 19)
theorem dX7_step_20 : decode cX7_step 20 = .ok (.bipush 32, 2) := dk_16 (c := cX7_step) (pc := 20) (a := 32) (dk_at bnames01cX7_step_0 20) (by decide)
theorem dX7_step_22 : decode cX7_step 22 = .ok (.if_icmp .eq 17, 3) := dk_159 (c := cX7_step) (pc := 22) (a := 0) (b := 17) (dk_at bnames01cX7_step_0 22) (by decide)
theorem dX7_step_25 : decode cX7_step 25 = .ok (.aload_n 0, 1) := dk_42 (c := cX7_step) (pc := 25) (dk_at bnames01cX7_step_0 25)
theorem dX7_step_26 : decode cX7_step 26 = .ok (.getfield 9, 3) := dk_180 (c := cX7_step) (pc := 26) (a := 0) (b := 9) (dk_at bnames01cX7_step_0 26) rfl
theorem dX7_step_29 : decode cX7_step 29 = .ok (.aload_n 0, 1) := dk_42 (c := cX7_step) (pc := 29) (dk_at bnames01cX7_step_0 29)
theorem dX7_step_30 : decode cX7_step 30 = .ok (.getfield 25, 3) := dk_180 (c := cX7_step) (pc := 30) (a := 0) (b := 25) (dk_at bnames01cX7_step_0 30) rfl
theorem dX7_step_33 : decode cX7_step 33 = .ok (.baload, 1) := dk_51 (c := cX7_step) (pc := 33) (dk_at bnames01cX7_step_0 33)
theorem dX7_step_34 : decode cX7_step 34 = .ok (.bipush 10, 2) := dk_16 (c := cX7_step) (pc := 34) (a := 10) (dk_at bnames01cX7_step_0 34) (by decide)
theorem dX7_step_36 : decode cX7_step 36 = .ok (.if_icmp .ne 16, 3) := dk_160 (c := cX7_step) (pc := 36) (a := 0) (b := 16) (dk_at bnames01cX7_step_0 36) (by decide)
theorem dX7_step_39 : decode cX7_step 39 = .ok (.aload_n 0, 1) := dk_42 (c := cX7_step) (pc := 39) (dk_at bnames01cX7_step_0 39)
theorem dX7_step_40 : decode cX7_step 40 = .ok (.dup, 1) := dk_89 (c := cX7_step) (pc := 40) (dk_at bnames01cX7_step_0 40)
theorem dX7_step_41 : decode cX7_step 41 = .ok (.getfield 25, 3) := dk_180 (c := cX7_step) (pc := 41) (a := 0) (b := 25) (dk_at bnames01cX7_step_0 41) rfl
theorem dX7_step_44 : decode cX7_step 44 = .ok (.iconst 1, 1) := dk_4 (c := cX7_step) (pc := 44) (dk_at bnames01cX7_step_0 44)
theorem dX7_step_45 : decode cX7_step 45 = .ok (.iadd, 1) := dk_96 (c := cX7_step) (pc := 45) (dk_at bnames01cX7_step_0 45)
theorem dX7_step_46 : decode cX7_step 46 = .ok (.putfield 25, 3) := dk_181 (c := cX7_step) (pc := 46) (a := 0) (b := 25) (dk_at bnames01cX7_step_0 46) rfl
theorem bnames01cX7_step_48 : ((dk_l cX7_step).drop 48).take 52 = [25, 167, 255, 207, 42, 42, 180, 0, 25, 181, 0, 170, 42, 3, 181, 0, 116, 42, 180, 0, 25, 42, 180, 0, 19, 161, 0, 11, 42, 3, 181, 0, 36, 167, 0, 183, 42, 180, 0, 9, 42, 180, 0, 25, 51, 184, 0, 181, 153, 0, 47, 42] := by decide +kernel
theorem dX7_step_49 : decode cX7_step 49 = .ok (.goto (-49), 3) := dk_167 (c := cX7_step) (pc := 49) (a := 255) (b := 207) (dk_at bnames01cX7_step_48 1) (by decide)
theorem dX7_step_52 : decode cX7_step 52 = .ok (.aload_n 0, 1) := dk_42 (c := cX7_step) (pc := 52) (dk_at bnames01cX7_step_48 4)
theorem dX7_step_53 : decode cX7_step 53 = .ok (.aload_n 0, 1) := dk_42 (c := cX7_step) (pc := 53) (dk_at bnames01cX7_step_48 5)
theorem dX7_step_54 : decode cX7_step 54 = .ok (.getfield 25, 3) := dk_180 (c := cX7_step) (pc := 54) (a := 0) (b := 25) (dk_at bnames01cX7_step_48 6) rfl
theorem dX7_step_57 : decode cX7_step 57 = .ok (.putfield 170, 3) := dk_181 (c := cX7_step) (pc := 57) (a := 0) (b := 170) (dk_at bnames01cX7_step_48 9) rfl
theorem dX7_step_60 : decode cX7_step 60 = .ok (.aload_n 0, 1) := dk_42 (c := cX7_step) (pc := 60) (dk_at bnames01cX7_step_48 12)
theorem dX7_step_61 : decode cX7_step 61 = .ok (.iconst 0, 1) := dk_3 (c := cX7_step) (pc := 61) (dk_at bnames01cX7_step_48 13)
theorem dX7_step_62 : decode cX7_step 62 = .ok (.putfield 116, 3) := dk_181 (c := cX7_step) (pc := 62) (a := 0) (b := 116) (dk_at bnames01cX7_step_48 14) rfl
theorem dX7_step_65 : decode cX7_step 65 = .ok (.aload_n 0, 1) := dk_42 (c := cX7_step) (pc := 65) (dk_at bnames01cX7_step_48 17)
theorem dX7_step_66 : decode cX7_step 66 = .ok (.getfield 25, 3) := dk_180 (c := cX7_step) (pc := 66) (a := 0) (b := 25) (dk_at bnames01cX7_step_48 18) rfl
theorem dX7_step_69 : decode cX7_step 69 = .ok (.aload_n 0, 1) := dk_42 (c := cX7_step) (pc := 69) (dk_at bnames01cX7_step_48 21)
theorem dX7_step_70 : decode cX7_step 70 = .ok (.getfield 19, 3) := dk_180 (c := cX7_step) (pc := 70) (a := 0) (b := 19) (dk_at bnames01cX7_step_48 22) rfl
theorem dX7_step_73 : decode cX7_step 73 = .ok (.if_icmp .lt 11, 3) := dk_161 (c := cX7_step) (pc := 73) (a := 0) (b := 11) (dk_at bnames01cX7_step_48 25) (by decide)
theorem dX7_step_76 : decode cX7_step 76 = .ok (.aload_n 0, 1) := dk_42 (c := cX7_step) (pc := 76) (dk_at bnames01cX7_step_48 28)
theorem dX7_step_77 : decode cX7_step 77 = .ok (.iconst 0, 1) := dk_3 (c := cX7_step) (pc := 77) (dk_at bnames01cX7_step_48 29)
theorem dX7_step_78 : decode cX7_step 78 = .ok (.putfield 36, 3) := dk_181 (c := cX7_step) (pc := 78) (a := 0) (b := 36) (dk_at bnames01cX7_step_48 30) rfl
theorem dX7_step_81 : decode cX7_step 81 = .ok (.goto 183, 3) := dk_167 (c := cX7_step) (pc := 81) (a := 0) (b := 183) (dk_at bnames01cX7_step_48 33) (by decide)
theorem dX7_step_84 : decode cX7_step 84 = .ok (.aload_n 0, 1) := dk_42 (c := cX7_step) (pc := 84) (dk_at bnames01cX7_step_48 36)
theorem dX7_step_85 : decode cX7_step 85 = .ok (.getfield 9, 3) := dk_180 (c := cX7_step) (pc := 85) (a := 0) (b := 9) (dk_at bnames01cX7_step_48 37) rfl
theorem dX7_step_88 : decode cX7_step 88 = .ok (.aload_n 0, 1) := dk_42 (c := cX7_step) (pc := 88) (dk_at bnames01cX7_step_48 40)
theorem dX7_step_89 : decode cX7_step 89 = .ok (.getfield 25, 3) := dk_180 (c := cX7_step) (pc := 89) (a := 0) (b := 25) (dk_at bnames01cX7_step_48 41) rfl
theorem dX7_step_92 : decode cX7_step 92 = .ok (.baload, 1) := dk_51 (c := cX7_step) (pc := 92) (dk_at bnames01cX7_step_48 44)
theorem dX7_step_93 : decode cX7_step 93 = .ok (.invokestatic 181, 3) := dk_184 (c := cX7_step) (pc := 93) (a := 0) (b := 181) (dk_at bnames01cX7_step_48 45) rfl
theorem bnames01cX7_step_96 : ((dk_l cX7_step).drop 96).take 52 = [153, 0, 47, 42, 4, 181, 0, 36, 42, 180, 0, 25, 42, 180, 0, 19, 162, 0, 152, 42, 180, 0, 9, 42, 180, 0, 25, 51, 184, 0, 181, 153, 0, 137, 42, 89, 180, 0, 25, 4, 96, 181, 0, 25, 167, 255, 220, 42, 180, 0, 9, 42] := by decide +kernel
theorem dX7_step_96 : decode cX7_step 96 = .ok (.ifCond .eq 47, 3) := dk_153 (c := cX7_step) (pc := 96) (a := 0) (b := 47) (dk_at bnames01cX7_step_96 0) (by decide)
theorem dX7_step_99 : decode cX7_step 99 = .ok (.aload_n 0, 1) := dk_42 (c := cX7_step) (pc := 99) (dk_at bnames01cX7_step_96 3)
theorem dX7_step_100 : decode cX7_step 100 = .ok (.iconst 1, 1) := dk_4 (c := cX7_step) (pc := 100) (dk_at bnames01cX7_step_96 4)
theorem dX7_step_101 : decode cX7_step 101 = .ok (.putfield 36, 3) := dk_181 (c := cX7_step) (pc := 101) (a := 0) (b := 36) (dk_at bnames01cX7_step_96 5) rfl
theorem dX7_step_104 : decode cX7_step 104 = .ok (.aload_n 0, 1) := dk_42 (c := cX7_step) (pc := 104) (dk_at bnames01cX7_step_96 8)
theorem dX7_step_105 : decode cX7_step 105 = .ok (.getfield 25, 3) := dk_180 (c := cX7_step) (pc := 105) (a := 0) (b := 25) (dk_at bnames01cX7_step_96 9) rfl
theorem dX7_step_108 : decode cX7_step 108 = .ok (.aload_n 0, 1) := dk_42 (c := cX7_step) (pc := 108) (dk_at bnames01cX7_step_96 12)
theorem dX7_step_109 : decode cX7_step 109 = .ok (.getfield 19, 3) := dk_180 (c := cX7_step) (pc := 109) (a := 0) (b := 19) (dk_at bnames01cX7_step_96 13) rfl
theorem dX7_step_112 : decode cX7_step 112 = .ok (.if_icmp .ge 152, 3) := dk_162 (c := cX7_step) (pc := 112) (a := 0) (b := 152) (dk_at bnames01cX7_step_96 16) (by decide)
theorem dX7_step_115 : decode cX7_step 115 = .ok (.aload_n 0, 1) := dk_42 (c := cX7_step) (pc := 115) (dk_at bnames01cX7_step_96 19)
theorem dX7_step_116 : decode cX7_step 116 = .ok (.getfield 9, 3) := dk_180 (c := cX7_step) (pc := 116) (a := 0) (b := 9) (dk_at bnames01cX7_step_96 20) rfl
theorem dX7_step_119 : decode cX7_step 119 = .ok (.aload_n 0, 1) := dk_42 (c := cX7_step) (pc := 119) (dk_at bnames01cX7_step_96 23)
theorem dX7_step_120 : decode cX7_step 120 = .ok (.getfield 25, 3) := dk_180 (c := cX7_step) (pc := 120) (a := 0) (b := 25) (dk_at bnames01cX7_step_96 24) rfl
theorem dX7_step_123 : decode cX7_step 123 = .ok (.baload, 1) := dk_51 (c := cX7_step) (pc := 123) (dk_at bnames01cX7_step_96 27)
theorem dX7_step_124 : decode cX7_step 124 = .ok (.invokestatic 181, 3) := dk_184 (c := cX7_step) (pc := 124) (a := 0) (b := 181) (dk_at bnames01cX7_step_96 28) rfl
theorem dX7_step_127 : decode cX7_step 127 = .ok (.ifCond .eq 137, 3) := dk_153 (c := cX7_step) (pc := 127) (a := 0) (b := 137) (dk_at bnames01cX7_step_96 31) (by decide)
theorem dX7_step_130 : decode cX7_step 130 = .ok (.aload_n 0, 1) := dk_42 (c := cX7_step) (pc := 130) (dk_at bnames01cX7_step_96 34)
theorem dX7_step_131 : decode cX7_step 131 = .ok (.dup, 1) := dk_89 (c := cX7_step) (pc := 131) (dk_at bnames01cX7_step_96 35)
theorem dX7_step_132 : decode cX7_step 132 = .ok (.getfield 25, 3) := dk_180 (c := cX7_step) (pc := 132) (a := 0) (b := 25) (dk_at bnames01cX7_step_96 36) rfl
theorem dX7_step_135 : decode cX7_step 135 = .ok (.iconst 1, 1) := dk_4 (c := cX7_step) (pc := 135) (dk_at bnames01cX7_step_96 39)
theorem dX7_step_136 : decode cX7_step 136 = .ok (.iadd, 1) := dk_96 (c := cX7_step) (pc := 136) (dk_at bnames01cX7_step_96 40)
theorem dX7_step_137 : decode cX7_step 137 = .ok (.putfield 25, 3) := dk_181 (c := cX7_step) (pc := 137) (a := 0) (b := 25) (dk_at bnames01cX7_step_96 41) rfl
theorem dX7_step_140 : decode cX7_step 140 = .ok (.goto (-36), 3) := dk_167 (c := cX7_step) (pc := 140) (a := 255) (b := 220) (dk_at bnames01cX7_step_96 44) (by decide)
theorem dX7_step_143 : decode cX7_step 143 = .ok (.aload_n 0, 1) := dk_42 (c := cX7_step) (pc := 143) (dk_at bnames01cX7_step_96 47)
theorem bnames01cX7_step_144 : ((dk_l cX7_step).drop 144).take 52 = [180, 0, 9, 42, 180, 0, 25, 51, 184, 0, 185, 153, 0, 76, 42, 5, 181, 0, 36, 42, 180, 0, 25, 42, 180, 0, 19, 162, 0, 93, 42, 180, 0, 9, 42, 180, 0, 25, 51, 184, 0, 185, 153, 0, 78, 42, 18, 188, 16, 10, 42, 180] := by decide +kernel
theorem dX7_step_144 : decode cX7_step 144 = .ok (.getfield 9, 3) := dk_180 (c := cX7_step) (pc := 144) (a := 0) (b := 9) (dk_at bnames01cX7_step_144 0) rfl
theorem dX7_step_147 : decode cX7_step 147 = .ok (.aload_n 0, 1) := dk_42 (c := cX7_step) (pc := 147) (dk_at bnames01cX7_step_144 3)
theorem dX7_step_148 : decode cX7_step 148 = .ok (.getfield 25, 3) := dk_180 (c := cX7_step) (pc := 148) (a := 0) (b := 25) (dk_at bnames01cX7_step_144 4) rfl
theorem dX7_step_151 : decode cX7_step 151 = .ok (.baload, 1) := dk_51 (c := cX7_step) (pc := 151) (dk_at bnames01cX7_step_144 7)
theorem dX7_step_152 : decode cX7_step 152 = .ok (.invokestatic 185, 3) := dk_184 (c := cX7_step) (pc := 152) (a := 0) (b := 185) (dk_at bnames01cX7_step_144 8) rfl
theorem dX7_step_155 : decode cX7_step 155 = .ok (.ifCond .eq 76, 3) := dk_153 (c := cX7_step) (pc := 155) (a := 0) (b := 76) (dk_at bnames01cX7_step_144 11) (by decide)
theorem dX7_step_158 : decode cX7_step 158 = .ok (.aload_n 0, 1) := dk_42 (c := cX7_step) (pc := 158) (dk_at bnames01cX7_step_144 14)
theorem dX7_step_159 : decode cX7_step 159 = .ok (.iconst 2, 1) := dk_5 (c := cX7_step) (pc := 159) (dk_at bnames01cX7_step_144 15)
theorem dX7_step_160 : decode cX7_step 160 = .ok (.putfield 36, 3) := dk_181 (c := cX7_step) (pc := 160) (a := 0) (b := 36) (dk_at bnames01cX7_step_144 16) rfl
theorem dX7_step_163 : decode cX7_step 163 = .ok (.aload_n 0, 1) := dk_42 (c := cX7_step) (pc := 163) (dk_at bnames01cX7_step_144 19)
theorem dX7_step_164 : decode cX7_step 164 = .ok (.getfield 25, 3) := dk_180 (c := cX7_step) (pc := 164) (a := 0) (b := 25) (dk_at bnames01cX7_step_144 20) rfl
theorem dX7_step_167 : decode cX7_step 167 = .ok (.aload_n 0, 1) := dk_42 (c := cX7_step) (pc := 167) (dk_at bnames01cX7_step_144 23)
theorem dX7_step_168 : decode cX7_step 168 = .ok (.getfield 19, 3) := dk_180 (c := cX7_step) (pc := 168) (a := 0) (b := 19) (dk_at bnames01cX7_step_144 24) rfl
theorem dX7_step_171 : decode cX7_step 171 = .ok (.if_icmp .ge 93, 3) := dk_162 (c := cX7_step) (pc := 171) (a := 0) (b := 93) (dk_at bnames01cX7_step_144 27) (by decide)
theorem dX7_step_174 : decode cX7_step 174 = .ok (.aload_n 0, 1) := dk_42 (c := cX7_step) (pc := 174) (dk_at bnames01cX7_step_144 30)
theorem dX7_step_175 : decode cX7_step 175 = .ok (.getfield 9, 3) := dk_180 (c := cX7_step) (pc := 175) (a := 0) (b := 9) (dk_at bnames01cX7_step_144 31) rfl
theorem dX7_step_178 : decode cX7_step 178 = .ok (.aload_n 0, 1) := dk_42 (c := cX7_step) (pc := 178) (dk_at bnames01cX7_step_144 34)
theorem dX7_step_179 : decode cX7_step 179 = .ok (.getfield 25, 3) := dk_180 (c := cX7_step) (pc := 179) (a := 0) (b := 25) (dk_at bnames01cX7_step_144 35) rfl
theorem dX7_step_182 : decode cX7_step 182 = .ok (.baload, 1) := dk_51 (c := cX7_step) (pc := 182) (dk_at bnames01cX7_step_144 38)
theorem dX7_step_183 : decode cX7_step 183 = .ok (.invokestatic 185, 3) := dk_184 (c := cX7_step) (pc := 183) (a := 0) (b := 185) (dk_at bnames01cX7_step_144 39) rfl
theorem dX7_step_186 : decode cX7_step 186 = .ok (.ifCond .eq 78, 3) := dk_153 (c := cX7_step) (pc := 186) (a := 0) (b := 78) (dk_at bnames01cX7_step_144 42) (by decide)
theorem dX7_step_189 : decode cX7_step 189 = .ok (.aload_n 0, 1) := dk_42 (c := cX7_step) (pc := 189) (dk_at bnames01cX7_step_144 45)
theorem dX7_step_190 : decode cX7_step 190 = .ok (.ldc 188, 2) := dk_18 (c := cX7_step) (pc := 190) (a := 188) (dk_at bnames01cX7_step_144 46) rfl
theorem bnames01cX7_step_192 : ((dk_l cX7_step).drop 192).take 52 = [16, 10, 42, 180, 0, 116, 104, 42, 180, 0, 9, 42, 180, 0, 25, 51, 96, 16, 48, 100, 184, 0, 189, 181, 0, 116, 42, 89, 180, 0, 25, 4, 96, 181, 0, 25, 167, 255, 191, 42, 42, 180, 0, 9, 42, 180, 0, 25, 51, 16, 59, 160] := by decide +kernel
theorem dX7_step_192 : decode cX7_step 192 = .ok (.bipush 10, 2) := dk_16 (c := cX7_step) (pc := 192) (a := 10) (dk_at bnames01cX7_step_192 0) (by decide)
theorem dX7_step_194 : decode cX7_step 194 = .ok (.aload_n 0, 1) := dk_42 (c := cX7_step) (pc := 194) (dk_at bnames01cX7_step_192 2)
theorem dX7_step_195 : decode cX7_step 195 = .ok (.getfield 116, 3) := dk_180 (c := cX7_step) (pc := 195) (a := 0) (b := 116) (dk_at bnames01cX7_step_192 3) rfl
theorem dX7_step_198 : decode cX7_step 198 = .ok (.imul, 1) := dk_104 (c := cX7_step) (pc := 198) (dk_at bnames01cX7_step_192 6)
theorem dX7_step_199 : decode cX7_step 199 = .ok (.aload_n 0, 1) := dk_42 (c := cX7_step) (pc := 199) (dk_at bnames01cX7_step_192 7)
theorem dX7_step_200 : decode cX7_step 200 = .ok (.getfield 9, 3) := dk_180 (c := cX7_step) (pc := 200) (a := 0) (b := 9) (dk_at bnames01cX7_step_192 8) rfl
theorem dX7_step_203 : decode cX7_step 203 = .ok (.aload_n 0, 1) := dk_42 (c := cX7_step) (pc := 203) (dk_at bnames01cX7_step_192 11)
theorem dX7_step_204 : decode cX7_step 204 = .ok (.getfield 25, 3) := dk_180 (c := cX7_step) (pc := 204) (a := 0) (b := 25) (dk_at bnames01cX7_step_192 12) rfl
theorem dX7_step_207 : decode cX7_step 207 = .ok (.baload, 1) := dk_51 (c := cX7_step) (pc := 207) (dk_at bnames01cX7_step_192 15)
theorem dX7_step_208 : decode cX7_step 208 = .ok (.iadd, 1) := dk_96 (c := cX7_step) (pc := 208) (dk_at bnames01cX7_step_192 16)
theorem dX7_step_209 : decode cX7_step 209 = .ok (.bipush 48, 2) := dk_16 (c := cX7_step) (pc := 209) (a := 48) (dk_at bnames01cX7_step_192 17) (by decide)
theorem dX7_step_211 : decode cX7_step 211 = .ok (.isub, 1) := dk_100 (c := cX7_step) (pc := 211) (dk_at bnames01cX7_step_192 19)
theorem dX7_step_212 : decode cX7_step 212 = .ok (.invokestatic 189, 3) := dk_184 (c := cX7_step) (pc := 212) (a := 0) (b := 189) (dk_at bnames01cX7_step_192 20) rfl
theorem dX7_step_215 : decode cX7_step 215 = .ok (.putfield 116, 3) := dk_181 (c := cX7_step) (pc := 215) (a := 0) (b := 116) (dk_at bnames01cX7_step_192 23) rfl
theorem dX7_step_218 : decode cX7_step 218 = .ok (.aload_n 0, 1) := dk_42 (c := cX7_step) (pc := 218) (dk_at bnames01cX7_step_192 26)
theorem dX7_step_219 : decode cX7_step 219 = .ok (.dup, 1) := dk_89 (c := cX7_step) (pc := 219) (dk_at bnames01cX7_step_192 27)
theorem dX7_step_220 : decode cX7_step 220 = .ok (.getfield 25, 3) := dk_180 (c := cX7_step) (pc := 220) (a := 0) (b := 25) (dk_at bnames01cX7_step_192 28) rfl
theorem dX7_step_223 : decode cX7_step 223 = .ok (.iconst 1, 1) := dk_4 (c := cX7_step) (pc := 223) (dk_at bnames01cX7_step_192 31)
theorem dX7_step_224 : decode cX7_step 224 = .ok (.iadd, 1) := dk_96 (c := cX7_step) (pc := 224) (dk_at bnames01cX7_step_192 32)
theorem dX7_step_225 : decode cX7_step 225 = .ok (.putfield 25, 3) := dk_181 (c := cX7_step) (pc := 225) (a := 0) (b := 25) (dk_at bnames01cX7_step_192 33) rfl
theorem dX7_step_228 : decode cX7_step 228 = .ok (.goto (-65), 3) := dk_167 (c := cX7_step) (pc := 228) (a := 255) (b := 191) (dk_at bnames01cX7_step_192 36) (by decide)
theorem dX7_step_231 : decode cX7_step 231 = .ok (.aload_n 0, 1) := dk_42 (c := cX7_step) (pc := 231) (dk_at bnames01cX7_step_192 39)
theorem dX7_step_232 : decode cX7_step 232 = .ok (.aload_n 0, 1) := dk_42 (c := cX7_step) (pc := 232) (dk_at bnames01cX7_step_192 40)
theorem dX7_step_233 : decode cX7_step 233 = .ok (.getfield 9, 3) := dk_180 (c := cX7_step) (pc := 233) (a := 0) (b := 9) (dk_at bnames01cX7_step_192 41) rfl
theorem dX7_step_236 : decode cX7_step 236 = .ok (.aload_n 0, 1) := dk_42 (c := cX7_step) (pc := 236) (dk_at bnames01cX7_step_192 44)
theorem dX7_step_237 : decode cX7_step 237 = .ok (.getfield 25, 3) := dk_180 (c := cX7_step) (pc := 237) (a := 0) (b := 25) (dk_at bnames01cX7_step_192 45) rfl
theorem bnames01cX7_step_240 : ((dk_l cX7_step).drop 240).take 25 = [51, 16, 59, 160, 0, 7, 6, 167, 0, 4, 7, 181, 0, 36, 42, 89, 180, 0, 25, 4, 96, 181, 0, 25, 177] := by decide +kernel
theorem dX7_step_240 : decode cX7_step 240 = .ok (.baload, 1) := dk_51 (c := cX7_step) (pc := 240) (dk_at bnames01cX7_step_240 0)
theorem dX7_step_241 : decode cX7_step 241 = .ok (.bipush 59, 2) := dk_16 (c := cX7_step) (pc := 241) (a := 59) (dk_at bnames01cX7_step_240 1) (by decide)
theorem dX7_step_243 : decode cX7_step 243 = .ok (.if_icmp .ne 7, 3) := dk_160 (c := cX7_step) (pc := 243) (a := 0) (b := 7) (dk_at bnames01cX7_step_240 3) (by decide)
theorem dX7_step_246 : decode cX7_step 246 = .ok (.iconst 3, 1) := dk_6 (c := cX7_step) (pc := 246) (dk_at bnames01cX7_step_240 6)
theorem dX7_step_247 : decode cX7_step 247 = .ok (.goto 4, 3) := dk_167 (c := cX7_step) (pc := 247) (a := 0) (b := 4) (dk_at bnames01cX7_step_240 7) (by decide)
theorem dX7_step_250 : decode cX7_step 250 = .ok (.iconst 4, 1) := dk_7 (c := cX7_step) (pc := 250) (dk_at bnames01cX7_step_240 10)
theorem dX7_step_251 : decode cX7_step 251 = .ok (.putfield 36, 3) := dk_181 (c := cX7_step) (pc := 251) (a := 0) (b := 36) (dk_at bnames01cX7_step_240 11) rfl
theorem dX7_step_254 : decode cX7_step 254 = .ok (.aload_n 0, 1) := dk_42 (c := cX7_step) (pc := 254) (dk_at bnames01cX7_step_240 14)
theorem dX7_step_255 : decode cX7_step 255 = .ok (.dup, 1) := dk_89 (c := cX7_step) (pc := 255) (dk_at bnames01cX7_step_240 15)
theorem dX7_step_256 : decode cX7_step 256 = .ok (.getfield 25, 3) := dk_180 (c := cX7_step) (pc := 256) (a := 0) (b := 25) (dk_at bnames01cX7_step_240 16) rfl
theorem dX7_step_259 : decode cX7_step 259 = .ok (.iconst 1, 1) := dk_4 (c := cX7_step) (pc := 259) (dk_at bnames01cX7_step_240 19)
theorem dX7_step_260 : decode cX7_step 260 = .ok (.iadd, 1) := dk_96 (c := cX7_step) (pc := 260) (dk_at bnames01cX7_step_240 20)
theorem dX7_step_261 : decode cX7_step 261 = .ok (.putfield 25, 3) := dk_181 (c := cX7_step) (pc := 261) (a := 0) (b := 25) (dk_at bnames01cX7_step_240 21) rfl
theorem dX7_step_264 : decode cX7_step 264 = .ok (.return_, 1) := dk_177 (c := cX7_step) (pc := 264) (dk_at bnames01cX7_step_240 24)
theorem bnames01cX7_isLetter_0 : ((dk_l cX7_isLetter).drop 0).take 18 = [26, 16, 97, 161, 0, 13, 26, 16, 122, 163, 0, 7, 4, 167, 0, 4, 3, 172] := by decide +kernel
theorem dX7_isLetter_0 : decode cX7_isLetter 0 = .ok (.iload_n 0, 1) := dk_26 (c := cX7_isLetter) (pc := 0) (dk_at bnames01cX7_isLetter_0 0)
theorem dX7_isLetter_1 : decode cX7_isLetter 1 = .ok (.bipush 97, 2) := dk_16 (c := cX7_isLetter) (pc := 1) (a := 97) (dk_at bnames01cX7_isLetter_0 1) (by decide)
theorem dX7_isLetter_3 : decode cX7_isLetter 3 = .ok (.if_icmp .lt 13, 3) := dk_161 (c := cX7_isLetter) (pc := 3) (a := 0) (b := 13) (dk_at bnames01cX7_isLetter_0 3) (by decide)
theorem dX7_isLetter_6 : decode cX7_isLetter 6 = .ok (.iload_n 0, 1) := dk_26 (c := cX7_isLetter) (pc := 6) (dk_at bnames01cX7_isLetter_0 6)
theorem dX7_isLetter_7 : decode cX7_isLetter 7 = .ok (.bipush 122, 2) := dk_16 (c := cX7_isLetter) (pc := 7) (a := 122) (dk_at bnames01cX7_isLetter_0 7) (by decide)
theorem dX7_isLetter_9 : decode cX7_isLetter 9 = .ok (.if_icmp .gt 7, 3) := dk_163 (c := cX7_isLetter) (pc := 9) (a := 0) (b := 7) (dk_at bnames01cX7_isLetter_0 9) (by decide)
theorem dX7_isLetter_12 : decode cX7_isLetter 12 = .ok (.iconst 1, 1) := dk_4 (c := cX7_isLetter) (pc := 12) (dk_at bnames01cX7_isLetter_0 12)
theorem dX7_isLetter_13 : decode cX7_isLetter 13 = .ok (.goto 4, 3) := dk_167 (c := cX7_isLetter) (pc := 13) (a := 0) (b := 4) (dk_at bnames01cX7_isLetter_0 13) (by decide)
theorem dX7_isLetter_16 : decode cX7_isLetter 16 = .ok (.iconst 0, 1) := dk_3 (c := cX7_isLetter) (pc := 16) (dk_at bnames01cX7_isLetter_0 16)
theorem dX7_isLetter_17 : decode cX7_isLetter 17 = .ok (.ireturn, 1) := dk_172 (c := cX7_isLetter) (pc := 17) (dk_at bnames01cX7_isLetter_0 17)
theorem bnames01cX7_isDigit_0 : ((dk_l cX7_isDigit).drop 0).take 18 = [26, 16, 48, 161, 0, 13, 26, 16, 57, 163, 0, 7, 4, 167, 0, 4, 3, 172] := by decide +kernel
theorem dX7_isDigit_0 : decode cX7_isDigit 0 = .ok (.iload_n 0, 1) := dk_26 (c := cX7_isDigit) (pc := 0) (dk_at bnames01cX7_isDigit_0 0)
theorem dX7_isDigit_1 : decode cX7_isDigit 1 = .ok (.bipush 48, 2) := dk_16 (c := cX7_isDigit) (pc := 1) (a := 48) (dk_at bnames01cX7_isDigit_0 1) (by decide)
theorem dX7_isDigit_3 : decode cX7_isDigit 3 = .ok (.if_icmp .lt 13, 3) := dk_161 (c := cX7_isDigit) (pc := 3) (a := 0) (b := 13) (dk_at bnames01cX7_isDigit_0 3) (by decide)
theorem dX7_isDigit_6 : decode cX7_isDigit 6 = .ok (.iload_n 0, 1) := dk_26 (c := cX7_isDigit) (pc := 6) (dk_at bnames01cX7_isDigit_0 6)
theorem dX7_isDigit_7 : decode cX7_isDigit 7 = .ok (.bipush 57, 2) := dk_16 (c := cX7_isDigit) (pc := 7) (a := 57) (dk_at bnames01cX7_isDigit_0 7) (by decide)
theorem dX7_isDigit_9 : decode cX7_isDigit 9 = .ok (.if_icmp .gt 7, 3) := dk_163 (c := cX7_isDigit) (pc := 9) (a := 0) (b := 7) (dk_at bnames01cX7_isDigit_0 9) (by decide)
theorem dX7_isDigit_12 : decode cX7_isDigit 12 = .ok (.iconst 1, 1) := dk_4 (c := cX7_isDigit) (pc := 12) (dk_at bnames01cX7_isDigit_0 12)
theorem dX7_isDigit_13 : decode cX7_isDigit 13 = .ok (.goto 4, 3) := dk_167 (c := cX7_isDigit) (pc := 13) (a := 0) (b := 4) (dk_at bnames01cX7_isDigit_0 13) (by decide)
theorem dX7_isDigit_16 : decode cX7_isDigit 16 = .ok (.iconst 0, 1) := dk_3 (c := cX7_isDigit) (pc := 16) (dk_at bnames01cX7_isDigit_0 16)
theorem dX7_isDigit_17 : decode cX7_isDigit 17 = .ok (.ireturn, 1) := dk_172 (c := cX7_isDigit) (pc := 17) (dk_at bnames01cX7_isDigit_0 17)
set_option maxRecDepth 20000 in
theorem ggX8_feed_X7_addFour : GoodIn wsX8_feed wsX7_addFour := goodIn_r _ [7, 8, 9, 20, 21, 22, 23, 24, 25, 26, 27] rfl (by decide +kernel)
set_option maxRecDepth 20000 in
theorem gX8_feed_X7_addFour : GoodIn wsX8_feed (wsV RX8 74 RX7 yX7_addFour wsX7_addFour) := goodIn_app (goodIn_r _ [3, 4, 5, 6] rfl (by decide +kernel)) ggX8_feed_X7_addFour
theorem bnames01cX8_feed_0 : ((dk_l cX8_feed).drop 0).take 52 = [42, 180, 0, 10, 180, 0, 70, 16, 20, 96, 17, 2, 88, 164, 0, 5, 2, 172, 42, 180, 0, 10, 27, 182, 0, 74, 42, 180, 0, 10, 28, 182, 0, 74, 42, 180, 0, 10, 29, 182, 0, 74, 42, 180, 0, 10, 21, 4, 182, 0, 74, 42] := by decide +kernel
theorem dX8_feed_0 : decode cX8_feed 0 = .ok (.aload_n 0, 1) := dk_42 (c := cX8_feed) (pc := 0) (dk_at bnames01cX8_feed_0 0)
theorem dX8_feed_1 : decode cX8_feed 1 = .ok (.getfield 10, 3) := dk_180 (c := cX8_feed) (pc := 1) (a := 0) (b := 10) (dk_at bnames01cX8_feed_0 1) rfl
theorem dX8_feed_4 : decode cX8_feed 4 = .ok (.getfield 70, 3) := dk_180 (c := cX8_feed) (pc := 4) (a := 0) (b := 70) (dk_at bnames01cX8_feed_0 4) rfl
theorem dX8_feed_7 : decode cX8_feed 7 = .ok (.bipush 20, 2) := dk_16 (c := cX8_feed) (pc := 7) (a := 20) (dk_at bnames01cX8_feed_0 7) (by decide)
theorem dX8_feed_9 : decode cX8_feed 9 = .ok (.iadd, 1) := dk_96 (c := cX8_feed) (pc := 9) (dk_at bnames01cX8_feed_0 9)
theorem dX8_feed_10 : decode cX8_feed 10 = .ok (.sipush 600, 3) := dk_17 (c := cX8_feed) (pc := 10) (a := 2) (b := 88) (dk_at bnames01cX8_feed_0 10) (by decide)
theorem dX8_feed_13 : decode cX8_feed 13 = .ok (.if_icmp .le 5, 3) := dk_164 (c := cX8_feed) (pc := 13) (a := 0) (b := 5) (dk_at bnames01cX8_feed_0 13) (by decide)
theorem dX8_feed_16 : decode cX8_feed 16 = .ok (.iconst (-1), 1) := dk_2 (c := cX8_feed) (pc := 16) (dk_at bnames01cX8_feed_0 16)
theorem dX8_feed_17 : decode cX8_feed 17 = .ok (.ireturn, 1) := dk_172 (c := cX8_feed) (pc := 17) (dk_at bnames01cX8_feed_0 17)
theorem dX8_feed_18 : decode cX8_feed 18 = .ok (.aload_n 0, 1) := dk_42 (c := cX8_feed) (pc := 18) (dk_at bnames01cX8_feed_0 18)
theorem dX8_feed_19 : decode cX8_feed 19 = .ok (.getfield 10, 3) := dk_180 (c := cX8_feed) (pc := 19) (a := 0) (b := 10) (dk_at bnames01cX8_feed_0 19) rfl
theorem dX8_feed_22 : decode cX8_feed 22 = .ok (.iload_n 1, 1) := dk_27 (c := cX8_feed) (pc := 22) (dk_at bnames01cX8_feed_0 22)
theorem dX8_feed_23 : decode cX8_feed 23 = .ok (.invokevirtual 74, 3) := dk_182 (c := cX8_feed) (pc := 23) (a := 0) (b := 74) (dk_at bnames01cX8_feed_0 23) rfl
theorem dX8_feed_26 : decode cX8_feed 26 = .ok (.aload_n 0, 1) := dk_42 (c := cX8_feed) (pc := 26) (dk_at bnames01cX8_feed_0 26)
theorem dX8_feed_27 : decode cX8_feed 27 = .ok (.getfield 10, 3) := dk_180 (c := cX8_feed) (pc := 27) (a := 0) (b := 10) (dk_at bnames01cX8_feed_0 27) rfl
theorem dX8_feed_30 : decode cX8_feed 30 = .ok (.iload_n 2, 1) := dk_28 (c := cX8_feed) (pc := 30) (dk_at bnames01cX8_feed_0 30)
theorem dX8_feed_31 : decode cX8_feed 31 = .ok (.invokevirtual 74, 3) := dk_182 (c := cX8_feed) (pc := 31) (a := 0) (b := 74) (dk_at bnames01cX8_feed_0 31) rfl
theorem dX8_feed_34 : decode cX8_feed 34 = .ok (.aload_n 0, 1) := dk_42 (c := cX8_feed) (pc := 34) (dk_at bnames01cX8_feed_0 34)
theorem dX8_feed_35 : decode cX8_feed 35 = .ok (.getfield 10, 3) := dk_180 (c := cX8_feed) (pc := 35) (a := 0) (b := 10) (dk_at bnames01cX8_feed_0 35) rfl
theorem dX8_feed_38 : decode cX8_feed 38 = .ok (.iload_n 3, 1) := dk_29 (c := cX8_feed) (pc := 38) (dk_at bnames01cX8_feed_0 38)
theorem dX8_feed_39 : decode cX8_feed 39 = .ok (.invokevirtual 74, 3) := dk_182 (c := cX8_feed) (pc := 39) (a := 0) (b := 74) (dk_at bnames01cX8_feed_0 39) rfl
theorem dX8_feed_42 : decode cX8_feed 42 = .ok (.aload_n 0, 1) := dk_42 (c := cX8_feed) (pc := 42) (dk_at bnames01cX8_feed_0 42)
theorem dX8_feed_43 : decode cX8_feed 43 = .ok (.getfield 10, 3) := dk_180 (c := cX8_feed) (pc := 43) (a := 0) (b := 10) (dk_at bnames01cX8_feed_0 43) rfl
theorem dX8_feed_46 : decode cX8_feed 46 = .ok (.iload 4, 2) := dk_21 (c := cX8_feed) (pc := 46) (a := 4) (dk_at bnames01cX8_feed_0 46) rfl
theorem bnames01cX8_feed_48 : ((dk_l cX8_feed).drop 48).take 20 = [182, 0, 74, 42, 180, 0, 10, 21, 5, 182, 0, 74, 42, 180, 0, 10, 180, 0, 70, 172] := by decide +kernel
theorem dX8_feed_48 : decode cX8_feed 48 = .ok (.invokevirtual 74, 3) := dk_182 (c := cX8_feed) (pc := 48) (a := 0) (b := 74) (dk_at bnames01cX8_feed_48 0) rfl
theorem dX8_feed_51 : decode cX8_feed 51 = .ok (.aload_n 0, 1) := dk_42 (c := cX8_feed) (pc := 51) (dk_at bnames01cX8_feed_48 3)
theorem dX8_feed_52 : decode cX8_feed 52 = .ok (.getfield 10, 3) := dk_180 (c := cX8_feed) (pc := 52) (a := 0) (b := 10) (dk_at bnames01cX8_feed_48 4) rfl
theorem dX8_feed_55 : decode cX8_feed 55 = .ok (.iload 5, 2) := dk_21 (c := cX8_feed) (pc := 55) (a := 5) (dk_at bnames01cX8_feed_48 7) rfl
theorem dX8_feed_57 : decode cX8_feed 57 = .ok (.invokevirtual 74, 3) := dk_182 (c := cX8_feed) (pc := 57) (a := 0) (b := 74) (dk_at bnames01cX8_feed_48 9) rfl
theorem dX8_feed_60 : decode cX8_feed 60 = .ok (.aload_n 0, 1) := dk_42 (c := cX8_feed) (pc := 60) (dk_at bnames01cX8_feed_48 12)
theorem dX8_feed_61 : decode cX8_feed 61 = .ok (.getfield 10, 3) := dk_180 (c := cX8_feed) (pc := 61) (a := 0) (b := 10) (dk_at bnames01cX8_feed_48 13) rfl
theorem dX8_feed_64 : decode cX8_feed 64 = .ok (.getfield 70, 3) := dk_180 (c := cX8_feed) (pc := 64) (a := 0) (b := 70) (dk_at bnames01cX8_feed_48 16) rfl
theorem dX8_feed_67 : decode cX8_feed 67 = .ok (.ireturn, 1) := dk_172 (c := cX8_feed) (pc := 67) (dk_at bnames01cX8_feed_48 19)
theorem bnames01cX8_end_0 : ((dk_l cX8_end).drop 0).take 27 = [27, 155, 0, 14, 27, 42, 180, 0, 10, 180, 0, 70, 164, 0, 5, 2, 172, 42, 180, 0, 10, 27, 181, 0, 70, 27, 172] := by decide +kernel
theorem dX8_end_0 : decode cX8_end 0 = .ok (.iload_n 1, 1) := dk_27 (c := cX8_end) (pc := 0) (dk_at bnames01cX8_end_0 0)
theorem dX8_end_1 : decode cX8_end 1 = .ok (.ifCond .lt 14, 3) := dk_155 (c := cX8_end) (pc := 1) (a := 0) (b := 14) (dk_at bnames01cX8_end_0 1) (by decide)
theorem dX8_end_4 : decode cX8_end 4 = .ok (.iload_n 1, 1) := dk_27 (c := cX8_end) (pc := 4) (dk_at bnames01cX8_end_0 4)
theorem dX8_end_5 : decode cX8_end 5 = .ok (.aload_n 0, 1) := dk_42 (c := cX8_end) (pc := 5) (dk_at bnames01cX8_end_0 5)
theorem dX8_end_6 : decode cX8_end 6 = .ok (.getfield 10, 3) := dk_180 (c := cX8_end) (pc := 6) (a := 0) (b := 10) (dk_at bnames01cX8_end_0 6) rfl
theorem dX8_end_9 : decode cX8_end 9 = .ok (.getfield 70, 3) := dk_180 (c := cX8_end) (pc := 9) (a := 0) (b := 70) (dk_at bnames01cX8_end_0 9) rfl
theorem dX8_end_12 : decode cX8_end 12 = .ok (.if_icmp .le 5, 3) := dk_164 (c := cX8_end) (pc := 12) (a := 0) (b := 5) (dk_at bnames01cX8_end_0 12) (by decide)
theorem dX8_end_15 : decode cX8_end 15 = .ok (.iconst (-1), 1) := dk_2 (c := cX8_end) (pc := 15) (dk_at bnames01cX8_end_0 15)
theorem dX8_end_16 : decode cX8_end 16 = .ok (.ireturn, 1) := dk_172 (c := cX8_end) (pc := 16) (dk_at bnames01cX8_end_0 16)
theorem dX8_end_17 : decode cX8_end 17 = .ok (.aload_n 0, 1) := dk_42 (c := cX8_end) (pc := 17) (dk_at bnames01cX8_end_0 17)
theorem dX8_end_18 : decode cX8_end 18 = .ok (.getfield 10, 3) := dk_180 (c := cX8_end) (pc := 18) (a := 0) (b := 10) (dk_at bnames01cX8_end_0 18) rfl
theorem dX8_end_21 : decode cX8_end 21 = .ok (.iload_n 1, 1) := dk_27 (c := cX8_end) (pc := 21) (dk_at bnames01cX8_end_0 21)
theorem dX8_end_22 : decode cX8_end 22 = .ok (.putfield 70, 3) := dk_181 (c := cX8_end) (pc := 22) (a := 0) (b := 70) (dk_at bnames01cX8_end_0 22) rfl
theorem dX8_end_25 : decode cX8_end 25 = .ok (.iload_n 1, 1) := dk_27 (c := cX8_end) (pc := 25) (dk_at bnames01cX8_end_0 25)
theorem dX8_end_26 : decode cX8_end 26 = .ok (.ireturn, 1) := dk_172 (c := cX8_end) (pc := 26) (dk_at bnames01cX8_end_0 26)
theorem bnames01cX8_fault_0 : ((dk_l cX8_fault).drop 0).take 29 = [27, 154, 0, 11, 42, 180, 0, 10, 180, 0, 82, 172, 27, 4, 160, 0, 13, 42, 180, 0, 10, 180, 0, 88, 167, 0, 4, 2, 172] := by decide +kernel
theorem dX8_fault_0 : decode cX8_fault 0 = .ok (.iload_n 1, 1) := dk_27 (c := cX8_fault) (pc := 0) (dk_at bnames01cX8_fault_0 0)
theorem dX8_fault_1 : decode cX8_fault 1 = .ok (.ifCond .ne 11, 3) := dk_154 (c := cX8_fault) (pc := 1) (a := 0) (b := 11) (dk_at bnames01cX8_fault_0 1) (by decide)
theorem dX8_fault_4 : decode cX8_fault 4 = .ok (.aload_n 0, 1) := dk_42 (c := cX8_fault) (pc := 4) (dk_at bnames01cX8_fault_0 4)
theorem dX8_fault_5 : decode cX8_fault 5 = .ok (.getfield 10, 3) := dk_180 (c := cX8_fault) (pc := 5) (a := 0) (b := 10) (dk_at bnames01cX8_fault_0 5) rfl
theorem dX8_fault_8 : decode cX8_fault 8 = .ok (.getfield 82, 3) := dk_180 (c := cX8_fault) (pc := 8) (a := 0) (b := 82) (dk_at bnames01cX8_fault_0 8) rfl
theorem dX8_fault_11 : decode cX8_fault 11 = .ok (.ireturn, 1) := dk_172 (c := cX8_fault) (pc := 11) (dk_at bnames01cX8_fault_0 11)
theorem dX8_fault_12 : decode cX8_fault 12 = .ok (.iload_n 1, 1) := dk_27 (c := cX8_fault) (pc := 12) (dk_at bnames01cX8_fault_0 12)
theorem dX8_fault_13 : decode cX8_fault 13 = .ok (.iconst 1, 1) := dk_4 (c := cX8_fault) (pc := 13) (dk_at bnames01cX8_fault_0 13)
theorem dX8_fault_14 : decode cX8_fault 14 = .ok (.if_icmp .ne 13, 3) := dk_160 (c := cX8_fault) (pc := 14) (a := 0) (b := 13) (dk_at bnames01cX8_fault_0 14) (by decide)
theorem dX8_fault_17 : decode cX8_fault 17 = .ok (.aload_n 0, 1) := dk_42 (c := cX8_fault) (pc := 17) (dk_at bnames01cX8_fault_0 17)
theorem dX8_fault_18 : decode cX8_fault 18 = .ok (.getfield 10, 3) := dk_180 (c := cX8_fault) (pc := 18) (a := 0) (b := 10) (dk_at bnames01cX8_fault_0 18) rfl
theorem dX8_fault_21 : decode cX8_fault 21 = .ok (.getfield 88, 3) := dk_180 (c := cX8_fault) (pc := 21) (a := 0) (b := 88) (dk_at bnames01cX8_fault_0 21) rfl
theorem dX8_fault_24 : decode cX8_fault 24 = .ok (.goto 4, 3) := dk_167 (c := cX8_fault) (pc := 24) (a := 0) (b := 4) (dk_at bnames01cX8_fault_0 24) (by decide)
theorem dX8_fault_27 : decode cX8_fault 27 = .ok (.iconst (-1), 1) := dk_2 (c := cX8_fault) (pc := 27) (dk_at bnames01cX8_fault_0 27)
theorem dX8_fault_28 : decode cX8_fault 28 = .ok (.ireturn, 1) := dk_172 (c := cX8_fault) (pc := 28) (dk_at bnames01cX8_fault_0 28)
set_option maxRecDepth 20000 in
theorem ggX8_forced_X3_hasState : GoodIn wsX8_forced wsX3_hasState := goodIn_r _ [6, 7, 35, 36, 37, 38, 39, 40, 41, 42, 43, 44, 45, 46, 47, 48, 49, 50] rfl (by decide +kernel)
set_option maxRecDepth 20000 in
theorem gX8_forced_X3_hasState : GoodIn wsX8_forced (wsV RX8 91 RX3 yX3_hasState wsX3_hasState) := goodIn_app (goodIn_r _ [2, 3, 4, 5] rfl (by decide +kernel)) ggX8_forced_X3_hasState
set_option maxRecDepth 20000 in
theorem ggX8_forced_X8_isMonth : GoodIn wsX8_forced wsX8_isMonth := goodIn_r _ [11, 12, 13, 10, 14] rfl (by decide +kernel)
set_option maxRecDepth 20000 in
theorem gX8_forced_X8_isMonth : GoodIn wsX8_forced (va_wsS RX8 95 yX8_isMonth wsX8_isMonth) := goodIn_app (goodIn_r _ [8, 9, 10] rfl (by decide +kernel)) ggX8_forced_X8_isMonth
set_option maxRecDepth 20000 in
theorem ggX8_forced_X3_forcedAt : GoodIn wsX8_forced wsX3_forcedAt := goodIn_r _ [18, 19, 20, 21, 22, 5, 23, 24, 35, 36, 37, 38, 39, 40, 41, 42, 43, 44, 45, 46, 47, 48, 49, 50] rfl (by decide +kernel)
set_option maxRecDepth 20000 in
theorem gX8_forced_X3_forcedAt : GoodIn wsX8_forced (wsV RX8 98 RX3 yX3_forcedAt wsX3_forcedAt) := goodIn_app (goodIn_r _ [15, 16, 17, 5] rfl (by decide +kernel)) ggX8_forced_X3_forcedAt
theorem bnames01cX8_forced_0 : ((dk_l cX8_forced).drop 0).take 31 = [42, 180, 0, 19, 27, 182, 0, 91, 153, 0, 10, 28, 184, 0, 95, 154, 0, 6, 16, 254, 172, 42, 180, 0, 19, 27, 28, 182, 0, 98, 172] := by decide +kernel
theorem dX8_forced_0 : decode cX8_forced 0 = .ok (.aload_n 0, 1) := dk_42 (c := cX8_forced) (pc := 0) (dk_at bnames01cX8_forced_0 0)
theorem dX8_forced_1 : decode cX8_forced 1 = .ok (.getfield 19, 3) := dk_180 (c := cX8_forced) (pc := 1) (a := 0) (b := 19) (dk_at bnames01cX8_forced_0 1) rfl
theorem dX8_forced_4 : decode cX8_forced 4 = .ok (.iload_n 1, 1) := dk_27 (c := cX8_forced) (pc := 4) (dk_at bnames01cX8_forced_0 4)
theorem dX8_forced_5 : decode cX8_forced 5 = .ok (.invokevirtual 91, 3) := dk_182 (c := cX8_forced) (pc := 5) (a := 0) (b := 91) (dk_at bnames01cX8_forced_0 5) rfl
theorem dX8_forced_8 : decode cX8_forced 8 = .ok (.ifCond .eq 10, 3) := dk_153 (c := cX8_forced) (pc := 8) (a := 0) (b := 10) (dk_at bnames01cX8_forced_0 8) (by decide)
theorem dX8_forced_11 : decode cX8_forced 11 = .ok (.iload_n 2, 1) := dk_28 (c := cX8_forced) (pc := 11) (dk_at bnames01cX8_forced_0 11)
theorem dX8_forced_12 : decode cX8_forced 12 = .ok (.invokestatic 95, 3) := dk_184 (c := cX8_forced) (pc := 12) (a := 0) (b := 95) (dk_at bnames01cX8_forced_0 12) rfl
theorem dX8_forced_15 : decode cX8_forced 15 = .ok (.ifCond .ne 6, 3) := dk_154 (c := cX8_forced) (pc := 15) (a := 0) (b := 6) (dk_at bnames01cX8_forced_0 15) (by decide)
theorem dX8_forced_18 : decode cX8_forced 18 = .ok (.bipush (-2), 2) := dk_16 (c := cX8_forced) (pc := 18) (a := 254) (dk_at bnames01cX8_forced_0 18) (by decide)
theorem dX8_forced_20 : decode cX8_forced 20 = .ok (.ireturn, 1) := dk_172 (c := cX8_forced) (pc := 20) (dk_at bnames01cX8_forced_0 20)
theorem dX8_forced_21 : decode cX8_forced 21 = .ok (.aload_n 0, 1) := dk_42 (c := cX8_forced) (pc := 21) (dk_at bnames01cX8_forced_0 21)
theorem dX8_forced_22 : decode cX8_forced 22 = .ok (.getfield 19, 3) := dk_180 (c := cX8_forced) (pc := 22) (a := 0) (b := 19) (dk_at bnames01cX8_forced_0 22) rfl
theorem dX8_forced_25 : decode cX8_forced 25 = .ok (.iload_n 1, 1) := dk_27 (c := cX8_forced) (pc := 25) (dk_at bnames01cX8_forced_0 25)
theorem dX8_forced_26 : decode cX8_forced 26 = .ok (.iload_n 2, 1) := dk_28 (c := cX8_forced) (pc := 26) (dk_at bnames01cX8_forced_0 26)
theorem dX8_forced_27 : decode cX8_forced 27 = .ok (.invokevirtual 98, 3) := dk_182 (c := cX8_forced) (pc := 27) (a := 0) (b := 98) (dk_at bnames01cX8_forced_0 27) rfl
theorem dX8_forced_30 : decode cX8_forced 30 = .ok (.ireturn, 1) := dk_172 (c := cX8_forced) (pc := 30) (dk_at bnames01cX8_forced_0 30)
set_option maxRecDepth 20000 in
theorem ggX8_old_X3_hasState : GoodIn wsX8_old wsX3_hasState := goodIn_r _ [6, 7, 30, 31, 32, 33, 34, 35, 36, 37, 38, 39, 40, 41, 42, 43, 44, 45] rfl (by decide +kernel)
set_option maxRecDepth 20000 in
theorem gX8_old_X3_hasState : GoodIn wsX8_old (wsV RX8 91 RX3 yX3_hasState wsX3_hasState) := goodIn_app (goodIn_r _ [2, 3, 4, 5] rfl (by decide +kernel)) ggX8_old_X3_hasState
set_option maxRecDepth 20000 in
theorem ggX8_old_X8_isMonth : GoodIn wsX8_old wsX8_isMonth := goodIn_r _ [11, 12, 13, 10, 14] rfl (by decide +kernel)
set_option maxRecDepth 20000 in
theorem gX8_old_X8_isMonth : GoodIn wsX8_old (va_wsS RX8 95 yX8_isMonth wsX8_isMonth) := goodIn_app (goodIn_r _ [8, 9, 10] rfl (by decide +kernel)) ggX8_old_X8_isMonth
set_option maxRecDepth 20000 in
theorem ggX8_old_X3_oldAt : GoodIn wsX8_old wsX3_oldAt := goodIn_r _ [18, 19, 30, 31, 32, 33, 34, 35, 36, 37, 38, 39, 40, 41, 42, 43, 44, 45] rfl (by decide +kernel)
set_option maxRecDepth 20000 in
theorem gX8_old_X3_oldAt : GoodIn wsX8_old (wsV RX8 102 RX3 yX3_oldAt wsX3_oldAt) := goodIn_app (goodIn_r _ [15, 16, 17, 5] rfl (by decide +kernel)) ggX8_old_X3_oldAt
theorem bnames01cX8_old_0 : ((dk_l cX8_old).drop 0).take 31 = [42, 180, 0, 19, 27, 182, 0, 91, 153, 0, 10, 28, 184, 0, 95, 154, 0, 6, 16, 254, 172, 42, 180, 0, 19, 27, 28, 182, 0, 102, 172] := by decide +kernel
theorem dX8_old_0 : decode cX8_old 0 = .ok (.aload_n 0, 1) := dk_42 (c := cX8_old) (pc := 0) (dk_at bnames01cX8_old_0 0)
theorem dX8_old_1 : decode cX8_old 1 = .ok (.getfield 19, 3) := dk_180 (c := cX8_old) (pc := 1) (a := 0) (b := 19) (dk_at bnames01cX8_old_0 1) rfl
theorem dX8_old_4 : decode cX8_old 4 = .ok (.iload_n 1, 1) := dk_27 (c := cX8_old) (pc := 4) (dk_at bnames01cX8_old_0 4)
theorem dX8_old_5 : decode cX8_old 5 = .ok (.invokevirtual 91, 3) := dk_182 (c := cX8_old) (pc := 5) (a := 0) (b := 91) (dk_at bnames01cX8_old_0 5) rfl
theorem dX8_old_8 : decode cX8_old 8 = .ok (.ifCond .eq 10, 3) := dk_153 (c := cX8_old) (pc := 8) (a := 0) (b := 10) (dk_at bnames01cX8_old_0 8) (by decide)
theorem dX8_old_11 : decode cX8_old 11 = .ok (.iload_n 2, 1) := dk_28 (c := cX8_old) (pc := 11) (dk_at bnames01cX8_old_0 11)
theorem dX8_old_12 : decode cX8_old 12 = .ok (.invokestatic 95, 3) := dk_184 (c := cX8_old) (pc := 12) (a := 0) (b := 95) (dk_at bnames01cX8_old_0 12) rfl
theorem dX8_old_15 : decode cX8_old 15 = .ok (.ifCond .ne 6, 3) := dk_154 (c := cX8_old) (pc := 15) (a := 0) (b := 6) (dk_at bnames01cX8_old_0 15) (by decide)
theorem dX8_old_18 : decode cX8_old 18 = .ok (.bipush (-2), 2) := dk_16 (c := cX8_old) (pc := 18) (a := 254) (dk_at bnames01cX8_old_0 18) (by decide)
theorem dX8_old_20 : decode cX8_old 20 = .ok (.ireturn, 1) := dk_172 (c := cX8_old) (pc := 20) (dk_at bnames01cX8_old_0 20)
theorem dX8_old_21 : decode cX8_old 21 = .ok (.aload_n 0, 1) := dk_42 (c := cX8_old) (pc := 21) (dk_at bnames01cX8_old_0 21)
theorem dX8_old_22 : decode cX8_old 22 = .ok (.getfield 19, 3) := dk_180 (c := cX8_old) (pc := 22) (a := 0) (b := 19) (dk_at bnames01cX8_old_0 22) rfl
theorem dX8_old_25 : decode cX8_old 25 = .ok (.iload_n 1, 1) := dk_27 (c := cX8_old) (pc := 25) (dk_at bnames01cX8_old_0 25)
theorem dX8_old_26 : decode cX8_old 26 = .ok (.iload_n 2, 1) := dk_28 (c := cX8_old) (pc := 26) (dk_at bnames01cX8_old_0 26)
theorem dX8_old_27 : decode cX8_old 27 = .ok (.invokevirtual 102, 3) := dk_182 (c := cX8_old) (pc := 27) (a := 0) (b := 102) (dk_at bnames01cX8_old_0 27) rfl
theorem dX8_old_30 : decode cX8_old 30 = .ok (.ireturn, 1) := dk_172 (c := cX8_old) (pc := 30) (dk_at bnames01cX8_old_0 30)
set_option maxRecDepth 20000 in
theorem ggX8_wage_X8_within : GoodIn wsX8_wage wsX8_within := goodIn_r _ [5] rfl (by decide +kernel)
set_option maxRecDepth 20000 in
theorem gX8_wage_X8_within : GoodIn wsX8_wage (va_wsS RX8 105 yX8_within wsX8_within) := goodIn_app (goodIn_r _ [2, 3, 4] rfl (by decide +kernel)) ggX8_wage_X8_within
set_option maxRecDepth 20000 in
theorem ggX8_wage_X8_isMonth : GoodIn wsX8_wage wsX8_isMonth := goodIn_r _ [8, 2, 3, 4, 5] rfl (by decide +kernel)
set_option maxRecDepth 20000 in
theorem gX8_wage_X8_isMonth : GoodIn wsX8_wage (va_wsS RX8 95 yX8_isMonth wsX8_isMonth) := goodIn_app (goodIn_r _ [6, 7, 4] rfl (by decide +kernel)) ggX8_wage_X8_isMonth
set_option maxRecDepth 20000 in
theorem ggX8_wage_X3_hasState : GoodIn wsX8_wage wsX3_hasState := goodIn_r _ [13, 14, 61, 62, 63, 64, 65, 66, 67, 68, 69, 70, 71, 72, 73, 74, 75, 76] rfl (by decide +kernel)
set_option maxRecDepth 20000 in
theorem gX8_wage_X3_hasState : GoodIn wsX8_wage (wsV RX8 91 RX3 yX3_hasState wsX3_hasState) := goodIn_app (goodIn_r _ [9, 10, 11, 12] rfl (by decide +kernel)) ggX8_wage_X3_hasState
set_option maxRecDepth 20000 in
theorem ggX8_wage_X3_payFor : GoodIn wsX8_wage wsX3_payFor := goodIn_r _ [18, 19, 20, 21, 22, 23, 24, 12, 25, 26, 27, 28, 29, 30, 31, 32, 33, 34, 35, 36, 37, 38, 39, 40, 41, 4, 42, 43, 44, 45, 46, 47, 48, 49, 50, 61, 62, 63, 64, 65, 66, 67, 68, 69, 70, 71, 72, 73, 74, 75, 76] rfl (by decide +kernel)
set_option maxRecDepth 20000 in
theorem gX8_wage_X3_payFor : GoodIn wsX8_wage (wsV RX8 109 RX3 yX3_payFor wsX3_payFor) := goodIn_app (goodIn_r _ [15, 16, 17, 12] rfl (by decide +kernel)) ggX8_wage_X3_payFor
theorem bnames01cX8_wage_0 : ((dk_l cX8_wage).drop 0).take 52 = [27, 3, 17, 1, 44, 184, 0, 105, 153, 0, 14, 28, 3, 17, 3, 231, 184, 0, 105, 154, 0, 6, 16, 254, 172, 29, 184, 0, 95, 153, 0, 15, 42, 180, 0, 19, 21, 4, 182, 0, 91, 154, 0, 6, 16, 254, 172, 42, 180, 0, 19, 27] := by decide +kernel
theorem dX8_wage_0 : decode cX8_wage 0 = .ok (.iload_n 1, 1) := dk_27 (c := cX8_wage) (pc := 0) (dk_at bnames01cX8_wage_0 0)
theorem dX8_wage_1 : decode cX8_wage 1 = .ok (.iconst 0, 1) := dk_3 (c := cX8_wage) (pc := 1) (dk_at bnames01cX8_wage_0 1)
theorem dX8_wage_2 : decode cX8_wage 2 = .ok (.sipush 300, 3) := dk_17 (c := cX8_wage) (pc := 2) (a := 1) (b := 44) (dk_at bnames01cX8_wage_0 2) (by decide)
theorem dX8_wage_5 : decode cX8_wage 5 = .ok (.invokestatic 105, 3) := dk_184 (c := cX8_wage) (pc := 5) (a := 0) (b := 105) (dk_at bnames01cX8_wage_0 5) rfl
theorem dX8_wage_8 : decode cX8_wage 8 = .ok (.ifCond .eq 14, 3) := dk_153 (c := cX8_wage) (pc := 8) (a := 0) (b := 14) (dk_at bnames01cX8_wage_0 8) (by decide)
theorem dX8_wage_11 : decode cX8_wage 11 = .ok (.iload_n 2, 1) := dk_28 (c := cX8_wage) (pc := 11) (dk_at bnames01cX8_wage_0 11)
theorem dX8_wage_12 : decode cX8_wage 12 = .ok (.iconst 0, 1) := dk_3 (c := cX8_wage) (pc := 12) (dk_at bnames01cX8_wage_0 12)
theorem dX8_wage_13 : decode cX8_wage 13 = .ok (.sipush 999, 3) := dk_17 (c := cX8_wage) (pc := 13) (a := 3) (b := 231) (dk_at bnames01cX8_wage_0 13) (by decide)
theorem dX8_wage_16 : decode cX8_wage 16 = .ok (.invokestatic 105, 3) := dk_184 (c := cX8_wage) (pc := 16) (a := 0) (b := 105) (dk_at bnames01cX8_wage_0 16) rfl
theorem dX8_wage_19 : decode cX8_wage 19 = .ok (.ifCond .ne 6, 3) := dk_154 (c := cX8_wage) (pc := 19) (a := 0) (b := 6) (dk_at bnames01cX8_wage_0 19) (by decide)
theorem dX8_wage_22 : decode cX8_wage 22 = .ok (.bipush (-2), 2) := dk_16 (c := cX8_wage) (pc := 22) (a := 254) (dk_at bnames01cX8_wage_0 22) (by decide)
theorem dX8_wage_24 : decode cX8_wage 24 = .ok (.ireturn, 1) := dk_172 (c := cX8_wage) (pc := 24) (dk_at bnames01cX8_wage_0 24)
theorem dX8_wage_25 : decode cX8_wage 25 = .ok (.iload_n 3, 1) := dk_29 (c := cX8_wage) (pc := 25) (dk_at bnames01cX8_wage_0 25)
theorem dX8_wage_26 : decode cX8_wage 26 = .ok (.invokestatic 95, 3) := dk_184 (c := cX8_wage) (pc := 26) (a := 0) (b := 95) (dk_at bnames01cX8_wage_0 26) rfl
theorem dX8_wage_29 : decode cX8_wage 29 = .ok (.ifCond .eq 15, 3) := dk_153 (c := cX8_wage) (pc := 29) (a := 0) (b := 15) (dk_at bnames01cX8_wage_0 29) (by decide)
theorem dX8_wage_32 : decode cX8_wage 32 = .ok (.aload_n 0, 1) := dk_42 (c := cX8_wage) (pc := 32) (dk_at bnames01cX8_wage_0 32)
theorem dX8_wage_33 : decode cX8_wage 33 = .ok (.getfield 19, 3) := dk_180 (c := cX8_wage) (pc := 33) (a := 0) (b := 19) (dk_at bnames01cX8_wage_0 33) rfl
theorem dX8_wage_36 : decode cX8_wage 36 = .ok (.iload 4, 2) := dk_21 (c := cX8_wage) (pc := 36) (a := 4) (dk_at bnames01cX8_wage_0 36) rfl
theorem dX8_wage_38 : decode cX8_wage 38 = .ok (.invokevirtual 91, 3) := dk_182 (c := cX8_wage) (pc := 38) (a := 0) (b := 91) (dk_at bnames01cX8_wage_0 38) rfl
theorem dX8_wage_41 : decode cX8_wage 41 = .ok (.ifCond .ne 6, 3) := dk_154 (c := cX8_wage) (pc := 41) (a := 0) (b := 6) (dk_at bnames01cX8_wage_0 41) (by decide)
theorem dX8_wage_44 : decode cX8_wage 44 = .ok (.bipush (-2), 2) := dk_16 (c := cX8_wage) (pc := 44) (a := 254) (dk_at bnames01cX8_wage_0 44) (by decide)
theorem dX8_wage_46 : decode cX8_wage 46 = .ok (.ireturn, 1) := dk_172 (c := cX8_wage) (pc := 46) (dk_at bnames01cX8_wage_0 46)
theorem dX8_wage_47 : decode cX8_wage 47 = .ok (.aload_n 0, 1) := dk_42 (c := cX8_wage) (pc := 47) (dk_at bnames01cX8_wage_0 47)
theorem bnames01cX8_wage_48 : ((dk_l cX8_wage).drop 48).take 12 = [180, 0, 19, 27, 28, 29, 21, 4, 182, 0, 109, 172] := by decide +kernel
theorem dX8_wage_48 : decode cX8_wage 48 = .ok (.getfield 19, 3) := dk_180 (c := cX8_wage) (pc := 48) (a := 0) (b := 19) (dk_at bnames01cX8_wage_48 0) rfl
theorem dX8_wage_51 : decode cX8_wage 51 = .ok (.iload_n 1, 1) := dk_27 (c := cX8_wage) (pc := 51) (dk_at bnames01cX8_wage_48 3)
theorem dX8_wage_52 : decode cX8_wage 52 = .ok (.iload_n 2, 1) := dk_28 (c := cX8_wage) (pc := 52) (dk_at bnames01cX8_wage_48 4)
theorem dX8_wage_53 : decode cX8_wage 53 = .ok (.iload_n 3, 1) := dk_29 (c := cX8_wage) (pc := 53) (dk_at bnames01cX8_wage_48 5)
theorem dX8_wage_54 : decode cX8_wage 54 = .ok (.iload 4, 2) := dk_21 (c := cX8_wage) (pc := 54) (a := 4) (dk_at bnames01cX8_wage_48 6) rfl
theorem dX8_wage_56 : decode cX8_wage 56 = .ok (.invokevirtual 109, 3) := dk_182 (c := cX8_wage) (pc := 56) (a := 0) (b := 109) (dk_at bnames01cX8_wage_48 8) rfl
theorem dX8_wage_59 : decode cX8_wage 59 = .ok (.ireturn, 1) := dk_172 (c := cX8_wage) (pc := 59) (dk_at bnames01cX8_wage_48 11)
set_option maxRecDepth 20000 in
theorem ggX8_draw_X8_isSeed : GoodIn wsX8_draw wsX8_isSeed := goodIn_r _ [6, 7, 8, 9, 5, 10] rfl (by decide +kernel)
set_option maxRecDepth 20000 in
theorem gX8_draw_X8_isSeed : GoodIn wsX8_draw (va_wsS RX8 113 yX8_isSeed wsX8_isSeed) := goodIn_app (goodIn_r _ [3, 4, 5] rfl (by decide +kernel)) ggX8_draw_X8_isSeed
set_option maxRecDepth 20000 in
theorem ggX8_draw_X8_within : GoodIn wsX8_draw wsX8_within := goodIn_r _ [10] rfl (by decide +kernel)
set_option maxRecDepth 20000 in
theorem gX8_draw_X8_within : GoodIn wsX8_draw (va_wsS RX8 105 yX8_within wsX8_within) := goodIn_app (goodIn_r _ [8, 9, 5] rfl (by decide +kernel)) ggX8_draw_X8_within
set_option maxRecDepth 20000 in
theorem ggX8_draw_X3_canBeDrawnFrom : GoodIn wsX8_draw wsX3_canBeDrawnFrom := goodIn_r _ [15, 16, 17, 130, 131, 132, 133, 134, 135, 136, 137, 138, 139, 140, 141, 142, 143, 144, 145] rfl (by decide +kernel)
set_option maxRecDepth 20000 in
theorem gX8_draw_X3_canBeDrawnFrom : GoodIn wsX8_draw (wsV RX8 116 RX3 yX3_canBeDrawnFrom wsX3_canBeDrawnFrom) := goodIn_app (goodIn_r _ [11, 12, 13, 14] rfl (by decide +kernel)) ggX8_draw_X3_canBeDrawnFrom
set_option maxRecDepth 20000 in
theorem ggX8_draw_X8_drawInto : GoodIn wsX8_draw wsX8_drawInto := goodIn_r _ [21, 22, 23, 24, 25, 26, 27, 28, 29, 30, 31, 32, 5, 33, 1, 34, 35, 36, 37, 38, 39, 40, 41, 42, 43, 44, 45, 46, 47, 48, 49, 50, 51, 52, 53, 54, 55, 56, 57, 14, 58, 17, 59, 60, 61, 62, 63, 64, 65, 66, 67, 68, 69, 70, 8, 9, 10, 71, 72, 73, 74, 75, 76, 77, 78, 79, 80, 81, 82, 83, 84, 85, 86, 87, 88, 89, 90, 91, 92, 93, 94, 95, 96, 97, 98, 99, 100, 101, 102, 103, 104, 105, 106, 107, 108, 109, 110, 111, 112, 113, 114, 115, 116, 117, 118, 119, 120, 121, 122, 123, 124, 125, 126, 127, 128, 129, 146, 147, 148, 149, 150, 151, 152, 153, 130, 131, 132, 133, 134, 135, 136, 137, 138, 139, 140, 141, 142, 143, 144, 145] rfl (by decide +kernel)
set_option maxRecDepth 20000 in
theorem gX8_draw_X8_drawInto : GoodIn wsX8_draw (wsV RX8 120 RX8 yX8_drawInto wsX8_drawInto) := goodIn_app (goodIn_r _ [18, 19, 20, 5] rfl (by decide +kernel)) ggX8_draw_X8_drawInto
theorem bnames01cX8_draw_0 : ((dk_l cX8_draw).drop 0).take 46 = [27, 184, 0, 113, 153, 0, 14, 28, 4, 17, 0, 200, 184, 0, 105, 154, 0, 6, 16, 254, 172, 42, 180, 0, 19, 182, 0, 116, 154, 0, 6, 16, 250, 172, 42, 42, 180, 0, 29, 27, 28, 182, 0, 120, 28, 172] := by decide +kernel
theorem dX8_draw_0 : decode cX8_draw 0 = .ok (.iload_n 1, 1) := dk_27 (c := cX8_draw) (pc := 0) (dk_at bnames01cX8_draw_0 0)
theorem dX8_draw_1 : decode cX8_draw 1 = .ok (.invokestatic 113, 3) := dk_184 (c := cX8_draw) (pc := 1) (a := 0) (b := 113) (dk_at bnames01cX8_draw_0 1) rfl
theorem dX8_draw_4 : decode cX8_draw 4 = .ok (.ifCond .eq 14, 3) := dk_153 (c := cX8_draw) (pc := 4) (a := 0) (b := 14) (dk_at bnames01cX8_draw_0 4) (by decide)
theorem dX8_draw_7 : decode cX8_draw 7 = .ok (.iload_n 2, 1) := dk_28 (c := cX8_draw) (pc := 7) (dk_at bnames01cX8_draw_0 7)
theorem dX8_draw_8 : decode cX8_draw 8 = .ok (.iconst 1, 1) := dk_4 (c := cX8_draw) (pc := 8) (dk_at bnames01cX8_draw_0 8)
theorem dX8_draw_9 : decode cX8_draw 9 = .ok (.sipush 200, 3) := dk_17 (c := cX8_draw) (pc := 9) (a := 0) (b := 200) (dk_at bnames01cX8_draw_0 9) (by decide)
theorem dX8_draw_12 : decode cX8_draw 12 = .ok (.invokestatic 105, 3) := dk_184 (c := cX8_draw) (pc := 12) (a := 0) (b := 105) (dk_at bnames01cX8_draw_0 12) rfl
theorem dX8_draw_15 : decode cX8_draw 15 = .ok (.ifCond .ne 6, 3) := dk_154 (c := cX8_draw) (pc := 15) (a := 0) (b := 6) (dk_at bnames01cX8_draw_0 15) (by decide)
theorem dX8_draw_18 : decode cX8_draw 18 = .ok (.bipush (-2), 2) := dk_16 (c := cX8_draw) (pc := 18) (a := 254) (dk_at bnames01cX8_draw_0 18) (by decide)
theorem dX8_draw_20 : decode cX8_draw 20 = .ok (.ireturn, 1) := dk_172 (c := cX8_draw) (pc := 20) (dk_at bnames01cX8_draw_0 20)
theorem dX8_draw_21 : decode cX8_draw 21 = .ok (.aload_n 0, 1) := dk_42 (c := cX8_draw) (pc := 21) (dk_at bnames01cX8_draw_0 21)
theorem dX8_draw_22 : decode cX8_draw 22 = .ok (.getfield 19, 3) := dk_180 (c := cX8_draw) (pc := 22) (a := 0) (b := 19) (dk_at bnames01cX8_draw_0 22) rfl
theorem dX8_draw_25 : decode cX8_draw 25 = .ok (.invokevirtual 116, 3) := dk_182 (c := cX8_draw) (pc := 25) (a := 0) (b := 116) (dk_at bnames01cX8_draw_0 25) rfl
theorem dX8_draw_28 : decode cX8_draw 28 = .ok (.ifCond .ne 6, 3) := dk_154 (c := cX8_draw) (pc := 28) (a := 0) (b := 6) (dk_at bnames01cX8_draw_0 28) (by decide)
theorem dX8_draw_31 : decode cX8_draw 31 = .ok (.bipush (-6), 2) := dk_16 (c := cX8_draw) (pc := 31) (a := 250) (dk_at bnames01cX8_draw_0 31) (by decide)
theorem dX8_draw_33 : decode cX8_draw 33 = .ok (.ireturn, 1) := dk_172 (c := cX8_draw) (pc := 33) (dk_at bnames01cX8_draw_0 33)
theorem dX8_draw_34 : decode cX8_draw 34 = .ok (.aload_n 0, 1) := dk_42 (c := cX8_draw) (pc := 34) (dk_at bnames01cX8_draw_0 34)
theorem dX8_draw_35 : decode cX8_draw 35 = .ok (.aload_n 0, 1) := dk_42 (c := cX8_draw) (pc := 35) (dk_at bnames01cX8_draw_0 35)
theorem dX8_draw_36 : decode cX8_draw 36 = .ok (.getfield 29, 3) := dk_180 (c := cX8_draw) (pc := 36) (a := 0) (b := 29) (dk_at bnames01cX8_draw_0 36) rfl
theorem dX8_draw_39 : decode cX8_draw 39 = .ok (.iload_n 1, 1) := dk_27 (c := cX8_draw) (pc := 39) (dk_at bnames01cX8_draw_0 39)
theorem dX8_draw_40 : decode cX8_draw 40 = .ok (.iload_n 2, 1) := dk_28 (c := cX8_draw) (pc := 40) (dk_at bnames01cX8_draw_0 40)
theorem dX8_draw_41 : decode cX8_draw 41 = .ok (.invokevirtual 120, 3) := dk_182 (c := cX8_draw) (pc := 41) (a := 0) (b := 120) (dk_at bnames01cX8_draw_0 41) rfl
theorem dX8_draw_44 : decode cX8_draw 44 = .ok (.iload_n 2, 1) := dk_28 (c := cX8_draw) (pc := 44) (dk_at bnames01cX8_draw_0 44)
theorem dX8_draw_45 : decode cX8_draw 45 = .ok (.ireturn, 1) := dk_172 (c := cX8_draw) (pc := 45) (dk_at bnames01cX8_draw_0 45)
set_option maxRecDepth 20000 in
theorem ggX8_drawInto_X0_from : GoodIn wsX8_drawInto wsX0_from := goodIn_r _ [7, 8, 123] rfl (by decide +kernel)
set_option maxRecDepth 20000 in
theorem gX8_drawInto_X0_from : GoodIn wsX8_drawInto (wsV RX8 124 RX0 yX0_from wsX0_from) := goodIn_app (goodIn_r _ [3, 4, 5, 6] rfl (by decide +kernel)) ggX8_drawInto_X0_from
set_option maxRecDepth 20000 in
theorem ggX8_drawInto_X8_drawOne : GoodIn wsX8_drawInto wsX8_drawOne := goodIn_r _ [13, 1, 14, 15, 16, 17, 18, 19, 20, 21, 22, 23, 24, 25, 26, 27, 28, 29, 30, 6, 31, 32, 8, 33, 34, 35, 36, 37, 38, 39, 40, 41, 42, 43, 44, 45, 46, 47, 48, 49, 50, 51, 52, 12, 53, 54, 55, 56, 57, 58, 59, 60, 61, 62, 63, 64, 65, 66, 67, 68, 69, 70, 71, 72, 73, 74, 75, 76, 77, 78, 79, 80, 81, 82, 83, 84, 85, 86, 87, 88, 89, 90, 91, 92, 93, 94, 95, 96, 97, 98, 99, 100, 101, 102, 103, 104, 105, 106, 107, 108, 109, 110, 111, 112, 113, 114, 115, 124, 125, 126, 127, 128, 129, 130, 131, 132, 133, 134, 135, 136, 137, 138, 139, 123, 116, 117, 118, 119, 120, 121, 122] rfl (by decide +kernel)
set_option maxRecDepth 20000 in
theorem gX8_drawInto_X8_drawOne : GoodIn wsX8_drawInto (wsV RX8 130 RX8 yX8_drawOne wsX8_drawOne) := goodIn_app (goodIn_r _ [9, 10, 11, 12] rfl (by decide +kernel)) ggX8_drawInto_X8_drawOne
theorem bnames01cX8_drawInto_0 : ((dk_l cX8_drawInto).drop 0).take 34 = [42, 180, 0, 39, 28, 182, 0, 124, 43, 3, 181, 0, 127, 3, 54, 4, 21, 4, 29, 162, 0, 14, 42, 43, 182, 0, 130, 132, 4, 1, 167, 255, 242, 177] := by decide +kernel
theorem dX8_drawInto_0 : decode cX8_drawInto 0 = .ok (.aload_n 0, 1) := dk_42 (c := cX8_drawInto) (pc := 0) (dk_at bnames01cX8_drawInto_0 0)
theorem dX8_drawInto_1 : decode cX8_drawInto 1 = .ok (.getfield 39, 3) := dk_180 (c := cX8_drawInto) (pc := 1) (a := 0) (b := 39) (dk_at bnames01cX8_drawInto_0 1) rfl
theorem dX8_drawInto_4 : decode cX8_drawInto 4 = .ok (.iload_n 2, 1) := dk_28 (c := cX8_drawInto) (pc := 4) (dk_at bnames01cX8_drawInto_0 4)
theorem dX8_drawInto_5 : decode cX8_drawInto 5 = .ok (.invokevirtual 124, 3) := dk_182 (c := cX8_drawInto) (pc := 5) (a := 0) (b := 124) (dk_at bnames01cX8_drawInto_0 5) rfl
theorem dX8_drawInto_8 : decode cX8_drawInto 8 = .ok (.aload_n 1, 1) := dk_43 (c := cX8_drawInto) (pc := 8) (dk_at bnames01cX8_drawInto_0 8)
theorem dX8_drawInto_9 : decode cX8_drawInto 9 = .ok (.iconst 0, 1) := dk_3 (c := cX8_drawInto) (pc := 9) (dk_at bnames01cX8_drawInto_0 9)
theorem dX8_drawInto_10 : decode cX8_drawInto 10 = .ok (.putfield 127, 3) := dk_181 (c := cX8_drawInto) (pc := 10) (a := 0) (b := 127) (dk_at bnames01cX8_drawInto_0 10) rfl
theorem dX8_drawInto_13 : decode cX8_drawInto 13 = .ok (.iconst 0, 1) := dk_3 (c := cX8_drawInto) (pc := 13) (dk_at bnames01cX8_drawInto_0 13)
theorem dX8_drawInto_14 : decode cX8_drawInto 14 = .ok (.istore 4, 2) := dk_54 (c := cX8_drawInto) (pc := 14) (a := 4) (dk_at bnames01cX8_drawInto_0 14) rfl
theorem dX8_drawInto_16 : decode cX8_drawInto 16 = .ok (.iload 4, 2) := dk_21 (c := cX8_drawInto) (pc := 16) (a := 4) (dk_at bnames01cX8_drawInto_0 16) rfl
theorem dX8_drawInto_18 : decode cX8_drawInto 18 = .ok (.iload_n 3, 1) := dk_29 (c := cX8_drawInto) (pc := 18) (dk_at bnames01cX8_drawInto_0 18)
theorem dX8_drawInto_19 : decode cX8_drawInto 19 = .ok (.if_icmp .ge 14, 3) := dk_162 (c := cX8_drawInto) (pc := 19) (a := 0) (b := 14) (dk_at bnames01cX8_drawInto_0 19) (by decide)
theorem dX8_drawInto_22 : decode cX8_drawInto 22 = .ok (.aload_n 0, 1) := dk_42 (c := cX8_drawInto) (pc := 22) (dk_at bnames01cX8_drawInto_0 22)
theorem dX8_drawInto_23 : decode cX8_drawInto 23 = .ok (.aload_n 1, 1) := dk_43 (c := cX8_drawInto) (pc := 23) (dk_at bnames01cX8_drawInto_0 23)
theorem dX8_drawInto_24 : decode cX8_drawInto 24 = .ok (.invokevirtual 130, 3) := dk_182 (c := cX8_drawInto) (pc := 24) (a := 0) (b := 130) (dk_at bnames01cX8_drawInto_0 24) rfl
theorem dX8_drawInto_27 : decode cX8_drawInto 27 = .ok (.iinc 4 1, 3) := dk_132 (c := cX8_drawInto) (pc := 27) (a := 4) (b := 1) (dk_at bnames01cX8_drawInto_0 27) rfl (by decide)
theorem dX8_drawInto_30 : decode cX8_drawInto 30 = .ok (.goto (-14), 3) := dk_167 (c := cX8_drawInto) (pc := 30) (a := 255) (b := 242) (dk_at bnames01cX8_drawInto_0 30) (by decide)
theorem dX8_drawInto_33 : decode cX8_drawInto 33 = .ok (.return_, 1) := dk_177 (c := cX8_drawInto) (pc := 33) (dk_at bnames01cX8_drawInto_0 33)
set_option maxRecDepth 20000 in
theorem ggX8_drawOne_X0_of : GoodIn wsX8_drawOne wsX0_of := goodIn_r _ [20, 21, 22, 23, 24, 25, 123] rfl (by decide +kernel)
set_option maxRecDepth 20000 in
theorem gX8_drawOne_X0_of : GoodIn wsX8_drawOne (wsV RX8 137 RX0 yX0_of wsX0_of) := goodIn_app (goodIn_r _ [16, 17, 18, 19] rfl (by decide +kernel)) ggX8_drawOne_X0_of
set_option maxRecDepth 20000 in
theorem ggX8_drawOne_X3_sortAt : GoodIn wsX8_drawOne wsX3_sortAt := goodIn_r _ [30, 31, 32, 107, 108, 109, 110, 111, 112, 113, 114, 115, 116, 117, 118, 119, 120, 121, 122] rfl (by decide +kernel)
set_option maxRecDepth 20000 in
theorem gX8_drawOne_X3_sortAt : GoodIn wsX8_drawOne (wsV RX8 144 RX3 yX3_sortAt wsX3_sortAt) := goodIn_app (goodIn_r _ [26, 27, 28, 29] rfl (by decide +kernel)) ggX8_drawOne_X3_sortAt
set_option maxRecDepth 20000 in
theorem ggX8_drawOne_X3_leakOf : GoodIn wsX8_drawOne wsX3_leakOf := goodIn_r _ [36, 37, 38, 39, 40, 29, 41, 42, 43, 44, 45, 46, 47, 107, 108, 109, 110, 111, 112, 113, 114, 115, 116, 117, 118, 119, 120, 121, 122] rfl (by decide +kernel)
set_option maxRecDepth 20000 in
theorem gX8_drawOne_X3_leakOf : GoodIn wsX8_drawOne (wsV RX8 160 RX3 yX3_leakOf wsX3_leakOf) := goodIn_app (goodIn_r _ [33, 34, 35, 29] rfl (by decide +kernel)) ggX8_drawOne_X3_leakOf
set_option maxRecDepth 20000 in
theorem ggX8_drawOne_X3_forcedAt : GoodIn wsX8_drawOne wsX3_forcedAt := goodIn_r _ [51, 52, 53, 54, 55, 29, 56, 57, 107, 108, 109, 110, 111, 112, 113, 114, 115, 116, 117, 118, 119, 120, 121, 122] rfl (by decide +kernel)
set_option maxRecDepth 20000 in
theorem gX8_drawOne_X3_forcedAt : GoodIn wsX8_drawOne (wsV RX8 98 RX3 yX3_forcedAt wsX3_forcedAt) := goodIn_app (goodIn_r _ [48, 49, 50, 29] rfl (by decide +kernel)) ggX8_drawOne_X3_forcedAt
set_option maxRecDepth 20000 in
theorem ggX8_drawOne_X3_payFor : GoodIn wsX8_drawOne wsX3_payFor := goodIn_r _ [61, 62, 63, 64, 65, 66, 67, 29, 68, 53, 54, 55, 56, 57, 69, 49, 50, 51, 52, 70, 71, 72, 73, 74, 75, 43, 76, 77, 78, 79, 11, 80, 81, 82, 83, 107, 108, 109, 110, 111, 112, 113, 114, 115, 116, 117, 118, 119, 120, 121, 122] rfl (by decide +kernel)
set_option maxRecDepth 20000 in
theorem gX8_drawOne_X3_payFor : GoodIn wsX8_drawOne (wsV RX8 109 RX3 yX3_payFor wsX3_payFor) := goodIn_app (goodIn_r _ [58, 59, 60, 29] rfl (by decide +kernel)) ggX8_drawOne_X3_payFor
set_option maxRecDepth 20000 in
theorem ggX8_drawOne_X8_cutToWage : GoodIn wsX8_drawOne wsX8_cutToWage := goodIn_r _ [76, 77, 78, 79, 11, 80, 81, 82, 83] rfl (by decide +kernel)
set_option maxRecDepth 20000 in
theorem gX8_drawOne_X8_cutToWage : GoodIn wsX8_drawOne (va_wsS RX8 171 yX8_cutToWage wsX8_cutToWage) := goodIn_app (goodIn_r _ [84, 75, 43] rfl (by decide +kernel)) ggX8_drawOne_X8_cutToWage
set_option maxRecDepth 20000 in
theorem ggX8_drawOne_X5_add : GoodIn wsX8_drawOne wsX5_add := goodIn_r _ [89, 90, 91, 92, 93, 94, 95, 96, 124, 125, 126, 127, 128, 129, 130] rfl (by decide +kernel)
set_option maxRecDepth 20000 in
theorem gX8_drawOne_X5_add : GoodIn wsX8_drawOne (wsV RX8 175 RX5 yX5_add wsX5_add) := goodIn_app (goodIn_r _ [85, 86, 87, 88] rfl (by decide +kernel)) ggX8_drawOne_X5_add
theorem bnames01cX8_drawOne_0 : ((dk_l cX8_drawOne).drop 0).take 52 = [42, 180, 0, 39, 42, 180, 0, 19, 180, 0, 134, 182, 0, 137, 61, 42, 180, 0, 39, 16, 12, 182, 0, 137, 4, 96, 62, 42, 180, 0, 19, 42, 180, 0, 39, 42, 180, 0, 19, 180, 0, 141, 182, 0, 137, 182, 0, 144, 54, 4, 42, 180] := by decide +kernel
theorem dX8_drawOne_0 : decode cX8_drawOne 0 = .ok (.aload_n 0, 1) := dk_42 (c := cX8_drawOne) (pc := 0) (dk_at bnames01cX8_drawOne_0 0)
theorem dX8_drawOne_1 : decode cX8_drawOne 1 = .ok (.getfield 39, 3) := dk_180 (c := cX8_drawOne) (pc := 1) (a := 0) (b := 39) (dk_at bnames01cX8_drawOne_0 1) rfl
theorem dX8_drawOne_4 : decode cX8_drawOne 4 = .ok (.aload_n 0, 1) := dk_42 (c := cX8_drawOne) (pc := 4) (dk_at bnames01cX8_drawOne_0 4)
theorem dX8_drawOne_5 : decode cX8_drawOne 5 = .ok (.getfield 19, 3) := dk_180 (c := cX8_drawOne) (pc := 5) (a := 0) (b := 19) (dk_at bnames01cX8_drawOne_0 5) rfl
theorem dX8_drawOne_8 : decode cX8_drawOne 8 = .ok (.getfield 134, 3) := dk_180 (c := cX8_drawOne) (pc := 8) (a := 0) (b := 134) (dk_at bnames01cX8_drawOne_0 8) rfl
theorem dX8_drawOne_11 : decode cX8_drawOne 11 = .ok (.invokevirtual 137, 3) := dk_182 (c := cX8_drawOne) (pc := 11) (a := 0) (b := 137) (dk_at bnames01cX8_drawOne_0 11) rfl
theorem dX8_drawOne_14 : decode cX8_drawOne 14 = .ok (.istore_n 2, 1) := dk_61 (c := cX8_drawOne) (pc := 14) (dk_at bnames01cX8_drawOne_0 14)
theorem dX8_drawOne_15 : decode cX8_drawOne 15 = .ok (.aload_n 0, 1) := dk_42 (c := cX8_drawOne) (pc := 15) (dk_at bnames01cX8_drawOne_0 15)
theorem dX8_drawOne_16 : decode cX8_drawOne 16 = .ok (.getfield 39, 3) := dk_180 (c := cX8_drawOne) (pc := 16) (a := 0) (b := 39) (dk_at bnames01cX8_drawOne_0 16) rfl
theorem dX8_drawOne_19 : decode cX8_drawOne 19 = .ok (.bipush 12, 2) := dk_16 (c := cX8_drawOne) (pc := 19) (a := 12) (dk_at bnames01cX8_drawOne_0 19) (by decide)
theorem dX8_drawOne_21 : decode cX8_drawOne 21 = .ok (.invokevirtual 137, 3) := dk_182 (c := cX8_drawOne) (pc := 21) (a := 0) (b := 137) (dk_at bnames01cX8_drawOne_0 21) rfl
theorem dX8_drawOne_24 : decode cX8_drawOne 24 = .ok (.iconst 1, 1) := dk_4 (c := cX8_drawOne) (pc := 24) (dk_at bnames01cX8_drawOne_0 24)
theorem dX8_drawOne_25 : decode cX8_drawOne 25 = .ok (.iadd, 1) := dk_96 (c := cX8_drawOne) (pc := 25) (dk_at bnames01cX8_drawOne_0 25)
theorem dX8_drawOne_26 : decode cX8_drawOne 26 = .ok (.istore_n 3, 1) := dk_62 (c := cX8_drawOne) (pc := 26) (dk_at bnames01cX8_drawOne_0 26)
theorem dX8_drawOne_27 : decode cX8_drawOne 27 = .ok (.aload_n 0, 1) := dk_42 (c := cX8_drawOne) (pc := 27) (dk_at bnames01cX8_drawOne_0 27)
theorem dX8_drawOne_28 : decode cX8_drawOne 28 = .ok (.getfield 19, 3) := dk_180 (c := cX8_drawOne) (pc := 28) (a := 0) (b := 19) (dk_at bnames01cX8_drawOne_0 28) rfl
theorem dX8_drawOne_31 : decode cX8_drawOne 31 = .ok (.aload_n 0, 1) := dk_42 (c := cX8_drawOne) (pc := 31) (dk_at bnames01cX8_drawOne_0 31)
theorem dX8_drawOne_32 : decode cX8_drawOne 32 = .ok (.getfield 39, 3) := dk_180 (c := cX8_drawOne) (pc := 32) (a := 0) (b := 39) (dk_at bnames01cX8_drawOne_0 32) rfl
theorem dX8_drawOne_35 : decode cX8_drawOne 35 = .ok (.aload_n 0, 1) := dk_42 (c := cX8_drawOne) (pc := 35) (dk_at bnames01cX8_drawOne_0 35)
theorem dX8_drawOne_36 : decode cX8_drawOne 36 = .ok (.getfield 19, 3) := dk_180 (c := cX8_drawOne) (pc := 36) (a := 0) (b := 19) (dk_at bnames01cX8_drawOne_0 36) rfl
theorem dX8_drawOne_39 : decode cX8_drawOne 39 = .ok (.getfield 141, 3) := dk_180 (c := cX8_drawOne) (pc := 39) (a := 0) (b := 141) (dk_at bnames01cX8_drawOne_0 39) rfl
theorem dX8_drawOne_42 : decode cX8_drawOne 42 = .ok (.invokevirtual 137, 3) := dk_182 (c := cX8_drawOne) (pc := 42) (a := 0) (b := 137) (dk_at bnames01cX8_drawOne_0 42) rfl
theorem dX8_drawOne_45 : decode cX8_drawOne 45 = .ok (.invokevirtual 144, 3) := dk_182 (c := cX8_drawOne) (pc := 45) (a := 0) (b := 144) (dk_at bnames01cX8_drawOne_0 45) rfl
theorem bnames01cX8_drawOne_48 : ((dk_l cX8_drawOne).drop 48).take 52 = [54, 4, 42, 180, 0, 19, 180, 0, 147, 21, 4, 46, 42, 180, 0, 39, 42, 180, 0, 19, 180, 0, 151, 21, 4, 46, 4, 96, 182, 0, 137, 96, 54, 5, 42, 180, 0, 39, 5, 42, 180, 0, 19, 180, 0, 154, 104, 4, 96, 182, 0, 137] := by decide +kernel
theorem dX8_drawOne_48 : decode cX8_drawOne 48 = .ok (.istore 4, 2) := dk_54 (c := cX8_drawOne) (pc := 48) (a := 4) (dk_at bnames01cX8_drawOne_48 0) rfl
theorem dX8_drawOne_50 : decode cX8_drawOne 50 = .ok (.aload_n 0, 1) := dk_42 (c := cX8_drawOne) (pc := 50) (dk_at bnames01cX8_drawOne_48 2)
theorem dX8_drawOne_51 : decode cX8_drawOne 51 = .ok (.getfield 19, 3) := dk_180 (c := cX8_drawOne) (pc := 51) (a := 0) (b := 19) (dk_at bnames01cX8_drawOne_48 3) rfl
theorem dX8_drawOne_54 : decode cX8_drawOne 54 = .ok (.getfield 147, 3) := dk_180 (c := cX8_drawOne) (pc := 54) (a := 0) (b := 147) (dk_at bnames01cX8_drawOne_48 6) rfl
theorem dX8_drawOne_57 : decode cX8_drawOne 57 = .ok (.iload 4, 2) := dk_21 (c := cX8_drawOne) (pc := 57) (a := 4) (dk_at bnames01cX8_drawOne_48 9) rfl
theorem dX8_drawOne_59 : decode cX8_drawOne 59 = .ok (.iaload, 1) := dk_46 (c := cX8_drawOne) (pc := 59) (dk_at bnames01cX8_drawOne_48 11)
theorem dX8_drawOne_60 : decode cX8_drawOne 60 = .ok (.aload_n 0, 1) := dk_42 (c := cX8_drawOne) (pc := 60) (dk_at bnames01cX8_drawOne_48 12)
theorem dX8_drawOne_61 : decode cX8_drawOne 61 = .ok (.getfield 39, 3) := dk_180 (c := cX8_drawOne) (pc := 61) (a := 0) (b := 39) (dk_at bnames01cX8_drawOne_48 13) rfl
theorem dX8_drawOne_64 : decode cX8_drawOne 64 = .ok (.aload_n 0, 1) := dk_42 (c := cX8_drawOne) (pc := 64) (dk_at bnames01cX8_drawOne_48 16)
theorem dX8_drawOne_65 : decode cX8_drawOne 65 = .ok (.getfield 19, 3) := dk_180 (c := cX8_drawOne) (pc := 65) (a := 0) (b := 19) (dk_at bnames01cX8_drawOne_48 17) rfl
theorem dX8_drawOne_68 : decode cX8_drawOne 68 = .ok (.getfield 151, 3) := dk_180 (c := cX8_drawOne) (pc := 68) (a := 0) (b := 151) (dk_at bnames01cX8_drawOne_48 20) rfl
theorem dX8_drawOne_71 : decode cX8_drawOne 71 = .ok (.iload 4, 2) := dk_21 (c := cX8_drawOne) (pc := 71) (a := 4) (dk_at bnames01cX8_drawOne_48 23) rfl
theorem dX8_drawOne_73 : decode cX8_drawOne 73 = .ok (.iaload, 1) := dk_46 (c := cX8_drawOne) (pc := 73) (dk_at bnames01cX8_drawOne_48 25)
theorem dX8_drawOne_74 : decode cX8_drawOne 74 = .ok (.iconst 1, 1) := dk_4 (c := cX8_drawOne) (pc := 74) (dk_at bnames01cX8_drawOne_48 26)
theorem dX8_drawOne_75 : decode cX8_drawOne 75 = .ok (.iadd, 1) := dk_96 (c := cX8_drawOne) (pc := 75) (dk_at bnames01cX8_drawOne_48 27)
theorem dX8_drawOne_76 : decode cX8_drawOne 76 = .ok (.invokevirtual 137, 3) := dk_182 (c := cX8_drawOne) (pc := 76) (a := 0) (b := 137) (dk_at bnames01cX8_drawOne_48 28) rfl
theorem dX8_drawOne_79 : decode cX8_drawOne 79 = .ok (.iadd, 1) := dk_96 (c := cX8_drawOne) (pc := 79) (dk_at bnames01cX8_drawOne_48 31)
theorem dX8_drawOne_80 : decode cX8_drawOne 80 = .ok (.istore 5, 2) := dk_54 (c := cX8_drawOne) (pc := 80) (a := 5) (dk_at bnames01cX8_drawOne_48 32) rfl
theorem dX8_drawOne_82 : decode cX8_drawOne 82 = .ok (.aload_n 0, 1) := dk_42 (c := cX8_drawOne) (pc := 82) (dk_at bnames01cX8_drawOne_48 34)
theorem dX8_drawOne_83 : decode cX8_drawOne 83 = .ok (.getfield 39, 3) := dk_180 (c := cX8_drawOne) (pc := 83) (a := 0) (b := 39) (dk_at bnames01cX8_drawOne_48 35) rfl
theorem dX8_drawOne_86 : decode cX8_drawOne 86 = .ok (.iconst 2, 1) := dk_5 (c := cX8_drawOne) (pc := 86) (dk_at bnames01cX8_drawOne_48 38)
theorem dX8_drawOne_87 : decode cX8_drawOne 87 = .ok (.aload_n 0, 1) := dk_42 (c := cX8_drawOne) (pc := 87) (dk_at bnames01cX8_drawOne_48 39)
theorem dX8_drawOne_88 : decode cX8_drawOne 88 = .ok (.getfield 19, 3) := dk_180 (c := cX8_drawOne) (pc := 88) (a := 0) (b := 19) (dk_at bnames01cX8_drawOne_48 40) rfl
theorem dX8_drawOne_91 : decode cX8_drawOne 91 = .ok (.getfield 154, 3) := dk_180 (c := cX8_drawOne) (pc := 91) (a := 0) (b := 154) (dk_at bnames01cX8_drawOne_48 43) rfl
theorem dX8_drawOne_94 : decode cX8_drawOne 94 = .ok (.imul, 1) := dk_104 (c := cX8_drawOne) (pc := 94) (dk_at bnames01cX8_drawOne_48 46)
theorem dX8_drawOne_95 : decode cX8_drawOne 95 = .ok (.iconst 1, 1) := dk_4 (c := cX8_drawOne) (pc := 95) (dk_at bnames01cX8_drawOne_48 47)
theorem bnames01cX8_drawOne_96 : ((dk_l cX8_drawOne).drop 96).take 52 = [96, 182, 0, 137, 42, 180, 0, 19, 180, 0, 154, 100, 54, 6, 42, 180, 0, 19, 180, 0, 157, 21, 4, 46, 42, 180, 0, 19, 29, 182, 0, 160, 96, 54, 7, 17, 1, 44, 42, 180, 0, 19, 28, 29, 182, 0, 98, 21, 5, 184, 0, 163] := by decide +kernel
theorem dX8_drawOne_96 : decode cX8_drawOne 96 = .ok (.iadd, 1) := dk_96 (c := cX8_drawOne) (pc := 96) (dk_at bnames01cX8_drawOne_96 0)
theorem dX8_drawOne_97 : decode cX8_drawOne 97 = .ok (.invokevirtual 137, 3) := dk_182 (c := cX8_drawOne) (pc := 97) (a := 0) (b := 137) (dk_at bnames01cX8_drawOne_96 1) rfl
theorem dX8_drawOne_100 : decode cX8_drawOne 100 = .ok (.aload_n 0, 1) := dk_42 (c := cX8_drawOne) (pc := 100) (dk_at bnames01cX8_drawOne_96 4)
theorem dX8_drawOne_101 : decode cX8_drawOne 101 = .ok (.getfield 19, 3) := dk_180 (c := cX8_drawOne) (pc := 101) (a := 0) (b := 19) (dk_at bnames01cX8_drawOne_96 5) rfl
theorem dX8_drawOne_104 : decode cX8_drawOne 104 = .ok (.getfield 154, 3) := dk_180 (c := cX8_drawOne) (pc := 104) (a := 0) (b := 154) (dk_at bnames01cX8_drawOne_96 8) rfl
theorem dX8_drawOne_107 : decode cX8_drawOne 107 = .ok (.isub, 1) := dk_100 (c := cX8_drawOne) (pc := 107) (dk_at bnames01cX8_drawOne_96 11)
theorem dX8_drawOne_108 : decode cX8_drawOne 108 = .ok (.istore 6, 2) := dk_54 (c := cX8_drawOne) (pc := 108) (a := 6) (dk_at bnames01cX8_drawOne_96 12) rfl
theorem dX8_drawOne_110 : decode cX8_drawOne 110 = .ok (.aload_n 0, 1) := dk_42 (c := cX8_drawOne) (pc := 110) (dk_at bnames01cX8_drawOne_96 14)
theorem dX8_drawOne_111 : decode cX8_drawOne 111 = .ok (.getfield 19, 3) := dk_180 (c := cX8_drawOne) (pc := 111) (a := 0) (b := 19) (dk_at bnames01cX8_drawOne_96 15) rfl
theorem dX8_drawOne_114 : decode cX8_drawOne 114 = .ok (.getfield 157, 3) := dk_180 (c := cX8_drawOne) (pc := 114) (a := 0) (b := 157) (dk_at bnames01cX8_drawOne_96 18) rfl
theorem dX8_drawOne_117 : decode cX8_drawOne 117 = .ok (.iload 4, 2) := dk_21 (c := cX8_drawOne) (pc := 117) (a := 4) (dk_at bnames01cX8_drawOne_96 21) rfl
theorem dX8_drawOne_119 : decode cX8_drawOne 119 = .ok (.iaload, 1) := dk_46 (c := cX8_drawOne) (pc := 119) (dk_at bnames01cX8_drawOne_96 23)
theorem dX8_drawOne_120 : decode cX8_drawOne 120 = .ok (.aload_n 0, 1) := dk_42 (c := cX8_drawOne) (pc := 120) (dk_at bnames01cX8_drawOne_96 24)
theorem dX8_drawOne_121 : decode cX8_drawOne 121 = .ok (.getfield 19, 3) := dk_180 (c := cX8_drawOne) (pc := 121) (a := 0) (b := 19) (dk_at bnames01cX8_drawOne_96 25) rfl
theorem dX8_drawOne_124 : decode cX8_drawOne 124 = .ok (.iload_n 3, 1) := dk_29 (c := cX8_drawOne) (pc := 124) (dk_at bnames01cX8_drawOne_96 28)
theorem dX8_drawOne_125 : decode cX8_drawOne 125 = .ok (.invokevirtual 160, 3) := dk_182 (c := cX8_drawOne) (pc := 125) (a := 0) (b := 160) (dk_at bnames01cX8_drawOne_96 29) rfl
theorem dX8_drawOne_128 : decode cX8_drawOne 128 = .ok (.iadd, 1) := dk_96 (c := cX8_drawOne) (pc := 128) (dk_at bnames01cX8_drawOne_96 32)
theorem dX8_drawOne_129 : decode cX8_drawOne 129 = .ok (.istore 7, 2) := dk_54 (c := cX8_drawOne) (pc := 129) (a := 7) (dk_at bnames01cX8_drawOne_96 33) rfl
theorem dX8_drawOne_131 : decode cX8_drawOne 131 = .ok (.sipush 300, 3) := dk_17 (c := cX8_drawOne) (pc := 131) (a := 1) (b := 44) (dk_at bnames01cX8_drawOne_96 35) (by decide)
theorem dX8_drawOne_134 : decode cX8_drawOne 134 = .ok (.aload_n 0, 1) := dk_42 (c := cX8_drawOne) (pc := 134) (dk_at bnames01cX8_drawOne_96 38)
theorem dX8_drawOne_135 : decode cX8_drawOne 135 = .ok (.getfield 19, 3) := dk_180 (c := cX8_drawOne) (pc := 135) (a := 0) (b := 19) (dk_at bnames01cX8_drawOne_96 39) rfl
theorem dX8_drawOne_138 : decode cX8_drawOne 138 = .ok (.iload_n 2, 1) := dk_28 (c := cX8_drawOne) (pc := 138) (dk_at bnames01cX8_drawOne_96 42)
theorem dX8_drawOne_139 : decode cX8_drawOne 139 = .ok (.iload_n 3, 1) := dk_29 (c := cX8_drawOne) (pc := 139) (dk_at bnames01cX8_drawOne_96 43)
theorem dX8_drawOne_140 : decode cX8_drawOne 140 = .ok (.invokevirtual 98, 3) := dk_182 (c := cX8_drawOne) (pc := 140) (a := 0) (b := 98) (dk_at bnames01cX8_drawOne_96 44) rfl
theorem dX8_drawOne_143 : decode cX8_drawOne 143 = .ok (.iload 5, 2) := dk_21 (c := cX8_drawOne) (pc := 143) (a := 5) (dk_at bnames01cX8_drawOne_96 47) rfl
theorem bnames01cX8_drawOne_144 : ((dk_l cX8_drawOne).drop 144).take 47 = [5, 184, 0, 163, 184, 0, 168, 54, 8, 42, 180, 0, 19, 21, 8, 21, 7, 29, 28, 182, 0, 109, 133, 21, 6, 133, 97, 184, 0, 171, 54, 9, 43, 28, 29, 21, 8, 21, 9, 21, 7, 21, 5, 182, 0, 175, 177] := by decide +kernel
theorem dX8_drawOne_145 : decode cX8_drawOne 145 = .ok (.invokestatic 163, 3) := dk_184 (c := cX8_drawOne) (pc := 145) (a := 0) (b := 163) (dk_at bnames01cX8_drawOne_144 1) rfl
theorem dX8_drawOne_148 : decode cX8_drawOne 148 = .ok (.invokestatic 168, 3) := dk_184 (c := cX8_drawOne) (pc := 148) (a := 0) (b := 168) (dk_at bnames01cX8_drawOne_144 4) rfl
theorem dX8_drawOne_151 : decode cX8_drawOne 151 = .ok (.istore 8, 2) := dk_54 (c := cX8_drawOne) (pc := 151) (a := 8) (dk_at bnames01cX8_drawOne_144 7) rfl
theorem dX8_drawOne_153 : decode cX8_drawOne 153 = .ok (.aload_n 0, 1) := dk_42 (c := cX8_drawOne) (pc := 153) (dk_at bnames01cX8_drawOne_144 9)
theorem dX8_drawOne_154 : decode cX8_drawOne 154 = .ok (.getfield 19, 3) := dk_180 (c := cX8_drawOne) (pc := 154) (a := 0) (b := 19) (dk_at bnames01cX8_drawOne_144 10) rfl
theorem dX8_drawOne_157 : decode cX8_drawOne 157 = .ok (.iload 8, 2) := dk_21 (c := cX8_drawOne) (pc := 157) (a := 8) (dk_at bnames01cX8_drawOne_144 13) rfl
theorem dX8_drawOne_159 : decode cX8_drawOne 159 = .ok (.iload 7, 2) := dk_21 (c := cX8_drawOne) (pc := 159) (a := 7) (dk_at bnames01cX8_drawOne_144 15) rfl
theorem dX8_drawOne_161 : decode cX8_drawOne 161 = .ok (.iload_n 3, 1) := dk_29 (c := cX8_drawOne) (pc := 161) (dk_at bnames01cX8_drawOne_144 17)
theorem dX8_drawOne_162 : decode cX8_drawOne 162 = .ok (.iload_n 2, 1) := dk_28 (c := cX8_drawOne) (pc := 162) (dk_at bnames01cX8_drawOne_144 18)
theorem dX8_drawOne_163 : decode cX8_drawOne 163 = .ok (.invokevirtual 109, 3) := dk_182 (c := cX8_drawOne) (pc := 163) (a := 0) (b := 109) (dk_at bnames01cX8_drawOne_144 19) rfl
theorem dX8_drawOne_166 : decode cX8_drawOne 166 = .ok (.i2l, 1) := dk_133 (c := cX8_drawOne) (pc := 166) (dk_at bnames01cX8_drawOne_144 22)
theorem dX8_drawOne_167 : decode cX8_drawOne 167 = .ok (.iload 6, 2) := dk_21 (c := cX8_drawOne) (pc := 167) (a := 6) (dk_at bnames01cX8_drawOne_144 23) rfl
theorem dX8_drawOne_169 : decode cX8_drawOne 169 = .ok (.i2l, 1) := dk_133 (c := cX8_drawOne) (pc := 169) (dk_at bnames01cX8_drawOne_144 25)
theorem dX8_drawOne_170 : decode cX8_drawOne 170 = .ok (.ladd, 1) := dk_97 (c := cX8_drawOne) (pc := 170) (dk_at bnames01cX8_drawOne_144 26)
theorem dX8_drawOne_171 : decode cX8_drawOne 171 = .ok (.invokestatic 171, 3) := dk_184 (c := cX8_drawOne) (pc := 171) (a := 0) (b := 171) (dk_at bnames01cX8_drawOne_144 27) rfl
theorem dX8_drawOne_174 : decode cX8_drawOne 174 = .ok (.istore 9, 2) := dk_54 (c := cX8_drawOne) (pc := 174) (a := 9) (dk_at bnames01cX8_drawOne_144 30) rfl
theorem dX8_drawOne_176 : decode cX8_drawOne 176 = .ok (.aload_n 1, 1) := dk_43 (c := cX8_drawOne) (pc := 176) (dk_at bnames01cX8_drawOne_144 32)
theorem dX8_drawOne_177 : decode cX8_drawOne 177 = .ok (.iload_n 2, 1) := dk_28 (c := cX8_drawOne) (pc := 177) (dk_at bnames01cX8_drawOne_144 33)
theorem dX8_drawOne_178 : decode cX8_drawOne 178 = .ok (.iload_n 3, 1) := dk_29 (c := cX8_drawOne) (pc := 178) (dk_at bnames01cX8_drawOne_144 34)
theorem dX8_drawOne_179 : decode cX8_drawOne 179 = .ok (.iload 8, 2) := dk_21 (c := cX8_drawOne) (pc := 179) (a := 8) (dk_at bnames01cX8_drawOne_144 35) rfl
theorem dX8_drawOne_181 : decode cX8_drawOne 181 = .ok (.iload 9, 2) := dk_21 (c := cX8_drawOne) (pc := 181) (a := 9) (dk_at bnames01cX8_drawOne_144 37) rfl
theorem dX8_drawOne_183 : decode cX8_drawOne 183 = .ok (.iload 7, 2) := dk_21 (c := cX8_drawOne) (pc := 183) (a := 7) (dk_at bnames01cX8_drawOne_144 39) rfl
theorem dX8_drawOne_185 : decode cX8_drawOne 185 = .ok (.iload 5, 2) := dk_21 (c := cX8_drawOne) (pc := 185) (a := 5) (dk_at bnames01cX8_drawOne_144 41) rfl
theorem dX8_drawOne_187 : decode cX8_drawOne 187 = .ok (.invokevirtual 175, 3) := dk_182 (c := cX8_drawOne) (pc := 187) (a := 0) (b := 175) (dk_at bnames01cX8_drawOne_144 43) rfl
theorem dX8_drawOne_190 : decode cX8_drawOne 190 = .ok (.return_, 1) := dk_177 (c := cX8_drawOne) (pc := 190) (dk_at bnames01cX8_drawOne_144 46)
set_option maxRecDepth 20000 in
theorem ggX8_sheet_X8_tellSheet : GoodIn wsX8_sheet wsX8_tellSheet := goodIn_r _ [5, 6, 7, 8, 9, 10, 11, 12, 13, 14, 15, 16, 17, 18, 19, 20, 21, 22, 23, 24, 25, 26, 27, 28, 29, 30, 31, 32, 33, 34, 35, 36, 37, 38, 39, 40, 41, 42, 43, 44, 45, 46, 47, 48, 49, 50, 51, 52, 53, 54, 55, 56, 57] rfl (by decide +kernel)
set_option maxRecDepth 20000 in
theorem gX8_sheet_X8_tellSheet : GoodIn wsX8_sheet (wsV RX8 179 RX8 yX8_tellSheet wsX8_tellSheet) := goodIn_app (goodIn_r _ [1, 2, 3, 4] rfl (by decide +kernel)) ggX8_sheet_X8_tellSheet
theorem bnames01cX8_sheet_0 : ((dk_l cX8_sheet).drop 0).take 14 = [42, 27, 133, 28, 133, 29, 133, 21, 4, 133, 182, 0, 179, 172] := by decide +kernel
theorem dX8_sheet_0 : decode cX8_sheet 0 = .ok (.aload_n 0, 1) := dk_42 (c := cX8_sheet) (pc := 0) (dk_at bnames01cX8_sheet_0 0)
theorem dX8_sheet_1 : decode cX8_sheet 1 = .ok (.iload_n 1, 1) := dk_27 (c := cX8_sheet) (pc := 1) (dk_at bnames01cX8_sheet_0 1)
theorem dX8_sheet_2 : decode cX8_sheet 2 = .ok (.i2l, 1) := dk_133 (c := cX8_sheet) (pc := 2) (dk_at bnames01cX8_sheet_0 2)
theorem dX8_sheet_3 : decode cX8_sheet 3 = .ok (.iload_n 2, 1) := dk_28 (c := cX8_sheet) (pc := 3) (dk_at bnames01cX8_sheet_0 3)
theorem dX8_sheet_4 : decode cX8_sheet 4 = .ok (.i2l, 1) := dk_133 (c := cX8_sheet) (pc := 4) (dk_at bnames01cX8_sheet_0 4)
theorem dX8_sheet_5 : decode cX8_sheet 5 = .ok (.iload_n 3, 1) := dk_29 (c := cX8_sheet) (pc := 5) (dk_at bnames01cX8_sheet_0 5)
theorem dX8_sheet_6 : decode cX8_sheet 6 = .ok (.i2l, 1) := dk_133 (c := cX8_sheet) (pc := 6) (dk_at bnames01cX8_sheet_0 6)
theorem dX8_sheet_7 : decode cX8_sheet 7 = .ok (.iload 4, 2) := dk_21 (c := cX8_sheet) (pc := 7) (a := 4) (dk_at bnames01cX8_sheet_0 7) rfl
theorem dX8_sheet_9 : decode cX8_sheet 9 = .ok (.i2l, 1) := dk_133 (c := cX8_sheet) (pc := 9) (dk_at bnames01cX8_sheet_0 9)
theorem dX8_sheet_10 : decode cX8_sheet 10 = .ok (.invokevirtual 179, 3) := dk_182 (c := cX8_sheet) (pc := 10) (a := 0) (b := 179) (dk_at bnames01cX8_sheet_0 10) rfl
theorem dX8_sheet_13 : decode cX8_sheet 13 = .ok (.ireturn, 1) := dk_172 (c := cX8_sheet) (pc := 13) (dk_at bnames01cX8_sheet_0 13)
set_option maxRecDepth 20000 in
theorem ggX8_tellSheet_X5_add : GoodIn wsX8_tellSheet wsX5_add := goodIn_r _ [12, 13, 14, 15, 16, 17, 18, 19, 46, 47, 48, 49, 50, 51, 52] rfl (by decide +kernel)
set_option maxRecDepth 20000 in
theorem gX8_tellSheet_X5_add : GoodIn wsX8_tellSheet (wsV RX8 175 RX5 yX5_add wsX5_add) := goodIn_app (goodIn_r _ [8, 9, 10, 11] rfl (by decide +kernel)) ggX8_tellSheet_X5_add
theorem bnames01cX8_tellSheet_0 : ((dk_l cX8_tellSheet).drop 0).take 52 = [31, 9, 148, 155, 0, 30, 31, 42, 180, 0, 19, 180, 0, 134, 133, 148, 156, 0, 17, 33, 10, 148, 155, 0, 11, 33, 20, 0, 183, 148, 158, 0, 6, 16, 254, 172, 22, 5, 9, 148, 155, 0, 28, 22, 5, 20, 0, 185, 148, 157, 0, 19] := by decide +kernel
theorem dX8_tellSheet_0 : decode cX8_tellSheet 0 = .ok (.lload_n 1, 1) := dk_31 (c := cX8_tellSheet) (pc := 0) (dk_at bnames01cX8_tellSheet_0 0)
theorem dX8_tellSheet_1 : decode cX8_tellSheet 1 = .ok (.lconst 0, 1) := dk_9 (c := cX8_tellSheet) (pc := 1) (dk_at bnames01cX8_tellSheet_0 1)
theorem dX8_tellSheet_2 : decode cX8_tellSheet 2 = .ok (.lcmp, 1) := dk_148 (c := cX8_tellSheet) (pc := 2) (dk_at bnames01cX8_tellSheet_0 2)
theorem dX8_tellSheet_3 : decode cX8_tellSheet 3 = .ok (.ifCond .lt 30, 3) := dk_155 (c := cX8_tellSheet) (pc := 3) (a := 0) (b := 30) (dk_at bnames01cX8_tellSheet_0 3) (by decide)
theorem dX8_tellSheet_6 : decode cX8_tellSheet 6 = .ok (.lload_n 1, 1) := dk_31 (c := cX8_tellSheet) (pc := 6) (dk_at bnames01cX8_tellSheet_0 6)
theorem dX8_tellSheet_7 : decode cX8_tellSheet 7 = .ok (.aload_n 0, 1) := dk_42 (c := cX8_tellSheet) (pc := 7) (dk_at bnames01cX8_tellSheet_0 7)
theorem dX8_tellSheet_8 : decode cX8_tellSheet 8 = .ok (.getfield 19, 3) := dk_180 (c := cX8_tellSheet) (pc := 8) (a := 0) (b := 19) (dk_at bnames01cX8_tellSheet_0 8) rfl
theorem dX8_tellSheet_11 : decode cX8_tellSheet 11 = .ok (.getfield 134, 3) := dk_180 (c := cX8_tellSheet) (pc := 11) (a := 0) (b := 134) (dk_at bnames01cX8_tellSheet_0 11) rfl
theorem dX8_tellSheet_14 : decode cX8_tellSheet 14 = .ok (.i2l, 1) := dk_133 (c := cX8_tellSheet) (pc := 14) (dk_at bnames01cX8_tellSheet_0 14)
theorem dX8_tellSheet_15 : decode cX8_tellSheet 15 = .ok (.lcmp, 1) := dk_148 (c := cX8_tellSheet) (pc := 15) (dk_at bnames01cX8_tellSheet_0 15)
theorem dX8_tellSheet_16 : decode cX8_tellSheet 16 = .ok (.ifCond .ge 17, 3) := dk_156 (c := cX8_tellSheet) (pc := 16) (a := 0) (b := 17) (dk_at bnames01cX8_tellSheet_0 16) (by decide)
theorem dX8_tellSheet_19 : decode cX8_tellSheet 19 = .ok (.lload_n 3, 1) := dk_33 (c := cX8_tellSheet) (pc := 19) (dk_at bnames01cX8_tellSheet_0 19)
theorem dX8_tellSheet_20 : decode cX8_tellSheet 20 = .ok (.lconst 1, 1) := dk_10 (c := cX8_tellSheet) (pc := 20) (dk_at bnames01cX8_tellSheet_0 20)
theorem dX8_tellSheet_21 : decode cX8_tellSheet 21 = .ok (.lcmp, 1) := dk_148 (c := cX8_tellSheet) (pc := 21) (dk_at bnames01cX8_tellSheet_0 21)
theorem dX8_tellSheet_22 : decode cX8_tellSheet 22 = .ok (.ifCond .lt 11, 3) := dk_155 (c := cX8_tellSheet) (pc := 22) (a := 0) (b := 11) (dk_at bnames01cX8_tellSheet_0 22) (by decide)
theorem dX8_tellSheet_25 : decode cX8_tellSheet 25 = .ok (.lload_n 3, 1) := dk_33 (c := cX8_tellSheet) (pc := 25) (dk_at bnames01cX8_tellSheet_0 25)
theorem dX8_tellSheet_26 : decode cX8_tellSheet 26 = .ok (.ldc2_w 183, 3) := dk_20 (c := cX8_tellSheet) (pc := 26) (a := 0) (b := 183) (dk_at bnames01cX8_tellSheet_0 26) rfl
theorem dX8_tellSheet_29 : decode cX8_tellSheet 29 = .ok (.lcmp, 1) := dk_148 (c := cX8_tellSheet) (pc := 29) (dk_at bnames01cX8_tellSheet_0 29)
theorem dX8_tellSheet_30 : decode cX8_tellSheet 30 = .ok (.ifCond .le 6, 3) := dk_158 (c := cX8_tellSheet) (pc := 30) (a := 0) (b := 6) (dk_at bnames01cX8_tellSheet_0 30) (by decide)
theorem dX8_tellSheet_33 : decode cX8_tellSheet 33 = .ok (.bipush (-2), 2) := dk_16 (c := cX8_tellSheet) (pc := 33) (a := 254) (dk_at bnames01cX8_tellSheet_0 33) (by decide)
theorem dX8_tellSheet_35 : decode cX8_tellSheet 35 = .ok (.ireturn, 1) := dk_172 (c := cX8_tellSheet) (pc := 35) (dk_at bnames01cX8_tellSheet_0 35)
theorem dX8_tellSheet_36 : decode cX8_tellSheet 36 = .ok (.lload 5, 2) := dk_22 (c := cX8_tellSheet) (pc := 36) (a := 5) (dk_at bnames01cX8_tellSheet_0 36) rfl
theorem dX8_tellSheet_38 : decode cX8_tellSheet 38 = .ok (.lconst 0, 1) := dk_9 (c := cX8_tellSheet) (pc := 38) (dk_at bnames01cX8_tellSheet_0 38)
theorem dX8_tellSheet_39 : decode cX8_tellSheet 39 = .ok (.lcmp, 1) := dk_148 (c := cX8_tellSheet) (pc := 39) (dk_at bnames01cX8_tellSheet_0 39)
theorem dX8_tellSheet_40 : decode cX8_tellSheet 40 = .ok (.ifCond .lt 28, 3) := dk_155 (c := cX8_tellSheet) (pc := 40) (a := 0) (b := 28) (dk_at bnames01cX8_tellSheet_0 40) (by decide)
theorem dX8_tellSheet_43 : decode cX8_tellSheet 43 = .ok (.lload 5, 2) := dk_22 (c := cX8_tellSheet) (pc := 43) (a := 5) (dk_at bnames01cX8_tellSheet_0 43) rfl
theorem dX8_tellSheet_45 : decode cX8_tellSheet 45 = .ok (.ldc2_w 185, 3) := dk_20 (c := cX8_tellSheet) (pc := 45) (a := 0) (b := 185) (dk_at bnames01cX8_tellSheet_0 45) rfl
theorem bnames01cX8_tellSheet_48 : ((dk_l cX8_tellSheet).drop 48).take 52 = [148, 157, 0, 19, 22, 7, 9, 148, 155, 0, 12, 22, 7, 20, 0, 187, 148, 158, 0, 6, 16, 254, 172, 42, 180, 0, 29, 180, 0, 127, 17, 0, 200, 161, 0, 6, 16, 253, 172, 42, 180, 0, 29, 31, 136, 33, 136, 22, 5, 136, 22, 7] := by decide +kernel
theorem dX8_tellSheet_48 : decode cX8_tellSheet 48 = .ok (.lcmp, 1) := dk_148 (c := cX8_tellSheet) (pc := 48) (dk_at bnames01cX8_tellSheet_48 0)
theorem dX8_tellSheet_49 : decode cX8_tellSheet 49 = .ok (.ifCond .gt 19, 3) := dk_157 (c := cX8_tellSheet) (pc := 49) (a := 0) (b := 19) (dk_at bnames01cX8_tellSheet_48 1) (by decide)
theorem dX8_tellSheet_52 : decode cX8_tellSheet 52 = .ok (.lload 7, 2) := dk_22 (c := cX8_tellSheet) (pc := 52) (a := 7) (dk_at bnames01cX8_tellSheet_48 4) rfl
theorem dX8_tellSheet_54 : decode cX8_tellSheet 54 = .ok (.lconst 0, 1) := dk_9 (c := cX8_tellSheet) (pc := 54) (dk_at bnames01cX8_tellSheet_48 6)
theorem dX8_tellSheet_55 : decode cX8_tellSheet 55 = .ok (.lcmp, 1) := dk_148 (c := cX8_tellSheet) (pc := 55) (dk_at bnames01cX8_tellSheet_48 7)
theorem dX8_tellSheet_56 : decode cX8_tellSheet 56 = .ok (.ifCond .lt 12, 3) := dk_155 (c := cX8_tellSheet) (pc := 56) (a := 0) (b := 12) (dk_at bnames01cX8_tellSheet_48 8) (by decide)
theorem dX8_tellSheet_59 : decode cX8_tellSheet 59 = .ok (.lload 7, 2) := dk_22 (c := cX8_tellSheet) (pc := 59) (a := 7) (dk_at bnames01cX8_tellSheet_48 11) rfl
theorem dX8_tellSheet_61 : decode cX8_tellSheet 61 = .ok (.ldc2_w 187, 3) := dk_20 (c := cX8_tellSheet) (pc := 61) (a := 0) (b := 187) (dk_at bnames01cX8_tellSheet_48 13) rfl
theorem dX8_tellSheet_64 : decode cX8_tellSheet 64 = .ok (.lcmp, 1) := dk_148 (c := cX8_tellSheet) (pc := 64) (dk_at bnames01cX8_tellSheet_48 16)
theorem dX8_tellSheet_65 : decode cX8_tellSheet 65 = .ok (.ifCond .le 6, 3) := dk_158 (c := cX8_tellSheet) (pc := 65) (a := 0) (b := 6) (dk_at bnames01cX8_tellSheet_48 17) (by decide)
theorem dX8_tellSheet_68 : decode cX8_tellSheet 68 = .ok (.bipush (-2), 2) := dk_16 (c := cX8_tellSheet) (pc := 68) (a := 254) (dk_at bnames01cX8_tellSheet_48 20) (by decide)
theorem dX8_tellSheet_70 : decode cX8_tellSheet 70 = .ok (.ireturn, 1) := dk_172 (c := cX8_tellSheet) (pc := 70) (dk_at bnames01cX8_tellSheet_48 22)
theorem dX8_tellSheet_71 : decode cX8_tellSheet 71 = .ok (.aload_n 0, 1) := dk_42 (c := cX8_tellSheet) (pc := 71) (dk_at bnames01cX8_tellSheet_48 23)
theorem dX8_tellSheet_72 : decode cX8_tellSheet 72 = .ok (.getfield 29, 3) := dk_180 (c := cX8_tellSheet) (pc := 72) (a := 0) (b := 29) (dk_at bnames01cX8_tellSheet_48 24) rfl
theorem dX8_tellSheet_75 : decode cX8_tellSheet 75 = .ok (.getfield 127, 3) := dk_180 (c := cX8_tellSheet) (pc := 75) (a := 0) (b := 127) (dk_at bnames01cX8_tellSheet_48 27) rfl
theorem dX8_tellSheet_78 : decode cX8_tellSheet 78 = .ok (.sipush 200, 3) := dk_17 (c := cX8_tellSheet) (pc := 78) (a := 0) (b := 200) (dk_at bnames01cX8_tellSheet_48 30) (by decide)
theorem dX8_tellSheet_81 : decode cX8_tellSheet 81 = .ok (.if_icmp .lt 6, 3) := dk_161 (c := cX8_tellSheet) (pc := 81) (a := 0) (b := 6) (dk_at bnames01cX8_tellSheet_48 33) (by decide)
theorem dX8_tellSheet_84 : decode cX8_tellSheet 84 = .ok (.bipush (-3), 2) := dk_16 (c := cX8_tellSheet) (pc := 84) (a := 253) (dk_at bnames01cX8_tellSheet_48 36) (by decide)
theorem dX8_tellSheet_86 : decode cX8_tellSheet 86 = .ok (.ireturn, 1) := dk_172 (c := cX8_tellSheet) (pc := 86) (dk_at bnames01cX8_tellSheet_48 38)
theorem dX8_tellSheet_87 : decode cX8_tellSheet 87 = .ok (.aload_n 0, 1) := dk_42 (c := cX8_tellSheet) (pc := 87) (dk_at bnames01cX8_tellSheet_48 39)
theorem dX8_tellSheet_88 : decode cX8_tellSheet 88 = .ok (.getfield 29, 3) := dk_180 (c := cX8_tellSheet) (pc := 88) (a := 0) (b := 29) (dk_at bnames01cX8_tellSheet_48 40) rfl
theorem dX8_tellSheet_91 : decode cX8_tellSheet 91 = .ok (.lload_n 1, 1) := dk_31 (c := cX8_tellSheet) (pc := 91) (dk_at bnames01cX8_tellSheet_48 43)
theorem dX8_tellSheet_92 : decode cX8_tellSheet 92 = .ok (.l2i, 1) := dk_136 (c := cX8_tellSheet) (pc := 92) (dk_at bnames01cX8_tellSheet_48 44)
theorem dX8_tellSheet_93 : decode cX8_tellSheet 93 = .ok (.lload_n 3, 1) := dk_33 (c := cX8_tellSheet) (pc := 93) (dk_at bnames01cX8_tellSheet_48 45)
theorem dX8_tellSheet_94 : decode cX8_tellSheet 94 = .ok (.l2i, 1) := dk_136 (c := cX8_tellSheet) (pc := 94) (dk_at bnames01cX8_tellSheet_48 46)
theorem dX8_tellSheet_95 : decode cX8_tellSheet 95 = .ok (.lload 5, 2) := dk_22 (c := cX8_tellSheet) (pc := 95) (a := 5) (dk_at bnames01cX8_tellSheet_48 47) rfl
theorem bnames01cX8_tellSheet_96 : ((dk_l cX8_tellSheet).drop 96).take 22 = [5, 136, 22, 7, 136, 3, 22, 5, 136, 182, 0, 175, 42, 180, 0, 29, 180, 0, 127, 4, 100, 172] := by decide +kernel
theorem dX8_tellSheet_97 : decode cX8_tellSheet 97 = .ok (.l2i, 1) := dk_136 (c := cX8_tellSheet) (pc := 97) (dk_at bnames01cX8_tellSheet_96 1)
theorem dX8_tellSheet_98 : decode cX8_tellSheet 98 = .ok (.lload 7, 2) := dk_22 (c := cX8_tellSheet) (pc := 98) (a := 7) (dk_at bnames01cX8_tellSheet_96 2) rfl
theorem dX8_tellSheet_100 : decode cX8_tellSheet 100 = .ok (.l2i, 1) := dk_136 (c := cX8_tellSheet) (pc := 100) (dk_at bnames01cX8_tellSheet_96 4)
theorem dX8_tellSheet_101 : decode cX8_tellSheet 101 = .ok (.iconst 0, 1) := dk_3 (c := cX8_tellSheet) (pc := 101) (dk_at bnames01cX8_tellSheet_96 5)
theorem dX8_tellSheet_102 : decode cX8_tellSheet 102 = .ok (.lload 5, 2) := dk_22 (c := cX8_tellSheet) (pc := 102) (a := 5) (dk_at bnames01cX8_tellSheet_96 6) rfl
theorem dX8_tellSheet_104 : decode cX8_tellSheet 104 = .ok (.l2i, 1) := dk_136 (c := cX8_tellSheet) (pc := 104) (dk_at bnames01cX8_tellSheet_96 8)
theorem dX8_tellSheet_105 : decode cX8_tellSheet 105 = .ok (.invokevirtual 175, 3) := dk_182 (c := cX8_tellSheet) (pc := 105) (a := 0) (b := 175) (dk_at bnames01cX8_tellSheet_96 9) rfl
theorem dX8_tellSheet_108 : decode cX8_tellSheet 108 = .ok (.aload_n 0, 1) := dk_42 (c := cX8_tellSheet) (pc := 108) (dk_at bnames01cX8_tellSheet_96 12)
theorem dX8_tellSheet_109 : decode cX8_tellSheet 109 = .ok (.getfield 29, 3) := dk_180 (c := cX8_tellSheet) (pc := 109) (a := 0) (b := 29) (dk_at bnames01cX8_tellSheet_96 13) rfl
theorem dX8_tellSheet_112 : decode cX8_tellSheet 112 = .ok (.getfield 127, 3) := dk_180 (c := cX8_tellSheet) (pc := 112) (a := 0) (b := 127) (dk_at bnames01cX8_tellSheet_96 16) rfl
theorem dX8_tellSheet_115 : decode cX8_tellSheet 115 = .ok (.iconst 1, 1) := dk_4 (c := cX8_tellSheet) (pc := 115) (dk_at bnames01cX8_tellSheet_96 19)
theorem dX8_tellSheet_116 : decode cX8_tellSheet 116 = .ok (.isub, 1) := dk_100 (c := cX8_tellSheet) (pc := 116) (dk_at bnames01cX8_tellSheet_96 20)
theorem dX8_tellSheet_117 : decode cX8_tellSheet 117 = .ok (.ireturn, 1) := dk_172 (c := cX8_tellSheet) (pc := 117) (dk_at bnames01cX8_tellSheet_96 21)
set_option maxRecDepth 20000 in
theorem ggX8_told_X5_has : GoodIn wsX8_told wsX5_has := goodIn_r _ [12, 13, 24, 25, 26, 27, 28, 29, 30] rfl (by decide +kernel)
set_option maxRecDepth 20000 in
theorem gX8_told_X5_has : GoodIn wsX8_told (wsV RX8 189 RX5 yX5_has wsX5_has) := goodIn_app (goodIn_r _ [8, 9, 10, 11] rfl (by decide +kernel)) ggX8_told_X5_has
theorem bnames01cX8_told_0 : ((dk_l cX8_told).drop 0).take 52 = [42, 180, 0, 29, 27, 182, 0, 189, 154, 0, 5, 2, 172, 28, 170, 0, 0, 0, 0, 98, 0, 0, 0, 0, 0, 0, 0, 5, 0, 0, 0, 38, 0, 0, 0, 48, 0, 0, 0, 58, 0, 0, 0, 68, 0, 0, 0, 78, 0, 0, 0, 88] := by decide +kernel
theorem dX8_told_0 : decode cX8_told 0 = .ok (.aload_n 0, 1) := dk_42 (c := cX8_told) (pc := 0) (dk_at bnames01cX8_told_0 0)
theorem dX8_told_1 : decode cX8_told 1 = .ok (.getfield 29, 3) := dk_180 (c := cX8_told) (pc := 1) (a := 0) (b := 29) (dk_at bnames01cX8_told_0 1) rfl
theorem dX8_told_4 : decode cX8_told 4 = .ok (.iload_n 1, 1) := dk_27 (c := cX8_told) (pc := 4) (dk_at bnames01cX8_told_0 4)
theorem dX8_told_5 : decode cX8_told 5 = .ok (.invokevirtual 189, 3) := dk_182 (c := cX8_told) (pc := 5) (a := 0) (b := 189) (dk_at bnames01cX8_told_0 5) rfl
theorem dX8_told_8 : decode cX8_told 8 = .ok (.ifCond .ne 5, 3) := dk_154 (c := cX8_told) (pc := 8) (a := 0) (b := 5) (dk_at bnames01cX8_told_0 8) (by decide)
theorem dX8_told_11 : decode cX8_told 11 = .ok (.iconst (-1), 1) := dk_2 (c := cX8_told) (pc := 11) (dk_at bnames01cX8_told_0 11)
theorem dX8_told_12 : decode cX8_told 12 = .ok (.ireturn, 1) := dk_172 (c := cX8_told) (pc := 12) (dk_at bnames01cX8_told_0 12)
theorem dX8_told_13 : decode cX8_told 13 = .ok (.iload_n 2, 1) := dk_28 (c := cX8_told) (pc := 13) (dk_at bnames01cX8_told_0 13)
theorem dX8_told_14 : decode cX8_told 14 = .ok (.tableswitch 98 0 5 #[38, 48, 58, 68, 78, 88], 38) := by decide +kernel
theorem bnames01cX8_told_48 : ((dk_l cX8_told).drop 48).take 52 = [0, 0, 0, 88, 42, 180, 0, 29, 180, 0, 192, 27, 46, 172, 42, 180, 0, 29, 180, 0, 195, 27, 46, 172, 42, 180, 0, 29, 180, 0, 198, 27, 46, 172, 42, 180, 0, 29, 180, 0, 201, 27, 46, 172, 42, 180, 0, 29, 180, 0, 204, 27] := by decide +kernel
theorem dX8_told_52 : decode cX8_told 52 = .ok (.aload_n 0, 1) := dk_42 (c := cX8_told) (pc := 52) (dk_at bnames01cX8_told_48 4)
theorem dX8_told_53 : decode cX8_told 53 = .ok (.getfield 29, 3) := dk_180 (c := cX8_told) (pc := 53) (a := 0) (b := 29) (dk_at bnames01cX8_told_48 5) rfl
theorem dX8_told_56 : decode cX8_told 56 = .ok (.getfield 192, 3) := dk_180 (c := cX8_told) (pc := 56) (a := 0) (b := 192) (dk_at bnames01cX8_told_48 8) rfl
theorem dX8_told_59 : decode cX8_told 59 = .ok (.iload_n 1, 1) := dk_27 (c := cX8_told) (pc := 59) (dk_at bnames01cX8_told_48 11)
theorem dX8_told_60 : decode cX8_told 60 = .ok (.iaload, 1) := dk_46 (c := cX8_told) (pc := 60) (dk_at bnames01cX8_told_48 12)
theorem dX8_told_61 : decode cX8_told 61 = .ok (.ireturn, 1) := dk_172 (c := cX8_told) (pc := 61) (dk_at bnames01cX8_told_48 13)
theorem dX8_told_62 : decode cX8_told 62 = .ok (.aload_n 0, 1) := dk_42 (c := cX8_told) (pc := 62) (dk_at bnames01cX8_told_48 14)
theorem dX8_told_63 : decode cX8_told 63 = .ok (.getfield 29, 3) := dk_180 (c := cX8_told) (pc := 63) (a := 0) (b := 29) (dk_at bnames01cX8_told_48 15) rfl
theorem dX8_told_66 : decode cX8_told 66 = .ok (.getfield 195, 3) := dk_180 (c := cX8_told) (pc := 66) (a := 0) (b := 195) (dk_at bnames01cX8_told_48 18) rfl
theorem dX8_told_69 : decode cX8_told 69 = .ok (.iload_n 1, 1) := dk_27 (c := cX8_told) (pc := 69) (dk_at bnames01cX8_told_48 21)
theorem dX8_told_70 : decode cX8_told 70 = .ok (.iaload, 1) := dk_46 (c := cX8_told) (pc := 70) (dk_at bnames01cX8_told_48 22)
theorem dX8_told_71 : decode cX8_told 71 = .ok (.ireturn, 1) := dk_172 (c := cX8_told) (pc := 71) (dk_at bnames01cX8_told_48 23)
theorem dX8_told_72 : decode cX8_told 72 = .ok (.aload_n 0, 1) := dk_42 (c := cX8_told) (pc := 72) (dk_at bnames01cX8_told_48 24)
theorem dX8_told_73 : decode cX8_told 73 = .ok (.getfield 29, 3) := dk_180 (c := cX8_told) (pc := 73) (a := 0) (b := 29) (dk_at bnames01cX8_told_48 25) rfl
theorem dX8_told_76 : decode cX8_told 76 = .ok (.getfield 198, 3) := dk_180 (c := cX8_told) (pc := 76) (a := 0) (b := 198) (dk_at bnames01cX8_told_48 28) rfl
theorem dX8_told_79 : decode cX8_told 79 = .ok (.iload_n 1, 1) := dk_27 (c := cX8_told) (pc := 79) (dk_at bnames01cX8_told_48 31)
theorem dX8_told_80 : decode cX8_told 80 = .ok (.iaload, 1) := dk_46 (c := cX8_told) (pc := 80) (dk_at bnames01cX8_told_48 32)
theorem dX8_told_81 : decode cX8_told 81 = .ok (.ireturn, 1) := dk_172 (c := cX8_told) (pc := 81) (dk_at bnames01cX8_told_48 33)
theorem dX8_told_82 : decode cX8_told 82 = .ok (.aload_n 0, 1) := dk_42 (c := cX8_told) (pc := 82) (dk_at bnames01cX8_told_48 34)
theorem dX8_told_83 : decode cX8_told 83 = .ok (.getfield 29, 3) := dk_180 (c := cX8_told) (pc := 83) (a := 0) (b := 29) (dk_at bnames01cX8_told_48 35) rfl
theorem dX8_told_86 : decode cX8_told 86 = .ok (.getfield 201, 3) := dk_180 (c := cX8_told) (pc := 86) (a := 0) (b := 201) (dk_at bnames01cX8_told_48 38) rfl
theorem dX8_told_89 : decode cX8_told 89 = .ok (.iload_n 1, 1) := dk_27 (c := cX8_told) (pc := 89) (dk_at bnames01cX8_told_48 41)
theorem dX8_told_90 : decode cX8_told 90 = .ok (.iaload, 1) := dk_46 (c := cX8_told) (pc := 90) (dk_at bnames01cX8_told_48 42)
theorem dX8_told_91 : decode cX8_told 91 = .ok (.ireturn, 1) := dk_172 (c := cX8_told) (pc := 91) (dk_at bnames01cX8_told_48 43)
theorem dX8_told_92 : decode cX8_told 92 = .ok (.aload_n 0, 1) := dk_42 (c := cX8_told) (pc := 92) (dk_at bnames01cX8_told_48 44)
theorem dX8_told_93 : decode cX8_told 93 = .ok (.getfield 29, 3) := dk_180 (c := cX8_told) (pc := 93) (a := 0) (b := 29) (dk_at bnames01cX8_told_48 45) rfl
theorem bnames01cX8_told_96 : ((dk_l cX8_told).drop 96).take 18 = [180, 0, 204, 27, 46, 172, 42, 180, 0, 29, 180, 0, 205, 27, 46, 172, 2, 172] := by decide +kernel
theorem dX8_told_96 : decode cX8_told 96 = .ok (.getfield 204, 3) := dk_180 (c := cX8_told) (pc := 96) (a := 0) (b := 204) (dk_at bnames01cX8_told_96 0) rfl
theorem dX8_told_99 : decode cX8_told 99 = .ok (.iload_n 1, 1) := dk_27 (c := cX8_told) (pc := 99) (dk_at bnames01cX8_told_96 3)
theorem dX8_told_100 : decode cX8_told 100 = .ok (.iaload, 1) := dk_46 (c := cX8_told) (pc := 100) (dk_at bnames01cX8_told_96 4)
theorem dX8_told_101 : decode cX8_told 101 = .ok (.ireturn, 1) := dk_172 (c := cX8_told) (pc := 101) (dk_at bnames01cX8_told_96 5)
theorem dX8_told_102 : decode cX8_told 102 = .ok (.aload_n 0, 1) := dk_42 (c := cX8_told) (pc := 102) (dk_at bnames01cX8_told_96 6)
theorem dX8_told_103 : decode cX8_told 103 = .ok (.getfield 29, 3) := dk_180 (c := cX8_told) (pc := 103) (a := 0) (b := 29) (dk_at bnames01cX8_told_96 7) rfl
theorem dX8_told_106 : decode cX8_told 106 = .ok (.getfield 205, 3) := dk_180 (c := cX8_told) (pc := 106) (a := 0) (b := 205) (dk_at bnames01cX8_told_96 10) rfl
theorem dX8_told_109 : decode cX8_told 109 = .ok (.iload_n 1, 1) := dk_27 (c := cX8_told) (pc := 109) (dk_at bnames01cX8_told_96 13)
theorem dX8_told_110 : decode cX8_told 110 = .ok (.iaload, 1) := dk_46 (c := cX8_told) (pc := 110) (dk_at bnames01cX8_told_96 14)
theorem dX8_told_111 : decode cX8_told 111 = .ok (.ireturn, 1) := dk_172 (c := cX8_told) (pc := 111) (dk_at bnames01cX8_told_96 15)
theorem dX8_told_112 : decode cX8_told 112 = .ok (.iconst (-1), 1) := dk_2 (c := cX8_told) (pc := 112) (dk_at bnames01cX8_told_96 16)
theorem dX8_told_113 : decode cX8_told 113 = .ok (.ireturn, 1) := dk_172 (c := cX8_told) (pc := 113) (dk_at bnames01cX8_told_96 17)
set_option maxRecDepth 20000 in
theorem ggX8_would_X8_isPlaced : GoodIn wsX8_would wsX8_isPlaced := goodIn_r _ [13, 2, 3, 14, 15, 16, 17, 18, 19, 20, 21, 22, 23, 24, 25, 42, 43, 44, 45, 46, 47, 48, 49, 50, 51, 52, 53, 54, 55, 56, 57, 58, 59, 60, 61, 62, 63, 64, 65, 66, 67, 68, 69, 70, 71, 72, 73, 74] rfl (by decide +kernel)
set_option maxRecDepth 20000 in
theorem gX8_would_X8_isPlaced : GoodIn wsX8_would (wsV RX8 206 RX8 yX8_isPlaced wsX8_isPlaced) := goodIn_app (goodIn_r _ [9, 10, 11, 12] rfl (by decide +kernel)) ggX8_would_X8_isPlaced
set_option maxRecDepth 20000 in
theorem ggX8_would_X8_isMonth : GoodIn wsX8_would wsX8_isMonth := goodIn_r _ [28, 29, 30, 12, 31] rfl (by decide +kernel)
set_option maxRecDepth 20000 in
theorem gX8_would_X8_isMonth : GoodIn wsX8_would (va_wsS RX8 95 yX8_isMonth wsX8_isMonth) := goodIn_app (goodIn_r _ [26, 27, 12] rfl (by decide +kernel)) ggX8_would_X8_isMonth
set_option maxRecDepth 20000 in
theorem ggX8_would_X3_forcedAt : GoodIn wsX8_would wsX3_forcedAt := goodIn_r _ [35, 36, 37, 38, 39, 23, 40, 41, 59, 60, 61, 62, 63, 64, 65, 66, 67, 68, 69, 70, 71, 72, 73, 74] rfl (by decide +kernel)
set_option maxRecDepth 20000 in
theorem gX8_would_X3_forcedAt : GoodIn wsX8_would (wsV RX8 98 RX3 yX3_forcedAt wsX3_forcedAt) := goodIn_app (goodIn_r _ [32, 33, 34, 23] rfl (by decide +kernel)) ggX8_would_X3_forcedAt
theorem bnames01cX8_would_0 : ((dk_l cX8_would).drop 0).take 52 = [42, 42, 180, 0, 29, 27, 182, 0, 206, 153, 0, 10, 28, 184, 0, 95, 154, 0, 6, 16, 254, 172, 42, 180, 0, 19, 42, 180, 0, 29, 180, 0, 192, 27, 46, 28, 182, 0, 98, 42, 180, 0, 29, 180, 0, 205, 27, 46, 184, 0, 163, 172] := by decide +kernel
theorem dX8_would_0 : decode cX8_would 0 = .ok (.aload_n 0, 1) := dk_42 (c := cX8_would) (pc := 0) (dk_at bnames01cX8_would_0 0)
theorem dX8_would_1 : decode cX8_would 1 = .ok (.aload_n 0, 1) := dk_42 (c := cX8_would) (pc := 1) (dk_at bnames01cX8_would_0 1)
theorem dX8_would_2 : decode cX8_would 2 = .ok (.getfield 29, 3) := dk_180 (c := cX8_would) (pc := 2) (a := 0) (b := 29) (dk_at bnames01cX8_would_0 2) rfl
theorem dX8_would_5 : decode cX8_would 5 = .ok (.iload_n 1, 1) := dk_27 (c := cX8_would) (pc := 5) (dk_at bnames01cX8_would_0 5)
theorem dX8_would_6 : decode cX8_would 6 = .ok (.invokevirtual 206, 3) := dk_182 (c := cX8_would) (pc := 6) (a := 0) (b := 206) (dk_at bnames01cX8_would_0 6) rfl
theorem dX8_would_9 : decode cX8_would 9 = .ok (.ifCond .eq 10, 3) := dk_153 (c := cX8_would) (pc := 9) (a := 0) (b := 10) (dk_at bnames01cX8_would_0 9) (by decide)
theorem dX8_would_12 : decode cX8_would 12 = .ok (.iload_n 2, 1) := dk_28 (c := cX8_would) (pc := 12) (dk_at bnames01cX8_would_0 12)
theorem dX8_would_13 : decode cX8_would 13 = .ok (.invokestatic 95, 3) := dk_184 (c := cX8_would) (pc := 13) (a := 0) (b := 95) (dk_at bnames01cX8_would_0 13) rfl
theorem dX8_would_16 : decode cX8_would 16 = .ok (.ifCond .ne 6, 3) := dk_154 (c := cX8_would) (pc := 16) (a := 0) (b := 6) (dk_at bnames01cX8_would_0 16) (by decide)
theorem dX8_would_19 : decode cX8_would 19 = .ok (.bipush (-2), 2) := dk_16 (c := cX8_would) (pc := 19) (a := 254) (dk_at bnames01cX8_would_0 19) (by decide)
theorem dX8_would_21 : decode cX8_would 21 = .ok (.ireturn, 1) := dk_172 (c := cX8_would) (pc := 21) (dk_at bnames01cX8_would_0 21)
theorem dX8_would_22 : decode cX8_would 22 = .ok (.aload_n 0, 1) := dk_42 (c := cX8_would) (pc := 22) (dk_at bnames01cX8_would_0 22)
theorem dX8_would_23 : decode cX8_would 23 = .ok (.getfield 19, 3) := dk_180 (c := cX8_would) (pc := 23) (a := 0) (b := 19) (dk_at bnames01cX8_would_0 23) rfl
theorem dX8_would_26 : decode cX8_would 26 = .ok (.aload_n 0, 1) := dk_42 (c := cX8_would) (pc := 26) (dk_at bnames01cX8_would_0 26)
theorem dX8_would_27 : decode cX8_would 27 = .ok (.getfield 29, 3) := dk_180 (c := cX8_would) (pc := 27) (a := 0) (b := 29) (dk_at bnames01cX8_would_0 27) rfl
theorem dX8_would_30 : decode cX8_would 30 = .ok (.getfield 192, 3) := dk_180 (c := cX8_would) (pc := 30) (a := 0) (b := 192) (dk_at bnames01cX8_would_0 30) rfl
theorem dX8_would_33 : decode cX8_would 33 = .ok (.iload_n 1, 1) := dk_27 (c := cX8_would) (pc := 33) (dk_at bnames01cX8_would_0 33)
theorem dX8_would_34 : decode cX8_would 34 = .ok (.iaload, 1) := dk_46 (c := cX8_would) (pc := 34) (dk_at bnames01cX8_would_0 34)
theorem dX8_would_35 : decode cX8_would 35 = .ok (.iload_n 2, 1) := dk_28 (c := cX8_would) (pc := 35) (dk_at bnames01cX8_would_0 35)
theorem dX8_would_36 : decode cX8_would 36 = .ok (.invokevirtual 98, 3) := dk_182 (c := cX8_would) (pc := 36) (a := 0) (b := 98) (dk_at bnames01cX8_would_0 36) rfl
theorem dX8_would_39 : decode cX8_would 39 = .ok (.aload_n 0, 1) := dk_42 (c := cX8_would) (pc := 39) (dk_at bnames01cX8_would_0 39)
theorem dX8_would_40 : decode cX8_would 40 = .ok (.getfield 29, 3) := dk_180 (c := cX8_would) (pc := 40) (a := 0) (b := 29) (dk_at bnames01cX8_would_0 40) rfl
theorem dX8_would_43 : decode cX8_would 43 = .ok (.getfield 205, 3) := dk_180 (c := cX8_would) (pc := 43) (a := 0) (b := 205) (dk_at bnames01cX8_would_0 43) rfl
theorem dX8_would_46 : decode cX8_would 46 = .ok (.iload_n 1, 1) := dk_27 (c := cX8_would) (pc := 46) (dk_at bnames01cX8_would_0 46)
theorem dX8_would_47 : decode cX8_would 47 = .ok (.iaload, 1) := dk_46 (c := cX8_would) (pc := 47) (dk_at bnames01cX8_would_0 47)
theorem bnames01cX8_would_48 : ((dk_l cX8_would).drop 48).take 4 = [184, 0, 163, 172] := by decide +kernel
theorem dX8_would_48 : decode cX8_would 48 = .ok (.invokestatic 163, 3) := dk_184 (c := cX8_would) (pc := 48) (a := 0) (b := 163) (dk_at bnames01cX8_would_48 0) rfl
theorem dX8_would_51 : decode cX8_would 51 = .ok (.ireturn, 1) := dk_172 (c := cX8_would) (pc := 51) (dk_at bnames01cX8_would_48 3)
set_option maxRecDepth 20000 in
theorem ggX8_worth_X8_isPlaced : GoodIn wsX8_worth wsX8_isPlaced := goodIn_r _ [7, 8, 9, 10, 11, 12, 13, 14, 15, 16, 17, 18, 19, 20, 21, 68, 69, 70, 71, 72, 73, 74, 75, 76, 77, 78, 79, 80, 81, 82, 83, 84, 85, 86, 87, 88, 89, 90, 91, 92, 93, 94, 95, 96, 97, 98, 99, 100] rfl (by decide +kernel)
set_option maxRecDepth 20000 in
theorem gX8_worth_X8_isPlaced : GoodIn wsX8_worth (wsV RX8 206 RX8 yX8_isPlaced wsX8_isPlaced) := goodIn_app (goodIn_r _ [3, 4, 5, 6] rfl (by decide +kernel)) ggX8_worth_X8_isPlaced
set_option maxRecDepth 20000 in
theorem ggX8_worth_X8_gainOf : GoodIn wsX8_worth wsX8_gainOf := goodIn_r _ [25, 26, 27, 9, 28, 29, 30, 31, 32, 8, 33, 34, 35, 19, 36, 37, 38, 39, 40, 41, 42, 43, 44, 45, 46, 47, 48, 49, 50, 51, 52, 53, 54, 55, 56, 57, 58, 59, 6, 60, 61, 62, 63, 64, 65, 66, 67, 78, 79, 80, 81, 82, 83, 84, 68, 69, 70, 71, 72, 73, 74, 75, 76, 77, 85, 86, 87, 88, 89, 90, 91, 92, 93, 94, 95, 96, 97, 98, 99, 100] rfl (by decide +kernel)
set_option maxRecDepth 20000 in
theorem gX8_worth_X8_gainOf : GoodIn wsX8_worth (wsV RX8 210 RX8 yX8_gainOf wsX8_gainOf) := goodIn_app (goodIn_r _ [22, 23, 24, 6] rfl (by decide +kernel)) ggX8_worth_X8_gainOf
theorem bnames01cX8_worth_0 : ((dk_l cX8_worth).drop 0).take 27 = [42, 42, 180, 0, 29, 27, 182, 0, 206, 153, 0, 15, 42, 42, 180, 0, 29, 27, 182, 0, 210, 167, 0, 5, 18, 214, 172] := by decide +kernel
theorem dX8_worth_0 : decode cX8_worth 0 = .ok (.aload_n 0, 1) := dk_42 (c := cX8_worth) (pc := 0) (dk_at bnames01cX8_worth_0 0)
theorem dX8_worth_1 : decode cX8_worth 1 = .ok (.aload_n 0, 1) := dk_42 (c := cX8_worth) (pc := 1) (dk_at bnames01cX8_worth_0 1)
theorem dX8_worth_2 : decode cX8_worth 2 = .ok (.getfield 29, 3) := dk_180 (c := cX8_worth) (pc := 2) (a := 0) (b := 29) (dk_at bnames01cX8_worth_0 2) rfl
theorem dX8_worth_5 : decode cX8_worth 5 = .ok (.iload_n 1, 1) := dk_27 (c := cX8_worth) (pc := 5) (dk_at bnames01cX8_worth_0 5)
theorem dX8_worth_6 : decode cX8_worth 6 = .ok (.invokevirtual 206, 3) := dk_182 (c := cX8_worth) (pc := 6) (a := 0) (b := 206) (dk_at bnames01cX8_worth_0 6) rfl
theorem dX8_worth_9 : decode cX8_worth 9 = .ok (.ifCond .eq 15, 3) := dk_153 (c := cX8_worth) (pc := 9) (a := 0) (b := 15) (dk_at bnames01cX8_worth_0 9) (by decide)
theorem dX8_worth_12 : decode cX8_worth 12 = .ok (.aload_n 0, 1) := dk_42 (c := cX8_worth) (pc := 12) (dk_at bnames01cX8_worth_0 12)
theorem dX8_worth_13 : decode cX8_worth 13 = .ok (.aload_n 0, 1) := dk_42 (c := cX8_worth) (pc := 13) (dk_at bnames01cX8_worth_0 13)
theorem dX8_worth_14 : decode cX8_worth 14 = .ok (.getfield 29, 3) := dk_180 (c := cX8_worth) (pc := 14) (a := 0) (b := 29) (dk_at bnames01cX8_worth_0 14) rfl
theorem dX8_worth_17 : decode cX8_worth 17 = .ok (.iload_n 1, 1) := dk_27 (c := cX8_worth) (pc := 17) (dk_at bnames01cX8_worth_0 17)
theorem dX8_worth_18 : decode cX8_worth 18 = .ok (.invokevirtual 210, 3) := dk_182 (c := cX8_worth) (pc := 18) (a := 0) (b := 210) (dk_at bnames01cX8_worth_0 18) rfl
theorem dX8_worth_21 : decode cX8_worth 21 = .ok (.goto 5, 3) := dk_167 (c := cX8_worth) (pc := 21) (a := 0) (b := 5) (dk_at bnames01cX8_worth_0 21) (by decide)
theorem dX8_worth_24 : decode cX8_worth 24 = .ok (.ldc 214, 2) := dk_18 (c := cX8_worth) (pc := 24) (a := 214) (dk_at bnames01cX8_worth_0 24) rfl
theorem dX8_worth_26 : decode cX8_worth 26 = .ok (.ireturn, 1) := dk_172 (c := cX8_worth) (pc := 26) (dk_at bnames01cX8_worth_0 26)
set_option maxRecDepth 20000 in
theorem ggX8_month_X8_within : GoodIn wsX8_month wsX8_within := goodIn_r _ [7] rfl (by decide +kernel)
set_option maxRecDepth 20000 in
theorem gX8_month_X8_within : GoodIn wsX8_month (va_wsS RX8 105 yX8_within wsX8_within) := goodIn_app (goodIn_r _ [4, 5, 6] rfl (by decide +kernel)) ggX8_month_X8_within
set_option maxRecDepth 20000 in
theorem ggX8_month_X8_monthPart : GoodIn wsX8_month wsX8_monthPart := goodIn_r _ [11, 1, 12, 13, 14, 15, 16, 6, 17, 18, 19, 3, 20, 21, 22, 23, 24, 25, 26, 27, 28, 29, 30, 31, 32, 33, 34, 35, 36, 37, 38, 39, 40, 41, 42, 43, 44, 45, 46, 47, 48, 49, 50, 51, 52, 53, 54, 55, 56, 57, 58, 59, 60, 61, 62, 63, 64, 65, 66, 67, 68, 69, 70, 71, 72, 73, 74, 75, 76, 77, 78, 79] rfl (by decide +kernel)
set_option maxRecDepth 20000 in
theorem gX8_month_X8_monthPart : GoodIn wsX8_month (wsV RX8 215 RX8 yX8_monthPart wsX8_monthPart) := goodIn_app (goodIn_r _ [8, 9, 10, 6] rfl (by decide +kernel)) ggX8_month_X8_monthPart
theorem bnames01cX8_month_0 : ((dk_l cX8_month).drop 0).take 52 = [27, 3, 16, 12, 184, 0, 105, 153, 0, 12, 28, 3, 6, 184, 0, 105, 154, 0, 5, 2, 172, 3, 62, 3, 54, 4, 21, 4, 42, 180, 0, 29, 180, 0, 127, 162, 0, 37, 27, 153, 0, 17, 42, 180, 0, 29, 180, 0, 195, 21, 4, 46] := by decide +kernel
theorem dX8_month_0 : decode cX8_month 0 = .ok (.iload_n 1, 1) := dk_27 (c := cX8_month) (pc := 0) (dk_at bnames01cX8_month_0 0)
theorem dX8_month_1 : decode cX8_month 1 = .ok (.iconst 0, 1) := dk_3 (c := cX8_month) (pc := 1) (dk_at bnames01cX8_month_0 1)
theorem dX8_month_2 : decode cX8_month 2 = .ok (.bipush 12, 2) := dk_16 (c := cX8_month) (pc := 2) (a := 12) (dk_at bnames01cX8_month_0 2) (by decide)
theorem dX8_month_4 : decode cX8_month 4 = .ok (.invokestatic 105, 3) := dk_184 (c := cX8_month) (pc := 4) (a := 0) (b := 105) (dk_at bnames01cX8_month_0 4) rfl
theorem dX8_month_7 : decode cX8_month 7 = .ok (.ifCond .eq 12, 3) := dk_153 (c := cX8_month) (pc := 7) (a := 0) (b := 12) (dk_at bnames01cX8_month_0 7) (by decide)
theorem dX8_month_10 : decode cX8_month 10 = .ok (.iload_n 2, 1) := dk_28 (c := cX8_month) (pc := 10) (dk_at bnames01cX8_month_0 10)
theorem dX8_month_11 : decode cX8_month 11 = .ok (.iconst 0, 1) := dk_3 (c := cX8_month) (pc := 11) (dk_at bnames01cX8_month_0 11)
theorem dX8_month_12 : decode cX8_month 12 = .ok (.iconst 3, 1) := dk_6 (c := cX8_month) (pc := 12) (dk_at bnames01cX8_month_0 12)
theorem dX8_month_13 : decode cX8_month 13 = .ok (.invokestatic 105, 3) := dk_184 (c := cX8_month) (pc := 13) (a := 0) (b := 105) (dk_at bnames01cX8_month_0 13) rfl
theorem dX8_month_16 : decode cX8_month 16 = .ok (.ifCond .ne 5, 3) := dk_154 (c := cX8_month) (pc := 16) (a := 0) (b := 5) (dk_at bnames01cX8_month_0 16) (by decide)
theorem dX8_month_19 : decode cX8_month 19 = .ok (.iconst (-1), 1) := dk_2 (c := cX8_month) (pc := 19) (dk_at bnames01cX8_month_0 19)
theorem dX8_month_20 : decode cX8_month 20 = .ok (.ireturn, 1) := dk_172 (c := cX8_month) (pc := 20) (dk_at bnames01cX8_month_0 20)
theorem dX8_month_21 : decode cX8_month 21 = .ok (.iconst 0, 1) := dk_3 (c := cX8_month) (pc := 21) (dk_at bnames01cX8_month_0 21)
theorem dX8_month_22 : decode cX8_month 22 = .ok (.istore_n 3, 1) := dk_62 (c := cX8_month) (pc := 22) (dk_at bnames01cX8_month_0 22)
theorem dX8_month_23 : decode cX8_month 23 = .ok (.iconst 0, 1) := dk_3 (c := cX8_month) (pc := 23) (dk_at bnames01cX8_month_0 23)
theorem dX8_month_24 : decode cX8_month 24 = .ok (.istore 4, 2) := dk_54 (c := cX8_month) (pc := 24) (a := 4) (dk_at bnames01cX8_month_0 24) rfl
theorem dX8_month_26 : decode cX8_month 26 = .ok (.iload 4, 2) := dk_21 (c := cX8_month) (pc := 26) (a := 4) (dk_at bnames01cX8_month_0 26) rfl
theorem dX8_month_28 : decode cX8_month 28 = .ok (.aload_n 0, 1) := dk_42 (c := cX8_month) (pc := 28) (dk_at bnames01cX8_month_0 28)
theorem dX8_month_29 : decode cX8_month 29 = .ok (.getfield 29, 3) := dk_180 (c := cX8_month) (pc := 29) (a := 0) (b := 29) (dk_at bnames01cX8_month_0 29) rfl
theorem dX8_month_32 : decode cX8_month 32 = .ok (.getfield 127, 3) := dk_180 (c := cX8_month) (pc := 32) (a := 0) (b := 127) (dk_at bnames01cX8_month_0 32) rfl
theorem dX8_month_35 : decode cX8_month 35 = .ok (.if_icmp .ge 37, 3) := dk_162 (c := cX8_month) (pc := 35) (a := 0) (b := 37) (dk_at bnames01cX8_month_0 35) (by decide)
theorem dX8_month_38 : decode cX8_month 38 = .ok (.iload_n 1, 1) := dk_27 (c := cX8_month) (pc := 38) (dk_at bnames01cX8_month_0 38)
theorem dX8_month_39 : decode cX8_month 39 = .ok (.ifCond .eq 17, 3) := dk_153 (c := cX8_month) (pc := 39) (a := 0) (b := 17) (dk_at bnames01cX8_month_0 39) (by decide)
theorem dX8_month_42 : decode cX8_month 42 = .ok (.aload_n 0, 1) := dk_42 (c := cX8_month) (pc := 42) (dk_at bnames01cX8_month_0 42)
theorem dX8_month_43 : decode cX8_month 43 = .ok (.getfield 29, 3) := dk_180 (c := cX8_month) (pc := 43) (a := 0) (b := 29) (dk_at bnames01cX8_month_0 43) rfl
theorem dX8_month_46 : decode cX8_month 46 = .ok (.getfield 195, 3) := dk_180 (c := cX8_month) (pc := 46) (a := 0) (b := 195) (dk_at bnames01cX8_month_0 46) rfl
theorem bnames01cX8_month_48 : ((dk_l cX8_month).drop 48).take 26 = [195, 21, 4, 46, 27, 160, 0, 13, 29, 42, 21, 4, 28, 182, 0, 215, 96, 62, 132, 4, 1, 167, 255, 213, 29, 172] := by decide +kernel
theorem dX8_month_49 : decode cX8_month 49 = .ok (.iload 4, 2) := dk_21 (c := cX8_month) (pc := 49) (a := 4) (dk_at bnames01cX8_month_48 1) rfl
theorem dX8_month_51 : decode cX8_month 51 = .ok (.iaload, 1) := dk_46 (c := cX8_month) (pc := 51) (dk_at bnames01cX8_month_48 3)
theorem dX8_month_52 : decode cX8_month 52 = .ok (.iload_n 1, 1) := dk_27 (c := cX8_month) (pc := 52) (dk_at bnames01cX8_month_48 4)
theorem dX8_month_53 : decode cX8_month 53 = .ok (.if_icmp .ne 13, 3) := dk_160 (c := cX8_month) (pc := 53) (a := 0) (b := 13) (dk_at bnames01cX8_month_48 5) (by decide)
theorem dX8_month_56 : decode cX8_month 56 = .ok (.iload_n 3, 1) := dk_29 (c := cX8_month) (pc := 56) (dk_at bnames01cX8_month_48 8)
theorem dX8_month_57 : decode cX8_month 57 = .ok (.aload_n 0, 1) := dk_42 (c := cX8_month) (pc := 57) (dk_at bnames01cX8_month_48 9)
theorem dX8_month_58 : decode cX8_month 58 = .ok (.iload 4, 2) := dk_21 (c := cX8_month) (pc := 58) (a := 4) (dk_at bnames01cX8_month_48 10) rfl
theorem dX8_month_60 : decode cX8_month 60 = .ok (.iload_n 2, 1) := dk_28 (c := cX8_month) (pc := 60) (dk_at bnames01cX8_month_48 12)
theorem dX8_month_61 : decode cX8_month 61 = .ok (.invokevirtual 215, 3) := dk_182 (c := cX8_month) (pc := 61) (a := 0) (b := 215) (dk_at bnames01cX8_month_48 13) rfl
theorem dX8_month_64 : decode cX8_month 64 = .ok (.iadd, 1) := dk_96 (c := cX8_month) (pc := 64) (dk_at bnames01cX8_month_48 16)
theorem dX8_month_65 : decode cX8_month 65 = .ok (.istore_n 3, 1) := dk_62 (c := cX8_month) (pc := 65) (dk_at bnames01cX8_month_48 17)
theorem dX8_month_66 : decode cX8_month 66 = .ok (.iinc 4 1, 3) := dk_132 (c := cX8_month) (pc := 66) (a := 4) (b := 1) (dk_at bnames01cX8_month_48 18) rfl (by decide)
theorem dX8_month_69 : decode cX8_month 69 = .ok (.goto (-43), 3) := dk_167 (c := cX8_month) (pc := 69) (a := 255) (b := 213) (dk_at bnames01cX8_month_48 21) (by decide)
theorem dX8_month_72 : decode cX8_month 72 = .ok (.iload_n 3, 1) := dk_29 (c := cX8_month) (pc := 72) (dk_at bnames01cX8_month_48 24)
theorem dX8_month_73 : decode cX8_month 73 = .ok (.ireturn, 1) := dk_172 (c := cX8_month) (pc := 73) (dk_at bnames01cX8_month_48 25)
set_option maxRecDepth 20000 in
theorem ggX8_monthPart_X8_isHeld : GoodIn wsX8_monthPart wsX8_isHeld := goodIn_r _ [8, 9, 10, 11, 12, 13, 14, 15, 7, 16, 17, 18, 19, 20, 21, 22, 23, 24, 25, 26, 27, 28, 29, 30, 31, 32, 33, 34, 35, 36, 37, 38, 39, 40, 41, 42, 43, 44, 45, 46, 47, 48, 49, 50, 51, 52, 53, 54, 55, 56, 57, 58, 59, 60, 61, 62, 63, 64, 65, 66, 67, 68, 69, 70, 71] rfl (by decide +kernel)
set_option maxRecDepth 20000 in
theorem gX8_monthPart_X8_isHeld : GoodIn wsX8_monthPart (wsV RX8 218 RX8 yX8_isHeld wsX8_isHeld) := goodIn_app (goodIn_r _ [4, 5, 6, 7] rfl (by decide +kernel)) ggX8_monthPart_X8_isHeld
theorem bnames01cX8_monthPart_0 : ((dk_l cX8_monthPart).drop 0).take 52 = [28, 170, 0, 0, 0, 0, 0, 49, 0, 0, 0, 0, 0, 0, 0, 2, 0, 0, 0, 27, 0, 0, 0, 29, 0, 0, 0, 39, 4, 172, 42, 180, 0, 29, 180, 0, 198, 27, 46, 172, 42, 180, 0, 29, 180, 0, 201, 27, 46, 172, 42, 42] := by decide +kernel
theorem dX8_monthPart_0 : decode cX8_monthPart 0 = .ok (.iload_n 2, 1) := dk_28 (c := cX8_monthPart) (pc := 0) (dk_at bnames01cX8_monthPart_0 0)
theorem dX8_monthPart_1 : decode cX8_monthPart 1 = .ok (.tableswitch 49 0 2 #[27, 29, 39], 27) := by decide +kernel
theorem dX8_monthPart_28 : decode cX8_monthPart 28 = .ok (.iconst 1, 1) := dk_4 (c := cX8_monthPart) (pc := 28) (dk_at bnames01cX8_monthPart_0 28)
theorem dX8_monthPart_29 : decode cX8_monthPart 29 = .ok (.ireturn, 1) := dk_172 (c := cX8_monthPart) (pc := 29) (dk_at bnames01cX8_monthPart_0 29)
theorem dX8_monthPart_30 : decode cX8_monthPart 30 = .ok (.aload_n 0, 1) := dk_42 (c := cX8_monthPart) (pc := 30) (dk_at bnames01cX8_monthPart_0 30)
theorem dX8_monthPart_31 : decode cX8_monthPart 31 = .ok (.getfield 29, 3) := dk_180 (c := cX8_monthPart) (pc := 31) (a := 0) (b := 29) (dk_at bnames01cX8_monthPart_0 31) rfl
theorem dX8_monthPart_34 : decode cX8_monthPart 34 = .ok (.getfield 198, 3) := dk_180 (c := cX8_monthPart) (pc := 34) (a := 0) (b := 198) (dk_at bnames01cX8_monthPart_0 34) rfl
theorem dX8_monthPart_37 : decode cX8_monthPart 37 = .ok (.iload_n 1, 1) := dk_27 (c := cX8_monthPart) (pc := 37) (dk_at bnames01cX8_monthPart_0 37)
theorem dX8_monthPart_38 : decode cX8_monthPart 38 = .ok (.iaload, 1) := dk_46 (c := cX8_monthPart) (pc := 38) (dk_at bnames01cX8_monthPart_0 38)
theorem dX8_monthPart_39 : decode cX8_monthPart 39 = .ok (.ireturn, 1) := dk_172 (c := cX8_monthPart) (pc := 39) (dk_at bnames01cX8_monthPart_0 39)
theorem dX8_monthPart_40 : decode cX8_monthPart 40 = .ok (.aload_n 0, 1) := dk_42 (c := cX8_monthPart) (pc := 40) (dk_at bnames01cX8_monthPart_0 40)
theorem dX8_monthPart_41 : decode cX8_monthPart 41 = .ok (.getfield 29, 3) := dk_180 (c := cX8_monthPart) (pc := 41) (a := 0) (b := 29) (dk_at bnames01cX8_monthPart_0 41) rfl
theorem dX8_monthPart_44 : decode cX8_monthPart 44 = .ok (.getfield 201, 3) := dk_180 (c := cX8_monthPart) (pc := 44) (a := 0) (b := 201) (dk_at bnames01cX8_monthPart_0 44) rfl
theorem dX8_monthPart_47 : decode cX8_monthPart 47 = .ok (.iload_n 1, 1) := dk_27 (c := cX8_monthPart) (pc := 47) (dk_at bnames01cX8_monthPart_0 47)
theorem bnames01cX8_monthPart_48 : ((dk_l cX8_monthPart).drop 48).take 20 = [46, 172, 42, 42, 180, 0, 29, 27, 182, 0, 218, 153, 0, 7, 4, 167, 0, 4, 3, 172] := by decide +kernel
theorem dX8_monthPart_48 : decode cX8_monthPart 48 = .ok (.iaload, 1) := dk_46 (c := cX8_monthPart) (pc := 48) (dk_at bnames01cX8_monthPart_48 0)
theorem dX8_monthPart_49 : decode cX8_monthPart 49 = .ok (.ireturn, 1) := dk_172 (c := cX8_monthPart) (pc := 49) (dk_at bnames01cX8_monthPart_48 1)
theorem dX8_monthPart_50 : decode cX8_monthPart 50 = .ok (.aload_n 0, 1) := dk_42 (c := cX8_monthPart) (pc := 50) (dk_at bnames01cX8_monthPart_48 2)
theorem dX8_monthPart_51 : decode cX8_monthPart 51 = .ok (.aload_n 0, 1) := dk_42 (c := cX8_monthPart) (pc := 51) (dk_at bnames01cX8_monthPart_48 3)
theorem dX8_monthPart_52 : decode cX8_monthPart 52 = .ok (.getfield 29, 3) := dk_180 (c := cX8_monthPart) (pc := 52) (a := 0) (b := 29) (dk_at bnames01cX8_monthPart_48 4) rfl
theorem dX8_monthPart_55 : decode cX8_monthPart 55 = .ok (.iload_n 1, 1) := dk_27 (c := cX8_monthPart) (pc := 55) (dk_at bnames01cX8_monthPart_48 7)
theorem dX8_monthPart_56 : decode cX8_monthPart 56 = .ok (.invokevirtual 218, 3) := dk_182 (c := cX8_monthPart) (pc := 56) (a := 0) (b := 218) (dk_at bnames01cX8_monthPart_48 8) rfl
theorem dX8_monthPart_59 : decode cX8_monthPart 59 = .ok (.ifCond .eq 7, 3) := dk_153 (c := cX8_monthPart) (pc := 59) (a := 0) (b := 7) (dk_at bnames01cX8_monthPart_48 11) (by decide)
theorem dX8_monthPart_62 : decode cX8_monthPart 62 = .ok (.iconst 1, 1) := dk_4 (c := cX8_monthPart) (pc := 62) (dk_at bnames01cX8_monthPart_48 14)
theorem dX8_monthPart_63 : decode cX8_monthPart 63 = .ok (.goto 4, 3) := dk_167 (c := cX8_monthPart) (pc := 63) (a := 0) (b := 4) (dk_at bnames01cX8_monthPart_48 15) (by decide)
theorem dX8_monthPart_66 : decode cX8_monthPart 66 = .ok (.iconst 0, 1) := dk_3 (c := cX8_monthPart) (pc := 66) (dk_at bnames01cX8_monthPart_48 18)
theorem dX8_monthPart_67 : decode cX8_monthPart 67 = .ok (.ireturn, 1) := dk_172 (c := cX8_monthPart) (pc := 67) (dk_at bnames01cX8_monthPart_48 19)
set_option maxRecDepth 20000 in
theorem ggX8_plain_X8_plainOf : GoodIn wsX8_plain wsX8_plainOf := goodIn_r _ [5, 6, 7, 8, 9, 10, 11, 12, 13, 14, 15, 16, 17, 18, 19, 20, 21, 22, 23, 24, 25, 26, 27, 28, 29, 30, 31, 32, 33, 34, 35, 36, 37, 38, 4, 39, 40, 41, 46, 47, 48, 49, 50, 51, 52, 53, 54, 55, 56, 57, 58, 59, 60, 61, 62, 63, 64, 65, 66, 67, 68, 69, 70, 71, 72, 73] rfl (by decide +kernel)
set_option maxRecDepth 20000 in
theorem gX8_plain_X8_plainOf : GoodIn wsX8_plain (wsV RX8 221 RX8 yX8_plainOf wsX8_plainOf) := goodIn_app (goodIn_r _ [1, 2, 3, 4] rfl (by decide +kernel)) ggX8_plain_X8_plainOf
set_option maxRecDepth 20000 in
theorem ggX8_plain_X8_toFace : GoodIn wsX8_plain wsX8_toFace := goodIn_r _ [44, 40, 45] rfl (by decide +kernel)
set_option maxRecDepth 20000 in
theorem gX8_plain_X8_toFace : GoodIn wsX8_plain (va_wsS RX8 225 yX8_toFace wsX8_toFace) := goodIn_app (goodIn_r _ [42, 43, 4] rfl (by decide +kernel)) ggX8_plain_X8_toFace
theorem bnames01cX8_plain_0 : ((dk_l cX8_plain).drop 0).take 8 = [42, 182, 0, 221, 184, 0, 225, 173] := by decide +kernel
theorem dX8_plain_0 : decode cX8_plain 0 = .ok (.aload_n 0, 1) := dk_42 (c := cX8_plain) (pc := 0) (dk_at bnames01cX8_plain_0 0)
theorem dX8_plain_1 : decode cX8_plain 1 = .ok (.invokevirtual 221, 3) := dk_182 (c := cX8_plain) (pc := 1) (a := 0) (b := 221) (dk_at bnames01cX8_plain_0 1) rfl
theorem dX8_plain_4 : decode cX8_plain 4 = .ok (.invokestatic 225, 3) := dk_184 (c := cX8_plain) (pc := 4) (a := 0) (b := 225) (dk_at bnames01cX8_plain_0 4) rfl
theorem dX8_plain_7 : decode cX8_plain 7 = .ok (.lreturn, 1) := dk_173 (c := cX8_plain) (pc := 7) (dk_at bnames01cX8_plain_0 7)
set_option maxRecDepth 20000 in
theorem ggX8_plainOf_X6_clear : GoodIn wsX8_plainOf wsX6_clear := goodIn_r _ [13, 14, 15, 16, 17, 18, 19, 20, 21, 22, 23, 24, 55, 56, 57, 58, 59, 60, 61, 62, 63, 64, 65] rfl (by decide +kernel)
set_option maxRecDepth 20000 in
theorem gX8_plainOf_X6_clear : GoodIn wsX8_plainOf (wsV RX8 229 RX6 yX6_clear wsX6_clear) := goodIn_app (goodIn_r _ [9, 10, 11, 12] rfl (by decide +kernel)) ggX8_plainOf_X6_clear
set_option maxRecDepth 20000 in
theorem ggX8_plainOf_X6_take : GoodIn wsX8_plainOf wsX6_take := goodIn_r _ [28, 29, 30, 22, 23, 24, 14, 15, 16, 17, 31, 18, 19, 20, 21, 48, 49, 50, 51, 52, 53, 54, 55, 56, 57, 58, 59, 60, 61, 62, 63, 64, 65] rfl (by decide +kernel)
set_option maxRecDepth 20000 in
theorem gX8_plainOf_X6_take : GoodIn wsX8_plainOf (wsV RX8 232 RX6 yX6_take wsX6_take) := goodIn_app (goodIn_r _ [25, 26, 27, 12] rfl (by decide +kernel)) ggX8_plainOf_X6_take
set_option maxRecDepth 20000 in
theorem ggX8_plainOf_X8_thousandths : GoodIn wsX8_plainOf wsX8_thousandths := goodIn_r _ [35, 36, 37] rfl (by decide +kernel)
set_option maxRecDepth 20000 in
theorem gX8_plainOf_X8_thousandths : GoodIn wsX8_plainOf (va_wsS RX8 249 yX8_thousandths wsX8_thousandths) := goodIn_app (goodIn_r _ [32, 33, 34] rfl (by decide +kernel)) ggX8_plainOf_X8_thousandths
theorem bnames01cX8_plainOf_0 : ((dk_l cX8_plainOf).drop 0).take 52 = [42, 180, 0, 46, 182, 0, 229, 3, 60, 27, 42, 180, 0, 29, 180, 0, 127, 162, 0, 22, 42, 180, 0, 46, 42, 180, 0, 29, 27, 4, 182, 0, 232, 132, 1, 1, 167, 255, 229, 42, 180, 0, 46, 180, 0, 236, 64, 31, 42, 180, 0, 46] := by decide +kernel
theorem dX8_plainOf_0 : decode cX8_plainOf 0 = .ok (.aload_n 0, 1) := dk_42 (c := cX8_plainOf) (pc := 0) (dk_at bnames01cX8_plainOf_0 0)
theorem dX8_plainOf_1 : decode cX8_plainOf 1 = .ok (.getfield 46, 3) := dk_180 (c := cX8_plainOf) (pc := 1) (a := 0) (b := 46) (dk_at bnames01cX8_plainOf_0 1) rfl
theorem dX8_plainOf_4 : decode cX8_plainOf 4 = .ok (.invokevirtual 229, 3) := dk_182 (c := cX8_plainOf) (pc := 4) (a := 0) (b := 229) (dk_at bnames01cX8_plainOf_0 4) rfl
theorem dX8_plainOf_7 : decode cX8_plainOf 7 = .ok (.iconst 0, 1) := dk_3 (c := cX8_plainOf) (pc := 7) (dk_at bnames01cX8_plainOf_0 7)
theorem dX8_plainOf_8 : decode cX8_plainOf 8 = .ok (.istore_n 1, 1) := dk_60 (c := cX8_plainOf) (pc := 8) (dk_at bnames01cX8_plainOf_0 8)
theorem dX8_plainOf_9 : decode cX8_plainOf 9 = .ok (.iload_n 1, 1) := dk_27 (c := cX8_plainOf) (pc := 9) (dk_at bnames01cX8_plainOf_0 9)
theorem dX8_plainOf_10 : decode cX8_plainOf 10 = .ok (.aload_n 0, 1) := dk_42 (c := cX8_plainOf) (pc := 10) (dk_at bnames01cX8_plainOf_0 10)
theorem dX8_plainOf_11 : decode cX8_plainOf 11 = .ok (.getfield 29, 3) := dk_180 (c := cX8_plainOf) (pc := 11) (a := 0) (b := 29) (dk_at bnames01cX8_plainOf_0 11) rfl
theorem dX8_plainOf_14 : decode cX8_plainOf 14 = .ok (.getfield 127, 3) := dk_180 (c := cX8_plainOf) (pc := 14) (a := 0) (b := 127) (dk_at bnames01cX8_plainOf_0 14) rfl
theorem dX8_plainOf_17 : decode cX8_plainOf 17 = .ok (.if_icmp .ge 22, 3) := dk_162 (c := cX8_plainOf) (pc := 17) (a := 0) (b := 22) (dk_at bnames01cX8_plainOf_0 17) (by decide)
theorem dX8_plainOf_20 : decode cX8_plainOf 20 = .ok (.aload_n 0, 1) := dk_42 (c := cX8_plainOf) (pc := 20) (dk_at bnames01cX8_plainOf_0 20)
theorem dX8_plainOf_21 : decode cX8_plainOf 21 = .ok (.getfield 46, 3) := dk_180 (c := cX8_plainOf) (pc := 21) (a := 0) (b := 46) (dk_at bnames01cX8_plainOf_0 21) rfl
theorem dX8_plainOf_24 : decode cX8_plainOf 24 = .ok (.aload_n 0, 1) := dk_42 (c := cX8_plainOf) (pc := 24) (dk_at bnames01cX8_plainOf_0 24)
theorem dX8_plainOf_25 : decode cX8_plainOf 25 = .ok (.getfield 29, 3) := dk_180 (c := cX8_plainOf) (pc := 25) (a := 0) (b := 29) (dk_at bnames01cX8_plainOf_0 25) rfl
theorem dX8_plainOf_28 : decode cX8_plainOf 28 = .ok (.iload_n 1, 1) := dk_27 (c := cX8_plainOf) (pc := 28) (dk_at bnames01cX8_plainOf_0 28)
theorem dX8_plainOf_29 : decode cX8_plainOf 29 = .ok (.iconst 1, 1) := dk_4 (c := cX8_plainOf) (pc := 29) (dk_at bnames01cX8_plainOf_0 29)
theorem dX8_plainOf_30 : decode cX8_plainOf 30 = .ok (.invokevirtual 232, 3) := dk_182 (c := cX8_plainOf) (pc := 30) (a := 0) (b := 232) (dk_at bnames01cX8_plainOf_0 30) rfl
theorem dX8_plainOf_33 : decode cX8_plainOf 33 = .ok (.iinc 1 1, 3) := dk_132 (c := cX8_plainOf) (pc := 33) (a := 1) (b := 1) (dk_at bnames01cX8_plainOf_0 33) rfl (by decide)
theorem dX8_plainOf_36 : decode cX8_plainOf 36 = .ok (.goto (-27), 3) := dk_167 (c := cX8_plainOf) (pc := 36) (a := 255) (b := 229) (dk_at bnames01cX8_plainOf_0 36) (by decide)
theorem dX8_plainOf_39 : decode cX8_plainOf 39 = .ok (.aload_n 0, 1) := dk_42 (c := cX8_plainOf) (pc := 39) (dk_at bnames01cX8_plainOf_0 39)
theorem dX8_plainOf_40 : decode cX8_plainOf 40 = .ok (.getfield 46, 3) := dk_180 (c := cX8_plainOf) (pc := 40) (a := 0) (b := 46) (dk_at bnames01cX8_plainOf_0 40) rfl
theorem dX8_plainOf_43 : decode cX8_plainOf 43 = .ok (.getfield 236, 3) := dk_180 (c := cX8_plainOf) (pc := 43) (a := 0) (b := 236) (dk_at bnames01cX8_plainOf_0 43) rfl
theorem dX8_plainOf_46 : decode cX8_plainOf 46 = .ok (.lstore_n 1, 1) := dk_64 (c := cX8_plainOf) (pc := 46) (dk_at bnames01cX8_plainOf_0 46)
theorem dX8_plainOf_47 : decode cX8_plainOf 47 = .ok (.lload_n 1, 1) := dk_31 (c := cX8_plainOf) (pc := 47) (dk_at bnames01cX8_plainOf_0 47)
theorem bnames01cX8_plainOf_48 : ((dk_l cX8_plainOf).drop 48).take 52 = [42, 180, 0, 46, 180, 0, 239, 105, 42, 180, 0, 46, 180, 0, 242, 42, 180, 0, 46, 180, 0, 244, 105, 101, 66, 31, 42, 180, 0, 46, 180, 0, 246, 105, 42, 180, 0, 46, 180, 0, 242, 42, 180, 0, 46, 180, 0, 242, 105, 101, 55, 5] := by decide +kernel
theorem dX8_plainOf_48 : decode cX8_plainOf 48 = .ok (.aload_n 0, 1) := dk_42 (c := cX8_plainOf) (pc := 48) (dk_at bnames01cX8_plainOf_48 0)
theorem dX8_plainOf_49 : decode cX8_plainOf 49 = .ok (.getfield 46, 3) := dk_180 (c := cX8_plainOf) (pc := 49) (a := 0) (b := 46) (dk_at bnames01cX8_plainOf_48 1) rfl
theorem dX8_plainOf_52 : decode cX8_plainOf 52 = .ok (.getfield 239, 3) := dk_180 (c := cX8_plainOf) (pc := 52) (a := 0) (b := 239) (dk_at bnames01cX8_plainOf_48 4) rfl
theorem dX8_plainOf_55 : decode cX8_plainOf 55 = .ok (.lmul, 1) := dk_105 (c := cX8_plainOf) (pc := 55) (dk_at bnames01cX8_plainOf_48 7)
theorem dX8_plainOf_56 : decode cX8_plainOf 56 = .ok (.aload_n 0, 1) := dk_42 (c := cX8_plainOf) (pc := 56) (dk_at bnames01cX8_plainOf_48 8)
theorem dX8_plainOf_57 : decode cX8_plainOf 57 = .ok (.getfield 46, 3) := dk_180 (c := cX8_plainOf) (pc := 57) (a := 0) (b := 46) (dk_at bnames01cX8_plainOf_48 9) rfl
theorem dX8_plainOf_60 : decode cX8_plainOf 60 = .ok (.getfield 242, 3) := dk_180 (c := cX8_plainOf) (pc := 60) (a := 0) (b := 242) (dk_at bnames01cX8_plainOf_48 12) rfl
theorem dX8_plainOf_63 : decode cX8_plainOf 63 = .ok (.aload_n 0, 1) := dk_42 (c := cX8_plainOf) (pc := 63) (dk_at bnames01cX8_plainOf_48 15)
theorem dX8_plainOf_64 : decode cX8_plainOf 64 = .ok (.getfield 46, 3) := dk_180 (c := cX8_plainOf) (pc := 64) (a := 0) (b := 46) (dk_at bnames01cX8_plainOf_48 16) rfl
theorem dX8_plainOf_67 : decode cX8_plainOf 67 = .ok (.getfield 244, 3) := dk_180 (c := cX8_plainOf) (pc := 67) (a := 0) (b := 244) (dk_at bnames01cX8_plainOf_48 19) rfl
theorem dX8_plainOf_70 : decode cX8_plainOf 70 = .ok (.lmul, 1) := dk_105 (c := cX8_plainOf) (pc := 70) (dk_at bnames01cX8_plainOf_48 22)
theorem dX8_plainOf_71 : decode cX8_plainOf 71 = .ok (.lsub, 1) := dk_101 (c := cX8_plainOf) (pc := 71) (dk_at bnames01cX8_plainOf_48 23)
theorem dX8_plainOf_72 : decode cX8_plainOf 72 = .ok (.lstore_n 3, 1) := dk_66 (c := cX8_plainOf) (pc := 72) (dk_at bnames01cX8_plainOf_48 24)
theorem dX8_plainOf_73 : decode cX8_plainOf 73 = .ok (.lload_n 1, 1) := dk_31 (c := cX8_plainOf) (pc := 73) (dk_at bnames01cX8_plainOf_48 25)
theorem dX8_plainOf_74 : decode cX8_plainOf 74 = .ok (.aload_n 0, 1) := dk_42 (c := cX8_plainOf) (pc := 74) (dk_at bnames01cX8_plainOf_48 26)
theorem dX8_plainOf_75 : decode cX8_plainOf 75 = .ok (.getfield 46, 3) := dk_180 (c := cX8_plainOf) (pc := 75) (a := 0) (b := 46) (dk_at bnames01cX8_plainOf_48 27) rfl
theorem dX8_plainOf_78 : decode cX8_plainOf 78 = .ok (.getfield 246, 3) := dk_180 (c := cX8_plainOf) (pc := 78) (a := 0) (b := 246) (dk_at bnames01cX8_plainOf_48 30) rfl
theorem dX8_plainOf_81 : decode cX8_plainOf 81 = .ok (.lmul, 1) := dk_105 (c := cX8_plainOf) (pc := 81) (dk_at bnames01cX8_plainOf_48 33)
theorem dX8_plainOf_82 : decode cX8_plainOf 82 = .ok (.aload_n 0, 1) := dk_42 (c := cX8_plainOf) (pc := 82) (dk_at bnames01cX8_plainOf_48 34)
theorem dX8_plainOf_83 : decode cX8_plainOf 83 = .ok (.getfield 46, 3) := dk_180 (c := cX8_plainOf) (pc := 83) (a := 0) (b := 46) (dk_at bnames01cX8_plainOf_48 35) rfl
theorem dX8_plainOf_86 : decode cX8_plainOf 86 = .ok (.getfield 242, 3) := dk_180 (c := cX8_plainOf) (pc := 86) (a := 0) (b := 242) (dk_at bnames01cX8_plainOf_48 38) rfl
theorem dX8_plainOf_89 : decode cX8_plainOf 89 = .ok (.aload_n 0, 1) := dk_42 (c := cX8_plainOf) (pc := 89) (dk_at bnames01cX8_plainOf_48 41)
theorem dX8_plainOf_90 : decode cX8_plainOf 90 = .ok (.getfield 46, 3) := dk_180 (c := cX8_plainOf) (pc := 90) (a := 0) (b := 46) (dk_at bnames01cX8_plainOf_48 42) rfl
theorem dX8_plainOf_93 : decode cX8_plainOf 93 = .ok (.getfield 242, 3) := dk_180 (c := cX8_plainOf) (pc := 93) (a := 0) (b := 242) (dk_at bnames01cX8_plainOf_48 45) rfl
theorem bnames01cX8_plainOf_96 : ((dk_l cX8_plainOf).drop 96).take 11 = [105, 101, 55, 5, 33, 22, 5, 184, 0, 249, 173] := by decide +kernel
theorem dX8_plainOf_96 : decode cX8_plainOf 96 = .ok (.lmul, 1) := dk_105 (c := cX8_plainOf) (pc := 96) (dk_at bnames01cX8_plainOf_96 0)
theorem dX8_plainOf_97 : decode cX8_plainOf 97 = .ok (.lsub, 1) := dk_101 (c := cX8_plainOf) (pc := 97) (dk_at bnames01cX8_plainOf_96 1)
theorem dX8_plainOf_98 : decode cX8_plainOf 98 = .ok (.lstore 5, 2) := dk_55 (c := cX8_plainOf) (pc := 98) (a := 5) (dk_at bnames01cX8_plainOf_96 2) rfl
theorem dX8_plainOf_100 : decode cX8_plainOf 100 = .ok (.lload_n 3, 1) := dk_33 (c := cX8_plainOf) (pc := 100) (dk_at bnames01cX8_plainOf_96 4)
theorem dX8_plainOf_101 : decode cX8_plainOf 101 = .ok (.lload 5, 2) := dk_22 (c := cX8_plainOf) (pc := 101) (a := 5) (dk_at bnames01cX8_plainOf_96 5) rfl
theorem dX8_plainOf_103 : decode cX8_plainOf 103 = .ok (.invokestatic 249, 3) := dk_184 (c := cX8_plainOf) (pc := 103) (a := 0) (b := 249) (dk_at bnames01cX8_plainOf_96 7) rfl
theorem dX8_plainOf_106 : decode cX8_plainOf 106 = .ok (.lreturn, 1) := dk_173 (c := cX8_plainOf) (pc := 106) (dk_at bnames01cX8_plainOf_96 10)
set_option maxRecDepth 20000 in
theorem ggX8_by_X8_divided : GoodIn wsX8_by wsX8_divided := goodIn_r _ [6, 7, 8, 9, 10, 11, 12, 13, 14, 15, 16, 17, 18, 19, 20, 21, 22, 23, 24, 25, 26, 27, 5, 28, 29, 30, 31, 32, 33, 34, 35, 36, 37, 38, 39, 40, 41, 65, 66, 67, 68, 69, 70, 71, 72, 73, 74, 75, 76, 77, 78, 79, 80, 81, 82, 83, 84, 85, 86, 87, 88, 89, 90, 91, 92] rfl (by decide +kernel)
set_option maxRecDepth 20000 in
theorem gX8_by_X8_divided : GoodIn wsX8_by (wsV RX8 253 RX8 yX8_divided wsX8_divided) := goodIn_app (goodIn_r _ [2, 3, 4, 5] rfl (by decide +kernel)) ggX8_by_X8_divided
set_option maxRecDepth 20000 in
theorem ggX8_by_X6_byMoved : GoodIn wsX8_by wsX6_byMoved := goodIn_r _ [45, 46, 47, 48, 13, 49, 16, 20, 50, 51, 17, 21, 15, 19, 52, 53, 54, 55, 56, 57, 58, 59, 82, 83, 84, 85, 86, 87, 88, 89, 90, 91, 92] rfl (by decide +kernel)
set_option maxRecDepth 20000 in
theorem gX8_by_X6_byMoved : GoodIn wsX8_by (wsV RX8 257 RX6 yX6_byMoved wsX6_byMoved) := goodIn_app (goodIn_r _ [42, 43, 44, 13] rfl (by decide +kernel)) ggX8_by_X6_byMoved
set_option maxRecDepth 20000 in
theorem ggX8_by_X8_toFace : GoodIn wsX8_by wsX8_toFace := goodIn_r _ [62, 63, 64] rfl (by decide +kernel)
set_option maxRecDepth 20000 in
theorem gX8_by_X8_toFace : GoodIn wsX8_by (va_wsS RX8 225 yX8_toFace wsX8_toFace) := goodIn_app (goodIn_r _ [60, 61, 5] rfl (by decide +kernel)) ggX8_by_X8_toFace
theorem bnames01cX8_by_0 : ((dk_l cX8_by).drop 0).take 16 = [42, 42, 180, 0, 29, 27, 182, 0, 253, 182, 1, 1, 184, 0, 225, 173] := by decide +kernel
theorem dX8_by_0 : decode cX8_by 0 = .ok (.aload_n 0, 1) := dk_42 (c := cX8_by) (pc := 0) (dk_at bnames01cX8_by_0 0)
theorem dX8_by_1 : decode cX8_by 1 = .ok (.aload_n 0, 1) := dk_42 (c := cX8_by) (pc := 1) (dk_at bnames01cX8_by_0 1)
theorem dX8_by_2 : decode cX8_by 2 = .ok (.getfield 29, 3) := dk_180 (c := cX8_by) (pc := 2) (a := 0) (b := 29) (dk_at bnames01cX8_by_0 2) rfl
theorem dX8_by_5 : decode cX8_by 5 = .ok (.iload_n 1, 1) := dk_27 (c := cX8_by) (pc := 5) (dk_at bnames01cX8_by_0 5)
theorem dX8_by_6 : decode cX8_by 6 = .ok (.invokevirtual 253, 3) := dk_182 (c := cX8_by) (pc := 6) (a := 0) (b := 253) (dk_at bnames01cX8_by_0 6) rfl
theorem dX8_by_9 : decode cX8_by 9 = .ok (.invokevirtual 257, 3) := dk_182 (c := cX8_by) (pc := 9) (a := 1) (b := 1) (dk_at bnames01cX8_by_0 9) rfl
theorem dX8_by_12 : decode cX8_by 12 = .ok (.invokestatic 225, 3) := dk_184 (c := cX8_by) (pc := 12) (a := 0) (b := 225) (dk_at bnames01cX8_by_0 12) rfl
theorem dX8_by_15 : decode cX8_by 15 = .ok (.lreturn, 1) := dk_173 (c := cX8_by) (pc := 15) (dk_at bnames01cX8_by_0 15)
set_option maxRecDepth 20000 in
theorem ggX8_many_X8_manyOf : GoodIn wsX8_many wsX8_manyOf := goodIn_r _ [5, 6, 7, 8, 9, 10, 11, 12, 13, 14, 15, 16, 17, 18, 19, 20, 21, 22, 23, 24, 25, 26, 27, 28, 29, 4, 30, 31, 32, 37, 38, 39, 40, 41, 42, 43, 44, 45, 46, 47, 48, 49, 50, 51, 52, 53, 54, 55, 56] rfl (by decide +kernel)
set_option maxRecDepth 20000 in
theorem gX8_many_X8_manyOf : GoodIn wsX8_many (wsV RX8 260 RX8 yX8_manyOf wsX8_manyOf) := goodIn_app (goodIn_r _ [1, 2, 3, 4] rfl (by decide +kernel)) ggX8_many_X8_manyOf
set_option maxRecDepth 20000 in
theorem ggX8_many_X8_toFace : GoodIn wsX8_many wsX8_toFace := goodIn_r _ [35, 31, 36] rfl (by decide +kernel)
set_option maxRecDepth 20000 in
theorem gX8_many_X8_toFace : GoodIn wsX8_many (va_wsS RX8 225 yX8_toFace wsX8_toFace) := goodIn_app (goodIn_r _ [33, 34, 4] rfl (by decide +kernel)) ggX8_many_X8_toFace
theorem bnames01cX8_many_0 : ((dk_l cX8_many).drop 0).take 8 = [42, 182, 1, 4, 184, 0, 225, 173] := by decide +kernel
theorem dX8_many_0 : decode cX8_many 0 = .ok (.aload_n 0, 1) := dk_42 (c := cX8_many) (pc := 0) (dk_at bnames01cX8_many_0 0)
theorem dX8_many_1 : decode cX8_many 1 = .ok (.invokevirtual 260, 3) := dk_182 (c := cX8_many) (pc := 1) (a := 1) (b := 4) (dk_at bnames01cX8_many_0 1) rfl
theorem dX8_many_4 : decode cX8_many 4 = .ok (.invokestatic 225, 3) := dk_184 (c := cX8_many) (pc := 4) (a := 0) (b := 225) (dk_at bnames01cX8_many_0 4) rfl
theorem dX8_many_7 : decode cX8_many 7 = .ok (.lreturn, 1) := dk_173 (c := cX8_many) (pc := 7) (dk_at bnames01cX8_many_0 7)
set_option maxRecDepth 20000 in
theorem ggX8_manyOf_X1_takeAll : GoodIn wsX8_manyOf wsX1_takeAll := goodIn_r _ [7, 8, 9, 10, 11, 12, 13, 14, 15, 16, 17, 18, 19, 39, 40, 41, 42, 43, 44, 45, 46, 47, 48] rfl (by decide +kernel)
set_option maxRecDepth 20000 in
theorem gX8_manyOf_X1_takeAll : GoodIn wsX8_manyOf (wsV RX8 263 RX1 yX1_takeAll wsX1_takeAll) := goodIn_app (goodIn_r _ [3, 4, 5, 6] rfl (by decide +kernel)) ggX8_manyOf_X1_takeAll
set_option maxRecDepth 20000 in
theorem ggX8_manyOf_X1_slope : GoodIn wsX8_manyOf wsX1_slope := goodIn_r _ [23, 8, 9, 10, 24, 25, 26, 27, 28, 39, 40, 41] rfl (by decide +kernel)
set_option maxRecDepth 20000 in
theorem gX8_manyOf_X1_slope : GoodIn wsX8_manyOf (wsV RX8 266 RX1 yX1_slope wsX1_slope) := goodIn_app (goodIn_r _ [20, 21, 22, 6] rfl (by decide +kernel)) ggX8_manyOf_X1_slope
theorem bnames01cX8_manyOf_0 : ((dk_l cX8_manyOf).drop 0).take 19 = [42, 180, 0, 53, 42, 180, 0, 29, 182, 1, 7, 42, 180, 0, 53, 182, 1, 10, 173] := by decide +kernel
theorem dX8_manyOf_0 : decode cX8_manyOf 0 = .ok (.aload_n 0, 1) := dk_42 (c := cX8_manyOf) (pc := 0) (dk_at bnames01cX8_manyOf_0 0)
theorem dX8_manyOf_1 : decode cX8_manyOf 1 = .ok (.getfield 53, 3) := dk_180 (c := cX8_manyOf) (pc := 1) (a := 0) (b := 53) (dk_at bnames01cX8_manyOf_0 1) rfl
theorem dX8_manyOf_4 : decode cX8_manyOf 4 = .ok (.aload_n 0, 1) := dk_42 (c := cX8_manyOf) (pc := 4) (dk_at bnames01cX8_manyOf_0 4)
theorem dX8_manyOf_5 : decode cX8_manyOf 5 = .ok (.getfield 29, 3) := dk_180 (c := cX8_manyOf) (pc := 5) (a := 0) (b := 29) (dk_at bnames01cX8_manyOf_0 5) rfl
theorem dX8_manyOf_8 : decode cX8_manyOf 8 = .ok (.invokevirtual 263, 3) := dk_182 (c := cX8_manyOf) (pc := 8) (a := 1) (b := 7) (dk_at bnames01cX8_manyOf_0 8) rfl
theorem dX8_manyOf_11 : decode cX8_manyOf 11 = .ok (.aload_n 0, 1) := dk_42 (c := cX8_manyOf) (pc := 11) (dk_at bnames01cX8_manyOf_0 11)
theorem dX8_manyOf_12 : decode cX8_manyOf 12 = .ok (.getfield 53, 3) := dk_180 (c := cX8_manyOf) (pc := 12) (a := 0) (b := 53) (dk_at bnames01cX8_manyOf_0 12) rfl
theorem dX8_manyOf_15 : decode cX8_manyOf 15 = .ok (.invokevirtual 266, 3) := dk_182 (c := cX8_manyOf) (pc := 15) (a := 1) (b := 10) (dk_at bnames01cX8_manyOf_0 15) rfl
theorem dX8_manyOf_18 : decode cX8_manyOf 18 = .ok (.lreturn, 1) := dk_173 (c := cX8_manyOf) (pc := 18) (dk_at bnames01cX8_manyOf_0 18)
set_option maxRecDepth 20000 in
theorem ggX8_groups_X1_takeAll : GoodIn wsX8_groups wsX1_takeAll := goodIn_r _ [7, 8, 9, 10, 11, 12, 13, 14, 15, 16, 17, 18, 19, 34, 35, 36, 37, 38, 39, 40, 41, 42, 43] rfl (by decide +kernel)
set_option maxRecDepth 20000 in
theorem gX8_groups_X1_takeAll : GoodIn wsX8_groups (wsV RX8 263 RX1 yX1_takeAll wsX1_takeAll) := goodIn_app (goodIn_r _ [3, 4, 5, 6] rfl (by decide +kernel)) ggX8_groups_X1_takeAll
set_option maxRecDepth 20000 in
theorem ggX8_groups_X1_filled : GoodIn wsX8_groups wsX1_filled := goodIn_r _ [23, 8, 34, 35, 36] rfl (by decide +kernel)
set_option maxRecDepth 20000 in
theorem gX8_groups_X1_filled : GoodIn wsX8_groups (wsV RX8 269 RX1 yX1_filled wsX1_filled) := goodIn_app (goodIn_r _ [20, 21, 22, 6] rfl (by decide +kernel)) ggX8_groups_X1_filled
theorem bnames01cX8_groups_0 : ((dk_l cX8_groups).drop 0).take 19 = [42, 180, 0, 53, 42, 180, 0, 29, 182, 1, 7, 42, 180, 0, 53, 182, 1, 13, 172] := by decide +kernel
theorem dX8_groups_0 : decode cX8_groups 0 = .ok (.aload_n 0, 1) := dk_42 (c := cX8_groups) (pc := 0) (dk_at bnames01cX8_groups_0 0)
theorem dX8_groups_1 : decode cX8_groups 1 = .ok (.getfield 53, 3) := dk_180 (c := cX8_groups) (pc := 1) (a := 0) (b := 53) (dk_at bnames01cX8_groups_0 1) rfl
theorem dX8_groups_4 : decode cX8_groups 4 = .ok (.aload_n 0, 1) := dk_42 (c := cX8_groups) (pc := 4) (dk_at bnames01cX8_groups_0 4)
theorem dX8_groups_5 : decode cX8_groups 5 = .ok (.getfield 29, 3) := dk_180 (c := cX8_groups) (pc := 5) (a := 0) (b := 29) (dk_at bnames01cX8_groups_0 5) rfl
theorem dX8_groups_8 : decode cX8_groups 8 = .ok (.invokevirtual 263, 3) := dk_182 (c := cX8_groups) (pc := 8) (a := 1) (b := 7) (dk_at bnames01cX8_groups_0 8) rfl
theorem dX8_groups_11 : decode cX8_groups 11 = .ok (.aload_n 0, 1) := dk_42 (c := cX8_groups) (pc := 11) (dk_at bnames01cX8_groups_0 11)
theorem dX8_groups_12 : decode cX8_groups 12 = .ok (.getfield 53, 3) := dk_180 (c := cX8_groups) (pc := 12) (a := 0) (b := 53) (dk_at bnames01cX8_groups_0 12) rfl
theorem dX8_groups_15 : decode cX8_groups 15 = .ok (.invokevirtual 269, 3) := dk_182 (c := cX8_groups) (pc := 15) (a := 1) (b := 13) (dk_at bnames01cX8_groups_0 15) rfl
theorem dX8_groups_18 : decode cX8_groups 18 = .ok (.ireturn, 1) := dk_172 (c := cX8_groups) (pc := 18) (dk_at bnames01cX8_groups_0 18)
set_option maxRecDepth 20000 in
theorem ggX8_moves_X8_divided : GoodIn wsX8_moves wsX8_divided := goodIn_r _ [8, 9, 10, 11, 12, 13, 14, 15, 16, 17, 18, 19, 20, 21, 22, 23, 24, 25, 26, 27, 28, 29, 7, 30, 31, 32, 33, 34, 35, 36, 37, 38, 39, 40, 41, 42, 43, 65, 66, 67, 68, 69, 70, 71, 72, 73, 74, 86, 87, 88, 89, 90, 91, 92, 75, 76, 77, 78, 79, 80, 81, 82, 83, 84, 85] rfl (by decide +kernel)
set_option maxRecDepth 20000 in
theorem gX8_moves_X8_divided : GoodIn wsX8_moves (wsV RX8 253 RX8 yX8_divided wsX8_divided) := goodIn_app (goodIn_r _ [4, 5, 6, 7] rfl (by decide +kernel)) ggX8_moves_X8_divided
set_option maxRecDepth 20000 in
theorem ggX8_moves_X6_meanGap : GoodIn wsX8_moves wsX6_meanGap := goodIn_r _ [47, 17, 21, 48, 49, 50, 51, 15, 52, 53, 54, 55, 56, 57, 7, 58, 59, 60, 75, 76, 77, 78, 79, 80, 81, 82, 83, 84, 85] rfl (by decide +kernel)
set_option maxRecDepth 20000 in
theorem gX8_moves_X6_meanGap : GoodIn wsX8_moves (wsV RX8 276 RX6 yX6_meanGap wsX6_meanGap) := goodIn_app (goodIn_r _ [44, 45, 46, 15] rfl (by decide +kernel)) ggX8_moves_X6_meanGap
set_option maxRecDepth 20000 in
theorem ggX8_moves_X8_toFace : GoodIn wsX8_moves wsX8_toFace := goodIn_r _ [63, 59, 64] rfl (by decide +kernel)
set_option maxRecDepth 20000 in
theorem gX8_moves_X8_toFace : GoodIn wsX8_moves (va_wsS RX8 225 yX8_toFace wsX8_toFace) := goodIn_app (goodIn_r _ [61, 62, 7] rfl (by decide +kernel)) ggX8_moves_X8_toFace
theorem bnames01cX8_moves_0 : ((dk_l cX8_moves).drop 0).take 26 = [42, 42, 180, 0, 29, 27, 182, 0, 253, 77, 44, 44, 180, 0, 242, 44, 180, 1, 17, 182, 1, 20, 184, 0, 225, 173] := by decide +kernel
theorem dX8_moves_0 : decode cX8_moves 0 = .ok (.aload_n 0, 1) := dk_42 (c := cX8_moves) (pc := 0) (dk_at bnames01cX8_moves_0 0)
theorem dX8_moves_1 : decode cX8_moves 1 = .ok (.aload_n 0, 1) := dk_42 (c := cX8_moves) (pc := 1) (dk_at bnames01cX8_moves_0 1)
theorem dX8_moves_2 : decode cX8_moves 2 = .ok (.getfield 29, 3) := dk_180 (c := cX8_moves) (pc := 2) (a := 0) (b := 29) (dk_at bnames01cX8_moves_0 2) rfl
theorem dX8_moves_5 : decode cX8_moves 5 = .ok (.iload_n 1, 1) := dk_27 (c := cX8_moves) (pc := 5) (dk_at bnames01cX8_moves_0 5)
theorem dX8_moves_6 : decode cX8_moves 6 = .ok (.invokevirtual 253, 3) := dk_182 (c := cX8_moves) (pc := 6) (a := 0) (b := 253) (dk_at bnames01cX8_moves_0 6) rfl
theorem dX8_moves_9 : decode cX8_moves 9 = .ok (.astore_n 2, 1) := dk_77 (c := cX8_moves) (pc := 9) (dk_at bnames01cX8_moves_0 9)
theorem dX8_moves_10 : decode cX8_moves 10 = .ok (.aload_n 2, 1) := dk_44 (c := cX8_moves) (pc := 10) (dk_at bnames01cX8_moves_0 10)
theorem dX8_moves_11 : decode cX8_moves 11 = .ok (.aload_n 2, 1) := dk_44 (c := cX8_moves) (pc := 11) (dk_at bnames01cX8_moves_0 11)
theorem dX8_moves_12 : decode cX8_moves 12 = .ok (.getfield 242, 3) := dk_180 (c := cX8_moves) (pc := 12) (a := 0) (b := 242) (dk_at bnames01cX8_moves_0 12) rfl
theorem dX8_moves_15 : decode cX8_moves 15 = .ok (.aload_n 2, 1) := dk_44 (c := cX8_moves) (pc := 15) (dk_at bnames01cX8_moves_0 15)
theorem dX8_moves_16 : decode cX8_moves 16 = .ok (.getfield 273, 3) := dk_180 (c := cX8_moves) (pc := 16) (a := 1) (b := 17) (dk_at bnames01cX8_moves_0 16) rfl
theorem dX8_moves_19 : decode cX8_moves 19 = .ok (.invokevirtual 276, 3) := dk_182 (c := cX8_moves) (pc := 19) (a := 1) (b := 20) (dk_at bnames01cX8_moves_0 19) rfl
theorem dX8_moves_22 : decode cX8_moves 22 = .ok (.invokestatic 225, 3) := dk_184 (c := cX8_moves) (pc := 22) (a := 0) (b := 225) (dk_at bnames01cX8_moves_0 22) rfl
theorem dX8_moves_25 : decode cX8_moves 25 = .ok (.lreturn, 1) := dk_173 (c := cX8_moves) (pc := 25) (dk_at bnames01cX8_moves_0 25)
set_option maxRecDepth 20000 in
theorem ggX8_strong_X8_divided : GoodIn wsX8_strong wsX8_divided := goodIn_r _ [6, 7, 8, 9, 10, 11, 12, 13, 14, 15, 16, 17, 18, 19, 20, 21, 22, 23, 24, 25, 26, 27, 5, 28, 29, 30, 31, 32, 33, 34, 35, 36, 37, 38, 39, 40, 41, 72, 73, 74, 75, 76, 77, 78, 79, 80, 81, 82, 83, 84, 85, 86, 87, 88, 89, 90, 91, 92, 93, 94, 95, 96, 97, 98, 99] rfl (by decide +kernel)
set_option maxRecDepth 20000 in
theorem gX8_strong_X8_divided : GoodIn wsX8_strong (wsV RX8 253 RX8 yX8_divided wsX8_divided) := goodIn_app (goodIn_r _ [2, 3, 4, 5] rfl (by decide +kernel)) ggX8_strong_X8_divided
set_option maxRecDepth 20000 in
theorem ggX8_strong_X6_strength : GoodIn wsX8_strong wsX6_strength := goodIn_r _ [45, 46, 16, 20, 23, 47, 48, 15, 19, 49, 50, 51, 52, 13, 53, 54, 55, 56, 57, 58, 59, 60, 61, 62, 63, 64, 65, 66, 89, 90, 91, 92, 93, 94, 95, 96, 97, 98, 99] rfl (by decide +kernel)
set_option maxRecDepth 20000 in
theorem gX8_strong_X6_strength : GoodIn wsX8_strong (wsV RX8 279 RX6 yX6_strength wsX6_strength) := goodIn_app (goodIn_r _ [42, 43, 44, 13] rfl (by decide +kernel)) ggX8_strong_X6_strength
set_option maxRecDepth 20000 in
theorem ggX8_strong_X8_toFace : GoodIn wsX8_strong wsX8_toFace := goodIn_r _ [69, 70, 71] rfl (by decide +kernel)
set_option maxRecDepth 20000 in
theorem gX8_strong_X8_toFace : GoodIn wsX8_strong (va_wsS RX8 225 yX8_toFace wsX8_toFace) := goodIn_app (goodIn_r _ [67, 68, 5] rfl (by decide +kernel)) ggX8_strong_X8_toFace
theorem bnames01cX8_strong_0 : ((dk_l cX8_strong).drop 0).take 16 = [42, 42, 180, 0, 29, 27, 182, 0, 253, 182, 1, 23, 184, 0, 225, 173] := by decide +kernel
theorem dX8_strong_0 : decode cX8_strong 0 = .ok (.aload_n 0, 1) := dk_42 (c := cX8_strong) (pc := 0) (dk_at bnames01cX8_strong_0 0)
theorem dX8_strong_1 : decode cX8_strong 1 = .ok (.aload_n 0, 1) := dk_42 (c := cX8_strong) (pc := 1) (dk_at bnames01cX8_strong_0 1)
theorem dX8_strong_2 : decode cX8_strong 2 = .ok (.getfield 29, 3) := dk_180 (c := cX8_strong) (pc := 2) (a := 0) (b := 29) (dk_at bnames01cX8_strong_0 2) rfl
theorem dX8_strong_5 : decode cX8_strong 5 = .ok (.iload_n 1, 1) := dk_27 (c := cX8_strong) (pc := 5) (dk_at bnames01cX8_strong_0 5)
theorem dX8_strong_6 : decode cX8_strong 6 = .ok (.invokevirtual 253, 3) := dk_182 (c := cX8_strong) (pc := 6) (a := 0) (b := 253) (dk_at bnames01cX8_strong_0 6) rfl
theorem dX8_strong_9 : decode cX8_strong 9 = .ok (.invokevirtual 279, 3) := dk_182 (c := cX8_strong) (pc := 9) (a := 1) (b := 23) (dk_at bnames01cX8_strong_0 9) rfl
theorem dX8_strong_12 : decode cX8_strong 12 = .ok (.invokestatic 225, 3) := dk_184 (c := cX8_strong) (pc := 12) (a := 0) (b := 225) (dk_at bnames01cX8_strong_0 12) rfl
theorem dX8_strong_15 : decode cX8_strong 15 = .ok (.lreturn, 1) := dk_173 (c := cX8_strong) (pc := 15) (dk_at bnames01cX8_strong_0 15)
set_option maxRecDepth 20000 in
theorem ggX8_strongest_X8_divided : GoodIn wsX8_strongest wsX8_divided := goodIn_r _ [7, 8, 9, 10, 11, 12, 13, 14, 15, 16, 17, 18, 19, 20, 21, 22, 23, 24, 25, 26, 27, 28, 6, 29, 30, 31, 32, 33, 34, 35, 36, 37, 38, 39, 40, 41, 42, 68, 69, 70, 71, 72, 73, 74, 75, 76, 77, 78, 79, 80, 81, 82, 83, 84, 85, 86, 87, 88, 89, 90, 91, 92, 93, 94, 95] rfl (by decide +kernel)
set_option maxRecDepth 20000 in
theorem gX8_strongest_X8_divided : GoodIn wsX8_strongest (wsV RX8 253 RX8 yX8_divided wsX8_divided) := goodIn_app (goodIn_r _ [3, 4, 5, 6] rfl (by decide +kernel)) ggX8_strongest_X8_divided
set_option maxRecDepth 20000 in
theorem ggX8_strongest_X6_strength : GoodIn wsX8_strongest wsX6_strength := goodIn_r _ [46, 47, 17, 21, 24, 48, 49, 16, 20, 50, 51, 52, 53, 14, 54, 55, 56, 57, 58, 59, 60, 61, 62, 63, 64, 65, 66, 67, 85, 86, 87, 88, 89, 90, 91, 92, 93, 94, 95] rfl (by decide +kernel)
set_option maxRecDepth 20000 in
theorem gX8_strongest_X6_strength : GoodIn wsX8_strongest (wsV RX8 279 RX6 yX6_strength wsX6_strength) := goodIn_app (goodIn_r _ [43, 44, 45, 14] rfl (by decide +kernel)) ggX8_strongest_X6_strength
theorem bnames01cX8_strongest_0 : ((dk_l cX8_strongest).drop 0).take 52 = [2, 60, 20, 1, 26, 65, 4, 54, 4, 21, 4, 16, 12, 163, 0, 41, 42, 42, 180, 0, 29, 4, 21, 4, 4, 100, 120, 182, 0, 253, 182, 1, 23, 55, 5, 22, 5, 32, 148, 158, 0, 9, 22, 5, 65, 21, 4, 60, 132, 4, 1, 167] := by decide +kernel
theorem dX8_strongest_0 : decode cX8_strongest 0 = .ok (.iconst (-1), 1) := dk_2 (c := cX8_strongest) (pc := 0) (dk_at bnames01cX8_strongest_0 0)
theorem dX8_strongest_1 : decode cX8_strongest 1 = .ok (.istore_n 1, 1) := dk_60 (c := cX8_strongest) (pc := 1) (dk_at bnames01cX8_strongest_0 1)
theorem dX8_strongest_2 : decode cX8_strongest 2 = .ok (.ldc2_w 282, 3) := dk_20 (c := cX8_strongest) (pc := 2) (a := 1) (b := 26) (dk_at bnames01cX8_strongest_0 2) rfl
theorem dX8_strongest_5 : decode cX8_strongest 5 = .ok (.lstore_n 2, 1) := dk_65 (c := cX8_strongest) (pc := 5) (dk_at bnames01cX8_strongest_0 5)
theorem dX8_strongest_6 : decode cX8_strongest 6 = .ok (.iconst 1, 1) := dk_4 (c := cX8_strongest) (pc := 6) (dk_at bnames01cX8_strongest_0 6)
theorem dX8_strongest_7 : decode cX8_strongest 7 = .ok (.istore 4, 2) := dk_54 (c := cX8_strongest) (pc := 7) (a := 4) (dk_at bnames01cX8_strongest_0 7) rfl
theorem dX8_strongest_9 : decode cX8_strongest 9 = .ok (.iload 4, 2) := dk_21 (c := cX8_strongest) (pc := 9) (a := 4) (dk_at bnames01cX8_strongest_0 9) rfl
theorem dX8_strongest_11 : decode cX8_strongest 11 = .ok (.bipush 12, 2) := dk_16 (c := cX8_strongest) (pc := 11) (a := 12) (dk_at bnames01cX8_strongest_0 11) (by decide)
theorem dX8_strongest_13 : decode cX8_strongest 13 = .ok (.if_icmp .gt 41, 3) := dk_163 (c := cX8_strongest) (pc := 13) (a := 0) (b := 41) (dk_at bnames01cX8_strongest_0 13) (by decide)
theorem dX8_strongest_16 : decode cX8_strongest 16 = .ok (.aload_n 0, 1) := dk_42 (c := cX8_strongest) (pc := 16) (dk_at bnames01cX8_strongest_0 16)
theorem dX8_strongest_17 : decode cX8_strongest 17 = .ok (.aload_n 0, 1) := dk_42 (c := cX8_strongest) (pc := 17) (dk_at bnames01cX8_strongest_0 17)
theorem dX8_strongest_18 : decode cX8_strongest 18 = .ok (.getfield 29, 3) := dk_180 (c := cX8_strongest) (pc := 18) (a := 0) (b := 29) (dk_at bnames01cX8_strongest_0 18) rfl
theorem dX8_strongest_21 : decode cX8_strongest 21 = .ok (.iconst 1, 1) := dk_4 (c := cX8_strongest) (pc := 21) (dk_at bnames01cX8_strongest_0 21)
theorem dX8_strongest_22 : decode cX8_strongest 22 = .ok (.iload 4, 2) := dk_21 (c := cX8_strongest) (pc := 22) (a := 4) (dk_at bnames01cX8_strongest_0 22) rfl
theorem dX8_strongest_24 : decode cX8_strongest 24 = .ok (.iconst 1, 1) := dk_4 (c := cX8_strongest) (pc := 24) (dk_at bnames01cX8_strongest_0 24)
theorem dX8_strongest_25 : decode cX8_strongest 25 = .ok (.isub, 1) := dk_100 (c := cX8_strongest) (pc := 25) (dk_at bnames01cX8_strongest_0 25)
theorem dX8_strongest_26 : decode cX8_strongest 26 = .ok (.ishl, 1) := dk_120 (c := cX8_strongest) (pc := 26) (dk_at bnames01cX8_strongest_0 26)
theorem dX8_strongest_27 : decode cX8_strongest 27 = .ok (.invokevirtual 253, 3) := dk_182 (c := cX8_strongest) (pc := 27) (a := 0) (b := 253) (dk_at bnames01cX8_strongest_0 27) rfl
theorem dX8_strongest_30 : decode cX8_strongest 30 = .ok (.invokevirtual 279, 3) := dk_182 (c := cX8_strongest) (pc := 30) (a := 1) (b := 23) (dk_at bnames01cX8_strongest_0 30) rfl
theorem dX8_strongest_33 : decode cX8_strongest 33 = .ok (.lstore 5, 2) := dk_55 (c := cX8_strongest) (pc := 33) (a := 5) (dk_at bnames01cX8_strongest_0 33) rfl
theorem dX8_strongest_35 : decode cX8_strongest 35 = .ok (.lload 5, 2) := dk_22 (c := cX8_strongest) (pc := 35) (a := 5) (dk_at bnames01cX8_strongest_0 35) rfl
theorem dX8_strongest_37 : decode cX8_strongest 37 = .ok (.lload_n 2, 1) := dk_32 (c := cX8_strongest) (pc := 37) (dk_at bnames01cX8_strongest_0 37)
theorem dX8_strongest_38 : decode cX8_strongest 38 = .ok (.lcmp, 1) := dk_148 (c := cX8_strongest) (pc := 38) (dk_at bnames01cX8_strongest_0 38)
theorem dX8_strongest_39 : decode cX8_strongest 39 = .ok (.ifCond .le 9, 3) := dk_158 (c := cX8_strongest) (pc := 39) (a := 0) (b := 9) (dk_at bnames01cX8_strongest_0 39) (by decide)
theorem dX8_strongest_42 : decode cX8_strongest 42 = .ok (.lload 5, 2) := dk_22 (c := cX8_strongest) (pc := 42) (a := 5) (dk_at bnames01cX8_strongest_0 42) rfl
theorem dX8_strongest_44 : decode cX8_strongest 44 = .ok (.lstore_n 2, 1) := dk_65 (c := cX8_strongest) (pc := 44) (dk_at bnames01cX8_strongest_0 44)
theorem dX8_strongest_45 : decode cX8_strongest 45 = .ok (.iload 4, 2) := dk_21 (c := cX8_strongest) (pc := 45) (a := 4) (dk_at bnames01cX8_strongest_0 45) rfl
theorem dX8_strongest_47 : decode cX8_strongest 47 = .ok (.istore_n 1, 1) := dk_60 (c := cX8_strongest) (pc := 47) (dk_at bnames01cX8_strongest_0 47)
theorem bnames01cX8_strongest_48 : ((dk_l cX8_strongest).drop 48).take 8 = [132, 4, 1, 167, 255, 214, 27, 172] := by decide +kernel
theorem dX8_strongest_48 : decode cX8_strongest 48 = .ok (.iinc 4 1, 3) := dk_132 (c := cX8_strongest) (pc := 48) (a := 4) (b := 1) (dk_at bnames01cX8_strongest_48 0) rfl (by decide)
theorem dX8_strongest_51 : decode cX8_strongest 51 = .ok (.goto (-42), 3) := dk_167 (c := cX8_strongest) (pc := 51) (a := 255) (b := 214) (dk_at bnames01cX8_strongest_48 3) (by decide)
theorem dX8_strongest_54 : decode cX8_strongest 54 = .ok (.iload_n 1, 1) := dk_27 (c := cX8_strongest) (pc := 54) (dk_at bnames01cX8_strongest_48 6)
theorem dX8_strongest_55 : decode cX8_strongest 55 = .ok (.ireturn, 1) := dk_172 (c := cX8_strongest) (pc := 55) (dk_at bnames01cX8_strongest_48 7)
set_option maxRecDepth 20000 in
theorem ggX8_span_X8_within : GoodIn wsX8_span wsX8_within := goodIn_r _ [6] rfl (by decide +kernel)
set_option maxRecDepth 20000 in
theorem gX8_span_X8_within : GoodIn wsX8_span (va_wsS RX8 105 yX8_within wsX8_within) := goodIn_app (goodIn_r _ [3, 4, 5] rfl (by decide +kernel)) ggX8_span_X8_within
set_option maxRecDepth 20000 in
theorem ggX8_span_X8_divided : GoodIn wsX8_span wsX8_divided := goodIn_r _ [10, 11, 12, 13, 14, 15, 16, 17, 18, 19, 20, 21, 22, 23, 24, 25, 26, 27, 28, 29, 30, 31, 5, 32, 3, 4, 6, 33, 34, 35, 36, 37, 38, 39, 40, 41, 42, 100, 101, 102, 103, 104, 105, 106, 107, 108, 109, 110, 111, 112, 113, 114, 115, 116, 117, 118, 119, 120, 121, 122, 123, 124, 125, 126, 127] rfl (by decide +kernel)
set_option maxRecDepth 20000 in
theorem gX8_span_X8_divided : GoodIn wsX8_span (wsV RX8 253 RX8 yX8_divided wsX8_divided) := goodIn_app (goodIn_r _ [7, 8, 9, 5] rfl (by decide +kernel)) ggX8_span_X8_divided
set_option maxRecDepth 20000 in
theorem ggX8_span_X6_hasSpan : GoodIn wsX8_span wsX6_hasSpan := goodIn_r _ [46, 19, 23, 47, 48, 49, 50, 17, 51, 117, 118, 119, 120, 121, 122, 123, 124, 125, 126, 127] rfl (by decide +kernel)
set_option maxRecDepth 20000 in
theorem gX8_span_X6_hasSpan : GoodIn wsX8_span (wsV RX8 284 RX6 yX6_hasSpan wsX6_hasSpan) := goodIn_app (goodIn_r _ [43, 44, 45, 17] rfl (by decide +kernel)) ggX8_span_X6_hasSpan
set_option maxRecDepth 20000 in
theorem ggX8_span_X6_trueSpan : GoodIn wsX8_span wsX6_trueSpan := goodIn_r _ [55, 56, 57, 58, 17, 59, 60, 61, 62, 63, 64, 65, 66, 67, 68, 69, 70, 71, 72, 73, 20, 24, 74, 21, 25, 19, 23, 75, 76, 77, 78, 48, 49, 50, 51, 79, 80, 81, 82, 29, 83, 28, 27, 84, 85, 86, 87, 88, 89, 90, 91, 92, 93, 94, 95, 96, 97, 98, 99, 117, 118, 119, 120, 121, 122, 123, 124, 125, 126, 127] rfl (by decide +kernel)
set_option maxRecDepth 20000 in
theorem gX8_span_X6_trueSpan : GoodIn wsX8_span (wsV RX8 287 RX6 yX6_trueSpan wsX6_trueSpan) := goodIn_app (goodIn_r _ [52, 53, 54, 17] rfl (by decide +kernel)) ggX8_span_X6_trueSpan
theorem bnames01cX8_span_0 : ((dk_l cX8_span).drop 0).take 52 = [28, 4, 16, 10, 184, 0, 105, 153, 0, 12, 29, 3, 6, 184, 0, 105, 154, 0, 6, 18, 214, 172, 42, 42, 180, 0, 29, 27, 182, 0, 253, 58, 4, 25, 4, 182, 1, 28, 153, 0, 13, 25, 4, 28, 29, 182, 1, 31, 167, 0, 5, 18] := by decide +kernel
theorem dX8_span_0 : decode cX8_span 0 = .ok (.iload_n 2, 1) := dk_28 (c := cX8_span) (pc := 0) (dk_at bnames01cX8_span_0 0)
theorem dX8_span_1 : decode cX8_span 1 = .ok (.iconst 1, 1) := dk_4 (c := cX8_span) (pc := 1) (dk_at bnames01cX8_span_0 1)
theorem dX8_span_2 : decode cX8_span 2 = .ok (.bipush 10, 2) := dk_16 (c := cX8_span) (pc := 2) (a := 10) (dk_at bnames01cX8_span_0 2) (by decide)
theorem dX8_span_4 : decode cX8_span 4 = .ok (.invokestatic 105, 3) := dk_184 (c := cX8_span) (pc := 4) (a := 0) (b := 105) (dk_at bnames01cX8_span_0 4) rfl
theorem dX8_span_7 : decode cX8_span 7 = .ok (.ifCond .eq 12, 3) := dk_153 (c := cX8_span) (pc := 7) (a := 0) (b := 12) (dk_at bnames01cX8_span_0 7) (by decide)
theorem dX8_span_10 : decode cX8_span 10 = .ok (.iload_n 3, 1) := dk_29 (c := cX8_span) (pc := 10) (dk_at bnames01cX8_span_0 10)
theorem dX8_span_11 : decode cX8_span 11 = .ok (.iconst 0, 1) := dk_3 (c := cX8_span) (pc := 11) (dk_at bnames01cX8_span_0 11)
theorem dX8_span_12 : decode cX8_span 12 = .ok (.iconst 3, 1) := dk_6 (c := cX8_span) (pc := 12) (dk_at bnames01cX8_span_0 12)
theorem dX8_span_13 : decode cX8_span 13 = .ok (.invokestatic 105, 3) := dk_184 (c := cX8_span) (pc := 13) (a := 0) (b := 105) (dk_at bnames01cX8_span_0 13) rfl
theorem dX8_span_16 : decode cX8_span 16 = .ok (.ifCond .ne 6, 3) := dk_154 (c := cX8_span) (pc := 16) (a := 0) (b := 6) (dk_at bnames01cX8_span_0 16) (by decide)
theorem dX8_span_19 : decode cX8_span 19 = .ok (.ldc 214, 2) := dk_18 (c := cX8_span) (pc := 19) (a := 214) (dk_at bnames01cX8_span_0 19) rfl
theorem dX8_span_21 : decode cX8_span 21 = .ok (.ireturn, 1) := dk_172 (c := cX8_span) (pc := 21) (dk_at bnames01cX8_span_0 21)
theorem dX8_span_22 : decode cX8_span 22 = .ok (.aload_n 0, 1) := dk_42 (c := cX8_span) (pc := 22) (dk_at bnames01cX8_span_0 22)
theorem dX8_span_23 : decode cX8_span 23 = .ok (.aload_n 0, 1) := dk_42 (c := cX8_span) (pc := 23) (dk_at bnames01cX8_span_0 23)
theorem dX8_span_24 : decode cX8_span 24 = .ok (.getfield 29, 3) := dk_180 (c := cX8_span) (pc := 24) (a := 0) (b := 29) (dk_at bnames01cX8_span_0 24) rfl
theorem dX8_span_27 : decode cX8_span 27 = .ok (.iload_n 1, 1) := dk_27 (c := cX8_span) (pc := 27) (dk_at bnames01cX8_span_0 27)
theorem dX8_span_28 : decode cX8_span 28 = .ok (.invokevirtual 253, 3) := dk_182 (c := cX8_span) (pc := 28) (a := 0) (b := 253) (dk_at bnames01cX8_span_0 28) rfl
theorem dX8_span_31 : decode cX8_span 31 = .ok (.astore 4, 2) := dk_58 (c := cX8_span) (pc := 31) (a := 4) (dk_at bnames01cX8_span_0 31) rfl
theorem dX8_span_33 : decode cX8_span 33 = .ok (.aload 4, 2) := dk_25 (c := cX8_span) (pc := 33) (a := 4) (dk_at bnames01cX8_span_0 33) rfl
theorem dX8_span_35 : decode cX8_span 35 = .ok (.invokevirtual 284, 3) := dk_182 (c := cX8_span) (pc := 35) (a := 1) (b := 28) (dk_at bnames01cX8_span_0 35) rfl
theorem dX8_span_38 : decode cX8_span 38 = .ok (.ifCond .eq 13, 3) := dk_153 (c := cX8_span) (pc := 38) (a := 0) (b := 13) (dk_at bnames01cX8_span_0 38) (by decide)
theorem dX8_span_41 : decode cX8_span 41 = .ok (.aload 4, 2) := dk_25 (c := cX8_span) (pc := 41) (a := 4) (dk_at bnames01cX8_span_0 41) rfl
theorem dX8_span_43 : decode cX8_span 43 = .ok (.iload_n 2, 1) := dk_28 (c := cX8_span) (pc := 43) (dk_at bnames01cX8_span_0 43)
theorem dX8_span_44 : decode cX8_span 44 = .ok (.iload_n 3, 1) := dk_29 (c := cX8_span) (pc := 44) (dk_at bnames01cX8_span_0 44)
theorem dX8_span_45 : decode cX8_span 45 = .ok (.invokevirtual 287, 3) := dk_182 (c := cX8_span) (pc := 45) (a := 1) (b := 31) (dk_at bnames01cX8_span_0 45) rfl
theorem bnames01cX8_span_48 : ((dk_l cX8_span).drop 48).take 6 = [167, 0, 5, 18, 214, 172] := by decide +kernel
theorem dX8_span_48 : decode cX8_span 48 = .ok (.goto 5, 3) := dk_167 (c := cX8_span) (pc := 48) (a := 0) (b := 5) (dk_at bnames01cX8_span_48 0) (by decide)
theorem dX8_span_51 : decode cX8_span 51 = .ok (.ldc 214, 2) := dk_18 (c := cX8_span) (pc := 51) (a := 214) (dk_at bnames01cX8_span_48 3) rfl
theorem dX8_span_53 : decode cX8_span 53 = .ok (.ireturn, 1) := dk_172 (c := cX8_span) (pc := 53) (dk_at bnames01cX8_span_48 5)
set_option maxRecDepth 20000 in
theorem ggX8_usual_X8_within : GoodIn wsX8_usual wsX8_within := goodIn_r _ [6] rfl (by decide +kernel)
set_option maxRecDepth 20000 in
theorem gX8_usual_X8_within : GoodIn wsX8_usual (va_wsS RX8 105 yX8_within wsX8_within) := goodIn_app (goodIn_r _ [3, 4, 5] rfl (by decide +kernel)) ggX8_usual_X8_within
set_option maxRecDepth 20000 in
theorem ggX8_usual_X8_divided : GoodIn wsX8_usual wsX8_divided := goodIn_r _ [10, 11, 12, 13, 14, 15, 16, 17, 18, 19, 20, 21, 22, 23, 24, 25, 26, 27, 28, 29, 30, 31, 5, 32, 3, 4, 6, 33, 34, 35, 36, 37, 38, 39, 40, 41, 42, 106, 107, 108, 109, 110, 111, 112, 113, 114, 115, 116, 117, 118, 119, 120, 121, 122, 123, 124, 125, 126, 127, 128, 129, 130, 131, 132, 133] rfl (by decide +kernel)
set_option maxRecDepth 20000 in
theorem gX8_usual_X8_divided : GoodIn wsX8_usual (wsV RX8 253 RX8 yX8_divided wsX8_divided) := goodIn_app (goodIn_r _ [7, 8, 9, 5] rfl (by decide +kernel)) ggX8_usual_X8_divided
set_option maxRecDepth 20000 in
theorem ggX8_usual_X6_hasUsualSpan : GoodIn wsX8_usual wsX6_hasUsualSpan := goodIn_r _ [46, 47, 48, 49, 50, 51, 52, 53, 17, 54, 55, 56, 57, 58, 20, 24, 21, 25, 19, 23, 59, 60, 61, 62, 63, 64, 65, 66, 67, 68, 69, 70, 71, 123, 124, 125, 126, 127, 128, 129, 130, 131, 132, 133] rfl (by decide +kernel)
set_option maxRecDepth 20000 in
theorem gX8_usual_X6_hasUsualSpan : GoodIn wsX8_usual (wsV RX8 290 RX6 yX6_hasUsualSpan wsX6_hasUsualSpan) := goodIn_app (goodIn_r _ [43, 44, 45, 17] rfl (by decide +kernel)) ggX8_usual_X6_hasUsualSpan
set_option maxRecDepth 20000 in
theorem ggX8_usual_X6_usualSpan : GoodIn wsX8_usual wsX6_usualSpan := goodIn_r _ [75, 76, 77, 78, 17, 79, 80, 81, 82, 83, 84, 48, 51, 52, 53, 54, 55, 56, 57, 58, 20, 24, 47, 21, 25, 19, 23, 59, 60, 61, 62, 63, 64, 65, 66, 85, 86, 87, 88, 29, 89, 28, 27, 90, 91, 92, 93, 94, 95, 96, 97, 98, 99, 100, 101, 102, 103, 104, 105, 123, 124, 125, 126, 127, 128, 129, 130, 131, 132, 133] rfl (by decide +kernel)
set_option maxRecDepth 20000 in
theorem gX8_usual_X6_usualSpan : GoodIn wsX8_usual (wsV RX8 293 RX6 yX6_usualSpan wsX6_usualSpan) := goodIn_app (goodIn_r _ [72, 73, 74, 17] rfl (by decide +kernel)) ggX8_usual_X6_usualSpan
theorem bnames01cX8_usual_0 : ((dk_l cX8_usual).drop 0).take 52 = [28, 4, 16, 10, 184, 0, 105, 153, 0, 12, 29, 3, 6, 184, 0, 105, 154, 0, 6, 18, 214, 172, 42, 42, 180, 0, 29, 27, 182, 0, 253, 58, 4, 25, 4, 182, 1, 34, 153, 0, 13, 25, 4, 28, 29, 182, 1, 37, 167, 0, 5, 18] := by decide +kernel
theorem dX8_usual_0 : decode cX8_usual 0 = .ok (.iload_n 2, 1) := dk_28 (c := cX8_usual) (pc := 0) (dk_at bnames01cX8_usual_0 0)
theorem dX8_usual_1 : decode cX8_usual 1 = .ok (.iconst 1, 1) := dk_4 (c := cX8_usual) (pc := 1) (dk_at bnames01cX8_usual_0 1)
theorem dX8_usual_2 : decode cX8_usual 2 = .ok (.bipush 10, 2) := dk_16 (c := cX8_usual) (pc := 2) (a := 10) (dk_at bnames01cX8_usual_0 2) (by decide)
theorem dX8_usual_4 : decode cX8_usual 4 = .ok (.invokestatic 105, 3) := dk_184 (c := cX8_usual) (pc := 4) (a := 0) (b := 105) (dk_at bnames01cX8_usual_0 4) rfl
theorem dX8_usual_7 : decode cX8_usual 7 = .ok (.ifCond .eq 12, 3) := dk_153 (c := cX8_usual) (pc := 7) (a := 0) (b := 12) (dk_at bnames01cX8_usual_0 7) (by decide)
theorem dX8_usual_10 : decode cX8_usual 10 = .ok (.iload_n 3, 1) := dk_29 (c := cX8_usual) (pc := 10) (dk_at bnames01cX8_usual_0 10)
theorem dX8_usual_11 : decode cX8_usual 11 = .ok (.iconst 0, 1) := dk_3 (c := cX8_usual) (pc := 11) (dk_at bnames01cX8_usual_0 11)
theorem dX8_usual_12 : decode cX8_usual 12 = .ok (.iconst 3, 1) := dk_6 (c := cX8_usual) (pc := 12) (dk_at bnames01cX8_usual_0 12)
theorem dX8_usual_13 : decode cX8_usual 13 = .ok (.invokestatic 105, 3) := dk_184 (c := cX8_usual) (pc := 13) (a := 0) (b := 105) (dk_at bnames01cX8_usual_0 13) rfl
theorem dX8_usual_16 : decode cX8_usual 16 = .ok (.ifCond .ne 6, 3) := dk_154 (c := cX8_usual) (pc := 16) (a := 0) (b := 6) (dk_at bnames01cX8_usual_0 16) (by decide)
theorem dX8_usual_19 : decode cX8_usual 19 = .ok (.ldc 214, 2) := dk_18 (c := cX8_usual) (pc := 19) (a := 214) (dk_at bnames01cX8_usual_0 19) rfl
theorem dX8_usual_21 : decode cX8_usual 21 = .ok (.ireturn, 1) := dk_172 (c := cX8_usual) (pc := 21) (dk_at bnames01cX8_usual_0 21)
theorem dX8_usual_22 : decode cX8_usual 22 = .ok (.aload_n 0, 1) := dk_42 (c := cX8_usual) (pc := 22) (dk_at bnames01cX8_usual_0 22)
theorem dX8_usual_23 : decode cX8_usual 23 = .ok (.aload_n 0, 1) := dk_42 (c := cX8_usual) (pc := 23) (dk_at bnames01cX8_usual_0 23)
theorem dX8_usual_24 : decode cX8_usual 24 = .ok (.getfield 29, 3) := dk_180 (c := cX8_usual) (pc := 24) (a := 0) (b := 29) (dk_at bnames01cX8_usual_0 24) rfl
theorem dX8_usual_27 : decode cX8_usual 27 = .ok (.iload_n 1, 1) := dk_27 (c := cX8_usual) (pc := 27) (dk_at bnames01cX8_usual_0 27)
theorem dX8_usual_28 : decode cX8_usual 28 = .ok (.invokevirtual 253, 3) := dk_182 (c := cX8_usual) (pc := 28) (a := 0) (b := 253) (dk_at bnames01cX8_usual_0 28) rfl
theorem dX8_usual_31 : decode cX8_usual 31 = .ok (.astore 4, 2) := dk_58 (c := cX8_usual) (pc := 31) (a := 4) (dk_at bnames01cX8_usual_0 31) rfl
theorem dX8_usual_33 : decode cX8_usual 33 = .ok (.aload 4, 2) := dk_25 (c := cX8_usual) (pc := 33) (a := 4) (dk_at bnames01cX8_usual_0 33) rfl
theorem dX8_usual_35 : decode cX8_usual 35 = .ok (.invokevirtual 290, 3) := dk_182 (c := cX8_usual) (pc := 35) (a := 1) (b := 34) (dk_at bnames01cX8_usual_0 35) rfl
theorem dX8_usual_38 : decode cX8_usual 38 = .ok (.ifCond .eq 13, 3) := dk_153 (c := cX8_usual) (pc := 38) (a := 0) (b := 13) (dk_at bnames01cX8_usual_0 38) (by decide)
theorem dX8_usual_41 : decode cX8_usual 41 = .ok (.aload 4, 2) := dk_25 (c := cX8_usual) (pc := 41) (a := 4) (dk_at bnames01cX8_usual_0 41) rfl
theorem dX8_usual_43 : decode cX8_usual 43 = .ok (.iload_n 2, 1) := dk_28 (c := cX8_usual) (pc := 43) (dk_at bnames01cX8_usual_0 43)
theorem dX8_usual_44 : decode cX8_usual 44 = .ok (.iload_n 3, 1) := dk_29 (c := cX8_usual) (pc := 44) (dk_at bnames01cX8_usual_0 44)
theorem dX8_usual_45 : decode cX8_usual 45 = .ok (.invokevirtual 293, 3) := dk_182 (c := cX8_usual) (pc := 45) (a := 1) (b := 37) (dk_at bnames01cX8_usual_0 45) rfl
theorem bnames01cX8_usual_48 : ((dk_l cX8_usual).drop 48).take 6 = [167, 0, 5, 18, 214, 172] := by decide +kernel
theorem dX8_usual_48 : decode cX8_usual 48 = .ok (.goto 5, 3) := dk_167 (c := cX8_usual) (pc := 48) (a := 0) (b := 5) (dk_at bnames01cX8_usual_48 0) (by decide)
theorem dX8_usual_51 : decode cX8_usual 51 = .ok (.ldc 214, 2) := dk_18 (c := cX8_usual) (pc := 51) (a := 214) (dk_at bnames01cX8_usual_48 3) rfl
theorem dX8_usual_53 : decode cX8_usual 53 = .ok (.ireturn, 1) := dk_172 (c := cX8_usual) (pc := 53) (dk_at bnames01cX8_usual_48 5)
set_option maxRecDepth 20000 in
theorem ggX8_kept_X8_within : GoodIn wsX8_kept wsX8_within := goodIn_r _ [5] rfl (by decide +kernel)
set_option maxRecDepth 20000 in
theorem gX8_kept_X8_within : GoodIn wsX8_kept (va_wsS RX8 105 yX8_within wsX8_within) := goodIn_app (goodIn_r _ [2, 3, 4] rfl (by decide +kernel)) ggX8_kept_X8_within
set_option maxRecDepth 20000 in
theorem ggX8_kept_X8_divided : GoodIn wsX8_kept wsX8_divided := goodIn_r _ [9, 10, 11, 12, 13, 14, 15, 16, 17, 18, 19, 20, 21, 22, 23, 24, 25, 26, 27, 28, 29, 30, 4, 31, 2, 3, 5, 32, 33, 34, 35, 36, 37, 38, 39, 40, 41, 76, 77, 78, 79, 80, 81, 82, 83, 84, 85, 86, 87, 88, 89, 90, 91, 92, 93, 94, 95, 96, 97, 98, 99, 100, 101, 102, 103] rfl (by decide +kernel)
set_option maxRecDepth 20000 in
theorem gX8_kept_X8_divided : GoodIn wsX8_kept (wsV RX8 253 RX8 yX8_divided wsX8_divided) := goodIn_app (goodIn_r _ [6, 7, 8, 4] rfl (by decide +kernel)) ggX8_kept_X8_divided
set_option maxRecDepth 20000 in
theorem ggX8_kept_X6_hasSpan : GoodIn wsX8_kept wsX6_hasSpan := goodIn_r _ [45, 18, 22, 46, 47, 48, 49, 16, 50, 93, 94, 95, 96, 97, 98, 99, 100, 101, 102, 103] rfl (by decide +kernel)
set_option maxRecDepth 20000 in
theorem gX8_kept_X6_hasSpan : GoodIn wsX8_kept (wsV RX8 284 RX6 yX6_hasSpan wsX6_hasSpan) := goodIn_app (goodIn_r _ [42, 43, 44, 16] rfl (by decide +kernel)) ggX8_kept_X6_hasSpan
set_option maxRecDepth 20000 in
theorem ggX8_kept_X6_inTrueSpan : GoodIn wsX8_kept wsX6_inTrueSpan := goodIn_r _ [54, 55, 56, 57, 16, 58, 28, 59, 27, 26, 20, 19, 24, 23, 60, 61, 62, 63, 18, 22, 64, 65, 66, 67, 68, 69, 70, 71, 72, 73, 74, 75, 93, 94, 95, 96, 97, 98, 99, 100, 101, 102, 103] rfl (by decide +kernel)
set_option maxRecDepth 20000 in
theorem gX8_kept_X6_inTrueSpan : GoodIn wsX8_kept (wsV RX8 296 RX6 yX6_inTrueSpan wsX6_inTrueSpan) := goodIn_app (goodIn_r _ [51, 52, 53, 16] rfl (by decide +kernel)) ggX8_kept_X6_inTrueSpan
theorem bnames01cX8_kept_0 : ((dk_l cX8_kept).drop 0).take 52 = [28, 4, 16, 10, 184, 0, 105, 153, 0, 14, 29, 16, 157, 16, 99, 184, 0, 105, 154, 0, 6, 16, 254, 172, 42, 42, 180, 0, 29, 27, 182, 0, 253, 58, 4, 25, 4, 182, 1, 28, 154, 0, 6, 16, 254, 172, 25, 4, 29, 133, 28, 182] := by decide +kernel
theorem dX8_kept_0 : decode cX8_kept 0 = .ok (.iload_n 2, 1) := dk_28 (c := cX8_kept) (pc := 0) (dk_at bnames01cX8_kept_0 0)
theorem dX8_kept_1 : decode cX8_kept 1 = .ok (.iconst 1, 1) := dk_4 (c := cX8_kept) (pc := 1) (dk_at bnames01cX8_kept_0 1)
theorem dX8_kept_2 : decode cX8_kept 2 = .ok (.bipush 10, 2) := dk_16 (c := cX8_kept) (pc := 2) (a := 10) (dk_at bnames01cX8_kept_0 2) (by decide)
theorem dX8_kept_4 : decode cX8_kept 4 = .ok (.invokestatic 105, 3) := dk_184 (c := cX8_kept) (pc := 4) (a := 0) (b := 105) (dk_at bnames01cX8_kept_0 4) rfl
theorem dX8_kept_7 : decode cX8_kept 7 = .ok (.ifCond .eq 14, 3) := dk_153 (c := cX8_kept) (pc := 7) (a := 0) (b := 14) (dk_at bnames01cX8_kept_0 7) (by decide)
theorem dX8_kept_10 : decode cX8_kept 10 = .ok (.iload_n 3, 1) := dk_29 (c := cX8_kept) (pc := 10) (dk_at bnames01cX8_kept_0 10)
theorem dX8_kept_11 : decode cX8_kept 11 = .ok (.bipush (-99), 2) := dk_16 (c := cX8_kept) (pc := 11) (a := 157) (dk_at bnames01cX8_kept_0 11) (by decide)
theorem dX8_kept_13 : decode cX8_kept 13 = .ok (.bipush 99, 2) := dk_16 (c := cX8_kept) (pc := 13) (a := 99) (dk_at bnames01cX8_kept_0 13) (by decide)
theorem dX8_kept_15 : decode cX8_kept 15 = .ok (.invokestatic 105, 3) := dk_184 (c := cX8_kept) (pc := 15) (a := 0) (b := 105) (dk_at bnames01cX8_kept_0 15) rfl
theorem dX8_kept_18 : decode cX8_kept 18 = .ok (.ifCond .ne 6, 3) := dk_154 (c := cX8_kept) (pc := 18) (a := 0) (b := 6) (dk_at bnames01cX8_kept_0 18) (by decide)
theorem dX8_kept_21 : decode cX8_kept 21 = .ok (.bipush (-2), 2) := dk_16 (c := cX8_kept) (pc := 21) (a := 254) (dk_at bnames01cX8_kept_0 21) (by decide)
theorem dX8_kept_23 : decode cX8_kept 23 = .ok (.ireturn, 1) := dk_172 (c := cX8_kept) (pc := 23) (dk_at bnames01cX8_kept_0 23)
theorem dX8_kept_24 : decode cX8_kept 24 = .ok (.aload_n 0, 1) := dk_42 (c := cX8_kept) (pc := 24) (dk_at bnames01cX8_kept_0 24)
theorem dX8_kept_25 : decode cX8_kept 25 = .ok (.aload_n 0, 1) := dk_42 (c := cX8_kept) (pc := 25) (dk_at bnames01cX8_kept_0 25)
theorem dX8_kept_26 : decode cX8_kept 26 = .ok (.getfield 29, 3) := dk_180 (c := cX8_kept) (pc := 26) (a := 0) (b := 29) (dk_at bnames01cX8_kept_0 26) rfl
theorem dX8_kept_29 : decode cX8_kept 29 = .ok (.iload_n 1, 1) := dk_27 (c := cX8_kept) (pc := 29) (dk_at bnames01cX8_kept_0 29)
theorem dX8_kept_30 : decode cX8_kept 30 = .ok (.invokevirtual 253, 3) := dk_182 (c := cX8_kept) (pc := 30) (a := 0) (b := 253) (dk_at bnames01cX8_kept_0 30) rfl
theorem dX8_kept_33 : decode cX8_kept 33 = .ok (.astore 4, 2) := dk_58 (c := cX8_kept) (pc := 33) (a := 4) (dk_at bnames01cX8_kept_0 33) rfl
theorem dX8_kept_35 : decode cX8_kept 35 = .ok (.aload 4, 2) := dk_25 (c := cX8_kept) (pc := 35) (a := 4) (dk_at bnames01cX8_kept_0 35) rfl
theorem dX8_kept_37 : decode cX8_kept 37 = .ok (.invokevirtual 284, 3) := dk_182 (c := cX8_kept) (pc := 37) (a := 1) (b := 28) (dk_at bnames01cX8_kept_0 37) rfl
theorem dX8_kept_40 : decode cX8_kept 40 = .ok (.ifCond .ne 6, 3) := dk_154 (c := cX8_kept) (pc := 40) (a := 0) (b := 6) (dk_at bnames01cX8_kept_0 40) (by decide)
theorem dX8_kept_43 : decode cX8_kept 43 = .ok (.bipush (-2), 2) := dk_16 (c := cX8_kept) (pc := 43) (a := 254) (dk_at bnames01cX8_kept_0 43) (by decide)
theorem dX8_kept_45 : decode cX8_kept 45 = .ok (.ireturn, 1) := dk_172 (c := cX8_kept) (pc := 45) (dk_at bnames01cX8_kept_0 45)
theorem dX8_kept_46 : decode cX8_kept 46 = .ok (.aload 4, 2) := dk_25 (c := cX8_kept) (pc := 46) (a := 4) (dk_at bnames01cX8_kept_0 46) rfl
theorem bnames01cX8_kept_48 : ((dk_l cX8_kept).drop 48).take 15 = [29, 133, 28, 182, 1, 40, 153, 0, 7, 4, 167, 0, 4, 3, 172] := by decide +kernel
theorem dX8_kept_48 : decode cX8_kept 48 = .ok (.iload_n 3, 1) := dk_29 (c := cX8_kept) (pc := 48) (dk_at bnames01cX8_kept_48 0)
theorem dX8_kept_49 : decode cX8_kept 49 = .ok (.i2l, 1) := dk_133 (c := cX8_kept) (pc := 49) (dk_at bnames01cX8_kept_48 1)
theorem dX8_kept_50 : decode cX8_kept 50 = .ok (.iload_n 2, 1) := dk_28 (c := cX8_kept) (pc := 50) (dk_at bnames01cX8_kept_48 2)
theorem dX8_kept_51 : decode cX8_kept 51 = .ok (.invokevirtual 296, 3) := dk_182 (c := cX8_kept) (pc := 51) (a := 1) (b := 40) (dk_at bnames01cX8_kept_48 3) rfl
theorem dX8_kept_54 : decode cX8_kept 54 = .ok (.ifCond .eq 7, 3) := dk_153 (c := cX8_kept) (pc := 54) (a := 0) (b := 7) (dk_at bnames01cX8_kept_48 6) (by decide)
theorem dX8_kept_57 : decode cX8_kept 57 = .ok (.iconst 1, 1) := dk_4 (c := cX8_kept) (pc := 57) (dk_at bnames01cX8_kept_48 9)
theorem dX8_kept_58 : decode cX8_kept 58 = .ok (.goto 4, 3) := dk_167 (c := cX8_kept) (pc := 58) (a := 0) (b := 4) (dk_at bnames01cX8_kept_48 10) (by decide)
theorem dX8_kept_61 : decode cX8_kept 61 = .ok (.iconst 0, 1) := dk_3 (c := cX8_kept) (pc := 61) (dk_at bnames01cX8_kept_48 13)
theorem dX8_kept_62 : decode cX8_kept 62 = .ok (.ireturn, 1) := dk_172 (c := cX8_kept) (pc := 62) (dk_at bnames01cX8_kept_48 14)
set_option maxRecDepth 20000 in
theorem ggX8_hats_X8_isSeed : GoodIn wsX8_hats wsX8_isSeed := goodIn_r _ [7, 8, 9, 10, 6, 11] rfl (by decide +kernel)
set_option maxRecDepth 20000 in
theorem gX8_hats_X8_isSeed : GoodIn wsX8_hats (va_wsS RX8 113 yX8_isSeed wsX8_isSeed) := goodIn_app (goodIn_r _ [4, 5, 6] rfl (by decide +kernel)) ggX8_hats_X8_isSeed
set_option maxRecDepth 20000 in
theorem ggX8_hats_X8_within : GoodIn wsX8_hats wsX8_within := goodIn_r _ [11] rfl (by decide +kernel)
set_option maxRecDepth 20000 in
theorem gX8_hats_X8_within : GoodIn wsX8_hats (va_wsS RX8 105 yX8_within wsX8_within) := goodIn_app (goodIn_r _ [9, 10, 6] rfl (by decide +kernel)) ggX8_hats_X8_within
set_option maxRecDepth 20000 in
theorem ggX8_hats_X8_plainOf : GoodIn wsX8_hats wsX8_plainOf := goodIn_r _ [15, 16, 17, 18, 19, 20, 21, 22, 23, 24, 25, 26, 27, 28, 29, 30, 31, 32, 33, 34, 35, 36, 37, 38, 39, 40, 41, 42, 43, 44, 45, 46, 47, 48, 6, 49, 1, 50, 128, 129, 130, 131, 132, 133, 134, 135, 136, 137, 138, 139, 140, 141, 142, 143, 144, 145, 146, 147, 148, 149, 150, 151, 152, 153, 154, 155] rfl (by decide +kernel)
set_option maxRecDepth 20000 in
theorem gX8_hats_X8_plainOf : GoodIn wsX8_hats (wsV RX8 221 RX8 yX8_plainOf wsX8_plainOf) := goodIn_app (goodIn_r _ [12, 13, 14, 6] rfl (by decide +kernel)) ggX8_hats_X8_plainOf
set_option maxRecDepth 20000 in
theorem ggX8_hats_X0_from : GoodIn wsX8_hats wsX0_from := goodIn_r _ [55, 56, 156] rfl (by decide +kernel)
set_option maxRecDepth 20000 in
theorem gX8_hats_X0_from : GoodIn wsX8_hats (wsV RX8 124 RX0 yX0_from wsX0_from) := goodIn_app (goodIn_r _ [51, 52, 53, 54] rfl (by decide +kernel)) ggX8_hats_X0_from
set_option maxRecDepth 20000 in
theorem ggX8_hats_X8_drawHat : GoodIn wsX8_hats wsX8_drawHat := goodIn_r _ [60, 16, 17, 18, 3, 24, 25, 26, 27, 28, 29, 30, 31, 32, 33, 34, 35, 36, 37, 38, 39, 61, 62, 63, 54, 64, 65, 56, 66, 67, 68, 40, 41, 42, 43, 44, 45, 46, 128, 129, 130, 131, 132, 133, 134, 135, 136, 137, 138, 139, 140, 141, 142, 143, 144, 145, 146, 147, 148, 149, 150, 151, 152, 153, 154, 155, 156] rfl (by decide +kernel)
set_option maxRecDepth 20000 in
theorem gX8_hats_X8_drawHat : GoodIn wsX8_hats (wsV RX8 300 RX8 yX8_drawHat wsX8_drawHat) := goodIn_app (goodIn_r _ [57, 58, 59, 6] rfl (by decide +kernel)) ggX8_hats_X8_drawHat
set_option maxRecDepth 20000 in
theorem ggX8_hats_X8_hatCounts : GoodIn wsX8_hats wsX8_hatCounts := goodIn_r _ [72, 16, 1, 73, 74, 75, 76, 50, 77, 78, 79, 27, 80, 81, 82, 83, 84, 30, 34, 85, 86, 31, 35, 29, 33, 87, 88, 89, 90, 91, 92, 93, 94, 95, 96, 97, 98, 99, 100, 101, 102, 103, 104, 105, 106, 107, 108, 109, 110, 111, 112, 113, 114, 39, 115, 38, 37, 116, 117, 118, 119, 120, 121, 122, 123, 124, 125, 126, 127, 128, 129, 130, 131, 132, 133, 134, 135, 136, 137, 145, 146, 147, 148, 149, 150, 151, 152, 153, 154, 155] rfl (by decide +kernel)
set_option maxRecDepth 20000 in
theorem gX8_hats_X8_hatCounts : GoodIn wsX8_hats (wsV RX8 303 RX8 yX8_hatCounts wsX8_hatCounts) := goodIn_app (goodIn_r _ [69, 70, 71, 6] rfl (by decide +kernel)) ggX8_hats_X8_hatCounts
theorem bnames01cX8_hats_0 : ((dk_l cX8_hats).drop 0).take 52 = [27, 184, 0, 113, 153, 0, 13, 28, 4, 16, 40, 184, 0, 105, 154, 0, 6, 16, 254, 172, 29, 4, 16, 10, 184, 0, 105, 153, 0, 13, 21, 4, 3, 5, 184, 0, 105, 154, 0, 6, 16, 254, 172, 42, 182, 0, 221, 55, 5, 21, 4, 4] := by decide +kernel
theorem dX8_hats_0 : decode cX8_hats 0 = .ok (.iload_n 1, 1) := dk_27 (c := cX8_hats) (pc := 0) (dk_at bnames01cX8_hats_0 0)
theorem dX8_hats_1 : decode cX8_hats 1 = .ok (.invokestatic 113, 3) := dk_184 (c := cX8_hats) (pc := 1) (a := 0) (b := 113) (dk_at bnames01cX8_hats_0 1) rfl
theorem dX8_hats_4 : decode cX8_hats 4 = .ok (.ifCond .eq 13, 3) := dk_153 (c := cX8_hats) (pc := 4) (a := 0) (b := 13) (dk_at bnames01cX8_hats_0 4) (by decide)
theorem dX8_hats_7 : decode cX8_hats 7 = .ok (.iload_n 2, 1) := dk_28 (c := cX8_hats) (pc := 7) (dk_at bnames01cX8_hats_0 7)
theorem dX8_hats_8 : decode cX8_hats 8 = .ok (.iconst 1, 1) := dk_4 (c := cX8_hats) (pc := 8) (dk_at bnames01cX8_hats_0 8)
theorem dX8_hats_9 : decode cX8_hats 9 = .ok (.bipush 40, 2) := dk_16 (c := cX8_hats) (pc := 9) (a := 40) (dk_at bnames01cX8_hats_0 9) (by decide)
theorem dX8_hats_11 : decode cX8_hats 11 = .ok (.invokestatic 105, 3) := dk_184 (c := cX8_hats) (pc := 11) (a := 0) (b := 105) (dk_at bnames01cX8_hats_0 11) rfl
theorem dX8_hats_14 : decode cX8_hats 14 = .ok (.ifCond .ne 6, 3) := dk_154 (c := cX8_hats) (pc := 14) (a := 0) (b := 6) (dk_at bnames01cX8_hats_0 14) (by decide)
theorem dX8_hats_17 : decode cX8_hats 17 = .ok (.bipush (-2), 2) := dk_16 (c := cX8_hats) (pc := 17) (a := 254) (dk_at bnames01cX8_hats_0 17) (by decide)
theorem dX8_hats_19 : decode cX8_hats 19 = .ok (.ireturn, 1) := dk_172 (c := cX8_hats) (pc := 19) (dk_at bnames01cX8_hats_0 19)
theorem dX8_hats_20 : decode cX8_hats 20 = .ok (.iload_n 3, 1) := dk_29 (c := cX8_hats) (pc := 20) (dk_at bnames01cX8_hats_0 20)
theorem dX8_hats_21 : decode cX8_hats 21 = .ok (.iconst 1, 1) := dk_4 (c := cX8_hats) (pc := 21) (dk_at bnames01cX8_hats_0 21)
theorem dX8_hats_22 : decode cX8_hats 22 = .ok (.bipush 10, 2) := dk_16 (c := cX8_hats) (pc := 22) (a := 10) (dk_at bnames01cX8_hats_0 22) (by decide)
theorem dX8_hats_24 : decode cX8_hats 24 = .ok (.invokestatic 105, 3) := dk_184 (c := cX8_hats) (pc := 24) (a := 0) (b := 105) (dk_at bnames01cX8_hats_0 24) rfl
theorem dX8_hats_27 : decode cX8_hats 27 = .ok (.ifCond .eq 13, 3) := dk_153 (c := cX8_hats) (pc := 27) (a := 0) (b := 13) (dk_at bnames01cX8_hats_0 27) (by decide)
theorem dX8_hats_30 : decode cX8_hats 30 = .ok (.iload 4, 2) := dk_21 (c := cX8_hats) (pc := 30) (a := 4) (dk_at bnames01cX8_hats_0 30) rfl
theorem dX8_hats_32 : decode cX8_hats 32 = .ok (.iconst 0, 1) := dk_3 (c := cX8_hats) (pc := 32) (dk_at bnames01cX8_hats_0 32)
theorem dX8_hats_33 : decode cX8_hats 33 = .ok (.iconst 2, 1) := dk_5 (c := cX8_hats) (pc := 33) (dk_at bnames01cX8_hats_0 33)
theorem dX8_hats_34 : decode cX8_hats 34 = .ok (.invokestatic 105, 3) := dk_184 (c := cX8_hats) (pc := 34) (a := 0) (b := 105) (dk_at bnames01cX8_hats_0 34) rfl
theorem dX8_hats_37 : decode cX8_hats 37 = .ok (.ifCond .ne 6, 3) := dk_154 (c := cX8_hats) (pc := 37) (a := 0) (b := 6) (dk_at bnames01cX8_hats_0 37) (by decide)
theorem dX8_hats_40 : decode cX8_hats 40 = .ok (.bipush (-2), 2) := dk_16 (c := cX8_hats) (pc := 40) (a := 254) (dk_at bnames01cX8_hats_0 40) (by decide)
theorem dX8_hats_42 : decode cX8_hats 42 = .ok (.ireturn, 1) := dk_172 (c := cX8_hats) (pc := 42) (dk_at bnames01cX8_hats_0 42)
theorem dX8_hats_43 : decode cX8_hats 43 = .ok (.aload_n 0, 1) := dk_42 (c := cX8_hats) (pc := 43) (dk_at bnames01cX8_hats_0 43)
theorem dX8_hats_44 : decode cX8_hats 44 = .ok (.invokevirtual 221, 3) := dk_182 (c := cX8_hats) (pc := 44) (a := 0) (b := 221) (dk_at bnames01cX8_hats_0 44) rfl
theorem dX8_hats_47 : decode cX8_hats 47 = .ok (.lstore 5, 2) := dk_55 (c := cX8_hats) (pc := 47) (a := 5) (dk_at bnames01cX8_hats_0 47) rfl
theorem bnames01cX8_hats_48 : ((dk_l cX8_hats).drop 48).take 52 = [5, 21, 4, 4, 160, 0, 15, 22, 5, 20, 1, 26, 148, 154, 0, 6, 18, 214, 172, 42, 180, 0, 39, 27, 182, 0, 124, 3, 54, 7, 3, 54, 8, 21, 8, 28, 162, 0, 28, 42, 182, 1, 44, 42, 29, 21, 4, 22, 5, 182, 1, 47] := by decide +kernel
theorem dX8_hats_49 : decode cX8_hats 49 = .ok (.iload 4, 2) := dk_21 (c := cX8_hats) (pc := 49) (a := 4) (dk_at bnames01cX8_hats_48 1) rfl
theorem dX8_hats_51 : decode cX8_hats 51 = .ok (.iconst 1, 1) := dk_4 (c := cX8_hats) (pc := 51) (dk_at bnames01cX8_hats_48 3)
theorem dX8_hats_52 : decode cX8_hats 52 = .ok (.if_icmp .ne 15, 3) := dk_160 (c := cX8_hats) (pc := 52) (a := 0) (b := 15) (dk_at bnames01cX8_hats_48 4) (by decide)
theorem dX8_hats_55 : decode cX8_hats 55 = .ok (.lload 5, 2) := dk_22 (c := cX8_hats) (pc := 55) (a := 5) (dk_at bnames01cX8_hats_48 7) rfl
theorem dX8_hats_57 : decode cX8_hats 57 = .ok (.ldc2_w 282, 3) := dk_20 (c := cX8_hats) (pc := 57) (a := 1) (b := 26) (dk_at bnames01cX8_hats_48 9) rfl
theorem dX8_hats_60 : decode cX8_hats 60 = .ok (.lcmp, 1) := dk_148 (c := cX8_hats) (pc := 60) (dk_at bnames01cX8_hats_48 12)
theorem dX8_hats_61 : decode cX8_hats 61 = .ok (.ifCond .ne 6, 3) := dk_154 (c := cX8_hats) (pc := 61) (a := 0) (b := 6) (dk_at bnames01cX8_hats_48 13) (by decide)
theorem dX8_hats_64 : decode cX8_hats 64 = .ok (.ldc 214, 2) := dk_18 (c := cX8_hats) (pc := 64) (a := 214) (dk_at bnames01cX8_hats_48 16) rfl
theorem dX8_hats_66 : decode cX8_hats 66 = .ok (.ireturn, 1) := dk_172 (c := cX8_hats) (pc := 66) (dk_at bnames01cX8_hats_48 18)
theorem dX8_hats_67 : decode cX8_hats 67 = .ok (.aload_n 0, 1) := dk_42 (c := cX8_hats) (pc := 67) (dk_at bnames01cX8_hats_48 19)
theorem dX8_hats_68 : decode cX8_hats 68 = .ok (.getfield 39, 3) := dk_180 (c := cX8_hats) (pc := 68) (a := 0) (b := 39) (dk_at bnames01cX8_hats_48 20) rfl
theorem dX8_hats_71 : decode cX8_hats 71 = .ok (.iload_n 1, 1) := dk_27 (c := cX8_hats) (pc := 71) (dk_at bnames01cX8_hats_48 23)
theorem dX8_hats_72 : decode cX8_hats 72 = .ok (.invokevirtual 124, 3) := dk_182 (c := cX8_hats) (pc := 72) (a := 0) (b := 124) (dk_at bnames01cX8_hats_48 24) rfl
theorem dX8_hats_75 : decode cX8_hats 75 = .ok (.iconst 0, 1) := dk_3 (c := cX8_hats) (pc := 75) (dk_at bnames01cX8_hats_48 27)
theorem dX8_hats_76 : decode cX8_hats 76 = .ok (.istore 7, 2) := dk_54 (c := cX8_hats) (pc := 76) (a := 7) (dk_at bnames01cX8_hats_48 28) rfl
theorem dX8_hats_78 : decode cX8_hats 78 = .ok (.iconst 0, 1) := dk_3 (c := cX8_hats) (pc := 78) (dk_at bnames01cX8_hats_48 30)
theorem dX8_hats_79 : decode cX8_hats 79 = .ok (.istore 8, 2) := dk_54 (c := cX8_hats) (pc := 79) (a := 8) (dk_at bnames01cX8_hats_48 31) rfl
theorem dX8_hats_81 : decode cX8_hats 81 = .ok (.iload 8, 2) := dk_21 (c := cX8_hats) (pc := 81) (a := 8) (dk_at bnames01cX8_hats_48 33) rfl
theorem dX8_hats_83 : decode cX8_hats 83 = .ok (.iload_n 2, 1) := dk_28 (c := cX8_hats) (pc := 83) (dk_at bnames01cX8_hats_48 35)
theorem dX8_hats_84 : decode cX8_hats 84 = .ok (.if_icmp .ge 28, 3) := dk_162 (c := cX8_hats) (pc := 84) (a := 0) (b := 28) (dk_at bnames01cX8_hats_48 36) (by decide)
theorem dX8_hats_87 : decode cX8_hats 87 = .ok (.aload_n 0, 1) := dk_42 (c := cX8_hats) (pc := 87) (dk_at bnames01cX8_hats_48 39)
theorem dX8_hats_88 : decode cX8_hats 88 = .ok (.invokevirtual 300, 3) := dk_182 (c := cX8_hats) (pc := 88) (a := 1) (b := 44) (dk_at bnames01cX8_hats_48 40) rfl
theorem dX8_hats_91 : decode cX8_hats 91 = .ok (.aload_n 0, 1) := dk_42 (c := cX8_hats) (pc := 91) (dk_at bnames01cX8_hats_48 43)
theorem dX8_hats_92 : decode cX8_hats 92 = .ok (.iload_n 3, 1) := dk_29 (c := cX8_hats) (pc := 92) (dk_at bnames01cX8_hats_48 44)
theorem dX8_hats_93 : decode cX8_hats 93 = .ok (.iload 4, 2) := dk_21 (c := cX8_hats) (pc := 93) (a := 4) (dk_at bnames01cX8_hats_48 45) rfl
theorem dX8_hats_95 : decode cX8_hats 95 = .ok (.lload 5, 2) := dk_22 (c := cX8_hats) (pc := 95) (a := 5) (dk_at bnames01cX8_hats_48 47) rfl
theorem bnames01cX8_hats_96 : ((dk_l cX8_hats).drop 96).take 19 = [5, 182, 1, 47, 153, 0, 6, 132, 7, 1, 132, 8, 1, 167, 255, 228, 21, 7, 172] := by decide +kernel
theorem dX8_hats_97 : decode cX8_hats 97 = .ok (.invokevirtual 303, 3) := dk_182 (c := cX8_hats) (pc := 97) (a := 1) (b := 47) (dk_at bnames01cX8_hats_96 1) rfl
theorem dX8_hats_100 : decode cX8_hats 100 = .ok (.ifCond .eq 6, 3) := dk_153 (c := cX8_hats) (pc := 100) (a := 0) (b := 6) (dk_at bnames01cX8_hats_96 4) (by decide)
theorem dX8_hats_103 : decode cX8_hats 103 = .ok (.iinc 7 1, 3) := dk_132 (c := cX8_hats) (pc := 103) (a := 7) (b := 1) (dk_at bnames01cX8_hats_96 7) rfl (by decide)
theorem dX8_hats_106 : decode cX8_hats 106 = .ok (.iinc 8 1, 3) := dk_132 (c := cX8_hats) (pc := 106) (a := 8) (b := 1) (dk_at bnames01cX8_hats_96 10) rfl (by decide)
theorem dX8_hats_109 : decode cX8_hats 109 = .ok (.goto (-28), 3) := dk_167 (c := cX8_hats) (pc := 109) (a := 255) (b := 228) (dk_at bnames01cX8_hats_96 13) (by decide)
theorem dX8_hats_112 : decode cX8_hats 112 = .ok (.iload 7, 2) := dk_21 (c := cX8_hats) (pc := 112) (a := 7) (dk_at bnames01cX8_hats_96 16) rfl
theorem dX8_hats_114 : decode cX8_hats 114 = .ok (.ireturn, 1) := dk_172 (c := cX8_hats) (pc := 114) (dk_at bnames01cX8_hats_96 18)
set_option maxRecDepth 20000 in
theorem ggX8_drawHat_X6_clear : GoodIn wsX8_drawHat wsX6_clear := goodIn_r _ [9, 10, 11, 12, 13, 14, 15, 16, 17, 18, 19, 20, 55, 56, 57, 58, 59, 60, 61, 62, 63, 64, 65] rfl (by decide +kernel)
set_option maxRecDepth 20000 in
theorem gX8_drawHat_X6_clear : GoodIn wsX8_drawHat (wsV RX8 229 RX6 yX6_clear wsX6_clear) := goodIn_app (goodIn_r _ [5, 6, 7, 8] rfl (by decide +kernel)) ggX8_drawHat_X6_clear
set_option maxRecDepth 20000 in
theorem ggX8_drawHat_X0_of : GoodIn wsX8_drawHat wsX0_of := goodIn_r _ [25, 26, 27, 28, 29, 30, 66] rfl (by decide +kernel)
set_option maxRecDepth 20000 in
theorem gX8_drawHat_X0_of : GoodIn wsX8_drawHat (wsV RX8 137 RX0 yX0_of wsX0_of) := goodIn_app (goodIn_r _ [21, 22, 23, 24] rfl (by decide +kernel)) ggX8_drawHat_X0_of
set_option maxRecDepth 20000 in
theorem ggX8_drawHat_X6_take : GoodIn wsX8_drawHat wsX6_take := goodIn_r _ [34, 35, 36, 18, 19, 20, 10, 11, 12, 13, 37, 14, 15, 16, 17, 48, 49, 50, 51, 52, 53, 54, 55, 56, 57, 58, 59, 60, 61, 62, 63, 64, 65] rfl (by decide +kernel)
set_option maxRecDepth 20000 in
theorem gX8_drawHat_X6_take : GoodIn wsX8_drawHat (wsV RX8 232 RX6 yX6_take wsX6_take) := goodIn_app (goodIn_r _ [31, 32, 33, 8] rfl (by decide +kernel)) ggX8_drawHat_X6_take
theorem bnames01cX8_drawHat_0 : ((dk_l cX8_drawHat).drop 0).take 52 = [42, 180, 0, 46, 182, 0, 229, 3, 60, 27, 42, 180, 0, 29, 180, 0, 127, 162, 0, 38, 42, 180, 0, 46, 42, 180, 0, 29, 27, 42, 180, 0, 39, 5, 182, 0, 137, 4, 160, 0, 7, 4, 167, 0, 4, 3, 182, 0, 232, 132, 1, 1] := by decide +kernel
theorem dX8_drawHat_0 : decode cX8_drawHat 0 = .ok (.aload_n 0, 1) := dk_42 (c := cX8_drawHat) (pc := 0) (dk_at bnames01cX8_drawHat_0 0)
theorem dX8_drawHat_1 : decode cX8_drawHat 1 = .ok (.getfield 46, 3) := dk_180 (c := cX8_drawHat) (pc := 1) (a := 0) (b := 46) (dk_at bnames01cX8_drawHat_0 1) rfl
theorem dX8_drawHat_4 : decode cX8_drawHat 4 = .ok (.invokevirtual 229, 3) := dk_182 (c := cX8_drawHat) (pc := 4) (a := 0) (b := 229) (dk_at bnames01cX8_drawHat_0 4) rfl
theorem dX8_drawHat_7 : decode cX8_drawHat 7 = .ok (.iconst 0, 1) := dk_3 (c := cX8_drawHat) (pc := 7) (dk_at bnames01cX8_drawHat_0 7)
theorem dX8_drawHat_8 : decode cX8_drawHat 8 = .ok (.istore_n 1, 1) := dk_60 (c := cX8_drawHat) (pc := 8) (dk_at bnames01cX8_drawHat_0 8)
theorem dX8_drawHat_9 : decode cX8_drawHat 9 = .ok (.iload_n 1, 1) := dk_27 (c := cX8_drawHat) (pc := 9) (dk_at bnames01cX8_drawHat_0 9)
theorem dX8_drawHat_10 : decode cX8_drawHat 10 = .ok (.aload_n 0, 1) := dk_42 (c := cX8_drawHat) (pc := 10) (dk_at bnames01cX8_drawHat_0 10)
theorem dX8_drawHat_11 : decode cX8_drawHat 11 = .ok (.getfield 29, 3) := dk_180 (c := cX8_drawHat) (pc := 11) (a := 0) (b := 29) (dk_at bnames01cX8_drawHat_0 11) rfl
theorem dX8_drawHat_14 : decode cX8_drawHat 14 = .ok (.getfield 127, 3) := dk_180 (c := cX8_drawHat) (pc := 14) (a := 0) (b := 127) (dk_at bnames01cX8_drawHat_0 14) rfl
theorem dX8_drawHat_17 : decode cX8_drawHat 17 = .ok (.if_icmp .ge 38, 3) := dk_162 (c := cX8_drawHat) (pc := 17) (a := 0) (b := 38) (dk_at bnames01cX8_drawHat_0 17) (by decide)
theorem dX8_drawHat_20 : decode cX8_drawHat 20 = .ok (.aload_n 0, 1) := dk_42 (c := cX8_drawHat) (pc := 20) (dk_at bnames01cX8_drawHat_0 20)
theorem dX8_drawHat_21 : decode cX8_drawHat 21 = .ok (.getfield 46, 3) := dk_180 (c := cX8_drawHat) (pc := 21) (a := 0) (b := 46) (dk_at bnames01cX8_drawHat_0 21) rfl
theorem dX8_drawHat_24 : decode cX8_drawHat 24 = .ok (.aload_n 0, 1) := dk_42 (c := cX8_drawHat) (pc := 24) (dk_at bnames01cX8_drawHat_0 24)
theorem dX8_drawHat_25 : decode cX8_drawHat 25 = .ok (.getfield 29, 3) := dk_180 (c := cX8_drawHat) (pc := 25) (a := 0) (b := 29) (dk_at bnames01cX8_drawHat_0 25) rfl
theorem dX8_drawHat_28 : decode cX8_drawHat 28 = .ok (.iload_n 1, 1) := dk_27 (c := cX8_drawHat) (pc := 28) (dk_at bnames01cX8_drawHat_0 28)
theorem dX8_drawHat_29 : decode cX8_drawHat 29 = .ok (.aload_n 0, 1) := dk_42 (c := cX8_drawHat) (pc := 29) (dk_at bnames01cX8_drawHat_0 29)
theorem dX8_drawHat_30 : decode cX8_drawHat 30 = .ok (.getfield 39, 3) := dk_180 (c := cX8_drawHat) (pc := 30) (a := 0) (b := 39) (dk_at bnames01cX8_drawHat_0 30) rfl
theorem dX8_drawHat_33 : decode cX8_drawHat 33 = .ok (.iconst 2, 1) := dk_5 (c := cX8_drawHat) (pc := 33) (dk_at bnames01cX8_drawHat_0 33)
theorem dX8_drawHat_34 : decode cX8_drawHat 34 = .ok (.invokevirtual 137, 3) := dk_182 (c := cX8_drawHat) (pc := 34) (a := 0) (b := 137) (dk_at bnames01cX8_drawHat_0 34) rfl
theorem dX8_drawHat_37 : decode cX8_drawHat 37 = .ok (.iconst 1, 1) := dk_4 (c := cX8_drawHat) (pc := 37) (dk_at bnames01cX8_drawHat_0 37)
theorem dX8_drawHat_38 : decode cX8_drawHat 38 = .ok (.if_icmp .ne 7, 3) := dk_160 (c := cX8_drawHat) (pc := 38) (a := 0) (b := 7) (dk_at bnames01cX8_drawHat_0 38) (by decide)
theorem dX8_drawHat_41 : decode cX8_drawHat 41 = .ok (.iconst 1, 1) := dk_4 (c := cX8_drawHat) (pc := 41) (dk_at bnames01cX8_drawHat_0 41)
theorem dX8_drawHat_42 : decode cX8_drawHat 42 = .ok (.goto 4, 3) := dk_167 (c := cX8_drawHat) (pc := 42) (a := 0) (b := 4) (dk_at bnames01cX8_drawHat_0 42) (by decide)
theorem dX8_drawHat_45 : decode cX8_drawHat 45 = .ok (.iconst 0, 1) := dk_3 (c := cX8_drawHat) (pc := 45) (dk_at bnames01cX8_drawHat_0 45)
theorem dX8_drawHat_46 : decode cX8_drawHat 46 = .ok (.invokevirtual 232, 3) := dk_182 (c := cX8_drawHat) (pc := 46) (a := 0) (b := 232) (dk_at bnames01cX8_drawHat_0 46) rfl
theorem bnames01cX8_drawHat_48 : ((dk_l cX8_drawHat).drop 48).take 8 = [232, 132, 1, 1, 167, 255, 213, 177] := by decide +kernel
theorem dX8_drawHat_49 : decode cX8_drawHat 49 = .ok (.iinc 1 1, 3) := dk_132 (c := cX8_drawHat) (pc := 49) (a := 1) (b := 1) (dk_at bnames01cX8_drawHat_48 1) rfl (by decide)
theorem dX8_drawHat_52 : decode cX8_drawHat 52 = .ok (.goto (-43), 3) := dk_167 (c := cX8_drawHat) (pc := 52) (a := 255) (b := 213) (dk_at bnames01cX8_drawHat_48 4) (by decide)
theorem dX8_drawHat_55 : decode cX8_drawHat 55 = .ok (.return_, 1) := dk_177 (c := cX8_drawHat) (pc := 55) (dk_at bnames01cX8_drawHat_48 7)
set_option maxRecDepth 20000 in
theorem ggX8_hatCounts_X6_byMoved : GoodIn wsX8_hatCounts wsX6_byMoved := goodIn_r _ [12, 13, 14, 15, 11, 16, 17, 18, 19, 20, 21, 22, 23, 24, 25, 26, 27, 28, 29, 30, 31, 32, 79, 80, 81, 82, 83, 84, 85, 86, 87, 88, 89] rfl (by decide +kernel)
set_option maxRecDepth 20000 in
theorem gX8_hatCounts_X6_byMoved : GoodIn wsX8_hatCounts (wsV RX8 257 RX6 yX6_byMoved wsX6_byMoved) := goodIn_app (goodIn_r _ [8, 9, 10, 11] rfl (by decide +kernel)) ggX8_hatCounts_X6_byMoved
set_option maxRecDepth 20000 in
theorem ggX8_hatCounts_X6_hasUsualSpan : GoodIn wsX8_hatCounts wsX6_hasUsualSpan := goodIn_r _ [36, 19, 20, 37, 38, 39, 9, 10, 11, 12, 13, 14, 15, 16, 17, 18, 21, 22, 23, 24, 25, 26, 27, 28, 29, 30, 31, 32, 40, 41, 42, 43, 44, 79, 80, 81, 82, 83, 84, 85, 86, 87, 88, 89] rfl (by decide +kernel)
set_option maxRecDepth 20000 in
theorem gX8_hatCounts_X6_hasUsualSpan : GoodIn wsX8_hatCounts (wsV RX8 290 RX6 yX6_hasUsualSpan wsX6_hasUsualSpan) := goodIn_app (goodIn_r _ [33, 34, 35, 11] rfl (by decide +kernel)) ggX8_hatCounts_X6_hasUsualSpan
set_option maxRecDepth 20000 in
theorem ggX8_hatCounts_X6_inUsualSpan : GoodIn wsX8_hatCounts wsX6_inUsualSpan := goodIn_r _ [48, 20, 39, 9, 10, 11, 12, 13, 14, 15, 16, 17, 18, 19, 21, 22, 23, 24, 25, 26, 27, 28, 29, 30, 31, 32, 49, 50, 51, 52, 53, 54, 55, 56, 57, 58, 59, 60, 61, 62, 63, 64, 65, 66, 67, 68, 79, 80, 81, 82, 83, 84, 85, 86, 87, 88, 89] rfl (by decide +kernel)
set_option maxRecDepth 20000 in
theorem gX8_hatCounts_X6_inUsualSpan : GoodIn wsX8_hatCounts (wsV RX8 312 RX6 yX6_inUsualSpan wsX6_inUsualSpan) := goodIn_app (goodIn_r _ [45, 46, 47, 11] rfl (by decide +kernel)) ggX8_hatCounts_X6_inUsualSpan
theorem bnames01cX8_hatCounts_0 : ((dk_l cX8_hatCounts).drop 0).take 52 = [42, 180, 0, 46, 182, 1, 1, 55, 5, 22, 5, 20, 1, 26, 148, 154, 0, 5, 3, 172, 28, 171, 0, 0, 0, 0, 0, 49, 0, 0, 0, 2, 0, 0, 0, 0, 0, 0, 0, 27, 0, 0, 0, 1, 0, 0, 0, 29, 4, 172, 22, 5] := by decide +kernel
theorem dX8_hatCounts_0 : decode cX8_hatCounts 0 = .ok (.aload_n 0, 1) := dk_42 (c := cX8_hatCounts) (pc := 0) (dk_at bnames01cX8_hatCounts_0 0)
theorem dX8_hatCounts_1 : decode cX8_hatCounts 1 = .ok (.getfield 46, 3) := dk_180 (c := cX8_hatCounts) (pc := 1) (a := 0) (b := 46) (dk_at bnames01cX8_hatCounts_0 1) rfl
theorem dX8_hatCounts_4 : decode cX8_hatCounts 4 = .ok (.invokevirtual 257, 3) := dk_182 (c := cX8_hatCounts) (pc := 4) (a := 1) (b := 1) (dk_at bnames01cX8_hatCounts_0 4) rfl
theorem dX8_hatCounts_7 : decode cX8_hatCounts 7 = .ok (.lstore 5, 2) := dk_55 (c := cX8_hatCounts) (pc := 7) (a := 5) (dk_at bnames01cX8_hatCounts_0 7) rfl
theorem dX8_hatCounts_9 : decode cX8_hatCounts 9 = .ok (.lload 5, 2) := dk_22 (c := cX8_hatCounts) (pc := 9) (a := 5) (dk_at bnames01cX8_hatCounts_0 9) rfl
theorem dX8_hatCounts_11 : decode cX8_hatCounts 11 = .ok (.ldc2_w 282, 3) := dk_20 (c := cX8_hatCounts) (pc := 11) (a := 1) (b := 26) (dk_at bnames01cX8_hatCounts_0 11) rfl
theorem dX8_hatCounts_14 : decode cX8_hatCounts 14 = .ok (.lcmp, 1) := dk_148 (c := cX8_hatCounts) (pc := 14) (dk_at bnames01cX8_hatCounts_0 14)
theorem dX8_hatCounts_15 : decode cX8_hatCounts 15 = .ok (.ifCond .ne 5, 3) := dk_154 (c := cX8_hatCounts) (pc := 15) (a := 0) (b := 5) (dk_at bnames01cX8_hatCounts_0 15) (by decide)
theorem dX8_hatCounts_18 : decode cX8_hatCounts 18 = .ok (.iconst 0, 1) := dk_3 (c := cX8_hatCounts) (pc := 18) (dk_at bnames01cX8_hatCounts_0 18)
theorem dX8_hatCounts_19 : decode cX8_hatCounts 19 = .ok (.ireturn, 1) := dk_172 (c := cX8_hatCounts) (pc := 19) (dk_at bnames01cX8_hatCounts_0 19)
theorem dX8_hatCounts_20 : decode cX8_hatCounts 20 = .ok (.iload_n 2, 1) := dk_28 (c := cX8_hatCounts) (pc := 20) (dk_at bnames01cX8_hatCounts_0 20)
theorem dX8_hatCounts_21 : decode cX8_hatCounts 21 = .ok (.lookupswitch 49 #[(0, 27), (1, 29)], 27) := by decide +kernel
theorem bnames01cX8_hatCounts_48 : ((dk_l cX8_hatCounts).drop 48).take 50 = [4, 172, 22, 5, 33, 101, 184, 1, 51, 20, 1, 54, 148, 157, 0, 7, 4, 167, 0, 4, 3, 172, 42, 180, 0, 46, 182, 1, 34, 153, 0, 19, 42, 180, 0, 46, 9, 27, 182, 1, 56, 154, 0, 7, 4, 167, 0, 4, 3, 172] := by decide +kernel
theorem dX8_hatCounts_48 : decode cX8_hatCounts 48 = .ok (.iconst 1, 1) := dk_4 (c := cX8_hatCounts) (pc := 48) (dk_at bnames01cX8_hatCounts_48 0)
theorem dX8_hatCounts_49 : decode cX8_hatCounts 49 = .ok (.ireturn, 1) := dk_172 (c := cX8_hatCounts) (pc := 49) (dk_at bnames01cX8_hatCounts_48 1)
theorem dX8_hatCounts_50 : decode cX8_hatCounts 50 = .ok (.lload 5, 2) := dk_22 (c := cX8_hatCounts) (pc := 50) (a := 5) (dk_at bnames01cX8_hatCounts_48 2) rfl
theorem dX8_hatCounts_52 : decode cX8_hatCounts 52 = .ok (.lload_n 3, 1) := dk_33 (c := cX8_hatCounts) (pc := 52) (dk_at bnames01cX8_hatCounts_48 4)
theorem dX8_hatCounts_53 : decode cX8_hatCounts 53 = .ok (.lsub, 1) := dk_101 (c := cX8_hatCounts) (pc := 53) (dk_at bnames01cX8_hatCounts_48 5)
theorem dX8_hatCounts_54 : decode cX8_hatCounts 54 = .ok (.invokestatic 307, 3) := dk_184 (c := cX8_hatCounts) (pc := 54) (a := 1) (b := 51) (dk_at bnames01cX8_hatCounts_48 6) rfl
theorem dX8_hatCounts_57 : decode cX8_hatCounts 57 = .ok (.ldc2_w 310, 3) := dk_20 (c := cX8_hatCounts) (pc := 57) (a := 1) (b := 54) (dk_at bnames01cX8_hatCounts_48 9) rfl
theorem dX8_hatCounts_60 : decode cX8_hatCounts 60 = .ok (.lcmp, 1) := dk_148 (c := cX8_hatCounts) (pc := 60) (dk_at bnames01cX8_hatCounts_48 12)
theorem dX8_hatCounts_61 : decode cX8_hatCounts 61 = .ok (.ifCond .gt 7, 3) := dk_157 (c := cX8_hatCounts) (pc := 61) (a := 0) (b := 7) (dk_at bnames01cX8_hatCounts_48 13) (by decide)
theorem dX8_hatCounts_64 : decode cX8_hatCounts 64 = .ok (.iconst 1, 1) := dk_4 (c := cX8_hatCounts) (pc := 64) (dk_at bnames01cX8_hatCounts_48 16)
theorem dX8_hatCounts_65 : decode cX8_hatCounts 65 = .ok (.goto 4, 3) := dk_167 (c := cX8_hatCounts) (pc := 65) (a := 0) (b := 4) (dk_at bnames01cX8_hatCounts_48 17) (by decide)
theorem dX8_hatCounts_68 : decode cX8_hatCounts 68 = .ok (.iconst 0, 1) := dk_3 (c := cX8_hatCounts) (pc := 68) (dk_at bnames01cX8_hatCounts_48 20)
theorem dX8_hatCounts_69 : decode cX8_hatCounts 69 = .ok (.ireturn, 1) := dk_172 (c := cX8_hatCounts) (pc := 69) (dk_at bnames01cX8_hatCounts_48 21)
theorem dX8_hatCounts_70 : decode cX8_hatCounts 70 = .ok (.aload_n 0, 1) := dk_42 (c := cX8_hatCounts) (pc := 70) (dk_at bnames01cX8_hatCounts_48 22)
theorem dX8_hatCounts_71 : decode cX8_hatCounts 71 = .ok (.getfield 46, 3) := dk_180 (c := cX8_hatCounts) (pc := 71) (a := 0) (b := 46) (dk_at bnames01cX8_hatCounts_48 23) rfl
theorem dX8_hatCounts_74 : decode cX8_hatCounts 74 = .ok (.invokevirtual 290, 3) := dk_182 (c := cX8_hatCounts) (pc := 74) (a := 1) (b := 34) (dk_at bnames01cX8_hatCounts_48 26) rfl
theorem dX8_hatCounts_77 : decode cX8_hatCounts 77 = .ok (.ifCond .eq 19, 3) := dk_153 (c := cX8_hatCounts) (pc := 77) (a := 0) (b := 19) (dk_at bnames01cX8_hatCounts_48 29) (by decide)
theorem dX8_hatCounts_80 : decode cX8_hatCounts 80 = .ok (.aload_n 0, 1) := dk_42 (c := cX8_hatCounts) (pc := 80) (dk_at bnames01cX8_hatCounts_48 32)
theorem dX8_hatCounts_81 : decode cX8_hatCounts 81 = .ok (.getfield 46, 3) := dk_180 (c := cX8_hatCounts) (pc := 81) (a := 0) (b := 46) (dk_at bnames01cX8_hatCounts_48 33) rfl
theorem dX8_hatCounts_84 : decode cX8_hatCounts 84 = .ok (.lconst 0, 1) := dk_9 (c := cX8_hatCounts) (pc := 84) (dk_at bnames01cX8_hatCounts_48 36)
theorem dX8_hatCounts_85 : decode cX8_hatCounts 85 = .ok (.iload_n 1, 1) := dk_27 (c := cX8_hatCounts) (pc := 85) (dk_at bnames01cX8_hatCounts_48 37)
theorem dX8_hatCounts_86 : decode cX8_hatCounts 86 = .ok (.invokevirtual 312, 3) := dk_182 (c := cX8_hatCounts) (pc := 86) (a := 1) (b := 56) (dk_at bnames01cX8_hatCounts_48 38) rfl
theorem dX8_hatCounts_89 : decode cX8_hatCounts 89 = .ok (.ifCond .ne 7, 3) := dk_154 (c := cX8_hatCounts) (pc := 89) (a := 0) (b := 7) (dk_at bnames01cX8_hatCounts_48 41) (by decide)
theorem dX8_hatCounts_92 : decode cX8_hatCounts 92 = .ok (.iconst 1, 1) := dk_4 (c := cX8_hatCounts) (pc := 92) (dk_at bnames01cX8_hatCounts_48 44)
theorem dX8_hatCounts_93 : decode cX8_hatCounts 93 = .ok (.goto 4, 3) := dk_167 (c := cX8_hatCounts) (pc := 93) (a := 0) (b := 4) (dk_at bnames01cX8_hatCounts_48 45) (by decide)
theorem bnames01cX8_hatCounts_96 : ((dk_l cX8_hatCounts).drop 96).take 2 = [3, 172] := by decide +kernel
theorem dX8_hatCounts_96 : decode cX8_hatCounts 96 = .ok (.iconst 0, 1) := dk_3 (c := cX8_hatCounts) (pc := 96) (dk_at bnames01cX8_hatCounts_96 0)
theorem dX8_hatCounts_97 : decode cX8_hatCounts 97 = .ok (.ireturn, 1) := dk_172 (c := cX8_hatCounts) (pc := 97) (dk_at bnames01cX8_hatCounts_96 1)
set_option maxRecDepth 20000 in
theorem ggX8_leak_X8_divided : GoodIn wsX8_leak wsX8_divided := goodIn_r _ [8, 9, 10, 11, 12, 13, 14, 15, 16, 17, 18, 19, 20, 21, 22, 23, 24, 25, 26, 27, 28, 29, 7, 30, 31, 32, 33, 34, 35, 36, 37, 38, 39, 40, 41, 42, 43, 65, 66, 67, 68, 69, 70, 71, 72, 73, 74, 86, 87, 88, 89, 90, 91, 92, 75, 76, 77, 78, 79, 80, 81, 82, 83, 84, 85] rfl (by decide +kernel)
set_option maxRecDepth 20000 in
theorem gX8_leak_X8_divided : GoodIn wsX8_leak (wsV RX8 253 RX8 yX8_divided wsX8_divided) := goodIn_app (goodIn_r _ [4, 5, 6, 7] rfl (by decide +kernel)) ggX8_leak_X8_divided
set_option maxRecDepth 20000 in
theorem ggX8_leak_X6_meanGap : GoodIn wsX8_leak wsX6_meanGap := goodIn_r _ [47, 17, 21, 48, 49, 50, 51, 15, 52, 53, 54, 55, 56, 57, 7, 58, 59, 60, 75, 76, 77, 78, 79, 80, 81, 82, 83, 84, 85] rfl (by decide +kernel)
set_option maxRecDepth 20000 in
theorem gX8_leak_X6_meanGap : GoodIn wsX8_leak (wsV RX8 276 RX6 yX6_meanGap wsX6_meanGap) := goodIn_app (goodIn_r _ [44, 45, 46, 15] rfl (by decide +kernel)) ggX8_leak_X6_meanGap
set_option maxRecDepth 20000 in
theorem ggX8_leak_X8_toFace : GoodIn wsX8_leak wsX8_toFace := goodIn_r _ [63, 59, 64] rfl (by decide +kernel)
set_option maxRecDepth 20000 in
theorem gX8_leak_X8_toFace : GoodIn wsX8_leak (va_wsS RX8 225 yX8_toFace wsX8_toFace) := goodIn_app (goodIn_r _ [61, 62, 7] rfl (by decide +kernel)) ggX8_leak_X8_toFace
theorem bnames01cX8_leak_0 : ((dk_l cX8_leak).drop 0).take 26 = [42, 42, 180, 0, 29, 27, 182, 0, 253, 77, 44, 44, 180, 0, 244, 44, 180, 1, 59, 182, 1, 20, 184, 0, 225, 173] := by decide +kernel
theorem dX8_leak_0 : decode cX8_leak 0 = .ok (.aload_n 0, 1) := dk_42 (c := cX8_leak) (pc := 0) (dk_at bnames01cX8_leak_0 0)
theorem dX8_leak_1 : decode cX8_leak 1 = .ok (.aload_n 0, 1) := dk_42 (c := cX8_leak) (pc := 1) (dk_at bnames01cX8_leak_0 1)
theorem dX8_leak_2 : decode cX8_leak 2 = .ok (.getfield 29, 3) := dk_180 (c := cX8_leak) (pc := 2) (a := 0) (b := 29) (dk_at bnames01cX8_leak_0 2) rfl
theorem dX8_leak_5 : decode cX8_leak 5 = .ok (.iload_n 1, 1) := dk_27 (c := cX8_leak) (pc := 5) (dk_at bnames01cX8_leak_0 5)
theorem dX8_leak_6 : decode cX8_leak 6 = .ok (.invokevirtual 253, 3) := dk_182 (c := cX8_leak) (pc := 6) (a := 0) (b := 253) (dk_at bnames01cX8_leak_0 6) rfl
theorem dX8_leak_9 : decode cX8_leak 9 = .ok (.astore_n 2, 1) := dk_77 (c := cX8_leak) (pc := 9) (dk_at bnames01cX8_leak_0 9)
theorem dX8_leak_10 : decode cX8_leak 10 = .ok (.aload_n 2, 1) := dk_44 (c := cX8_leak) (pc := 10) (dk_at bnames01cX8_leak_0 10)
theorem dX8_leak_11 : decode cX8_leak 11 = .ok (.aload_n 2, 1) := dk_44 (c := cX8_leak) (pc := 11) (dk_at bnames01cX8_leak_0 11)
theorem dX8_leak_12 : decode cX8_leak 12 = .ok (.getfield 244, 3) := dk_180 (c := cX8_leak) (pc := 12) (a := 0) (b := 244) (dk_at bnames01cX8_leak_0 12) rfl
theorem dX8_leak_15 : decode cX8_leak 15 = .ok (.aload_n 2, 1) := dk_44 (c := cX8_leak) (pc := 15) (dk_at bnames01cX8_leak_0 15)
theorem dX8_leak_16 : decode cX8_leak 16 = .ok (.getfield 315, 3) := dk_180 (c := cX8_leak) (pc := 16) (a := 1) (b := 59) (dk_at bnames01cX8_leak_0 16) rfl
theorem dX8_leak_19 : decode cX8_leak 19 = .ok (.invokevirtual 276, 3) := dk_182 (c := cX8_leak) (pc := 19) (a := 1) (b := 20) (dk_at bnames01cX8_leak_0 19) rfl
theorem dX8_leak_22 : decode cX8_leak 22 = .ok (.invokestatic 225, 3) := dk_184 (c := cX8_leak) (pc := 22) (a := 0) (b := 225) (dk_at bnames01cX8_leak_0 22) rfl
theorem dX8_leak_25 : decode cX8_leak 25 = .ok (.lreturn, 1) := dk_173 (c := cX8_leak) (pc := 25) (dk_at bnames01cX8_leak_0 25)
set_option maxRecDepth 20000 in
theorem ggX8_leaked_X8_within : GoodIn wsX8_leaked wsX8_within := goodIn_r _ [8] rfl (by decide +kernel)
set_option maxRecDepth 20000 in
theorem gX8_leaked_X8_within : GoodIn wsX8_leaked (va_wsS RX8 105 yX8_within wsX8_within) := goodIn_app (goodIn_r _ [5, 6, 7] rfl (by decide +kernel)) ggX8_leaked_X8_within
set_option maxRecDepth 20000 in
theorem ggX8_leaked_X8_divided : GoodIn wsX8_leaked wsX8_divided := goodIn_r _ [12, 13, 14, 15, 16, 17, 18, 19, 20, 21, 22, 23, 24, 25, 26, 27, 28, 29, 30, 31, 32, 33, 7, 34, 5, 6, 8, 35, 36, 37, 38, 39, 40, 41, 42, 43, 44, 63, 64, 65, 66, 67, 68, 69, 70, 71, 72, 73, 74, 75, 76, 77, 78, 79, 80, 81, 82, 83, 84, 85, 86, 87, 88, 89, 90] rfl (by decide +kernel)
set_option maxRecDepth 20000 in
theorem gX8_leaked_X8_divided : GoodIn wsX8_leaked (wsV RX8 253 RX8 yX8_divided wsX8_divided) := goodIn_app (goodIn_r _ [9, 10, 11, 7] rfl (by decide +kernel)) ggX8_leaked_X8_divided
set_option maxRecDepth 20000 in
theorem ggX8_leaked_X6_byMovedLess : GoodIn wsX8_leaked wsX6_byMovedLess := goodIn_r _ [48, 22, 26, 49, 50, 23, 27, 21, 25, 51, 52, 53, 19, 54, 55, 56, 57, 58, 80, 81, 82, 83, 84, 85, 86, 87, 88, 89, 90] rfl (by decide +kernel)
set_option maxRecDepth 20000 in
theorem gX8_leaked_X6_byMovedLess : GoodIn wsX8_leaked (wsV RX8 322 RX6 yX6_byMovedLess wsX6_byMovedLess) := goodIn_app (goodIn_r _ [45, 46, 47, 19] rfl (by decide +kernel)) ggX8_leaked_X6_byMovedLess
set_option maxRecDepth 20000 in
theorem ggX8_leaked_X8_toFace : GoodIn wsX8_leaked wsX8_toFace := goodIn_r _ [61, 62, 3] rfl (by decide +kernel)
set_option maxRecDepth 20000 in
theorem gX8_leaked_X8_toFace : GoodIn wsX8_leaked (va_wsS RX8 225 yX8_toFace wsX8_toFace) := goodIn_app (goodIn_r _ [59, 60, 7] rfl (by decide +kernel)) ggX8_leaked_X8_toFace
theorem bnames01cX8_leaked_0 : ((dk_l cX8_leaked).drop 0).take 35 = [28, 19, 1, 62, 19, 1, 63, 184, 0, 105, 154, 0, 7, 20, 1, 64, 173, 42, 42, 180, 0, 29, 27, 182, 0, 253, 28, 133, 182, 1, 66, 184, 0, 225, 173] := by decide +kernel
theorem dX8_leaked_0 : decode cX8_leaked 0 = .ok (.iload_n 2, 1) := dk_28 (c := cX8_leaked) (pc := 0) (dk_at bnames01cX8_leaked_0 0)
theorem dX8_leaked_1 : decode cX8_leaked 1 = .ok (.ldc_w 318, 3) := dk_19 (c := cX8_leaked) (pc := 1) (a := 1) (b := 62) (dk_at bnames01cX8_leaked_0 1) rfl
theorem dX8_leaked_4 : decode cX8_leaked 4 = .ok (.ldc_w 319, 3) := dk_19 (c := cX8_leaked) (pc := 4) (a := 1) (b := 63) (dk_at bnames01cX8_leaked_0 4) rfl
theorem dX8_leaked_7 : decode cX8_leaked 7 = .ok (.invokestatic 105, 3) := dk_184 (c := cX8_leaked) (pc := 7) (a := 0) (b := 105) (dk_at bnames01cX8_leaked_0 7) rfl
theorem dX8_leaked_10 : decode cX8_leaked 10 = .ok (.ifCond .ne 7, 3) := dk_154 (c := cX8_leaked) (pc := 10) (a := 0) (b := 7) (dk_at bnames01cX8_leaked_0 10) (by decide)
theorem dX8_leaked_13 : decode cX8_leaked 13 = .ok (.ldc2_w 320, 3) := dk_20 (c := cX8_leaked) (pc := 13) (a := 1) (b := 64) (dk_at bnames01cX8_leaked_0 13) rfl
theorem dX8_leaked_16 : decode cX8_leaked 16 = .ok (.lreturn, 1) := dk_173 (c := cX8_leaked) (pc := 16) (dk_at bnames01cX8_leaked_0 16)
theorem dX8_leaked_17 : decode cX8_leaked 17 = .ok (.aload_n 0, 1) := dk_42 (c := cX8_leaked) (pc := 17) (dk_at bnames01cX8_leaked_0 17)
theorem dX8_leaked_18 : decode cX8_leaked 18 = .ok (.aload_n 0, 1) := dk_42 (c := cX8_leaked) (pc := 18) (dk_at bnames01cX8_leaked_0 18)
theorem dX8_leaked_19 : decode cX8_leaked 19 = .ok (.getfield 29, 3) := dk_180 (c := cX8_leaked) (pc := 19) (a := 0) (b := 29) (dk_at bnames01cX8_leaked_0 19) rfl
theorem dX8_leaked_22 : decode cX8_leaked 22 = .ok (.iload_n 1, 1) := dk_27 (c := cX8_leaked) (pc := 22) (dk_at bnames01cX8_leaked_0 22)
theorem dX8_leaked_23 : decode cX8_leaked 23 = .ok (.invokevirtual 253, 3) := dk_182 (c := cX8_leaked) (pc := 23) (a := 0) (b := 253) (dk_at bnames01cX8_leaked_0 23) rfl
theorem dX8_leaked_26 : decode cX8_leaked 26 = .ok (.iload_n 2, 1) := dk_28 (c := cX8_leaked) (pc := 26) (dk_at bnames01cX8_leaked_0 26)
theorem dX8_leaked_27 : decode cX8_leaked 27 = .ok (.i2l, 1) := dk_133 (c := cX8_leaked) (pc := 27) (dk_at bnames01cX8_leaked_0 27)
theorem dX8_leaked_28 : decode cX8_leaked 28 = .ok (.invokevirtual 322, 3) := dk_182 (c := cX8_leaked) (pc := 28) (a := 1) (b := 66) (dk_at bnames01cX8_leaked_0 28) rfl
theorem dX8_leaked_31 : decode cX8_leaked 31 = .ok (.invokestatic 225, 3) := dk_184 (c := cX8_leaked) (pc := 31) (a := 0) (b := 225) (dk_at bnames01cX8_leaked_0 31) rfl
theorem dX8_leaked_34 : decode cX8_leaked 34 = .ok (.lreturn, 1) := dk_173 (c := cX8_leaked) (pc := 34) (dk_at bnames01cX8_leaked_0 34)
set_option maxRecDepth 20000 in
theorem ggX8_homes_X8_divided : GoodIn wsX8_homes wsX8_divided := goodIn_r _ [8, 9, 10, 11, 12, 13, 14, 15, 16, 17, 18, 19, 20, 21, 22, 23, 24, 25, 26, 27, 28, 29, 7, 30, 31, 32, 33, 34, 35, 36, 37, 38, 39, 40, 41, 42, 43, 65, 66, 67, 68, 69, 70, 71, 72, 73, 74, 86, 87, 88, 89, 90, 91, 92, 75, 76, 77, 78, 79, 80, 81, 82, 83, 84, 85] rfl (by decide +kernel)
set_option maxRecDepth 20000 in
theorem gX8_homes_X8_divided : GoodIn wsX8_homes (wsV RX8 253 RX8 yX8_divided wsX8_divided) := goodIn_app (goodIn_r _ [4, 5, 6, 7] rfl (by decide +kernel)) ggX8_homes_X8_divided
set_option maxRecDepth 20000 in
theorem ggX8_homes_X6_meanGap : GoodIn wsX8_homes wsX6_meanGap := goodIn_r _ [47, 17, 21, 48, 49, 50, 51, 15, 52, 53, 54, 55, 56, 57, 7, 58, 59, 60, 75, 76, 77, 78, 79, 80, 81, 82, 83, 84, 85] rfl (by decide +kernel)
set_option maxRecDepth 20000 in
theorem gX8_homes_X6_meanGap : GoodIn wsX8_homes (wsV RX8 276 RX6 yX6_meanGap wsX6_meanGap) := goodIn_app (goodIn_r _ [44, 45, 46, 15] rfl (by decide +kernel)) ggX8_homes_X6_meanGap
set_option maxRecDepth 20000 in
theorem ggX8_homes_X8_toFace : GoodIn wsX8_homes wsX8_toFace := goodIn_r _ [63, 59, 64] rfl (by decide +kernel)
set_option maxRecDepth 20000 in
theorem gX8_homes_X8_toFace : GoodIn wsX8_homes (va_wsS RX8 225 yX8_toFace wsX8_toFace) := goodIn_app (goodIn_r _ [61, 62, 7] rfl (by decide +kernel)) ggX8_homes_X8_toFace
theorem bnames01cX8_homes_0 : ((dk_l cX8_homes).drop 0).take 26 = [42, 42, 180, 0, 29, 27, 182, 0, 253, 77, 44, 44, 180, 1, 69, 44, 180, 1, 71, 182, 1, 20, 184, 0, 225, 173] := by decide +kernel
theorem dX8_homes_0 : decode cX8_homes 0 = .ok (.aload_n 0, 1) := dk_42 (c := cX8_homes) (pc := 0) (dk_at bnames01cX8_homes_0 0)
theorem dX8_homes_1 : decode cX8_homes 1 = .ok (.aload_n 0, 1) := dk_42 (c := cX8_homes) (pc := 1) (dk_at bnames01cX8_homes_0 1)
theorem dX8_homes_2 : decode cX8_homes 2 = .ok (.getfield 29, 3) := dk_180 (c := cX8_homes) (pc := 2) (a := 0) (b := 29) (dk_at bnames01cX8_homes_0 2) rfl
theorem dX8_homes_5 : decode cX8_homes 5 = .ok (.iload_n 1, 1) := dk_27 (c := cX8_homes) (pc := 5) (dk_at bnames01cX8_homes_0 5)
theorem dX8_homes_6 : decode cX8_homes 6 = .ok (.invokevirtual 253, 3) := dk_182 (c := cX8_homes) (pc := 6) (a := 0) (b := 253) (dk_at bnames01cX8_homes_0 6) rfl
theorem dX8_homes_9 : decode cX8_homes 9 = .ok (.astore_n 2, 1) := dk_77 (c := cX8_homes) (pc := 9) (dk_at bnames01cX8_homes_0 9)
theorem dX8_homes_10 : decode cX8_homes 10 = .ok (.aload_n 2, 1) := dk_44 (c := cX8_homes) (pc := 10) (dk_at bnames01cX8_homes_0 10)
theorem dX8_homes_11 : decode cX8_homes 11 = .ok (.aload_n 2, 1) := dk_44 (c := cX8_homes) (pc := 11) (dk_at bnames01cX8_homes_0 11)
theorem dX8_homes_12 : decode cX8_homes 12 = .ok (.getfield 325, 3) := dk_180 (c := cX8_homes) (pc := 12) (a := 1) (b := 69) (dk_at bnames01cX8_homes_0 12) rfl
theorem dX8_homes_15 : decode cX8_homes 15 = .ok (.aload_n 2, 1) := dk_44 (c := cX8_homes) (pc := 15) (dk_at bnames01cX8_homes_0 15)
theorem dX8_homes_16 : decode cX8_homes 16 = .ok (.getfield 327, 3) := dk_180 (c := cX8_homes) (pc := 16) (a := 1) (b := 71) (dk_at bnames01cX8_homes_0 16) rfl
theorem dX8_homes_19 : decode cX8_homes 19 = .ok (.invokevirtual 276, 3) := dk_182 (c := cX8_homes) (pc := 19) (a := 1) (b := 20) (dk_at bnames01cX8_homes_0 19) rfl
theorem dX8_homes_22 : decode cX8_homes 22 = .ok (.invokestatic 225, 3) := dk_184 (c := cX8_homes) (pc := 22) (a := 0) (b := 225) (dk_at bnames01cX8_homes_0 22) rfl
theorem dX8_homes_25 : decode cX8_homes 25 = .ok (.lreturn, 1) := dk_173 (c := cX8_homes) (pc := 25) (dk_at bnames01cX8_homes_0 25)
set_option maxRecDepth 20000 in
theorem ggX8_whom_X8_within : GoodIn wsX8_whom wsX8_within := goodIn_r _ [6] rfl (by decide +kernel)
set_option maxRecDepth 20000 in
theorem gX8_whom_X8_within : GoodIn wsX8_whom (va_wsS RX8 105 yX8_within wsX8_within) := goodIn_app (goodIn_r _ [3, 4, 5] rfl (by decide +kernel)) ggX8_whom_X8_within
set_option maxRecDepth 20000 in
theorem ggX8_whom_X8_isHeld : GoodIn wsX8_whom wsX8_isHeld := goodIn_r _ [10, 11, 12, 13, 14, 15, 16, 17, 5, 18, 19, 20, 21, 22, 23, 24, 25, 26, 27, 28, 29, 30, 31, 32, 33, 34, 35, 36, 37, 38, 39, 40, 77, 78, 79, 80, 81, 82, 83, 84, 85, 86, 87, 88, 89, 90, 91, 92, 93, 94, 95, 96, 97, 98, 99, 100, 101, 102, 103, 104, 105, 106, 107, 108, 109] rfl (by decide +kernel)
set_option maxRecDepth 20000 in
theorem gX8_whom_X8_isHeld : GoodIn wsX8_whom (wsV RX8 218 RX8 yX8_isHeld wsX8_isHeld) := goodIn_app (goodIn_r _ [7, 8, 9, 5] rfl (by decide +kernel)) ggX8_whom_X8_isHeld
set_option maxRecDepth 20000 in
theorem ggX8_whom_X8_gainOf : GoodIn wsX8_whom wsX8_gainOf := goodIn_r _ [44, 45, 13, 12, 46, 47, 48, 49, 50, 11, 51, 52, 53, 28, 54, 55, 56, 57, 58, 59, 60, 61, 36, 37, 38, 39, 40, 62, 32, 33, 34, 35, 63, 64, 65, 66, 67, 68, 5, 69, 70, 71, 72, 73, 74, 75, 76, 87, 88, 89, 90, 91, 92, 93, 77, 78, 79, 80, 81, 82, 83, 84, 85, 86, 94, 95, 96, 97, 98, 99, 100, 101, 102, 103, 104, 105, 106, 107, 108, 109] rfl (by decide +kernel)
set_option maxRecDepth 20000 in
theorem gX8_whom_X8_gainOf : GoodIn wsX8_whom (wsV RX8 210 RX8 yX8_gainOf wsX8_gainOf) := goodIn_app (goodIn_r _ [41, 42, 43, 5] rfl (by decide +kernel)) ggX8_whom_X8_gainOf
theorem bnames01cX8_whom_0 : ((dk_l cX8_whom).drop 0).take 52 = [27, 3, 4, 184, 0, 105, 154, 0, 5, 2, 172, 3, 61, 3, 62, 29, 42, 180, 0, 29, 180, 0, 127, 162, 0, 40, 42, 42, 180, 0, 29, 29, 182, 0, 218, 153, 0, 22, 27, 153, 0, 15, 42, 42, 180, 0, 29, 29, 182, 0, 210, 153] := by decide +kernel
theorem dX8_whom_0 : decode cX8_whom 0 = .ok (.iload_n 1, 1) := dk_27 (c := cX8_whom) (pc := 0) (dk_at bnames01cX8_whom_0 0)
theorem dX8_whom_1 : decode cX8_whom 1 = .ok (.iconst 0, 1) := dk_3 (c := cX8_whom) (pc := 1) (dk_at bnames01cX8_whom_0 1)
theorem dX8_whom_2 : decode cX8_whom 2 = .ok (.iconst 1, 1) := dk_4 (c := cX8_whom) (pc := 2) (dk_at bnames01cX8_whom_0 2)
theorem dX8_whom_3 : decode cX8_whom 3 = .ok (.invokestatic 105, 3) := dk_184 (c := cX8_whom) (pc := 3) (a := 0) (b := 105) (dk_at bnames01cX8_whom_0 3) rfl
theorem dX8_whom_6 : decode cX8_whom 6 = .ok (.ifCond .ne 5, 3) := dk_154 (c := cX8_whom) (pc := 6) (a := 0) (b := 5) (dk_at bnames01cX8_whom_0 6) (by decide)
theorem dX8_whom_9 : decode cX8_whom 9 = .ok (.iconst (-1), 1) := dk_2 (c := cX8_whom) (pc := 9) (dk_at bnames01cX8_whom_0 9)
theorem dX8_whom_10 : decode cX8_whom 10 = .ok (.ireturn, 1) := dk_172 (c := cX8_whom) (pc := 10) (dk_at bnames01cX8_whom_0 10)
theorem dX8_whom_11 : decode cX8_whom 11 = .ok (.iconst 0, 1) := dk_3 (c := cX8_whom) (pc := 11) (dk_at bnames01cX8_whom_0 11)
theorem dX8_whom_12 : decode cX8_whom 12 = .ok (.istore_n 2, 1) := dk_61 (c := cX8_whom) (pc := 12) (dk_at bnames01cX8_whom_0 12)
theorem dX8_whom_13 : decode cX8_whom 13 = .ok (.iconst 0, 1) := dk_3 (c := cX8_whom) (pc := 13) (dk_at bnames01cX8_whom_0 13)
theorem dX8_whom_14 : decode cX8_whom 14 = .ok (.istore_n 3, 1) := dk_62 (c := cX8_whom) (pc := 14) (dk_at bnames01cX8_whom_0 14)
theorem dX8_whom_15 : decode cX8_whom 15 = .ok (.iload_n 3, 1) := dk_29 (c := cX8_whom) (pc := 15) (dk_at bnames01cX8_whom_0 15)
theorem dX8_whom_16 : decode cX8_whom 16 = .ok (.aload_n 0, 1) := dk_42 (c := cX8_whom) (pc := 16) (dk_at bnames01cX8_whom_0 16)
theorem dX8_whom_17 : decode cX8_whom 17 = .ok (.getfield 29, 3) := dk_180 (c := cX8_whom) (pc := 17) (a := 0) (b := 29) (dk_at bnames01cX8_whom_0 17) rfl
theorem dX8_whom_20 : decode cX8_whom 20 = .ok (.getfield 127, 3) := dk_180 (c := cX8_whom) (pc := 20) (a := 0) (b := 127) (dk_at bnames01cX8_whom_0 20) rfl
theorem dX8_whom_23 : decode cX8_whom 23 = .ok (.if_icmp .ge 40, 3) := dk_162 (c := cX8_whom) (pc := 23) (a := 0) (b := 40) (dk_at bnames01cX8_whom_0 23) (by decide)
theorem dX8_whom_26 : decode cX8_whom 26 = .ok (.aload_n 0, 1) := dk_42 (c := cX8_whom) (pc := 26) (dk_at bnames01cX8_whom_0 26)
theorem dX8_whom_27 : decode cX8_whom 27 = .ok (.aload_n 0, 1) := dk_42 (c := cX8_whom) (pc := 27) (dk_at bnames01cX8_whom_0 27)
theorem dX8_whom_28 : decode cX8_whom 28 = .ok (.getfield 29, 3) := dk_180 (c := cX8_whom) (pc := 28) (a := 0) (b := 29) (dk_at bnames01cX8_whom_0 28) rfl
theorem dX8_whom_31 : decode cX8_whom 31 = .ok (.iload_n 3, 1) := dk_29 (c := cX8_whom) (pc := 31) (dk_at bnames01cX8_whom_0 31)
theorem dX8_whom_32 : decode cX8_whom 32 = .ok (.invokevirtual 218, 3) := dk_182 (c := cX8_whom) (pc := 32) (a := 0) (b := 218) (dk_at bnames01cX8_whom_0 32) rfl
theorem dX8_whom_35 : decode cX8_whom 35 = .ok (.ifCond .eq 22, 3) := dk_153 (c := cX8_whom) (pc := 35) (a := 0) (b := 22) (dk_at bnames01cX8_whom_0 35) (by decide)
theorem dX8_whom_38 : decode cX8_whom 38 = .ok (.iload_n 1, 1) := dk_27 (c := cX8_whom) (pc := 38) (dk_at bnames01cX8_whom_0 38)
theorem dX8_whom_39 : decode cX8_whom 39 = .ok (.ifCond .eq 15, 3) := dk_153 (c := cX8_whom) (pc := 39) (a := 0) (b := 15) (dk_at bnames01cX8_whom_0 39) (by decide)
theorem dX8_whom_42 : decode cX8_whom 42 = .ok (.aload_n 0, 1) := dk_42 (c := cX8_whom) (pc := 42) (dk_at bnames01cX8_whom_0 42)
theorem dX8_whom_43 : decode cX8_whom 43 = .ok (.aload_n 0, 1) := dk_42 (c := cX8_whom) (pc := 43) (dk_at bnames01cX8_whom_0 43)
theorem dX8_whom_44 : decode cX8_whom 44 = .ok (.getfield 29, 3) := dk_180 (c := cX8_whom) (pc := 44) (a := 0) (b := 29) (dk_at bnames01cX8_whom_0 44) rfl
theorem dX8_whom_47 : decode cX8_whom 47 = .ok (.iload_n 3, 1) := dk_29 (c := cX8_whom) (pc := 47) (dk_at bnames01cX8_whom_0 47)
theorem bnames01cX8_whom_48 : ((dk_l cX8_whom).drop 48).take 17 = [182, 0, 210, 153, 0, 6, 132, 2, 1, 132, 3, 1, 167, 255, 211, 28, 172] := by decide +kernel
theorem dX8_whom_48 : decode cX8_whom 48 = .ok (.invokevirtual 210, 3) := dk_182 (c := cX8_whom) (pc := 48) (a := 0) (b := 210) (dk_at bnames01cX8_whom_48 0) rfl
theorem dX8_whom_51 : decode cX8_whom 51 = .ok (.ifCond .eq 6, 3) := dk_153 (c := cX8_whom) (pc := 51) (a := 0) (b := 6) (dk_at bnames01cX8_whom_48 3) (by decide)
theorem dX8_whom_54 : decode cX8_whom 54 = .ok (.iinc 2 1, 3) := dk_132 (c := cX8_whom) (pc := 54) (a := 2) (b := 1) (dk_at bnames01cX8_whom_48 6) rfl (by decide)
theorem dX8_whom_57 : decode cX8_whom 57 = .ok (.iinc 3 1, 3) := dk_132 (c := cX8_whom) (pc := 57) (a := 3) (b := 1) (dk_at bnames01cX8_whom_48 9) rfl (by decide)
theorem dX8_whom_60 : decode cX8_whom 60 = .ok (.goto (-45), 3) := dk_167 (c := cX8_whom) (pc := 60) (a := 255) (b := 211) (dk_at bnames01cX8_whom_48 12) (by decide)
theorem dX8_whom_63 : decode cX8_whom 63 = .ok (.iload_n 2, 1) := dk_28 (c := cX8_whom) (pc := 63) (dk_at bnames01cX8_whom_48 15)
theorem dX8_whom_64 : decode cX8_whom 64 = .ok (.ireturn, 1) := dk_172 (c := cX8_whom) (pc := 64) (dk_at bnames01cX8_whom_48 16)
set_option maxRecDepth 20000 in
theorem ggX8_truth_X8_truthOf : GoodIn wsX8_truth wsX8_truthOf := goodIn_r _ [6, 7, 8, 9, 10, 11, 5, 12, 13, 14, 15, 16, 17, 18, 19, 20, 21, 22, 23, 24, 25, 26, 27, 28, 29, 30, 31, 32, 33, 34, 35, 36, 37, 38, 39, 40, 41, 42, 43, 44, 45, 46, 47, 48, 49, 50, 51, 52, 53, 54, 55, 56, 57, 58, 59, 60, 61, 62, 63, 64, 65, 66, 67, 68, 69, 70, 71, 72, 73, 74, 75, 76, 77, 78, 79, 80, 81, 82, 97, 98, 99, 100, 101, 102, 103, 87, 88, 89, 90, 91, 92, 93, 94, 95, 96, 104, 105, 106, 107, 108, 109, 110, 111, 112, 113, 114, 115, 116, 117, 118, 119] rfl (by decide +kernel)
set_option maxRecDepth 20000 in
theorem gX8_truth_X8_truthOf : GoodIn wsX8_truth (wsV RX8 330 RX8 yX8_truthOf wsX8_truthOf) := goodIn_app (goodIn_r _ [2, 3, 4, 5] rfl (by decide +kernel)) ggX8_truth_X8_truthOf
set_option maxRecDepth 20000 in
theorem ggX8_truth_X8_toFace : GoodIn wsX8_truth wsX8_toFace := goodIn_r _ [85, 8, 86] rfl (by decide +kernel)
set_option maxRecDepth 20000 in
theorem gX8_truth_X8_toFace : GoodIn wsX8_truth (va_wsS RX8 225 yX8_toFace wsX8_toFace) := goodIn_app (goodIn_r _ [83, 84, 5] rfl (by decide +kernel)) ggX8_truth_X8_toFace
theorem bnames01cX8_truth_0 : ((dk_l cX8_truth).drop 0).take 13 = [42, 42, 180, 0, 29, 27, 182, 1, 74, 184, 0, 225, 173] := by decide +kernel
theorem dX8_truth_0 : decode cX8_truth 0 = .ok (.aload_n 0, 1) := dk_42 (c := cX8_truth) (pc := 0) (dk_at bnames01cX8_truth_0 0)
theorem dX8_truth_1 : decode cX8_truth 1 = .ok (.aload_n 0, 1) := dk_42 (c := cX8_truth) (pc := 1) (dk_at bnames01cX8_truth_0 1)
theorem dX8_truth_2 : decode cX8_truth 2 = .ok (.getfield 29, 3) := dk_180 (c := cX8_truth) (pc := 2) (a := 0) (b := 29) (dk_at bnames01cX8_truth_0 2) rfl
theorem dX8_truth_5 : decode cX8_truth 5 = .ok (.iload_n 1, 1) := dk_27 (c := cX8_truth) (pc := 5) (dk_at bnames01cX8_truth_0 5)
theorem dX8_truth_6 : decode cX8_truth 6 = .ok (.invokevirtual 330, 3) := dk_182 (c := cX8_truth) (pc := 6) (a := 1) (b := 74) (dk_at bnames01cX8_truth_0 6) rfl
theorem dX8_truth_9 : decode cX8_truth 9 = .ok (.invokestatic 225, 3) := dk_184 (c := cX8_truth) (pc := 9) (a := 0) (b := 225) (dk_at bnames01cX8_truth_0 9) rfl
theorem dX8_truth_12 : decode cX8_truth 12 = .ok (.lreturn, 1) := dk_173 (c := cX8_truth) (pc := 12) (dk_at bnames01cX8_truth_0 12)
set_option maxRecDepth 20000 in
theorem ggX8_truthOf_X8_isHeld : GoodIn wsX8_truthOf wsX8_isHeld := goodIn_r _ [7, 8, 9, 10, 11, 12, 13, 14, 6, 15, 16, 17, 18, 19, 20, 21, 22, 23, 24, 25, 26, 27, 28, 29, 30, 31, 32, 33, 34, 35, 36, 37, 85, 86, 87, 88, 89, 90, 91, 92, 93, 94, 78, 79, 80, 81, 82, 83, 84, 95, 96, 97, 98, 99, 100, 101, 102, 103, 104, 105, 106, 107, 108, 109, 110] rfl (by decide +kernel)
set_option maxRecDepth 20000 in
theorem gX8_truthOf_X8_isHeld : GoodIn wsX8_truthOf (wsV RX8 218 RX8 yX8_isHeld wsX8_isHeld) := goodIn_app (goodIn_r _ [3, 4, 5, 6] rfl (by decide +kernel)) ggX8_truthOf_X8_isHeld
set_option maxRecDepth 20000 in
theorem ggX8_truthOf_X8_isPlaced : GoodIn wsX8_truthOf wsX8_isPlaced := goodIn_r _ [15, 8, 9, 16, 17, 18, 19, 20, 21, 22, 23, 24, 25, 26, 27, 85, 86, 87, 88, 89, 90, 91, 92, 93, 94, 78, 79, 80, 81, 82, 83, 84, 95, 96, 97, 98, 99, 100, 101, 102, 103, 104, 105, 106, 107, 108, 109, 110] rfl (by decide +kernel)
set_option maxRecDepth 20000 in
theorem gX8_truthOf_X8_isPlaced : GoodIn wsX8_truthOf (wsV RX8 206 RX8 yX8_isPlaced wsX8_isPlaced) := goodIn_app (goodIn_r _ [12, 13, 14, 6] rfl (by decide +kernel)) ggX8_truthOf_X8_isPlaced
set_option maxRecDepth 20000 in
theorem ggX8_truthOf_X8_gainOf : GoodIn wsX8_truthOf wsX8_gainOf := goodIn_r _ [41, 42, 10, 9, 43, 44, 45, 46, 47, 8, 48, 49, 50, 25, 51, 52, 53, 54, 55, 56, 57, 58, 33, 34, 35, 36, 37, 59, 29, 30, 31, 32, 60, 61, 62, 63, 64, 65, 6, 66, 67, 68, 69, 70, 71, 72, 73, 78, 79, 80, 81, 82, 83, 84, 85, 86, 87, 88, 89, 90, 91, 92, 93, 94, 95, 96, 97, 98, 99, 100, 101, 102, 103, 104, 105, 106, 107, 108, 109, 110] rfl (by decide +kernel)
set_option maxRecDepth 20000 in
theorem gX8_truthOf_X8_gainOf : GoodIn wsX8_truthOf (wsV RX8 210 RX8 yX8_gainOf wsX8_gainOf) := goodIn_app (goodIn_r _ [38, 39, 40, 6] rfl (by decide +kernel)) ggX8_truthOf_X8_gainOf
set_option maxRecDepth 20000 in
theorem ggX8_truthOf_X8_thousandths : GoodIn wsX8_truthOf wsX8_thousandths := goodIn_r _ [76, 2, 77] rfl (by decide +kernel)
set_option maxRecDepth 20000 in
theorem gX8_truthOf_X8_thousandths : GoodIn wsX8_truthOf (va_wsS RX8 249 yX8_thousandths wsX8_thousandths) := goodIn_app (goodIn_r _ [74, 75, 6] rfl (by decide +kernel)) ggX8_truthOf_X8_thousandths
theorem bnames01cX8_truthOf_0 : ((dk_l cX8_truthOf).drop 0).take 52 = [9, 66, 9, 55, 5, 3, 54, 7, 21, 7, 43, 180, 0, 127, 162, 0, 57, 28, 153, 0, 16, 42, 43, 21, 7, 182, 0, 218, 154, 0, 6, 167, 0, 34, 42, 43, 21, 7, 182, 0, 206, 154, 0, 7, 20, 1, 26, 173, 33, 42, 43, 21] := by decide +kernel
theorem dX8_truthOf_0 : decode cX8_truthOf 0 = .ok (.lconst 0, 1) := dk_9 (c := cX8_truthOf) (pc := 0) (dk_at bnames01cX8_truthOf_0 0)
theorem dX8_truthOf_1 : decode cX8_truthOf 1 = .ok (.lstore_n 3, 1) := dk_66 (c := cX8_truthOf) (pc := 1) (dk_at bnames01cX8_truthOf_0 1)
theorem dX8_truthOf_2 : decode cX8_truthOf 2 = .ok (.lconst 0, 1) := dk_9 (c := cX8_truthOf) (pc := 2) (dk_at bnames01cX8_truthOf_0 2)
theorem dX8_truthOf_3 : decode cX8_truthOf 3 = .ok (.lstore 5, 2) := dk_55 (c := cX8_truthOf) (pc := 3) (a := 5) (dk_at bnames01cX8_truthOf_0 3) rfl
theorem dX8_truthOf_5 : decode cX8_truthOf 5 = .ok (.iconst 0, 1) := dk_3 (c := cX8_truthOf) (pc := 5) (dk_at bnames01cX8_truthOf_0 5)
theorem dX8_truthOf_6 : decode cX8_truthOf 6 = .ok (.istore 7, 2) := dk_54 (c := cX8_truthOf) (pc := 6) (a := 7) (dk_at bnames01cX8_truthOf_0 6) rfl
theorem dX8_truthOf_8 : decode cX8_truthOf 8 = .ok (.iload 7, 2) := dk_21 (c := cX8_truthOf) (pc := 8) (a := 7) (dk_at bnames01cX8_truthOf_0 8) rfl
theorem dX8_truthOf_10 : decode cX8_truthOf 10 = .ok (.aload_n 1, 1) := dk_43 (c := cX8_truthOf) (pc := 10) (dk_at bnames01cX8_truthOf_0 10)
theorem dX8_truthOf_11 : decode cX8_truthOf 11 = .ok (.getfield 127, 3) := dk_180 (c := cX8_truthOf) (pc := 11) (a := 0) (b := 127) (dk_at bnames01cX8_truthOf_0 11) rfl
theorem dX8_truthOf_14 : decode cX8_truthOf 14 = .ok (.if_icmp .ge 57, 3) := dk_162 (c := cX8_truthOf) (pc := 14) (a := 0) (b := 57) (dk_at bnames01cX8_truthOf_0 14) (by decide)
theorem dX8_truthOf_17 : decode cX8_truthOf 17 = .ok (.iload_n 2, 1) := dk_28 (c := cX8_truthOf) (pc := 17) (dk_at bnames01cX8_truthOf_0 17)
theorem dX8_truthOf_18 : decode cX8_truthOf 18 = .ok (.ifCond .eq 16, 3) := dk_153 (c := cX8_truthOf) (pc := 18) (a := 0) (b := 16) (dk_at bnames01cX8_truthOf_0 18) (by decide)
theorem dX8_truthOf_21 : decode cX8_truthOf 21 = .ok (.aload_n 0, 1) := dk_42 (c := cX8_truthOf) (pc := 21) (dk_at bnames01cX8_truthOf_0 21)
theorem dX8_truthOf_22 : decode cX8_truthOf 22 = .ok (.aload_n 1, 1) := dk_43 (c := cX8_truthOf) (pc := 22) (dk_at bnames01cX8_truthOf_0 22)
theorem dX8_truthOf_23 : decode cX8_truthOf 23 = .ok (.iload 7, 2) := dk_21 (c := cX8_truthOf) (pc := 23) (a := 7) (dk_at bnames01cX8_truthOf_0 23) rfl
theorem dX8_truthOf_25 : decode cX8_truthOf 25 = .ok (.invokevirtual 218, 3) := dk_182 (c := cX8_truthOf) (pc := 25) (a := 0) (b := 218) (dk_at bnames01cX8_truthOf_0 25) rfl
theorem dX8_truthOf_28 : decode cX8_truthOf 28 = .ok (.ifCond .ne 6, 3) := dk_154 (c := cX8_truthOf) (pc := 28) (a := 0) (b := 6) (dk_at bnames01cX8_truthOf_0 28) (by decide)
theorem dX8_truthOf_31 : decode cX8_truthOf 31 = .ok (.goto 34, 3) := dk_167 (c := cX8_truthOf) (pc := 31) (a := 0) (b := 34) (dk_at bnames01cX8_truthOf_0 31) (by decide)
theorem dX8_truthOf_34 : decode cX8_truthOf 34 = .ok (.aload_n 0, 1) := dk_42 (c := cX8_truthOf) (pc := 34) (dk_at bnames01cX8_truthOf_0 34)
theorem dX8_truthOf_35 : decode cX8_truthOf 35 = .ok (.aload_n 1, 1) := dk_43 (c := cX8_truthOf) (pc := 35) (dk_at bnames01cX8_truthOf_0 35)
theorem dX8_truthOf_36 : decode cX8_truthOf 36 = .ok (.iload 7, 2) := dk_21 (c := cX8_truthOf) (pc := 36) (a := 7) (dk_at bnames01cX8_truthOf_0 36) rfl
theorem dX8_truthOf_38 : decode cX8_truthOf 38 = .ok (.invokevirtual 206, 3) := dk_182 (c := cX8_truthOf) (pc := 38) (a := 0) (b := 206) (dk_at bnames01cX8_truthOf_0 38) rfl
theorem dX8_truthOf_41 : decode cX8_truthOf 41 = .ok (.ifCond .ne 7, 3) := dk_154 (c := cX8_truthOf) (pc := 41) (a := 0) (b := 7) (dk_at bnames01cX8_truthOf_0 41) (by decide)
theorem dX8_truthOf_44 : decode cX8_truthOf 44 = .ok (.ldc2_w 282, 3) := dk_20 (c := cX8_truthOf) (pc := 44) (a := 1) (b := 26) (dk_at bnames01cX8_truthOf_0 44) rfl
theorem dX8_truthOf_47 : decode cX8_truthOf 47 = .ok (.lreturn, 1) := dk_173 (c := cX8_truthOf) (pc := 47) (dk_at bnames01cX8_truthOf_0 47)
theorem bnames01cX8_truthOf_48 : ((dk_l cX8_truthOf).drop 48).take 30 = [33, 42, 43, 21, 7, 182, 0, 210, 133, 97, 66, 22, 5, 10, 97, 55, 5, 132, 7, 1, 167, 255, 196, 33, 22, 5, 184, 0, 249, 173] := by decide +kernel
theorem dX8_truthOf_48 : decode cX8_truthOf 48 = .ok (.lload_n 3, 1) := dk_33 (c := cX8_truthOf) (pc := 48) (dk_at bnames01cX8_truthOf_48 0)
theorem dX8_truthOf_49 : decode cX8_truthOf 49 = .ok (.aload_n 0, 1) := dk_42 (c := cX8_truthOf) (pc := 49) (dk_at bnames01cX8_truthOf_48 1)
theorem dX8_truthOf_50 : decode cX8_truthOf 50 = .ok (.aload_n 1, 1) := dk_43 (c := cX8_truthOf) (pc := 50) (dk_at bnames01cX8_truthOf_48 2)
theorem dX8_truthOf_51 : decode cX8_truthOf 51 = .ok (.iload 7, 2) := dk_21 (c := cX8_truthOf) (pc := 51) (a := 7) (dk_at bnames01cX8_truthOf_48 3) rfl
theorem dX8_truthOf_53 : decode cX8_truthOf 53 = .ok (.invokevirtual 210, 3) := dk_182 (c := cX8_truthOf) (pc := 53) (a := 0) (b := 210) (dk_at bnames01cX8_truthOf_48 5) rfl
theorem dX8_truthOf_56 : decode cX8_truthOf 56 = .ok (.i2l, 1) := dk_133 (c := cX8_truthOf) (pc := 56) (dk_at bnames01cX8_truthOf_48 8)
theorem dX8_truthOf_57 : decode cX8_truthOf 57 = .ok (.ladd, 1) := dk_97 (c := cX8_truthOf) (pc := 57) (dk_at bnames01cX8_truthOf_48 9)
theorem dX8_truthOf_58 : decode cX8_truthOf 58 = .ok (.lstore_n 3, 1) := dk_66 (c := cX8_truthOf) (pc := 58) (dk_at bnames01cX8_truthOf_48 10)
theorem dX8_truthOf_59 : decode cX8_truthOf 59 = .ok (.lload 5, 2) := dk_22 (c := cX8_truthOf) (pc := 59) (a := 5) (dk_at bnames01cX8_truthOf_48 11) rfl
theorem dX8_truthOf_61 : decode cX8_truthOf 61 = .ok (.lconst 1, 1) := dk_10 (c := cX8_truthOf) (pc := 61) (dk_at bnames01cX8_truthOf_48 13)
theorem dX8_truthOf_62 : decode cX8_truthOf 62 = .ok (.ladd, 1) := dk_97 (c := cX8_truthOf) (pc := 62) (dk_at bnames01cX8_truthOf_48 14)
theorem dX8_truthOf_63 : decode cX8_truthOf 63 = .ok (.lstore 5, 2) := dk_55 (c := cX8_truthOf) (pc := 63) (a := 5) (dk_at bnames01cX8_truthOf_48 15) rfl
theorem dX8_truthOf_65 : decode cX8_truthOf 65 = .ok (.iinc 7 1, 3) := dk_132 (c := cX8_truthOf) (pc := 65) (a := 7) (b := 1) (dk_at bnames01cX8_truthOf_48 17) rfl (by decide)
theorem dX8_truthOf_68 : decode cX8_truthOf 68 = .ok (.goto (-60), 3) := dk_167 (c := cX8_truthOf) (pc := 68) (a := 255) (b := 196) (dk_at bnames01cX8_truthOf_48 20) (by decide)
theorem dX8_truthOf_71 : decode cX8_truthOf 71 = .ok (.lload_n 3, 1) := dk_33 (c := cX8_truthOf) (pc := 71) (dk_at bnames01cX8_truthOf_48 23)
theorem dX8_truthOf_72 : decode cX8_truthOf 72 = .ok (.lload 5, 2) := dk_22 (c := cX8_truthOf) (pc := 72) (a := 5) (dk_at bnames01cX8_truthOf_48 24) rfl
theorem dX8_truthOf_74 : decode cX8_truthOf 74 = .ok (.invokestatic 249, 3) := dk_184 (c := cX8_truthOf) (pc := 74) (a := 0) (b := 249) (dk_at bnames01cX8_truthOf_48 26) rfl
theorem dX8_truthOf_77 : decode cX8_truthOf 77 = .ok (.lreturn, 1) := dk_173 (c := cX8_truthOf) (pc := 77) (dk_at bnames01cX8_truthOf_48 29)
set_option maxRecDepth 20000 in
theorem ggX8_leans_X8_leanOf : GoodIn wsX8_leans wsX8_leanOf := goodIn_r _ [5, 6, 7, 8, 9, 10, 4, 11, 12, 13, 14, 15, 16, 17, 18, 19, 20, 21, 22, 23, 24, 25, 26, 27, 28, 29, 30, 31, 32, 33, 34, 35, 36, 37, 38, 39, 40, 41, 42, 43, 44, 45, 46, 47, 48, 49, 50, 51, 52, 53, 54, 55, 56, 57, 58, 59, 60, 61, 62, 63, 64, 65, 66, 67, 68, 69, 70, 71, 72, 73, 74, 75, 76, 77, 78, 79, 80, 81, 82, 83, 84, 85, 86, 87, 88, 89, 90, 91, 92, 93, 94, 95, 96, 97, 98, 99, 100, 101, 102, 103, 104, 105, 106, 107, 108, 109, 110, 111, 112, 113, 114, 115, 116, 117, 118, 119, 120, 121, 122, 123, 124, 125, 126, 127, 128, 129, 130, 131, 132, 133, 134, 135, 136, 137, 138, 139, 140, 141, 142, 143, 144, 145, 146, 147, 148, 149, 150, 151, 152, 153, 154, 155, 156, 157, 158, 159, 160, 161, 162, 163, 164, 165, 166, 167, 168, 169, 170, 171, 172, 173, 174, 175, 176, 177, 178, 179, 180, 185, 186, 187, 188, 189, 190, 191, 192, 193, 194, 195, 196, 197, 198, 199, 200, 201, 202, 203, 204, 205, 206, 207, 208, 209, 210, 211, 212, 213, 214, 215, 216, 217, 218, 219, 220, 221, 222, 223, 224, 225, 226, 227, 228, 229, 230, 231] rfl (by decide +kernel)
set_option maxRecDepth 20000 in
theorem gX8_leans_X8_leanOf : GoodIn wsX8_leans (wsV RX8 334 RX8 yX8_leanOf wsX8_leanOf) := goodIn_app (goodIn_r _ [1, 2, 3, 4] rfl (by decide +kernel)) ggX8_leans_X8_leanOf
set_option maxRecDepth 20000 in
theorem ggX8_leans_X8_toFace : GoodIn wsX8_leans wsX8_toFace := goodIn_r _ [183, 7, 184] rfl (by decide +kernel)
set_option maxRecDepth 20000 in
theorem gX8_leans_X8_toFace : GoodIn wsX8_leans (va_wsS RX8 225 yX8_toFace wsX8_toFace) := goodIn_app (goodIn_r _ [181, 182, 4] rfl (by decide +kernel)) ggX8_leans_X8_toFace
theorem bnames01cX8_leans_0 : ((dk_l cX8_leans).drop 0).take 10 = [42, 27, 28, 182, 1, 78, 184, 0, 225, 173] := by decide +kernel
theorem dX8_leans_0 : decode cX8_leans 0 = .ok (.aload_n 0, 1) := dk_42 (c := cX8_leans) (pc := 0) (dk_at bnames01cX8_leans_0 0)
theorem dX8_leans_1 : decode cX8_leans 1 = .ok (.iload_n 1, 1) := dk_27 (c := cX8_leans) (pc := 1) (dk_at bnames01cX8_leans_0 1)
theorem dX8_leans_2 : decode cX8_leans 2 = .ok (.iload_n 2, 1) := dk_28 (c := cX8_leans) (pc := 2) (dk_at bnames01cX8_leans_0 2)
theorem dX8_leans_3 : decode cX8_leans 3 = .ok (.invokevirtual 334, 3) := dk_182 (c := cX8_leans) (pc := 3) (a := 1) (b := 78) (dk_at bnames01cX8_leans_0 3) rfl
theorem dX8_leans_6 : decode cX8_leans 6 = .ok (.invokestatic 225, 3) := dk_184 (c := cX8_leans) (pc := 6) (a := 0) (b := 225) (dk_at bnames01cX8_leans_0 6) rfl
theorem dX8_leans_9 : decode cX8_leans 9 = .ok (.lreturn, 1) := dk_173 (c := cX8_leans) (pc := 9) (dk_at bnames01cX8_leans_0 9)
set_option maxRecDepth 20000 in
theorem ggX8_leanOf_X8_estimateOf : GoodIn wsX8_leanOf wsX8_estimateOf := goodIn_r _ [7, 1, 2, 8, 9, 10, 6, 11, 12, 13, 14, 15, 16, 17, 18, 19, 20, 21, 22, 23, 24, 25, 26, 27, 28, 29, 30, 31, 32, 33, 34, 35, 36, 37, 38, 39, 40, 41, 42, 43, 44, 45, 46, 47, 48, 49, 50, 51, 52, 53, 54, 55, 56, 57, 58, 59, 60, 61, 62, 63, 64, 65, 66, 67, 68, 69, 70, 71, 72, 73, 74, 75, 76, 77, 78, 79, 80, 81, 82, 83, 84, 85, 86, 87, 88, 89, 90, 91, 92, 93, 94, 95, 96, 97, 98, 99, 100, 101, 102, 103, 177, 178, 179, 180, 181, 182, 183, 184, 185, 186, 187, 188, 189, 190, 191, 192, 193, 194, 195, 196, 197, 198, 199, 200, 201, 202, 203, 204, 205, 206, 207] rfl (by decide +kernel)
set_option maxRecDepth 20000 in
theorem gX8_leanOf_X8_estimateOf : GoodIn wsX8_leanOf (wsV RX8 338 RX8 yX8_estimateOf wsX8_estimateOf) := goodIn_app (goodIn_r _ [3, 4, 5, 6] rfl (by decide +kernel)) ggX8_leanOf_X8_estimateOf
set_option maxRecDepth 20000 in
theorem ggX8_leanOf_X8_truthOf : GoodIn wsX8_leanOf wsX8_truthOf := goodIn_r _ [107, 13, 2, 108, 109, 110, 6, 111, 112, 113, 50, 114, 115, 116, 117, 118, 119, 120, 121, 122, 123, 124, 125, 126, 127, 128, 129, 130, 131, 132, 133, 134, 135, 136, 137, 138, 139, 140, 141, 142, 143, 144, 145, 146, 147, 148, 149, 150, 151, 152, 153, 154, 155, 156, 157, 158, 159, 160, 161, 162, 163, 164, 165, 166, 167, 168, 169, 170, 171, 172, 173, 174, 175, 176, 42, 43, 44, 45, 187, 188, 189, 190, 191, 192, 193, 177, 178, 179, 180, 181, 182, 183, 184, 185, 186, 208, 209, 210, 211, 212, 213, 214, 215, 216, 217, 218, 219, 220, 221, 222, 223] rfl (by decide +kernel)
set_option maxRecDepth 20000 in
theorem gX8_leanOf_X8_truthOf : GoodIn wsX8_leanOf (wsV RX8 330 RX8 yX8_truthOf wsX8_truthOf) := goodIn_app (goodIn_r _ [104, 105, 106, 6] rfl (by decide +kernel)) ggX8_leanOf_X8_truthOf
theorem bnames01cX8_leanOf_0 : ((dk_l cX8_leanOf).drop 0).take 46 = [42, 27, 28, 182, 1, 82, 66, 42, 42, 180, 0, 29, 4, 182, 1, 74, 55, 5, 33, 20, 1, 26, 148, 153, 0, 12, 22, 5, 20, 1, 26, 148, 154, 0, 9, 20, 1, 26, 167, 0, 7, 33, 22, 5, 101, 173] := by decide +kernel
theorem dX8_leanOf_0 : decode cX8_leanOf 0 = .ok (.aload_n 0, 1) := dk_42 (c := cX8_leanOf) (pc := 0) (dk_at bnames01cX8_leanOf_0 0)
theorem dX8_leanOf_1 : decode cX8_leanOf 1 = .ok (.iload_n 1, 1) := dk_27 (c := cX8_leanOf) (pc := 1) (dk_at bnames01cX8_leanOf_0 1)
theorem dX8_leanOf_2 : decode cX8_leanOf 2 = .ok (.iload_n 2, 1) := dk_28 (c := cX8_leanOf) (pc := 2) (dk_at bnames01cX8_leanOf_0 2)
theorem dX8_leanOf_3 : decode cX8_leanOf 3 = .ok (.invokevirtual 338, 3) := dk_182 (c := cX8_leanOf) (pc := 3) (a := 1) (b := 82) (dk_at bnames01cX8_leanOf_0 3) rfl
theorem dX8_leanOf_6 : decode cX8_leanOf 6 = .ok (.lstore_n 3, 1) := dk_66 (c := cX8_leanOf) (pc := 6) (dk_at bnames01cX8_leanOf_0 6)
theorem dX8_leanOf_7 : decode cX8_leanOf 7 = .ok (.aload_n 0, 1) := dk_42 (c := cX8_leanOf) (pc := 7) (dk_at bnames01cX8_leanOf_0 7)
theorem dX8_leanOf_8 : decode cX8_leanOf 8 = .ok (.aload_n 0, 1) := dk_42 (c := cX8_leanOf) (pc := 8) (dk_at bnames01cX8_leanOf_0 8)
theorem dX8_leanOf_9 : decode cX8_leanOf 9 = .ok (.getfield 29, 3) := dk_180 (c := cX8_leanOf) (pc := 9) (a := 0) (b := 29) (dk_at bnames01cX8_leanOf_0 9) rfl
theorem dX8_leanOf_12 : decode cX8_leanOf 12 = .ok (.iconst 1, 1) := dk_4 (c := cX8_leanOf) (pc := 12) (dk_at bnames01cX8_leanOf_0 12)
theorem dX8_leanOf_13 : decode cX8_leanOf 13 = .ok (.invokevirtual 330, 3) := dk_182 (c := cX8_leanOf) (pc := 13) (a := 1) (b := 74) (dk_at bnames01cX8_leanOf_0 13) rfl
theorem dX8_leanOf_16 : decode cX8_leanOf 16 = .ok (.lstore 5, 2) := dk_55 (c := cX8_leanOf) (pc := 16) (a := 5) (dk_at bnames01cX8_leanOf_0 16) rfl
theorem dX8_leanOf_18 : decode cX8_leanOf 18 = .ok (.lload_n 3, 1) := dk_33 (c := cX8_leanOf) (pc := 18) (dk_at bnames01cX8_leanOf_0 18)
theorem dX8_leanOf_19 : decode cX8_leanOf 19 = .ok (.ldc2_w 282, 3) := dk_20 (c := cX8_leanOf) (pc := 19) (a := 1) (b := 26) (dk_at bnames01cX8_leanOf_0 19) rfl
theorem dX8_leanOf_22 : decode cX8_leanOf 22 = .ok (.lcmp, 1) := dk_148 (c := cX8_leanOf) (pc := 22) (dk_at bnames01cX8_leanOf_0 22)
theorem dX8_leanOf_23 : decode cX8_leanOf 23 = .ok (.ifCond .eq 12, 3) := dk_153 (c := cX8_leanOf) (pc := 23) (a := 0) (b := 12) (dk_at bnames01cX8_leanOf_0 23) (by decide)
theorem dX8_leanOf_26 : decode cX8_leanOf 26 = .ok (.lload 5, 2) := dk_22 (c := cX8_leanOf) (pc := 26) (a := 5) (dk_at bnames01cX8_leanOf_0 26) rfl
theorem dX8_leanOf_28 : decode cX8_leanOf 28 = .ok (.ldc2_w 282, 3) := dk_20 (c := cX8_leanOf) (pc := 28) (a := 1) (b := 26) (dk_at bnames01cX8_leanOf_0 28) rfl
theorem dX8_leanOf_31 : decode cX8_leanOf 31 = .ok (.lcmp, 1) := dk_148 (c := cX8_leanOf) (pc := 31) (dk_at bnames01cX8_leanOf_0 31)
theorem dX8_leanOf_32 : decode cX8_leanOf 32 = .ok (.ifCond .ne 9, 3) := dk_154 (c := cX8_leanOf) (pc := 32) (a := 0) (b := 9) (dk_at bnames01cX8_leanOf_0 32) (by decide)
theorem dX8_leanOf_35 : decode cX8_leanOf 35 = .ok (.ldc2_w 282, 3) := dk_20 (c := cX8_leanOf) (pc := 35) (a := 1) (b := 26) (dk_at bnames01cX8_leanOf_0 35) rfl
theorem dX8_leanOf_38 : decode cX8_leanOf 38 = .ok (.goto 7, 3) := dk_167 (c := cX8_leanOf) (pc := 38) (a := 0) (b := 7) (dk_at bnames01cX8_leanOf_0 38) (by decide)
theorem dX8_leanOf_41 : decode cX8_leanOf 41 = .ok (.lload_n 3, 1) := dk_33 (c := cX8_leanOf) (pc := 41) (dk_at bnames01cX8_leanOf_0 41)
theorem dX8_leanOf_42 : decode cX8_leanOf 42 = .ok (.lload 5, 2) := dk_22 (c := cX8_leanOf) (pc := 42) (a := 5) (dk_at bnames01cX8_leanOf_0 42) rfl
theorem dX8_leanOf_44 : decode cX8_leanOf 44 = .ok (.lsub, 1) := dk_101 (c := cX8_leanOf) (pc := 44) (dk_at bnames01cX8_leanOf_0 44)
theorem dX8_leanOf_45 : decode cX8_leanOf 45 = .ok (.lreturn, 1) := dk_173 (c := cX8_leanOf) (pc := 45) (dk_at bnames01cX8_leanOf_0 45)
set_option maxRecDepth 20000 in
theorem ggX8_estimateOf_X8_plainOf : GoodIn wsX8_estimateOf wsX8_plainOf := goodIn_r _ [7, 8, 1, 9, 10, 11, 12, 13, 14, 15, 16, 17, 18, 19, 20, 21, 22, 23, 24, 25, 26, 27, 28, 29, 30, 31, 32, 33, 34, 35, 36, 37, 38, 39, 6, 40, 2, 41, 100, 101, 102, 103, 104, 105, 106, 107, 108, 109, 110, 111, 112, 113, 114, 115, 116, 117, 118, 119, 120, 121, 122, 123, 124, 125, 126, 127] rfl (by decide +kernel)
set_option maxRecDepth 20000 in
theorem gX8_estimateOf_X8_plainOf : GoodIn wsX8_estimateOf (wsV RX8 221 RX8 yX8_plainOf wsX8_plainOf) := goodIn_app (goodIn_r _ [3, 4, 5, 6] rfl (by decide +kernel)) ggX8_estimateOf_X8_plainOf
set_option maxRecDepth 20000 in
theorem ggX8_estimateOf_X8_divided : GoodIn wsX8_estimateOf wsX8_divided := goodIn_r _ [45, 8, 9, 46, 15, 16, 17, 18, 19, 20, 21, 22, 23, 24, 25, 26, 27, 28, 29, 30, 47, 48, 6, 49, 50, 51, 52, 53, 54, 55, 31, 32, 33, 34, 35, 36, 37, 100, 101, 102, 103, 104, 105, 106, 107, 108, 109, 110, 111, 112, 113, 114, 115, 116, 117, 118, 119, 120, 121, 122, 123, 124, 125, 126, 127] rfl (by decide +kernel)
set_option maxRecDepth 20000 in
theorem gX8_estimateOf_X8_divided : GoodIn wsX8_estimateOf (wsV RX8 253 RX8 yX8_divided wsX8_divided) := goodIn_app (goodIn_r _ [42, 43, 44, 6] rfl (by decide +kernel)) ggX8_estimateOf_X8_divided
set_option maxRecDepth 20000 in
theorem ggX8_estimateOf_X6_byMoved : GoodIn wsX8_estimateOf wsX6_byMoved := goodIn_r _ [59, 60, 61, 62, 18, 63, 21, 25, 64, 65, 22, 26, 20, 24, 66, 67, 68, 69, 70, 71, 72, 73, 117, 118, 119, 120, 121, 122, 123, 124, 125, 126, 127] rfl (by decide +kernel)
set_option maxRecDepth 20000 in
theorem gX8_estimateOf_X6_byMoved : GoodIn wsX8_estimateOf (wsV RX8 257 RX6 yX6_byMoved wsX6_byMoved) := goodIn_app (goodIn_r _ [56, 57, 58, 18] rfl (by decide +kernel)) ggX8_estimateOf_X6_byMoved
set_option maxRecDepth 20000 in
theorem ggX8_estimateOf_X8_manyOf : GoodIn wsX8_estimateOf wsX8_manyOf := goodIn_r _ [77, 78, 1, 79, 80, 81, 82, 83, 84, 85, 86, 87, 88, 89, 90, 91, 92, 93, 94, 95, 96, 97, 98, 99, 39, 6, 40, 2, 41, 100, 101, 102, 103, 104, 105, 106, 107, 108, 109, 128, 129, 130, 110, 111, 112, 113, 114, 115, 116] rfl (by decide +kernel)
set_option maxRecDepth 20000 in
theorem gX8_estimateOf_X8_manyOf : GoodIn wsX8_estimateOf (wsV RX8 260 RX8 yX8_manyOf wsX8_manyOf) := goodIn_app (goodIn_r _ [74, 75, 76, 6] rfl (by decide +kernel)) ggX8_estimateOf_X8_manyOf
theorem bnames01cX8_estimateOf_0 : ((dk_l cX8_estimateOf).drop 0).take 52 = [27, 170, 0, 0, 0, 0, 0, 50, 0, 0, 0, 0, 0, 0, 0, 2, 0, 0, 0, 27, 0, 0, 0, 32, 0, 0, 0, 45, 42, 182, 0, 221, 173, 42, 42, 180, 0, 29, 28, 182, 0, 253, 182, 1, 1, 173, 42, 182, 1, 4, 173, 20] := by decide +kernel
theorem dX8_estimateOf_0 : decode cX8_estimateOf 0 = .ok (.iload_n 1, 1) := dk_27 (c := cX8_estimateOf) (pc := 0) (dk_at bnames01cX8_estimateOf_0 0)
theorem dX8_estimateOf_1 : decode cX8_estimateOf 1 = .ok (.tableswitch 50 0 2 #[27, 32, 45], 27) := by decide +kernel
theorem dX8_estimateOf_28 : decode cX8_estimateOf 28 = .ok (.aload_n 0, 1) := dk_42 (c := cX8_estimateOf) (pc := 28) (dk_at bnames01cX8_estimateOf_0 28)
theorem dX8_estimateOf_29 : decode cX8_estimateOf 29 = .ok (.invokevirtual 221, 3) := dk_182 (c := cX8_estimateOf) (pc := 29) (a := 0) (b := 221) (dk_at bnames01cX8_estimateOf_0 29) rfl
theorem dX8_estimateOf_32 : decode cX8_estimateOf 32 = .ok (.lreturn, 1) := dk_173 (c := cX8_estimateOf) (pc := 32) (dk_at bnames01cX8_estimateOf_0 32)
theorem dX8_estimateOf_33 : decode cX8_estimateOf 33 = .ok (.aload_n 0, 1) := dk_42 (c := cX8_estimateOf) (pc := 33) (dk_at bnames01cX8_estimateOf_0 33)
theorem dX8_estimateOf_34 : decode cX8_estimateOf 34 = .ok (.aload_n 0, 1) := dk_42 (c := cX8_estimateOf) (pc := 34) (dk_at bnames01cX8_estimateOf_0 34)
theorem dX8_estimateOf_35 : decode cX8_estimateOf 35 = .ok (.getfield 29, 3) := dk_180 (c := cX8_estimateOf) (pc := 35) (a := 0) (b := 29) (dk_at bnames01cX8_estimateOf_0 35) rfl
theorem dX8_estimateOf_38 : decode cX8_estimateOf 38 = .ok (.iload_n 2, 1) := dk_28 (c := cX8_estimateOf) (pc := 38) (dk_at bnames01cX8_estimateOf_0 38)
theorem dX8_estimateOf_39 : decode cX8_estimateOf 39 = .ok (.invokevirtual 253, 3) := dk_182 (c := cX8_estimateOf) (pc := 39) (a := 0) (b := 253) (dk_at bnames01cX8_estimateOf_0 39) rfl
theorem dX8_estimateOf_42 : decode cX8_estimateOf 42 = .ok (.invokevirtual 257, 3) := dk_182 (c := cX8_estimateOf) (pc := 42) (a := 1) (b := 1) (dk_at bnames01cX8_estimateOf_0 42) rfl
theorem dX8_estimateOf_45 : decode cX8_estimateOf 45 = .ok (.lreturn, 1) := dk_173 (c := cX8_estimateOf) (pc := 45) (dk_at bnames01cX8_estimateOf_0 45)
theorem dX8_estimateOf_46 : decode cX8_estimateOf 46 = .ok (.aload_n 0, 1) := dk_42 (c := cX8_estimateOf) (pc := 46) (dk_at bnames01cX8_estimateOf_0 46)
theorem dX8_estimateOf_47 : decode cX8_estimateOf 47 = .ok (.invokevirtual 260, 3) := dk_182 (c := cX8_estimateOf) (pc := 47) (a := 1) (b := 4) (dk_at bnames01cX8_estimateOf_0 47) rfl
theorem bnames01cX8_estimateOf_48 : ((dk_l cX8_estimateOf).drop 48).take 7 = [1, 4, 173, 20, 1, 26, 173] := by decide +kernel
theorem dX8_estimateOf_50 : decode cX8_estimateOf 50 = .ok (.lreturn, 1) := dk_173 (c := cX8_estimateOf) (pc := 50) (dk_at bnames01cX8_estimateOf_48 2)
theorem dX8_estimateOf_51 : decode cX8_estimateOf 51 = .ok (.ldc2_w 282, 3) := dk_20 (c := cX8_estimateOf) (pc := 51) (a := 1) (b := 26) (dk_at bnames01cX8_estimateOf_48 3) rfl
theorem dX8_estimateOf_54 : decode cX8_estimateOf 54 = .ok (.lreturn, 1) := dk_173 (c := cX8_estimateOf) (pc := 54) (dk_at bnames01cX8_estimateOf_48 6)
set_option maxRecDepth 20000 in
theorem ggX8_least_X8_leanOf : GoodIn wsX8_least wsX8_leanOf := goodIn_r _ [10, 11, 1, 12, 13, 14, 9, 15, 16, 17, 18, 19, 20, 21, 22, 23, 24, 25, 26, 27, 28, 29, 30, 31, 32, 33, 34, 35, 36, 37, 38, 39, 40, 41, 42, 43, 44, 45, 46, 47, 48, 49, 50, 51, 52, 53, 54, 55, 56, 57, 58, 59, 60, 61, 62, 63, 64, 65, 66, 67, 68, 69, 70, 71, 72, 73, 74, 75, 76, 77, 78, 79, 80, 81, 82, 83, 84, 85, 86, 87, 88, 89, 90, 91, 92, 93, 94, 95, 96, 97, 98, 99, 100, 101, 102, 103, 104, 105, 106, 107, 108, 109, 110, 111, 112, 113, 114, 115, 116, 117, 118, 119, 120, 121, 122, 123, 124, 125, 126, 127, 128, 129, 130, 131, 132, 133, 134, 135, 136, 137, 138, 139, 140, 141, 142, 143, 144, 145, 146, 147, 148, 149, 150, 151, 152, 153, 154, 155, 156, 4, 157, 158, 159, 160, 161, 162, 163, 164, 165, 166, 167, 168, 169, 170, 171, 172, 173, 174, 175, 176, 177, 178, 179, 180, 181, 182, 183, 184, 185, 186, 187, 188, 189, 190, 191, 192, 193, 194, 195, 196, 197, 198, 199, 200, 201, 202, 203, 204, 205, 206, 207, 208, 209, 210, 211, 212, 213, 214, 215, 216, 217, 218, 219, 220, 221, 222, 223, 224, 225, 226, 227, 228, 229, 230] rfl (by decide +kernel)
set_option maxRecDepth 20000 in
theorem gX8_least_X8_leanOf : GoodIn wsX8_least (wsV RX8 334 RX8 yX8_leanOf wsX8_leanOf) := goodIn_app (goodIn_r _ [6, 7, 8, 9] rfl (by decide +kernel)) ggX8_least_X8_leanOf
theorem bnames01cX8_least_0 : ((dk_l cX8_least).drop 0).take 52 = [2, 61, 9, 66, 3, 54, 5, 21, 5, 5, 163, 0, 51, 42, 21, 5, 27, 182, 1, 78, 55, 6, 22, 6, 20, 1, 26, 148, 153, 0, 27, 28, 2, 159, 0, 13, 22, 6, 184, 1, 51, 33, 148, 156, 0, 12, 21, 5, 61, 22, 6, 184] := by decide +kernel
theorem dX8_least_0 : decode cX8_least 0 = .ok (.iconst (-1), 1) := dk_2 (c := cX8_least) (pc := 0) (dk_at bnames01cX8_least_0 0)
theorem dX8_least_1 : decode cX8_least 1 = .ok (.istore_n 2, 1) := dk_61 (c := cX8_least) (pc := 1) (dk_at bnames01cX8_least_0 1)
theorem dX8_least_2 : decode cX8_least 2 = .ok (.lconst 0, 1) := dk_9 (c := cX8_least) (pc := 2) (dk_at bnames01cX8_least_0 2)
theorem dX8_least_3 : decode cX8_least 3 = .ok (.lstore_n 3, 1) := dk_66 (c := cX8_least) (pc := 3) (dk_at bnames01cX8_least_0 3)
theorem dX8_least_4 : decode cX8_least 4 = .ok (.iconst 0, 1) := dk_3 (c := cX8_least) (pc := 4) (dk_at bnames01cX8_least_0 4)
theorem dX8_least_5 : decode cX8_least 5 = .ok (.istore 5, 2) := dk_54 (c := cX8_least) (pc := 5) (a := 5) (dk_at bnames01cX8_least_0 5) rfl
theorem dX8_least_7 : decode cX8_least 7 = .ok (.iload 5, 2) := dk_21 (c := cX8_least) (pc := 7) (a := 5) (dk_at bnames01cX8_least_0 7) rfl
theorem dX8_least_9 : decode cX8_least 9 = .ok (.iconst 2, 1) := dk_5 (c := cX8_least) (pc := 9) (dk_at bnames01cX8_least_0 9)
theorem dX8_least_10 : decode cX8_least 10 = .ok (.if_icmp .gt 51, 3) := dk_163 (c := cX8_least) (pc := 10) (a := 0) (b := 51) (dk_at bnames01cX8_least_0 10) (by decide)
theorem dX8_least_13 : decode cX8_least 13 = .ok (.aload_n 0, 1) := dk_42 (c := cX8_least) (pc := 13) (dk_at bnames01cX8_least_0 13)
theorem dX8_least_14 : decode cX8_least 14 = .ok (.iload 5, 2) := dk_21 (c := cX8_least) (pc := 14) (a := 5) (dk_at bnames01cX8_least_0 14) rfl
theorem dX8_least_16 : decode cX8_least 16 = .ok (.iload_n 1, 1) := dk_27 (c := cX8_least) (pc := 16) (dk_at bnames01cX8_least_0 16)
theorem dX8_least_17 : decode cX8_least 17 = .ok (.invokevirtual 334, 3) := dk_182 (c := cX8_least) (pc := 17) (a := 1) (b := 78) (dk_at bnames01cX8_least_0 17) rfl
theorem dX8_least_20 : decode cX8_least 20 = .ok (.lstore 6, 2) := dk_55 (c := cX8_least) (pc := 20) (a := 6) (dk_at bnames01cX8_least_0 20) rfl
theorem dX8_least_22 : decode cX8_least 22 = .ok (.lload 6, 2) := dk_22 (c := cX8_least) (pc := 22) (a := 6) (dk_at bnames01cX8_least_0 22) rfl
theorem dX8_least_24 : decode cX8_least 24 = .ok (.ldc2_w 282, 3) := dk_20 (c := cX8_least) (pc := 24) (a := 1) (b := 26) (dk_at bnames01cX8_least_0 24) rfl
theorem dX8_least_27 : decode cX8_least 27 = .ok (.lcmp, 1) := dk_148 (c := cX8_least) (pc := 27) (dk_at bnames01cX8_least_0 27)
theorem dX8_least_28 : decode cX8_least 28 = .ok (.ifCond .eq 27, 3) := dk_153 (c := cX8_least) (pc := 28) (a := 0) (b := 27) (dk_at bnames01cX8_least_0 28) (by decide)
theorem dX8_least_31 : decode cX8_least 31 = .ok (.iload_n 2, 1) := dk_28 (c := cX8_least) (pc := 31) (dk_at bnames01cX8_least_0 31)
theorem dX8_least_32 : decode cX8_least 32 = .ok (.iconst (-1), 1) := dk_2 (c := cX8_least) (pc := 32) (dk_at bnames01cX8_least_0 32)
theorem dX8_least_33 : decode cX8_least 33 = .ok (.if_icmp .eq 13, 3) := dk_159 (c := cX8_least) (pc := 33) (a := 0) (b := 13) (dk_at bnames01cX8_least_0 33) (by decide)
theorem dX8_least_36 : decode cX8_least 36 = .ok (.lload 6, 2) := dk_22 (c := cX8_least) (pc := 36) (a := 6) (dk_at bnames01cX8_least_0 36) rfl
theorem dX8_least_38 : decode cX8_least 38 = .ok (.invokestatic 307, 3) := dk_184 (c := cX8_least) (pc := 38) (a := 1) (b := 51) (dk_at bnames01cX8_least_0 38) rfl
theorem dX8_least_41 : decode cX8_least 41 = .ok (.lload_n 3, 1) := dk_33 (c := cX8_least) (pc := 41) (dk_at bnames01cX8_least_0 41)
theorem dX8_least_42 : decode cX8_least 42 = .ok (.lcmp, 1) := dk_148 (c := cX8_least) (pc := 42) (dk_at bnames01cX8_least_0 42)
theorem dX8_least_43 : decode cX8_least 43 = .ok (.ifCond .ge 12, 3) := dk_156 (c := cX8_least) (pc := 43) (a := 0) (b := 12) (dk_at bnames01cX8_least_0 43) (by decide)
theorem dX8_least_46 : decode cX8_least 46 = .ok (.iload 5, 2) := dk_21 (c := cX8_least) (pc := 46) (a := 5) (dk_at bnames01cX8_least_0 46) rfl
theorem bnames01cX8_least_48 : ((dk_l cX8_least).drop 48).take 15 = [61, 22, 6, 184, 1, 51, 66, 132, 5, 1, 167, 255, 205, 28, 172] := by decide +kernel
theorem dX8_least_48 : decode cX8_least 48 = .ok (.istore_n 2, 1) := dk_61 (c := cX8_least) (pc := 48) (dk_at bnames01cX8_least_48 0)
theorem dX8_least_49 : decode cX8_least 49 = .ok (.lload 6, 2) := dk_22 (c := cX8_least) (pc := 49) (a := 6) (dk_at bnames01cX8_least_48 1) rfl
theorem dX8_least_51 : decode cX8_least 51 = .ok (.invokestatic 307, 3) := dk_184 (c := cX8_least) (pc := 51) (a := 1) (b := 51) (dk_at bnames01cX8_least_48 3) rfl
theorem dX8_least_54 : decode cX8_least 54 = .ok (.lstore_n 3, 1) := dk_66 (c := cX8_least) (pc := 54) (dk_at bnames01cX8_least_48 6)
theorem dX8_least_55 : decode cX8_least 55 = .ok (.iinc 5 1, 3) := dk_132 (c := cX8_least) (pc := 55) (a := 5) (b := 1) (dk_at bnames01cX8_least_48 7) rfl (by decide)
theorem dX8_least_58 : decode cX8_least 58 = .ok (.goto (-51), 3) := dk_167 (c := cX8_least) (pc := 58) (a := 255) (b := 205) (dk_at bnames01cX8_least_48 10) (by decide)
theorem dX8_least_61 : decode cX8_least 61 = .ok (.iload_n 2, 1) := dk_28 (c := cX8_least) (pc := 61) (dk_at bnames01cX8_least_48 13)
theorem dX8_least_62 : decode cX8_least 62 = .ok (.ireturn, 1) := dk_172 (c := cX8_least) (pc := 62) (dk_at bnames01cX8_least_48 14)
set_option maxRecDepth 20000 in
theorem ggX8_beside_X8_isPlaced : GoodIn wsX8_beside wsX8_isPlaced := goodIn_r _ [12, 6, 5, 13, 14, 15, 16, 17, 18, 19, 20, 21, 22, 23, 24, 67, 68, 69, 70, 71, 72, 73, 74, 75, 76, 77, 78, 79, 80, 81, 82, 83, 84, 85, 86, 87, 88, 89, 90, 91, 92, 93, 94, 95, 96, 97, 98, 99] rfl (by decide +kernel)
set_option maxRecDepth 20000 in
theorem gX8_beside_X8_isPlaced : GoodIn wsX8_beside (wsV RX8 206 RX8 yX8_isPlaced wsX8_isPlaced) := goodIn_app (goodIn_r _ [8, 9, 10, 11] rfl (by decide +kernel)) ggX8_beside_X8_isPlaced
set_option maxRecDepth 20000 in
theorem ggX8_beside_X8_isMonth : GoodIn wsX8_beside wsX8_isMonth := goodIn_r _ [27, 28, 29, 11, 30] rfl (by decide +kernel)
set_option maxRecDepth 20000 in
theorem gX8_beside_X8_isMonth : GoodIn wsX8_beside (va_wsS RX8 95 yX8_isMonth wsX8_isMonth) := goodIn_app (goodIn_r _ [25, 26, 11] rfl (by decide +kernel)) ggX8_beside_X8_isMonth
set_option maxRecDepth 20000 in
theorem ggX8_beside_X3_payFor : GoodIn wsX8_beside wsX3_payFor := goodIn_r _ [34, 35, 36, 37, 38, 39, 40, 22, 41, 42, 43, 44, 45, 46, 47, 48, 49, 50, 51, 52, 53, 54, 55, 56, 57, 11, 58, 59, 60, 61, 62, 63, 64, 65, 66, 84, 85, 86, 87, 88, 89, 90, 91, 92, 93, 94, 95, 96, 97, 98, 99] rfl (by decide +kernel)
set_option maxRecDepth 20000 in
theorem gX8_beside_X3_payFor : GoodIn wsX8_beside (wsV RX8 109 RX3 yX3_payFor wsX3_payFor) := goodIn_app (goodIn_r _ [31, 32, 33, 22] rfl (by decide +kernel)) ggX8_beside_X3_payFor
theorem bnames01cX8_beside_0 : ((dk_l cX8_beside).drop 0).take 52 = [42, 42, 180, 0, 29, 27, 182, 0, 206, 153, 0, 10, 28, 184, 0, 95, 154, 0, 6, 18, 214, 172, 42, 180, 0, 29, 180, 0, 198, 27, 46, 62, 42, 180, 0, 29, 180, 0, 204, 27, 46, 54, 4, 42, 180, 0, 29, 180, 0, 192, 27, 46] := by decide +kernel
theorem dX8_beside_0 : decode cX8_beside 0 = .ok (.aload_n 0, 1) := dk_42 (c := cX8_beside) (pc := 0) (dk_at bnames01cX8_beside_0 0)
theorem dX8_beside_1 : decode cX8_beside 1 = .ok (.aload_n 0, 1) := dk_42 (c := cX8_beside) (pc := 1) (dk_at bnames01cX8_beside_0 1)
theorem dX8_beside_2 : decode cX8_beside 2 = .ok (.getfield 29, 3) := dk_180 (c := cX8_beside) (pc := 2) (a := 0) (b := 29) (dk_at bnames01cX8_beside_0 2) rfl
theorem dX8_beside_5 : decode cX8_beside 5 = .ok (.iload_n 1, 1) := dk_27 (c := cX8_beside) (pc := 5) (dk_at bnames01cX8_beside_0 5)
theorem dX8_beside_6 : decode cX8_beside 6 = .ok (.invokevirtual 206, 3) := dk_182 (c := cX8_beside) (pc := 6) (a := 0) (b := 206) (dk_at bnames01cX8_beside_0 6) rfl
theorem dX8_beside_9 : decode cX8_beside 9 = .ok (.ifCond .eq 10, 3) := dk_153 (c := cX8_beside) (pc := 9) (a := 0) (b := 10) (dk_at bnames01cX8_beside_0 9) (by decide)
theorem dX8_beside_12 : decode cX8_beside 12 = .ok (.iload_n 2, 1) := dk_28 (c := cX8_beside) (pc := 12) (dk_at bnames01cX8_beside_0 12)
theorem dX8_beside_13 : decode cX8_beside 13 = .ok (.invokestatic 95, 3) := dk_184 (c := cX8_beside) (pc := 13) (a := 0) (b := 95) (dk_at bnames01cX8_beside_0 13) rfl
theorem dX8_beside_16 : decode cX8_beside 16 = .ok (.ifCond .ne 6, 3) := dk_154 (c := cX8_beside) (pc := 16) (a := 0) (b := 6) (dk_at bnames01cX8_beside_0 16) (by decide)
theorem dX8_beside_19 : decode cX8_beside 19 = .ok (.ldc 214, 2) := dk_18 (c := cX8_beside) (pc := 19) (a := 214) (dk_at bnames01cX8_beside_0 19) rfl
theorem dX8_beside_21 : decode cX8_beside 21 = .ok (.ireturn, 1) := dk_172 (c := cX8_beside) (pc := 21) (dk_at bnames01cX8_beside_0 21)
theorem dX8_beside_22 : decode cX8_beside 22 = .ok (.aload_n 0, 1) := dk_42 (c := cX8_beside) (pc := 22) (dk_at bnames01cX8_beside_0 22)
theorem dX8_beside_23 : decode cX8_beside 23 = .ok (.getfield 29, 3) := dk_180 (c := cX8_beside) (pc := 23) (a := 0) (b := 29) (dk_at bnames01cX8_beside_0 23) rfl
theorem dX8_beside_26 : decode cX8_beside 26 = .ok (.getfield 198, 3) := dk_180 (c := cX8_beside) (pc := 26) (a := 0) (b := 198) (dk_at bnames01cX8_beside_0 26) rfl
theorem dX8_beside_29 : decode cX8_beside 29 = .ok (.iload_n 1, 1) := dk_27 (c := cX8_beside) (pc := 29) (dk_at bnames01cX8_beside_0 29)
theorem dX8_beside_30 : decode cX8_beside 30 = .ok (.iaload, 1) := dk_46 (c := cX8_beside) (pc := 30) (dk_at bnames01cX8_beside_0 30)
theorem dX8_beside_31 : decode cX8_beside 31 = .ok (.istore_n 3, 1) := dk_62 (c := cX8_beside) (pc := 31) (dk_at bnames01cX8_beside_0 31)
theorem dX8_beside_32 : decode cX8_beside 32 = .ok (.aload_n 0, 1) := dk_42 (c := cX8_beside) (pc := 32) (dk_at bnames01cX8_beside_0 32)
theorem dX8_beside_33 : decode cX8_beside 33 = .ok (.getfield 29, 3) := dk_180 (c := cX8_beside) (pc := 33) (a := 0) (b := 29) (dk_at bnames01cX8_beside_0 33) rfl
theorem dX8_beside_36 : decode cX8_beside 36 = .ok (.getfield 204, 3) := dk_180 (c := cX8_beside) (pc := 36) (a := 0) (b := 204) (dk_at bnames01cX8_beside_0 36) rfl
theorem dX8_beside_39 : decode cX8_beside 39 = .ok (.iload_n 1, 1) := dk_27 (c := cX8_beside) (pc := 39) (dk_at bnames01cX8_beside_0 39)
theorem dX8_beside_40 : decode cX8_beside 40 = .ok (.iaload, 1) := dk_46 (c := cX8_beside) (pc := 40) (dk_at bnames01cX8_beside_0 40)
theorem dX8_beside_41 : decode cX8_beside 41 = .ok (.istore 4, 2) := dk_54 (c := cX8_beside) (pc := 41) (a := 4) (dk_at bnames01cX8_beside_0 41) rfl
theorem dX8_beside_43 : decode cX8_beside 43 = .ok (.aload_n 0, 1) := dk_42 (c := cX8_beside) (pc := 43) (dk_at bnames01cX8_beside_0 43)
theorem dX8_beside_44 : decode cX8_beside 44 = .ok (.getfield 29, 3) := dk_180 (c := cX8_beside) (pc := 44) (a := 0) (b := 29) (dk_at bnames01cX8_beside_0 44) rfl
theorem dX8_beside_47 : decode cX8_beside 47 = .ok (.getfield 192, 3) := dk_180 (c := cX8_beside) (pc := 47) (a := 0) (b := 192) (dk_at bnames01cX8_beside_0 47) rfl
theorem bnames01cX8_beside_48 : ((dk_l cX8_beside).drop 48).take 42 = [0, 192, 27, 46, 54, 5, 42, 180, 0, 19, 29, 21, 4, 28, 21, 5, 182, 0, 109, 42, 180, 0, 19, 29, 21, 4, 42, 180, 0, 29, 180, 0, 195, 27, 46, 21, 5, 182, 0, 109, 100, 172] := by decide +kernel
theorem dX8_beside_50 : decode cX8_beside 50 = .ok (.iload_n 1, 1) := dk_27 (c := cX8_beside) (pc := 50) (dk_at bnames01cX8_beside_48 2)
