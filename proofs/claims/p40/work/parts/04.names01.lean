theorem dX7_passNumber_38 : decode cX7_passNumber 38 = .ok (.getfield 22, 3) := by decide +kernel
theorem dX7_passNumber_41 : decode cX7_passNumber 41 = .ok (.ifCond .eq 5, 3) := by decide +kernel
theorem dX7_passNumber_44 : decode cX7_passNumber 44 = .ok (.iload_n 1, 1) := by decide +kernel
theorem dX7_passNumber_45 : decode cX7_passNumber 45 = .ok (.ireturn, 1) := by decide +kernel
theorem dX7_passNumber_46 : decode cX7_passNumber 46 = .ok (.aload_n 0, 1) := by decide +kernel
theorem dX7_passNumber_47 : decode cX7_passNumber 47 = .ok (.getfield 116, 3) := by decide +kernel
theorem dX7_passNumber_50 : decode cX7_passNumber 50 = .ok (.istore_n 3, 1) := by decide +kernel
theorem dX7_passNumber_51 : decode cX7_passNumber 51 = .ok (.aload_n 0, 1) := by decide +kernel
theorem dX7_passNumber_52 : decode cX7_passNumber 52 = .ok (.invokevirtual 33, 3) := by decide +kernel
theorem dX7_passNumber_55 : decode cX7_passNumber 55 = .ok (.iload_n 3, 1) := by decide +kernel
theorem dX7_passNumber_56 : decode cX7_passNumber 56 = .ok (.ireturn, 1) := by decide +kernel
theorem dX7_refuse_0 : decode cX7_refuse 0 = .ok (.aload_n 0, 1) := by decide +kernel
theorem dX7_refuse_1 : decode cX7_refuse 1 = .ok (.getfield 22, 3) := by decide +kernel
theorem dX7_refuse_4 : decode cX7_refuse 4 = .ok (.ifCond .ne 16, 3) := by decide +kernel
theorem dX7_refuse_7 : decode cX7_refuse 7 = .ok (.aload_n 0, 1) := by decide +kernel
theorem dX7_refuse_8 : decode cX7_refuse 8 = .ok (.iload_n 1, 1) := by decide +kernel
theorem dX7_refuse_9 : decode cX7_refuse 9 = .ok (.putfield 22, 3) := by decide +kernel
theorem dX7_refuse_12 : decode cX7_refuse 12 = .ok (.aload_n 0, 1) := by decide +kernel
theorem dX7_refuse_13 : decode cX7_refuse 13 = .ok (.aload_n 0, 1) := by decide +kernel
theorem dX7_refuse_14 : decode cX7_refuse 14 = .ok (.getfield 170, 3) := by decide +kernel
theorem dX7_refuse_17 : decode cX7_refuse 17 = .ok (.putfield 15, 3) := by decide +kernel
theorem dX7_refuse_20 : decode cX7_refuse 20 = .ok (.return_, 1) := by decide +kernel
set_option maxRecDepth 20000 in
theorem ggX7_step_X7_isLetter : GoodIn wsX7_step wsX7_isLetter := goodIn_r _ [15] (by decide +kernel) (by decide +kernel)
set_option maxRecDepth 20000 in
theorem gX7_step_X7_isLetter : GoodIn wsX7_step (va_wsS RX7 181 yX7_isLetter wsX7_isLetter) := goodIn_app (goodIn_of _ (by decide +kernel)) ggX7_step_X7_isLetter
set_option maxRecDepth 20000 in
theorem ggX7_step_X7_isDigit : GoodIn wsX7_step wsX7_isDigit := goodIn_r _ [18] (by decide +kernel) (by decide +kernel)
set_option maxRecDepth 20000 in
theorem gX7_step_X7_isDigit : GoodIn wsX7_step (va_wsS RX7 185 yX7_isDigit wsX7_isDigit) := goodIn_app (goodIn_of _ (by decide +kernel)) ggX7_step_X7_isDigit
theorem dX7_step_0 : decode cX7_step 0 = .ok (.aload_n 0, 1) := by decide +kernel
theorem dX7_step_1 : decode cX7_step 1 = .ok (.getfield 25, 3) := by decide +kernel
theorem dX7_step_4 : decode cX7_step 4 = .ok (.aload_n 0, 1) := by decide +kernel
theorem dX7_step_5 : decode cX7_step 5 = .ok (.getfield 19, 3) := by decide +kernel
theorem dX7_step_8 : decode cX7_step 8 = .ok (.if_icmp .ge 44, 3) := by decide +kernel
theorem dX7_step_11 : decode cX7_step 11 = .ok (.aload_n 0, 1) := by decide +kernel
theorem dX7_step_12 : decode cX7_step 12 = .ok (.getfield 9, 3) := by decide +kernel
theorem dX7_step_15 : decode cX7_step 15 = .ok (.aload_n 0, 1) := by decide +kernel
theorem dX7_step_16 : decode cX7_step 16 = .ok (.getfield 25, 3) := by decide +kernel
theorem dX7_step_19 : decode cX7_step 19 = .ok (.baload, 1) := by decide +kernel
theorem dX7_step_20 : decode cX7_step 20 = .ok (.bipush 32, 2) := by decide +kernel
theorem dX7_step_22 : decode cX7_step 22 = .ok (.if_icmp .eq 17, 3) := by decide +kernel
theorem dX7_step_25 : decode cX7_step 25 = .ok (.aload_n 0, 1) := by decide +kernel
theorem dX7_step_26 : decode cX7_step 26 = .ok (.getfield 9, 3) := by decide +kernel
theorem dX7_step_29 : decode cX7_step 29 = .ok (.aload_n 0, 1) := by decide +kernel
theorem dX7_step_30 : decode cX7_step 30 = .ok (.getfield 25, 3) := by decide +kernel
theorem dX7_step_33 : decode cX7_step 33 = .ok (.baload, 1) := by decide +kernel
theorem dX7_step_34 : decode cX7_step 34 = .ok (.bipush 10, 2) := by decide +kernel
theorem dX7_step_36 : decode cX7_step 36 = .ok (.if_icmp .ne 16, 3) := by decide +kernel
theorem dX7_step_39 : decode cX7_step 39 = .ok (.aload_n 0, 1) := by decide +kernel
theorem dX7_step_40 : decode cX7_step 40 = .ok (.dup, 1) := by decide +kernel
theorem dX7_step_41 : decode cX7_step 41 = .ok (.getfield 25, 3) := by decide +kernel
theorem dX7_step_44 : decode cX7_step 44 = .ok (.iconst 1, 1) := by decide +kernel
theorem dX7_step_45 : decode cX7_step 45 = .ok (.iadd, 1) := by decide +kernel
theorem dX7_step_46 : decode cX7_step 46 = .ok (.putfield 25, 3) := by decide +kernel
theorem dX7_step_49 : decode cX7_step 49 = .ok (.goto (-49), 3) := by decide +kernel
theorem dX7_step_52 : decode cX7_step 52 = .ok (.aload_n 0, 1) := by decide +kernel
theorem dX7_step_53 : decode cX7_step 53 = .ok (.aload_n 0, 1) := by decide +kernel
theorem dX7_step_54 : decode cX7_step 54 = .ok (.getfield 25, 3) := by decide +kernel
theorem dX7_step_57 : decode cX7_step 57 = .ok (.putfield 170, 3) := by decide +kernel
theorem dX7_step_60 : decode cX7_step 60 = .ok (.aload_n 0, 1) := by decide +kernel
theorem dX7_step_61 : decode cX7_step 61 = .ok (.iconst 0, 1) := by decide +kernel
theorem dX7_step_62 : decode cX7_step 62 = .ok (.putfield 116, 3) := by decide +kernel
theorem dX7_step_65 : decode cX7_step 65 = .ok (.aload_n 0, 1) := by decide +kernel
theorem dX7_step_66 : decode cX7_step 66 = .ok (.getfield 25, 3) := by decide +kernel
theorem dX7_step_69 : decode cX7_step 69 = .ok (.aload_n 0, 1) := by decide +kernel
theorem dX7_step_70 : decode cX7_step 70 = .ok (.getfield 19, 3) := by decide +kernel
theorem dX7_step_73 : decode cX7_step 73 = .ok (.if_icmp .lt 11, 3) := by decide +kernel
theorem dX7_step_76 : decode cX7_step 76 = .ok (.aload_n 0, 1) := by decide +kernel
theorem dX7_step_77 : decode cX7_step 77 = .ok (.iconst 0, 1) := by decide +kernel
theorem dX7_step_78 : decode cX7_step 78 = .ok (.putfield 36, 3) := by decide +kernel
theorem dX7_step_81 : decode cX7_step 81 = .ok (.goto 183, 3) := by decide +kernel
theorem dX7_step_84 : decode cX7_step 84 = .ok (.aload_n 0, 1) := by decide +kernel
theorem dX7_step_85 : decode cX7_step 85 = .ok (.getfield 9, 3) := by decide +kernel
theorem dX7_step_88 : decode cX7_step 88 = .ok (.aload_n 0, 1) := by decide +kernel
theorem dX7_step_89 : decode cX7_step 89 = .ok (.getfield 25, 3) := by decide +kernel
theorem dX7_step_92 : decode cX7_step 92 = .ok (.baload, 1) := by decide +kernel
theorem dX7_step_93 : decode cX7_step 93 = .ok (.invokestatic 181, 3) := by decide +kernel
theorem dX7_step_96 : decode cX7_step 96 = .ok (.ifCond .eq 47, 3) := by decide +kernel
theorem dX7_step_99 : decode cX7_step 99 = .ok (.aload_n 0, 1) := by decide +kernel
theorem dX7_step_100 : decode cX7_step 100 = .ok (.iconst 1, 1) := by decide +kernel
theorem dX7_step_101 : decode cX7_step 101 = .ok (.putfield 36, 3) := by decide +kernel
theorem dX7_step_104 : decode cX7_step 104 = .ok (.aload_n 0, 1) := by decide +kernel
theorem dX7_step_105 : decode cX7_step 105 = .ok (.getfield 25, 3) := by decide +kernel
theorem dX7_step_108 : decode cX7_step 108 = .ok (.aload_n 0, 1) := by decide +kernel
theorem dX7_step_109 : decode cX7_step 109 = .ok (.getfield 19, 3) := by decide +kernel
theorem dX7_step_112 : decode cX7_step 112 = .ok (.if_icmp .ge 152, 3) := by decide +kernel
theorem dX7_step_115 : decode cX7_step 115 = .ok (.aload_n 0, 1) := by decide +kernel
theorem dX7_step_116 : decode cX7_step 116 = .ok (.getfield 9, 3) := by decide +kernel
theorem dX7_step_119 : decode cX7_step 119 = .ok (.aload_n 0, 1) := by decide +kernel
theorem dX7_step_120 : decode cX7_step 120 = .ok (.getfield 25, 3) := by decide +kernel
theorem dX7_step_123 : decode cX7_step 123 = .ok (.baload, 1) := by decide +kernel
theorem dX7_step_124 : decode cX7_step 124 = .ok (.invokestatic 181, 3) := by decide +kernel
theorem dX7_step_127 : decode cX7_step 127 = .ok (.ifCond .eq 137, 3) := by decide +kernel
theorem dX7_step_130 : decode cX7_step 130 = .ok (.aload_n 0, 1) := by decide +kernel
theorem dX7_step_131 : decode cX7_step 131 = .ok (.dup, 1) := by decide +kernel
theorem dX7_step_132 : decode cX7_step 132 = .ok (.getfield 25, 3) := by decide +kernel
theorem dX7_step_135 : decode cX7_step 135 = .ok (.iconst 1, 1) := by decide +kernel
theorem dX7_step_136 : decode cX7_step 136 = .ok (.iadd, 1) := by decide +kernel
theorem dX7_step_137 : decode cX7_step 137 = .ok (.putfield 25, 3) := by decide +kernel
theorem dX7_step_140 : decode cX7_step 140 = .ok (.goto (-36), 3) := by decide +kernel
theorem dX7_step_143 : decode cX7_step 143 = .ok (.aload_n 0, 1) := by decide +kernel
theorem dX7_step_144 : decode cX7_step 144 = .ok (.getfield 9, 3) := by decide +kernel
theorem dX7_step_147 : decode cX7_step 147 = .ok (.aload_n 0, 1) := by decide +kernel
theorem dX7_step_148 : decode cX7_step 148 = .ok (.getfield 25, 3) := by decide +kernel
theorem dX7_step_151 : decode cX7_step 151 = .ok (.baload, 1) := by decide +kernel
theorem dX7_step_152 : decode cX7_step 152 = .ok (.invokestatic 185, 3) := by decide +kernel
theorem dX7_step_155 : decode cX7_step 155 = .ok (.ifCond .eq 76, 3) := by decide +kernel
theorem dX7_step_158 : decode cX7_step 158 = .ok (.aload_n 0, 1) := by decide +kernel
theorem dX7_step_159 : decode cX7_step 159 = .ok (.iconst 2, 1) := by decide +kernel
theorem dX7_step_160 : decode cX7_step 160 = .ok (.putfield 36, 3) := by decide +kernel
theorem dX7_step_163 : decode cX7_step 163 = .ok (.aload_n 0, 1) := by decide +kernel
theorem dX7_step_164 : decode cX7_step 164 = .ok (.getfield 25, 3) := by decide +kernel
theorem dX7_step_167 : decode cX7_step 167 = .ok (.aload_n 0, 1) := by decide +kernel
theorem dX7_step_168 : decode cX7_step 168 = .ok (.getfield 19, 3) := by decide +kernel
theorem dX7_step_171 : decode cX7_step 171 = .ok (.if_icmp .ge 93, 3) := by decide +kernel
theorem dX7_step_174 : decode cX7_step 174 = .ok (.aload_n 0, 1) := by decide +kernel
theorem dX7_step_175 : decode cX7_step 175 = .ok (.getfield 9, 3) := by decide +kernel
theorem dX7_step_178 : decode cX7_step 178 = .ok (.aload_n 0, 1) := by decide +kernel
theorem dX7_step_179 : decode cX7_step 179 = .ok (.getfield 25, 3) := by decide +kernel
theorem dX7_step_182 : decode cX7_step 182 = .ok (.baload, 1) := by decide +kernel
theorem dX7_step_183 : decode cX7_step 183 = .ok (.invokestatic 185, 3) := by decide +kernel
theorem dX7_step_186 : decode cX7_step 186 = .ok (.ifCond .eq 78, 3) := by decide +kernel
theorem dX7_step_189 : decode cX7_step 189 = .ok (.aload_n 0, 1) := by decide +kernel
theorem dX7_step_190 : decode cX7_step 190 = .ok (.ldc 188, 2) := by decide +kernel
theorem dX7_step_192 : decode cX7_step 192 = .ok (.bipush 10, 2) := by decide +kernel
theorem dX7_step_194 : decode cX7_step 194 = .ok (.aload_n 0, 1) := by decide +kernel
theorem dX7_step_195 : decode cX7_step 195 = .ok (.getfield 116, 3) := by decide +kernel
theorem dX7_step_198 : decode cX7_step 198 = .ok (.imul, 1) := by decide +kernel
theorem dX7_step_199 : decode cX7_step 199 = .ok (.aload_n 0, 1) := by decide +kernel
theorem dX7_step_200 : decode cX7_step 200 = .ok (.getfield 9, 3) := by decide +kernel
theorem dX7_step_203 : decode cX7_step 203 = .ok (.aload_n 0, 1) := by decide +kernel
theorem dX7_step_204 : decode cX7_step 204 = .ok (.getfield 25, 3) := by decide +kernel
theorem dX7_step_207 : decode cX7_step 207 = .ok (.baload, 1) := by decide +kernel
theorem dX7_step_208 : decode cX7_step 208 = .ok (.iadd, 1) := by decide +kernel
theorem dX7_step_209 : decode cX7_step 209 = .ok (.bipush 48, 2) := by decide +kernel
theorem dX7_step_211 : decode cX7_step 211 = .ok (.isub, 1) := by decide +kernel
theorem dX7_step_212 : decode cX7_step 212 = .ok (.invokestatic 189, 3) := by decide +kernel
theorem dX7_step_215 : decode cX7_step 215 = .ok (.putfield 116, 3) := by decide +kernel
theorem dX7_step_218 : decode cX7_step 218 = .ok (.aload_n 0, 1) := by decide +kernel
theorem dX7_step_219 : decode cX7_step 219 = .ok (.dup, 1) := by decide +kernel
theorem dX7_step_220 : decode cX7_step 220 = .ok (.getfield 25, 3) := by decide +kernel
theorem dX7_step_223 : decode cX7_step 223 = .ok (.iconst 1, 1) := by decide +kernel
theorem dX7_step_224 : decode cX7_step 224 = .ok (.iadd, 1) := by decide +kernel
theorem dX7_step_225 : decode cX7_step 225 = .ok (.putfield 25, 3) := by decide +kernel
theorem dX7_step_228 : decode cX7_step 228 = .ok (.goto (-65), 3) := by decide +kernel
theorem dX7_step_231 : decode cX7_step 231 = .ok (.aload_n 0, 1) := by decide +kernel
theorem dX7_step_232 : decode cX7_step 232 = .ok (.aload_n 0, 1) := by decide +kernel
theorem dX7_step_233 : decode cX7_step 233 = .ok (.getfield 9, 3) := by decide +kernel
theorem dX7_step_236 : decode cX7_step 236 = .ok (.aload_n 0, 1) := by decide +kernel
theorem dX7_step_237 : decode cX7_step 237 = .ok (.getfield 25, 3) := by decide +kernel
theorem dX7_step_240 : decode cX7_step 240 = .ok (.baload, 1) := by decide +kernel
theorem dX7_step_241 : decode cX7_step 241 = .ok (.bipush 59, 2) := by decide +kernel
theorem dX7_step_243 : decode cX7_step 243 = .ok (.if_icmp .ne 7, 3) := by decide +kernel
theorem dX7_step_246 : decode cX7_step 246 = .ok (.iconst 3, 1) := by decide +kernel
theorem dX7_step_247 : decode cX7_step 247 = .ok (.goto 4, 3) := by decide +kernel
theorem dX7_step_250 : decode cX7_step 250 = .ok (.iconst 4, 1) := by decide +kernel
theorem dX7_step_251 : decode cX7_step 251 = .ok (.putfield 36, 3) := by decide +kernel
theorem dX7_step_254 : decode cX7_step 254 = .ok (.aload_n 0, 1) := by decide +kernel
theorem dX7_step_255 : decode cX7_step 255 = .ok (.dup, 1) := by decide +kernel
theorem dX7_step_256 : decode cX7_step 256 = .ok (.getfield 25, 3) := by decide +kernel
theorem dX7_step_259 : decode cX7_step 259 = .ok (.iconst 1, 1) := by decide +kernel
theorem dX7_step_260 : decode cX7_step 260 = .ok (.iadd, 1) := by decide +kernel
theorem dX7_step_261 : decode cX7_step 261 = .ok (.putfield 25, 3) := by decide +kernel
theorem dX7_step_264 : decode cX7_step 264 = .ok (.return_, 1) := by decide +kernel
theorem dX7_isLetter_0 : decode cX7_isLetter 0 = .ok (.iload_n 0, 1) := by decide +kernel
theorem dX7_isLetter_1 : decode cX7_isLetter 1 = .ok (.bipush 97, 2) := by decide +kernel
theorem dX7_isLetter_3 : decode cX7_isLetter 3 = .ok (.if_icmp .lt 13, 3) := by decide +kernel
theorem dX7_isLetter_6 : decode cX7_isLetter 6 = .ok (.iload_n 0, 1) := by decide +kernel
theorem dX7_isLetter_7 : decode cX7_isLetter 7 = .ok (.bipush 122, 2) := by decide +kernel
theorem dX7_isLetter_9 : decode cX7_isLetter 9 = .ok (.if_icmp .gt 7, 3) := by decide +kernel
theorem dX7_isLetter_12 : decode cX7_isLetter 12 = .ok (.iconst 1, 1) := by decide +kernel
theorem dX7_isLetter_13 : decode cX7_isLetter 13 = .ok (.goto 4, 3) := by decide +kernel
theorem dX7_isLetter_16 : decode cX7_isLetter 16 = .ok (.iconst 0, 1) := by decide +kernel
theorem dX7_isLetter_17 : decode cX7_isLetter 17 = .ok (.ireturn, 1) := by decide +kernel
theorem dX7_isDigit_0 : decode cX7_isDigit 0 = .ok (.iload_n 0, 1) := by decide +kernel
theorem dX7_isDigit_1 : decode cX7_isDigit 1 = .ok (.bipush 48, 2) := by decide +kernel
theorem dX7_isDigit_3 : decode cX7_isDigit 3 = .ok (.if_icmp .lt 13, 3) := by decide +kernel
theorem dX7_isDigit_6 : decode cX7_isDigit 6 = .ok (.iload_n 0, 1) := by decide +kernel
theorem dX7_isDigit_7 : decode cX7_isDigit 7 = .ok (.bipush 57, 2) := by decide +kernel
theorem dX7_isDigit_9 : decode cX7_isDigit 9 = .ok (.if_icmp .gt 7, 3) := by decide +kernel
theorem dX7_isDigit_12 : decode cX7_isDigit 12 = .ok (.iconst 1, 1) := by decide +kernel
theorem dX7_isDigit_13 : decode cX7_isDigit 13 = .ok (.goto 4, 3) := by decide +kernel
theorem dX7_isDigit_16 : decode cX7_isDigit 16 = .ok (.iconst 0, 1) := by decide +kernel
theorem dX7_isDigit_17 : decode cX7_isDigit 17 = .ok (.ireturn, 1) := by decide +kernel
set_option maxRecDepth 20000 in
theorem ggX8_feed_X7_addFour : GoodIn wsX8_feed wsX7_addFour := goodIn_r _ [7, 8, 9, 20, 21, 22, 23, 24, 25, 26, 27] (by decide +kernel) (by decide +kernel)
set_option maxRecDepth 20000 in
theorem gX8_feed_X7_addFour : GoodIn wsX8_feed (wsV RX8 74 RX7 yX7_addFour wsX7_addFour) := goodIn_app (goodIn_of _ (by decide +kernel)) ggX8_feed_X7_addFour
theorem dX8_feed_0 : decode cX8_feed 0 = .ok (.aload_n 0, 1) := by decide +kernel
theorem dX8_feed_1 : decode cX8_feed 1 = .ok (.getfield 10, 3) := by decide +kernel
theorem dX8_feed_4 : decode cX8_feed 4 = .ok (.getfield 70, 3) := by decide +kernel
theorem dX8_feed_7 : decode cX8_feed 7 = .ok (.bipush 20, 2) := by decide +kernel
theorem dX8_feed_9 : decode cX8_feed 9 = .ok (.iadd, 1) := by decide +kernel
theorem dX8_feed_10 : decode cX8_feed 10 = .ok (.sipush 600, 3) := by decide +kernel
theorem dX8_feed_13 : decode cX8_feed 13 = .ok (.if_icmp .le 5, 3) := by decide +kernel
theorem dX8_feed_16 : decode cX8_feed 16 = .ok (.iconst (-1), 1) := by decide +kernel
theorem dX8_feed_17 : decode cX8_feed 17 = .ok (.ireturn, 1) := by decide +kernel
theorem dX8_feed_18 : decode cX8_feed 18 = .ok (.aload_n 0, 1) := by decide +kernel
theorem dX8_feed_19 : decode cX8_feed 19 = .ok (.getfield 10, 3) := by decide +kernel
theorem dX8_feed_22 : decode cX8_feed 22 = .ok (.iload_n 1, 1) := by decide +kernel
theorem dX8_feed_23 : decode cX8_feed 23 = .ok (.invokevirtual 74, 3) := by decide +kernel
theorem dX8_feed_26 : decode cX8_feed 26 = .ok (.aload_n 0, 1) := by decide +kernel
theorem dX8_feed_27 : decode cX8_feed 27 = .ok (.getfield 10, 3) := by decide +kernel
theorem dX8_feed_30 : decode cX8_feed 30 = .ok (.iload_n 2, 1) := by decide +kernel
theorem dX8_feed_31 : decode cX8_feed 31 = .ok (.invokevirtual 74, 3) := by decide +kernel
theorem dX8_feed_34 : decode cX8_feed 34 = .ok (.aload_n 0, 1) := by decide +kernel
theorem dX8_feed_35 : decode cX8_feed 35 = .ok (.getfield 10, 3) := by decide +kernel
theorem dX8_feed_38 : decode cX8_feed 38 = .ok (.iload_n 3, 1) := by decide +kernel
theorem dX8_feed_39 : decode cX8_feed 39 = .ok (.invokevirtual 74, 3) := by decide +kernel
theorem dX8_feed_42 : decode cX8_feed 42 = .ok (.aload_n 0, 1) := by decide +kernel
theorem dX8_feed_43 : decode cX8_feed 43 = .ok (.getfield 10, 3) := by decide +kernel
theorem dX8_feed_46 : decode cX8_feed 46 = .ok (.iload 4, 2) := by decide +kernel
theorem dX8_feed_48 : decode cX8_feed 48 = .ok (.invokevirtual 74, 3) := by decide +kernel
theorem dX8_feed_51 : decode cX8_feed 51 = .ok (.aload_n 0, 1) := by decide +kernel
theorem dX8_feed_52 : decode cX8_feed 52 = .ok (.getfield 10, 3) := by decide +kernel
theorem dX8_feed_55 : decode cX8_feed 55 = .ok (.iload 5, 2) := by decide +kernel
theorem dX8_feed_57 : decode cX8_feed 57 = .ok (.invokevirtual 74, 3) := by decide +kernel
theorem dX8_feed_60 : decode cX8_feed 60 = .ok (.aload_n 0, 1) := by decide +kernel
theorem dX8_feed_61 : decode cX8_feed 61 = .ok (.getfield 10, 3) := by decide +kernel
theorem dX8_feed_64 : decode cX8_feed 64 = .ok (.getfield 70, 3) := by decide +kernel
theorem dX8_feed_67 : decode cX8_feed 67 = .ok (.ireturn, 1) := by decide +kernel
theorem dX8_end_0 : decode cX8_end 0 = .ok (.iload_n 1, 1) := by decide +kernel
theorem dX8_end_1 : decode cX8_end 1 = .ok (.ifCond .lt 14, 3) := by decide +kernel
theorem dX8_end_4 : decode cX8_end 4 = .ok (.iload_n 1, 1) := by decide +kernel
theorem dX8_end_5 : decode cX8_end 5 = .ok (.aload_n 0, 1) := by decide +kernel
theorem dX8_end_6 : decode cX8_end 6 = .ok (.getfield 10, 3) := by decide +kernel
theorem dX8_end_9 : decode cX8_end 9 = .ok (.getfield 70, 3) := by decide +kernel
theorem dX8_end_12 : decode cX8_end 12 = .ok (.if_icmp .le 5, 3) := by decide +kernel
theorem dX8_end_15 : decode cX8_end 15 = .ok (.iconst (-1), 1) := by decide +kernel
theorem dX8_end_16 : decode cX8_end 16 = .ok (.ireturn, 1) := by decide +kernel
theorem dX8_end_17 : decode cX8_end 17 = .ok (.aload_n 0, 1) := by decide +kernel
theorem dX8_end_18 : decode cX8_end 18 = .ok (.getfield 10, 3) := by decide +kernel
theorem dX8_end_21 : decode cX8_end 21 = .ok (.iload_n 1, 1) := by decide +kernel
theorem dX8_end_22 : decode cX8_end 22 = .ok (.putfield 70, 3) := by decide +kernel
theorem dX8_end_25 : decode cX8_end 25 = .ok (.iload_n 1, 1) := by decide +kernel
theorem dX8_end_26 : decode cX8_end 26 = .ok (.ireturn, 1) := by decide +kernel
theorem dX8_fault_0 : decode cX8_fault 0 = .ok (.iload_n 1, 1) := by decide +kernel
theorem dX8_fault_1 : decode cX8_fault 1 = .ok (.ifCond .ne 11, 3) := by decide +kernel
theorem dX8_fault_4 : decode cX8_fault 4 = .ok (.aload_n 0, 1) := by decide +kernel
theorem dX8_fault_5 : decode cX8_fault 5 = .ok (.getfield 10, 3) := by decide +kernel
theorem dX8_fault_8 : decode cX8_fault 8 = .ok (.getfield 82, 3) := by decide +kernel
theorem dX8_fault_11 : decode cX8_fault 11 = .ok (.ireturn, 1) := by decide +kernel
theorem dX8_fault_12 : decode cX8_fault 12 = .ok (.iload_n 1, 1) := by decide +kernel
theorem dX8_fault_13 : decode cX8_fault 13 = .ok (.iconst 1, 1) := by decide +kernel
theorem dX8_fault_14 : decode cX8_fault 14 = .ok (.if_icmp .ne 13, 3) := by decide +kernel
theorem dX8_fault_17 : decode cX8_fault 17 = .ok (.aload_n 0, 1) := by decide +kernel
theorem dX8_fault_18 : decode cX8_fault 18 = .ok (.getfield 10, 3) := by decide +kernel
theorem dX8_fault_21 : decode cX8_fault 21 = .ok (.getfield 88, 3) := by decide +kernel
theorem dX8_fault_24 : decode cX8_fault 24 = .ok (.goto 4, 3) := by decide +kernel
theorem dX8_fault_27 : decode cX8_fault 27 = .ok (.iconst (-1), 1) := by decide +kernel
theorem dX8_fault_28 : decode cX8_fault 28 = .ok (.ireturn, 1) := by decide +kernel
set_option maxRecDepth 20000 in
theorem ggX8_forced_X3_hasState : GoodIn wsX8_forced wsX3_hasState := goodIn_r _ [6, 7, 35, 36, 37, 38, 39, 40, 41, 42, 43, 44, 45, 46, 47, 48, 49, 50] (by decide +kernel) (by decide +kernel)
set_option maxRecDepth 20000 in
theorem gX8_forced_X3_hasState : GoodIn wsX8_forced (wsV RX8 91 RX3 yX3_hasState wsX3_hasState) := goodIn_app (goodIn_of _ (by decide +kernel)) ggX8_forced_X3_hasState
set_option maxRecDepth 20000 in
theorem ggX8_forced_X8_isMonth : GoodIn wsX8_forced wsX8_isMonth := goodIn_r _ [11, 12, 13, 10, 14] (by decide +kernel) (by decide +kernel)
set_option maxRecDepth 20000 in
theorem gX8_forced_X8_isMonth : GoodIn wsX8_forced (va_wsS RX8 95 yX8_isMonth wsX8_isMonth) := goodIn_app (goodIn_of _ (by decide +kernel)) ggX8_forced_X8_isMonth
set_option maxRecDepth 20000 in
theorem ggX8_forced_X3_forcedAt : GoodIn wsX8_forced wsX3_forcedAt := goodIn_r _ [18, 19, 20, 21, 22, 5, 23, 24, 35, 36, 37, 38, 39, 40, 41, 42, 43, 44, 45, 46, 47, 48, 49, 50] (by decide +kernel) (by decide +kernel)
set_option maxRecDepth 20000 in
theorem gX8_forced_X3_forcedAt : GoodIn wsX8_forced (wsV RX8 98 RX3 yX3_forcedAt wsX3_forcedAt) := goodIn_app (goodIn_of _ (by decide +kernel)) ggX8_forced_X3_forcedAt
theorem dX8_forced_0 : decode cX8_forced 0 = .ok (.aload_n 0, 1) := by decide +kernel
theorem dX8_forced_1 : decode cX8_forced 1 = .ok (.getfield 19, 3) := by decide +kernel
theorem dX8_forced_4 : decode cX8_forced 4 = .ok (.iload_n 1, 1) := by decide +kernel
theorem dX8_forced_5 : decode cX8_forced 5 = .ok (.invokevirtual 91, 3) := by decide +kernel
theorem dX8_forced_8 : decode cX8_forced 8 = .ok (.ifCond .eq 10, 3) := by decide +kernel
theorem dX8_forced_11 : decode cX8_forced 11 = .ok (.iload_n 2, 1) := by decide +kernel
theorem dX8_forced_12 : decode cX8_forced 12 = .ok (.invokestatic 95, 3) := by decide +kernel
theorem dX8_forced_15 : decode cX8_forced 15 = .ok (.ifCond .ne 6, 3) := by decide +kernel
theorem dX8_forced_18 : decode cX8_forced 18 = .ok (.bipush (-2), 2) := by decide +kernel
theorem dX8_forced_20 : decode cX8_forced 20 = .ok (.ireturn, 1) := by decide +kernel
theorem dX8_forced_21 : decode cX8_forced 21 = .ok (.aload_n 0, 1) := by decide +kernel
theorem dX8_forced_22 : decode cX8_forced 22 = .ok (.getfield 19, 3) := by decide +kernel
theorem dX8_forced_25 : decode cX8_forced 25 = .ok (.iload_n 1, 1) := by decide +kernel
theorem dX8_forced_26 : decode cX8_forced 26 = .ok (.iload_n 2, 1) := by decide +kernel
theorem dX8_forced_27 : decode cX8_forced 27 = .ok (.invokevirtual 98, 3) := by decide +kernel
theorem dX8_forced_30 : decode cX8_forced 30 = .ok (.ireturn, 1) := by decide +kernel
set_option maxRecDepth 20000 in
theorem ggX8_old_X3_hasState : GoodIn wsX8_old wsX3_hasState := goodIn_r _ [6, 7, 30, 31, 32, 33, 34, 35, 36, 37, 38, 39, 40, 41, 42, 43, 44, 45] (by decide +kernel) (by decide +kernel)
set_option maxRecDepth 20000 in
theorem gX8_old_X3_hasState : GoodIn wsX8_old (wsV RX8 91 RX3 yX3_hasState wsX3_hasState) := goodIn_app (goodIn_of _ (by decide +kernel)) ggX8_old_X3_hasState
set_option maxRecDepth 20000 in
theorem ggX8_old_X8_isMonth : GoodIn wsX8_old wsX8_isMonth := goodIn_r _ [11, 12, 13, 10, 14] (by decide +kernel) (by decide +kernel)
set_option maxRecDepth 20000 in
theorem gX8_old_X8_isMonth : GoodIn wsX8_old (va_wsS RX8 95 yX8_isMonth wsX8_isMonth) := goodIn_app (goodIn_of _ (by decide +kernel)) ggX8_old_X8_isMonth
set_option maxRecDepth 20000 in
theorem ggX8_old_X3_oldAt : GoodIn wsX8_old wsX3_oldAt := goodIn_r _ [18, 19, 30, 31, 32, 33, 34, 35, 36, 37, 38, 39, 40, 41, 42, 43, 44, 45] (by decide +kernel) (by decide +kernel)
set_option maxRecDepth 20000 in
theorem gX8_old_X3_oldAt : GoodIn wsX8_old (wsV RX8 102 RX3 yX3_oldAt wsX3_oldAt) := goodIn_app (goodIn_of _ (by decide +kernel)) ggX8_old_X3_oldAt
theorem dX8_old_0 : decode cX8_old 0 = .ok (.aload_n 0, 1) := by decide +kernel
theorem dX8_old_1 : decode cX8_old 1 = .ok (.getfield 19, 3) := by decide +kernel
theorem dX8_old_4 : decode cX8_old 4 = .ok (.iload_n 1, 1) := by decide +kernel
theorem dX8_old_5 : decode cX8_old 5 = .ok (.invokevirtual 91, 3) := by decide +kernel
theorem dX8_old_8 : decode cX8_old 8 = .ok (.ifCond .eq 10, 3) := by decide +kernel
theorem dX8_old_11 : decode cX8_old 11 = .ok (.iload_n 2, 1) := by decide +kernel
theorem dX8_old_12 : decode cX8_old 12 = .ok (.invokestatic 95, 3) := by decide +kernel
theorem dX8_old_15 : decode cX8_old 15 = .ok (.ifCond .ne 6, 3) := by decide +kernel
theorem dX8_old_18 : decode cX8_old 18 = .ok (.bipush (-2), 2) := by decide +kernel
theorem dX8_old_20 : decode cX8_old 20 = .ok (.ireturn, 1) := by decide +kernel
theorem dX8_old_21 : decode cX8_old 21 = .ok (.aload_n 0, 1) := by decide +kernel
theorem dX8_old_22 : decode cX8_old 22 = .ok (.getfield 19, 3) := by decide +kernel
theorem dX8_old_25 : decode cX8_old 25 = .ok (.iload_n 1, 1) := by decide +kernel
theorem dX8_old_26 : decode cX8_old 26 = .ok (.iload_n 2, 1) := by decide +kernel
theorem dX8_old_27 : decode cX8_old 27 = .ok (.invokevirtual 102, 3) := by decide +kernel
theorem dX8_old_30 : decode cX8_old 30 = .ok (.ireturn, 1) := by decide +kernel
set_option maxRecDepth 20000 in
theorem ggX8_wage_X8_within : GoodIn wsX8_wage wsX8_within := goodIn_r _ [5] (by decide +kernel) (by decide +kernel)
set_option maxRecDepth 20000 in
theorem gX8_wage_X8_within : GoodIn wsX8_wage (va_wsS RX8 105 yX8_within wsX8_within) := goodIn_app (goodIn_of _ (by decide +kernel)) ggX8_wage_X8_within
set_option maxRecDepth 20000 in
theorem ggX8_wage_X8_isMonth : GoodIn wsX8_wage wsX8_isMonth := goodIn_r _ [8, 2, 3, 4, 5] (by decide +kernel) (by decide +kernel)
set_option maxRecDepth 20000 in
theorem gX8_wage_X8_isMonth : GoodIn wsX8_wage (va_wsS RX8 95 yX8_isMonth wsX8_isMonth) := goodIn_app (goodIn_of _ (by decide +kernel)) ggX8_wage_X8_isMonth
set_option maxRecDepth 20000 in
theorem ggX8_wage_X3_hasState : GoodIn wsX8_wage wsX3_hasState := goodIn_r _ [13, 14, 61, 62, 63, 64, 65, 66, 67, 68, 69, 70, 71, 72, 73, 74, 75, 76] (by decide +kernel) (by decide +kernel)
set_option maxRecDepth 20000 in
theorem gX8_wage_X3_hasState : GoodIn wsX8_wage (wsV RX8 91 RX3 yX3_hasState wsX3_hasState) := goodIn_app (goodIn_of _ (by decide +kernel)) ggX8_wage_X3_hasState
set_option maxRecDepth 20000 in
theorem ggX8_wage_X3_payFor : GoodIn wsX8_wage wsX3_payFor := goodIn_r _ [18, 19, 20, 21, 22, 23, 24, 12, 25, 26, 27, 28, 29, 30, 31, 32, 33, 34, 35, 36, 37, 38, 39, 40, 41, 4, 42, 43, 44, 45, 46, 47, 48, 49, 50, 61, 62, 63, 64, 65, 66, 67, 68, 69, 70, 71, 72, 73, 74, 75, 76] (by decide +kernel) (by decide +kernel)
set_option maxRecDepth 20000 in
theorem gX8_wage_X3_payFor : GoodIn wsX8_wage (wsV RX8 109 RX3 yX3_payFor wsX3_payFor) := goodIn_app (goodIn_of _ (by decide +kernel)) ggX8_wage_X3_payFor
theorem dX8_wage_0 : decode cX8_wage 0 = .ok (.iload_n 1, 1) := by decide +kernel
theorem dX8_wage_1 : decode cX8_wage 1 = .ok (.iconst 0, 1) := by decide +kernel
theorem dX8_wage_2 : decode cX8_wage 2 = .ok (.sipush 300, 3) := by decide +kernel
theorem dX8_wage_5 : decode cX8_wage 5 = .ok (.invokestatic 105, 3) := by decide +kernel
theorem dX8_wage_8 : decode cX8_wage 8 = .ok (.ifCond .eq 14, 3) := by decide +kernel
theorem dX8_wage_11 : decode cX8_wage 11 = .ok (.iload_n 2, 1) := by decide +kernel
theorem dX8_wage_12 : decode cX8_wage 12 = .ok (.iconst 0, 1) := by decide +kernel
theorem dX8_wage_13 : decode cX8_wage 13 = .ok (.sipush 999, 3) := by decide +kernel
theorem dX8_wage_16 : decode cX8_wage 16 = .ok (.invokestatic 105, 3) := by decide +kernel
theorem dX8_wage_19 : decode cX8_wage 19 = .ok (.ifCond .ne 6, 3) := by decide +kernel
theorem dX8_wage_22 : decode cX8_wage 22 = .ok (.bipush (-2), 2) := by decide +kernel
theorem dX8_wage_24 : decode cX8_wage 24 = .ok (.ireturn, 1) := by decide +kernel
theorem dX8_wage_25 : decode cX8_wage 25 = .ok (.iload_n 3, 1) := by decide +kernel
theorem dX8_wage_26 : decode cX8_wage 26 = .ok (.invokestatic 95, 3) := by decide +kernel
theorem dX8_wage_29 : decode cX8_wage 29 = .ok (.ifCond .eq 15, 3) := by decide +kernel
theorem dX8_wage_32 : decode cX8_wage 32 = .ok (.aload_n 0, 1) := by decide +kernel
theorem dX8_wage_33 : decode cX8_wage 33 = .ok (.getfield 19, 3) := by decide +kernel
theorem dX8_wage_36 : decode cX8_wage 36 = .ok (.iload 4, 2) := by decide +kernel
theorem dX8_wage_38 : decode cX8_wage 38 = .ok (.invokevirtual 91, 3) := by decide +kernel
theorem dX8_wage_41 : decode cX8_wage 41 = .ok (.ifCond .ne 6, 3) := by decide +kernel
theorem dX8_wage_44 : decode cX8_wage 44 = .ok (.bipush (-2), 2) := by decide +kernel
theorem dX8_wage_46 : decode cX8_wage 46 = .ok (.ireturn, 1) := by decide +kernel
theorem dX8_wage_47 : decode cX8_wage 47 = .ok (.aload_n 0, 1) := by decide +kernel
theorem dX8_wage_48 : decode cX8_wage 48 = .ok (.getfield 19, 3) := by decide +kernel
theorem dX8_wage_51 : decode cX8_wage 51 = .ok (.iload_n 1, 1) := by decide +kernel
theorem dX8_wage_52 : decode cX8_wage 52 = .ok (.iload_n 2, 1) := by decide +kernel
theorem dX8_wage_53 : decode cX8_wage 53 = .ok (.iload_n 3, 1) := by decide +kernel
theorem dX8_wage_54 : decode cX8_wage 54 = .ok (.iload 4, 2) := by decide +kernel
theorem dX8_wage_56 : decode cX8_wage 56 = .ok (.invokevirtual 109, 3) := by decide +kernel
theorem dX8_wage_59 : decode cX8_wage 59 = .ok (.ireturn, 1) := by decide +kernel
set_option maxRecDepth 20000 in
theorem ggX8_draw_X8_isSeed : GoodIn wsX8_draw wsX8_isSeed := goodIn_r _ [6, 7, 8, 9, 5, 10] (by decide +kernel) (by decide +kernel)
set_option maxRecDepth 20000 in
theorem gX8_draw_X8_isSeed : GoodIn wsX8_draw (va_wsS RX8 113 yX8_isSeed wsX8_isSeed) := goodIn_app (goodIn_of _ (by decide +kernel)) ggX8_draw_X8_isSeed
set_option maxRecDepth 20000 in
theorem ggX8_draw_X8_within : GoodIn wsX8_draw wsX8_within := goodIn_r _ [10] (by decide +kernel) (by decide +kernel)
set_option maxRecDepth 20000 in
theorem gX8_draw_X8_within : GoodIn wsX8_draw (va_wsS RX8 105 yX8_within wsX8_within) := goodIn_app (goodIn_of _ (by decide +kernel)) ggX8_draw_X8_within
set_option maxRecDepth 20000 in
theorem ggX8_draw_X3_canBeDrawnFrom : GoodIn wsX8_draw wsX3_canBeDrawnFrom := goodIn_r _ [15, 16, 17, 130, 131, 132, 133, 134, 135, 136, 137, 138, 139, 140, 141, 142, 143, 144, 145] (by decide +kernel) (by decide +kernel)
set_option maxRecDepth 20000 in
theorem gX8_draw_X3_canBeDrawnFrom : GoodIn wsX8_draw (wsV RX8 116 RX3 yX3_canBeDrawnFrom wsX3_canBeDrawnFrom) := goodIn_app (goodIn_of _ (by decide +kernel)) ggX8_draw_X3_canBeDrawnFrom
set_option maxRecDepth 20000 in
theorem ggX8_draw_X8_drawInto : GoodIn wsX8_draw wsX8_drawInto := goodIn_r _ [21, 22, 23, 24, 25, 26, 27, 28, 29, 30, 31, 32, 5, 33, 1, 34, 35, 36, 37, 38, 39, 40, 41, 42, 43, 44, 45, 46, 47, 48, 49, 50, 51, 52, 53, 54, 55, 56, 57, 14, 58, 17, 59, 60, 61, 62, 63, 64, 65, 66, 67, 68, 69, 70, 8, 9, 10, 71, 72, 73, 74, 75, 76, 77, 78, 79, 80, 81, 82, 83, 84, 85, 86, 87, 88, 89, 90, 91, 92, 93, 94, 95, 96, 97, 98, 99, 100, 101, 102, 103, 104, 105, 106, 107, 108, 109, 110, 111, 112, 113, 114, 115, 116, 117, 118, 119, 120, 121, 122, 123, 124, 125, 126, 127, 128, 129, 146, 147, 148, 149, 150, 151, 152, 153, 130, 131, 132, 133, 134, 135, 136, 137, 138, 139, 140, 141, 142, 143, 144, 145] (by decide +kernel) (by decide +kernel)
set_option maxRecDepth 20000 in
theorem gX8_draw_X8_drawInto : GoodIn wsX8_draw (wsV RX8 120 RX8 yX8_drawInto wsX8_drawInto) := goodIn_app (goodIn_of _ (by decide +kernel)) ggX8_draw_X8_drawInto
theorem dX8_draw_0 : decode cX8_draw 0 = .ok (.iload_n 1, 1) := by decide +kernel
theorem dX8_draw_1 : decode cX8_draw 1 = .ok (.invokestatic 113, 3) := by decide +kernel
theorem dX8_draw_4 : decode cX8_draw 4 = .ok (.ifCond .eq 14, 3) := by decide +kernel
theorem dX8_draw_7 : decode cX8_draw 7 = .ok (.iload_n 2, 1) := by decide +kernel
theorem dX8_draw_8 : decode cX8_draw 8 = .ok (.iconst 1, 1) := by decide +kernel
theorem dX8_draw_9 : decode cX8_draw 9 = .ok (.sipush 200, 3) := by decide +kernel
theorem dX8_draw_12 : decode cX8_draw 12 = .ok (.invokestatic 105, 3) := by decide +kernel
theorem dX8_draw_15 : decode cX8_draw 15 = .ok (.ifCond .ne 6, 3) := by decide +kernel
theorem dX8_draw_18 : decode cX8_draw 18 = .ok (.bipush (-2), 2) := by decide +kernel
theorem dX8_draw_20 : decode cX8_draw 20 = .ok (.ireturn, 1) := by decide +kernel
theorem dX8_draw_21 : decode cX8_draw 21 = .ok (.aload_n 0, 1) := by decide +kernel
theorem dX8_draw_22 : decode cX8_draw 22 = .ok (.getfield 19, 3) := by decide +kernel
theorem dX8_draw_25 : decode cX8_draw 25 = .ok (.invokevirtual 116, 3) := by decide +kernel
theorem dX8_draw_28 : decode cX8_draw 28 = .ok (.ifCond .ne 6, 3) := by decide +kernel
theorem dX8_draw_31 : decode cX8_draw 31 = .ok (.bipush (-6), 2) := by decide +kernel
theorem dX8_draw_33 : decode cX8_draw 33 = .ok (.ireturn, 1) := by decide +kernel
theorem dX8_draw_34 : decode cX8_draw 34 = .ok (.aload_n 0, 1) := by decide +kernel
theorem dX8_draw_35 : decode cX8_draw 35 = .ok (.aload_n 0, 1) := by decide +kernel
theorem dX8_draw_36 : decode cX8_draw 36 = .ok (.getfield 29, 3) := by decide +kernel
theorem dX8_draw_39 : decode cX8_draw 39 = .ok (.iload_n 1, 1) := by decide +kernel
theorem dX8_draw_40 : decode cX8_draw 40 = .ok (.iload_n 2, 1) := by decide +kernel
theorem dX8_draw_41 : decode cX8_draw 41 = .ok (.invokevirtual 120, 3) := by decide +kernel
theorem dX8_draw_44 : decode cX8_draw 44 = .ok (.iload_n 2, 1) := by decide +kernel
theorem dX8_draw_45 : decode cX8_draw 45 = .ok (.ireturn, 1) := by decide +kernel
set_option maxRecDepth 20000 in
theorem ggX8_drawInto_X0_from : GoodIn wsX8_drawInto wsX0_from := goodIn_r _ [7, 8, 123] (by decide +kernel) (by decide +kernel)
set_option maxRecDepth 20000 in
theorem gX8_drawInto_X0_from : GoodIn wsX8_drawInto (wsV RX8 124 RX0 yX0_from wsX0_from) := goodIn_app (goodIn_of _ (by decide +kernel)) ggX8_drawInto_X0_from
set_option maxRecDepth 20000 in
theorem ggX8_drawInto_X8_drawOne : GoodIn wsX8_drawInto wsX8_drawOne := goodIn_r _ [13, 1, 14, 15, 16, 17, 18, 19, 20, 21, 22, 23, 24, 25, 26, 27, 28, 29, 30, 6, 31, 32, 8, 33, 34, 35, 36, 37, 38, 39, 40, 41, 42, 43, 44, 45, 46, 47, 48, 49, 50, 51, 52, 12, 53, 54, 55, 56, 57, 58, 59, 60, 61, 62, 63, 64, 65, 66, 67, 68, 69, 70, 71, 72, 73, 74, 75, 76, 77, 78, 79, 80, 81, 82, 83, 84, 85, 86, 87, 88, 89, 90, 91, 92, 93, 94, 95, 96, 97, 98, 99, 100, 101, 102, 103, 104, 105, 106, 107, 108, 109, 110, 111, 112, 113, 114, 115, 124, 125, 126, 127, 128, 129, 130, 131, 132, 133, 134, 135, 136, 137, 138, 139, 123, 116, 117, 118, 119, 120, 121, 122] (by decide +kernel) (by decide +kernel)
set_option maxRecDepth 20000 in
theorem gX8_drawInto_X8_drawOne : GoodIn wsX8_drawInto (wsV RX8 130 RX8 yX8_drawOne wsX8_drawOne) := goodIn_app (goodIn_of _ (by decide +kernel)) ggX8_drawInto_X8_drawOne
theorem dX8_drawInto_0 : decode cX8_drawInto 0 = .ok (.aload_n 0, 1) := by decide +kernel
theorem dX8_drawInto_1 : decode cX8_drawInto 1 = .ok (.getfield 39, 3) := by decide +kernel
theorem dX8_drawInto_4 : decode cX8_drawInto 4 = .ok (.iload_n 2, 1) := by decide +kernel
theorem dX8_drawInto_5 : decode cX8_drawInto 5 = .ok (.invokevirtual 124, 3) := by decide +kernel
theorem dX8_drawInto_8 : decode cX8_drawInto 8 = .ok (.aload_n 1, 1) := by decide +kernel
theorem dX8_drawInto_9 : decode cX8_drawInto 9 = .ok (.iconst 0, 1) := by decide +kernel
theorem dX8_drawInto_10 : decode cX8_drawInto 10 = .ok (.putfield 127, 3) := by decide +kernel
theorem dX8_drawInto_13 : decode cX8_drawInto 13 = .ok (.iconst 0, 1) := by decide +kernel
theorem dX8_drawInto_14 : decode cX8_drawInto 14 = .ok (.istore 4, 2) := by decide +kernel
theorem dX8_drawInto_16 : decode cX8_drawInto 16 = .ok (.iload 4, 2) := by decide +kernel
theorem dX8_drawInto_18 : decode cX8_drawInto 18 = .ok (.iload_n 3, 1) := by decide +kernel
theorem dX8_drawInto_19 : decode cX8_drawInto 19 = .ok (.if_icmp .ge 14, 3) := by decide +kernel
theorem dX8_drawInto_22 : decode cX8_drawInto 22 = .ok (.aload_n 0, 1) := by decide +kernel
theorem dX8_drawInto_23 : decode cX8_drawInto 23 = .ok (.aload_n 1, 1) := by decide +kernel
theorem dX8_drawInto_24 : decode cX8_drawInto 24 = .ok (.invokevirtual 130, 3) := by decide +kernel
theorem dX8_drawInto_27 : decode cX8_drawInto 27 = .ok (.iinc 4 1, 3) := by decide +kernel
theorem dX8_drawInto_30 : decode cX8_drawInto 30 = .ok (.goto (-14), 3) := by decide +kernel
theorem dX8_drawInto_33 : decode cX8_drawInto 33 = .ok (.return_, 1) := by decide +kernel
set_option maxRecDepth 20000 in
theorem ggX8_drawOne_X0_of : GoodIn wsX8_drawOne wsX0_of := goodIn_r _ [20, 21, 22, 23, 24, 25, 123] (by decide +kernel) (by decide +kernel)
set_option maxRecDepth 20000 in
theorem gX8_drawOne_X0_of : GoodIn wsX8_drawOne (wsV RX8 137 RX0 yX0_of wsX0_of) := goodIn_app (goodIn_of _ (by decide +kernel)) ggX8_drawOne_X0_of
set_option maxRecDepth 20000 in
theorem ggX8_drawOne_X3_sortAt : GoodIn wsX8_drawOne wsX3_sortAt := goodIn_r _ [30, 31, 32, 107, 108, 109, 110, 111, 112, 113, 114, 115, 116, 117, 118, 119, 120, 121, 122] (by decide +kernel) (by decide +kernel)
set_option maxRecDepth 20000 in
theorem gX8_drawOne_X3_sortAt : GoodIn wsX8_drawOne (wsV RX8 144 RX3 yX3_sortAt wsX3_sortAt) := goodIn_app (goodIn_of _ (by decide +kernel)) ggX8_drawOne_X3_sortAt
set_option maxRecDepth 20000 in
theorem ggX8_drawOne_X3_leakOf : GoodIn wsX8_drawOne wsX3_leakOf := goodIn_r _ [36, 37, 38, 39, 40, 29, 41, 42, 43, 44, 45, 46, 47, 107, 108, 109, 110, 111, 112, 113, 114, 115, 116, 117, 118, 119, 120, 121, 122] (by decide +kernel) (by decide +kernel)
set_option maxRecDepth 20000 in
theorem gX8_drawOne_X3_leakOf : GoodIn wsX8_drawOne (wsV RX8 160 RX3 yX3_leakOf wsX3_leakOf) := goodIn_app (goodIn_of _ (by decide +kernel)) ggX8_drawOne_X3_leakOf
set_option maxRecDepth 20000 in
theorem ggX8_drawOne_X3_forcedAt : GoodIn wsX8_drawOne wsX3_forcedAt := goodIn_r _ [51, 52, 53, 54, 55, 29, 56, 57, 107, 108, 109, 110, 111, 112, 113, 114, 115, 116, 117, 118, 119, 120, 121, 122] (by decide +kernel) (by decide +kernel)
set_option maxRecDepth 20000 in
theorem gX8_drawOne_X3_forcedAt : GoodIn wsX8_drawOne (wsV RX8 98 RX3 yX3_forcedAt wsX3_forcedAt) := goodIn_app (goodIn_of _ (by decide +kernel)) ggX8_drawOne_X3_forcedAt
set_option maxRecDepth 20000 in
theorem ggX8_drawOne_X3_payFor : GoodIn wsX8_drawOne wsX3_payFor := goodIn_r _ [61, 62, 63, 64, 65, 66, 67, 29, 68, 53, 54, 55, 56, 57, 69, 49, 50, 51, 52, 70, 71, 72, 73, 74, 75, 43, 76, 77, 78, 79, 11, 80, 81, 82, 83, 107, 108, 109, 110, 111, 112, 113, 114, 115, 116, 117, 118, 119, 120, 121, 122] (by decide +kernel) (by decide +kernel)
set_option maxRecDepth 20000 in
theorem gX8_drawOne_X3_payFor : GoodIn wsX8_drawOne (wsV RX8 109 RX3 yX3_payFor wsX3_payFor) := goodIn_app (goodIn_of _ (by decide +kernel)) ggX8_drawOne_X3_payFor
set_option maxRecDepth 20000 in
theorem ggX8_drawOne_X8_cutToWage : GoodIn wsX8_drawOne wsX8_cutToWage := goodIn_r _ [76, 77, 78, 79, 11, 80, 81, 82, 83] (by decide +kernel) (by decide +kernel)
set_option maxRecDepth 20000 in
theorem gX8_drawOne_X8_cutToWage : GoodIn wsX8_drawOne (va_wsS RX8 171 yX8_cutToWage wsX8_cutToWage) := goodIn_app (goodIn_of _ (by decide +kernel)) ggX8_drawOne_X8_cutToWage
set_option maxRecDepth 20000 in
theorem ggX8_drawOne_X5_add : GoodIn wsX8_drawOne wsX5_add := goodIn_r _ [89, 90, 91, 92, 93, 94, 95, 96, 124, 125, 126, 127, 128, 129, 130] (by decide +kernel) (by decide +kernel)
set_option maxRecDepth 20000 in
theorem gX8_drawOne_X5_add : GoodIn wsX8_drawOne (wsV RX8 175 RX5 yX5_add wsX5_add) := goodIn_app (goodIn_of _ (by decide +kernel)) ggX8_drawOne_X5_add
theorem dX8_drawOne_0 : decode cX8_drawOne 0 = .ok (.aload_n 0, 1) := by decide +kernel
theorem dX8_drawOne_1 : decode cX8_drawOne 1 = .ok (.getfield 39, 3) := by decide +kernel
theorem dX8_drawOne_4 : decode cX8_drawOne 4 = .ok (.aload_n 0, 1) := by decide +kernel
theorem dX8_drawOne_5 : decode cX8_drawOne 5 = .ok (.getfield 19, 3) := by decide +kernel
theorem dX8_drawOne_8 : decode cX8_drawOne 8 = .ok (.getfield 134, 3) := by decide +kernel
theorem dX8_drawOne_11 : decode cX8_drawOne 11 = .ok (.invokevirtual 137, 3) := by decide +kernel
theorem dX8_drawOne_14 : decode cX8_drawOne 14 = .ok (.istore_n 2, 1) := by decide +kernel
theorem dX8_drawOne_15 : decode cX8_drawOne 15 = .ok (.aload_n 0, 1) := by decide +kernel
theorem dX8_drawOne_16 : decode cX8_drawOne 16 = .ok (.getfield 39, 3) := by decide +kernel
theorem dX8_drawOne_19 : decode cX8_drawOne 19 = .ok (.bipush 12, 2) := by decide +kernel
theorem dX8_drawOne_21 : decode cX8_drawOne 21 = .ok (.invokevirtual 137, 3) := by decide +kernel
theorem dX8_drawOne_24 : decode cX8_drawOne 24 = .ok (.iconst 1, 1) := by decide +kernel
theorem dX8_drawOne_25 : decode cX8_drawOne 25 = .ok (.iadd, 1) := by decide +kernel
theorem dX8_drawOne_26 : decode cX8_drawOne 26 = .ok (.istore_n 3, 1) := by decide +kernel
theorem dX8_drawOne_27 : decode cX8_drawOne 27 = .ok (.aload_n 0, 1) := by decide +kernel
theorem dX8_drawOne_28 : decode cX8_drawOne 28 = .ok (.getfield 19, 3) := by decide +kernel
theorem dX8_drawOne_31 : decode cX8_drawOne 31 = .ok (.aload_n 0, 1) := by decide +kernel
theorem dX8_drawOne_32 : decode cX8_drawOne 32 = .ok (.getfield 39, 3) := by decide +kernel
theorem dX8_drawOne_35 : decode cX8_drawOne 35 = .ok (.aload_n 0, 1) := by decide +kernel
theorem dX8_drawOne_36 : decode cX8_drawOne 36 = .ok (.getfield 19, 3) := by decide +kernel
theorem dX8_drawOne_39 : decode cX8_drawOne 39 = .ok (.getfield 141, 3) := by decide +kernel
theorem dX8_drawOne_42 : decode cX8_drawOne 42 = .ok (.invokevirtual 137, 3) := by decide +kernel
theorem dX8_drawOne_45 : decode cX8_drawOne 45 = .ok (.invokevirtual 144, 3) := by decide +kernel
theorem dX8_drawOne_48 : decode cX8_drawOne 48 = .ok (.istore 4, 2) := by decide +kernel
theorem dX8_drawOne_50 : decode cX8_drawOne 50 = .ok (.aload_n 0, 1) := by decide +kernel
theorem dX8_drawOne_51 : decode cX8_drawOne 51 = .ok (.getfield 19, 3) := by decide +kernel
theorem dX8_drawOne_54 : decode cX8_drawOne 54 = .ok (.getfield 147, 3) := by decide +kernel
theorem dX8_drawOne_57 : decode cX8_drawOne 57 = .ok (.iload 4, 2) := by decide +kernel
theorem dX8_drawOne_59 : decode cX8_drawOne 59 = .ok (.iaload, 1) := by decide +kernel
theorem dX8_drawOne_60 : decode cX8_drawOne 60 = .ok (.aload_n 0, 1) := by decide +kernel
theorem dX8_drawOne_61 : decode cX8_drawOne 61 = .ok (.getfield 39, 3) := by decide +kernel
theorem dX8_drawOne_64 : decode cX8_drawOne 64 = .ok (.aload_n 0, 1) := by decide +kernel
theorem dX8_drawOne_65 : decode cX8_drawOne 65 = .ok (.getfield 19, 3) := by decide +kernel
theorem dX8_drawOne_68 : decode cX8_drawOne 68 = .ok (.getfield 151, 3) := by decide +kernel
theorem dX8_drawOne_71 : decode cX8_drawOne 71 = .ok (.iload 4, 2) := by decide +kernel
theorem dX8_drawOne_73 : decode cX8_drawOne 73 = .ok (.iaload, 1) := by decide +kernel
theorem dX8_drawOne_74 : decode cX8_drawOne 74 = .ok (.iconst 1, 1) := by decide +kernel
theorem dX8_drawOne_75 : decode cX8_drawOne 75 = .ok (.iadd, 1) := by decide +kernel
theorem dX8_drawOne_76 : decode cX8_drawOne 76 = .ok (.invokevirtual 137, 3) := by decide +kernel
theorem dX8_drawOne_79 : decode cX8_drawOne 79 = .ok (.iadd, 1) := by decide +kernel
theorem dX8_drawOne_80 : decode cX8_drawOne 80 = .ok (.istore 5, 2) := by decide +kernel
theorem dX8_drawOne_82 : decode cX8_drawOne 82 = .ok (.aload_n 0, 1) := by decide +kernel
theorem dX8_drawOne_83 : decode cX8_drawOne 83 = .ok (.getfield 39, 3) := by decide +kernel
theorem dX8_drawOne_86 : decode cX8_drawOne 86 = .ok (.iconst 2, 1) := by decide +kernel
theorem dX8_drawOne_87 : decode cX8_drawOne 87 = .ok (.aload_n 0, 1) := by decide +kernel
theorem dX8_drawOne_88 : decode cX8_drawOne 88 = .ok (.getfield 19, 3) := by decide +kernel
theorem dX8_drawOne_91 : decode cX8_drawOne 91 = .ok (.getfield 154, 3) := by decide +kernel
theorem dX8_drawOne_94 : decode cX8_drawOne 94 = .ok (.imul, 1) := by decide +kernel
theorem dX8_drawOne_95 : decode cX8_drawOne 95 = .ok (.iconst 1, 1) := by decide +kernel
theorem dX8_drawOne_96 : decode cX8_drawOne 96 = .ok (.iadd, 1) := by decide +kernel
theorem dX8_drawOne_97 : decode cX8_drawOne 97 = .ok (.invokevirtual 137, 3) := by decide +kernel
theorem dX8_drawOne_100 : decode cX8_drawOne 100 = .ok (.aload_n 0, 1) := by decide +kernel
theorem dX8_drawOne_101 : decode cX8_drawOne 101 = .ok (.getfield 19, 3) := by decide +kernel
theorem dX8_drawOne_104 : decode cX8_drawOne 104 = .ok (.getfield 154, 3) := by decide +kernel
theorem dX8_drawOne_107 : decode cX8_drawOne 107 = .ok (.isub, 1) := by decide +kernel
theorem dX8_drawOne_108 : decode cX8_drawOne 108 = .ok (.istore 6, 2) := by decide +kernel
theorem dX8_drawOne_110 : decode cX8_drawOne 110 = .ok (.aload_n 0, 1) := by decide +kernel
theorem dX8_drawOne_111 : decode cX8_drawOne 111 = .ok (.getfield 19, 3) := by decide +kernel
theorem dX8_drawOne_114 : decode cX8_drawOne 114 = .ok (.getfield 157, 3) := by decide +kernel
theorem dX8_drawOne_117 : decode cX8_drawOne 117 = .ok (.iload 4, 2) := by decide +kernel
theorem dX8_drawOne_119 : decode cX8_drawOne 119 = .ok (.iaload, 1) := by decide +kernel
theorem dX8_drawOne_120 : decode cX8_drawOne 120 = .ok (.aload_n 0, 1) := by decide +kernel
theorem dX8_drawOne_121 : decode cX8_drawOne 121 = .ok (.getfield 19, 3) := by decide +kernel
theorem dX8_drawOne_124 : decode cX8_drawOne 124 = .ok (.iload_n 3, 1) := by decide +kernel
theorem dX8_drawOne_125 : decode cX8_drawOne 125 = .ok (.invokevirtual 160, 3) := by decide +kernel
theorem dX8_drawOne_128 : decode cX8_drawOne 128 = .ok (.iadd, 1) := by decide +kernel
theorem dX8_drawOne_129 : decode cX8_drawOne 129 = .ok (.istore 7, 2) := by decide +kernel
theorem dX8_drawOne_131 : decode cX8_drawOne 131 = .ok (.sipush 300, 3) := by decide +kernel
theorem dX8_drawOne_134 : decode cX8_drawOne 134 = .ok (.aload_n 0, 1) := by decide +kernel
theorem dX8_drawOne_135 : decode cX8_drawOne 135 = .ok (.getfield 19, 3) := by decide +kernel
theorem dX8_drawOne_138 : decode cX8_drawOne 138 = .ok (.iload_n 2, 1) := by decide +kernel
theorem dX8_drawOne_139 : decode cX8_drawOne 139 = .ok (.iload_n 3, 1) := by decide +kernel
theorem dX8_drawOne_140 : decode cX8_drawOne 140 = .ok (.invokevirtual 98, 3) := by decide +kernel
theorem dX8_drawOne_143 : decode cX8_drawOne 143 = .ok (.iload 5, 2) := by decide +kernel
theorem dX8_drawOne_145 : decode cX8_drawOne 145 = .ok (.invokestatic 163, 3) := by decide +kernel
theorem dX8_drawOne_148 : decode cX8_drawOne 148 = .ok (.invokestatic 168, 3) := by decide +kernel
theorem dX8_drawOne_151 : decode cX8_drawOne 151 = .ok (.istore 8, 2) := by decide +kernel
theorem dX8_drawOne_153 : decode cX8_drawOne 153 = .ok (.aload_n 0, 1) := by decide +kernel
theorem dX8_drawOne_154 : decode cX8_drawOne 154 = .ok (.getfield 19, 3) := by decide +kernel
theorem dX8_drawOne_157 : decode cX8_drawOne 157 = .ok (.iload 8, 2) := by decide +kernel
theorem dX8_drawOne_159 : decode cX8_drawOne 159 = .ok (.iload 7, 2) := by decide +kernel
theorem dX8_drawOne_161 : decode cX8_drawOne 161 = .ok (.iload_n 3, 1) := by decide +kernel
theorem dX8_drawOne_162 : decode cX8_drawOne 162 = .ok (.iload_n 2, 1) := by decide +kernel
theorem dX8_drawOne_163 : decode cX8_drawOne 163 = .ok (.invokevirtual 109, 3) := by decide +kernel
theorem dX8_drawOne_166 : decode cX8_drawOne 166 = .ok (.i2l, 1) := by decide +kernel
theorem dX8_drawOne_167 : decode cX8_drawOne 167 = .ok (.iload 6, 2) := by decide +kernel
theorem dX8_drawOne_169 : decode cX8_drawOne 169 = .ok (.i2l, 1) := by decide +kernel
theorem dX8_drawOne_170 : decode cX8_drawOne 170 = .ok (.ladd, 1) := by decide +kernel
theorem dX8_drawOne_171 : decode cX8_drawOne 171 = .ok (.invokestatic 171, 3) := by decide +kernel
theorem dX8_drawOne_174 : decode cX8_drawOne 174 = .ok (.istore 9, 2) := by decide +kernel
theorem dX8_drawOne_176 : decode cX8_drawOne 176 = .ok (.aload_n 1, 1) := by decide +kernel
theorem dX8_drawOne_177 : decode cX8_drawOne 177 = .ok (.iload_n 2, 1) := by decide +kernel
theorem dX8_drawOne_178 : decode cX8_drawOne 178 = .ok (.iload_n 3, 1) := by decide +kernel
theorem dX8_drawOne_179 : decode cX8_drawOne 179 = .ok (.iload 8, 2) := by decide +kernel
theorem dX8_drawOne_181 : decode cX8_drawOne 181 = .ok (.iload 9, 2) := by decide +kernel
theorem dX8_drawOne_183 : decode cX8_drawOne 183 = .ok (.iload 7, 2) := by decide +kernel
theorem dX8_drawOne_185 : decode cX8_drawOne 185 = .ok (.iload 5, 2) := by decide +kernel
theorem dX8_drawOne_187 : decode cX8_drawOne 187 = .ok (.invokevirtual 175, 3) := by decide +kernel
theorem dX8_drawOne_190 : decode cX8_drawOne 190 = .ok (.return_, 1) := by decide +kernel
set_option maxRecDepth 20000 in
theorem ggX8_sheet_X8_tellSheet : GoodIn wsX8_sheet wsX8_tellSheet := goodIn_r _ [5, 6, 7, 8, 9, 10, 11, 12, 13, 14, 15, 16, 17, 18, 19, 20, 21, 22, 23, 24, 25, 26, 27, 28, 29, 30, 31, 32, 33, 34, 35, 36, 37, 38, 39, 40, 41, 42, 43, 44, 45, 46, 47, 48, 49, 50, 51, 52, 53, 54, 55, 56, 57] (by decide +kernel) (by decide +kernel)
set_option maxRecDepth 20000 in
theorem gX8_sheet_X8_tellSheet : GoodIn wsX8_sheet (wsV RX8 179 RX8 yX8_tellSheet wsX8_tellSheet) := goodIn_app (goodIn_of _ (by decide +kernel)) ggX8_sheet_X8_tellSheet
theorem dX8_sheet_0 : decode cX8_sheet 0 = .ok (.aload_n 0, 1) := by decide +kernel
theorem dX8_sheet_1 : decode cX8_sheet 1 = .ok (.iload_n 1, 1) := by decide +kernel
theorem dX8_sheet_2 : decode cX8_sheet 2 = .ok (.i2l, 1) := by decide +kernel
theorem dX8_sheet_3 : decode cX8_sheet 3 = .ok (.iload_n 2, 1) := by decide +kernel
theorem dX8_sheet_4 : decode cX8_sheet 4 = .ok (.i2l, 1) := by decide +kernel
theorem dX8_sheet_5 : decode cX8_sheet 5 = .ok (.iload_n 3, 1) := by decide +kernel
theorem dX8_sheet_6 : decode cX8_sheet 6 = .ok (.i2l, 1) := by decide +kernel
theorem dX8_sheet_7 : decode cX8_sheet 7 = .ok (.iload 4, 2) := by decide +kernel
theorem dX8_sheet_9 : decode cX8_sheet 9 = .ok (.i2l, 1) := by decide +kernel
theorem dX8_sheet_10 : decode cX8_sheet 10 = .ok (.invokevirtual 179, 3) := by decide +kernel
theorem dX8_sheet_13 : decode cX8_sheet 13 = .ok (.ireturn, 1) := by decide +kernel
set_option maxRecDepth 20000 in
theorem ggX8_tellSheet_X5_add : GoodIn wsX8_tellSheet wsX5_add := goodIn_r _ [12, 13, 14, 15, 16, 17, 18, 19, 46, 47, 48, 49, 50, 51, 52] (by decide +kernel) (by decide +kernel)
set_option maxRecDepth 20000 in
theorem gX8_tellSheet_X5_add : GoodIn wsX8_tellSheet (wsV RX8 175 RX5 yX5_add wsX5_add) := goodIn_app (goodIn_of _ (by decide +kernel)) ggX8_tellSheet_X5_add
theorem dX8_tellSheet_0 : decode cX8_tellSheet 0 = .ok (.lload_n 1, 1) := by decide +kernel
theorem dX8_tellSheet_1 : decode cX8_tellSheet 1 = .ok (.lconst 0, 1) := by decide +kernel
theorem dX8_tellSheet_2 : decode cX8_tellSheet 2 = .ok (.lcmp, 1) := by decide +kernel
theorem dX8_tellSheet_3 : decode cX8_tellSheet 3 = .ok (.ifCond .lt 30, 3) := by decide +kernel
theorem dX8_tellSheet_6 : decode cX8_tellSheet 6 = .ok (.lload_n 1, 1) := by decide +kernel
theorem dX8_tellSheet_7 : decode cX8_tellSheet 7 = .ok (.aload_n 0, 1) := by decide +kernel
theorem dX8_tellSheet_8 : decode cX8_tellSheet 8 = .ok (.getfield 19, 3) := by decide +kernel
theorem dX8_tellSheet_11 : decode cX8_tellSheet 11 = .ok (.getfield 134, 3) := by decide +kernel
theorem dX8_tellSheet_14 : decode cX8_tellSheet 14 = .ok (.i2l, 1) := by decide +kernel
theorem dX8_tellSheet_15 : decode cX8_tellSheet 15 = .ok (.lcmp, 1) := by decide +kernel
theorem dX8_tellSheet_16 : decode cX8_tellSheet 16 = .ok (.ifCond .ge 17, 3) := by decide +kernel
theorem dX8_tellSheet_19 : decode cX8_tellSheet 19 = .ok (.lload_n 3, 1) := by decide +kernel
theorem dX8_tellSheet_20 : decode cX8_tellSheet 20 = .ok (.lconst 1, 1) := by decide +kernel
theorem dX8_tellSheet_21 : decode cX8_tellSheet 21 = .ok (.lcmp, 1) := by decide +kernel
theorem dX8_tellSheet_22 : decode cX8_tellSheet 22 = .ok (.ifCond .lt 11, 3) := by decide +kernel
theorem dX8_tellSheet_25 : decode cX8_tellSheet 25 = .ok (.lload_n 3, 1) := by decide +kernel
theorem dX8_tellSheet_26 : decode cX8_tellSheet 26 = .ok (.ldc2_w 183, 3) := by decide +kernel
theorem dX8_tellSheet_29 : decode cX8_tellSheet 29 = .ok (.lcmp, 1) := by decide +kernel
theorem dX8_tellSheet_30 : decode cX8_tellSheet 30 = .ok (.ifCond .le 6, 3) := by decide +kernel
theorem dX8_tellSheet_33 : decode cX8_tellSheet 33 = .ok (.bipush (-2), 2) := by decide +kernel
theorem dX8_tellSheet_35 : decode cX8_tellSheet 35 = .ok (.ireturn, 1) := by decide +kernel
theorem dX8_tellSheet_36 : decode cX8_tellSheet 36 = .ok (.lload 5, 2) := by decide +kernel
theorem dX8_tellSheet_38 : decode cX8_tellSheet 38 = .ok (.lconst 0, 1) := by decide +kernel
theorem dX8_tellSheet_39 : decode cX8_tellSheet 39 = .ok (.lcmp, 1) := by decide +kernel
theorem dX8_tellSheet_40 : decode cX8_tellSheet 40 = .ok (.ifCond .lt 28, 3) := by decide +kernel
theorem dX8_tellSheet_43 : decode cX8_tellSheet 43 = .ok (.lload 5, 2) := by decide +kernel
theorem dX8_tellSheet_45 : decode cX8_tellSheet 45 = .ok (.ldc2_w 185, 3) := by decide +kernel
theorem dX8_tellSheet_48 : decode cX8_tellSheet 48 = .ok (.lcmp, 1) := by decide +kernel
theorem dX8_tellSheet_49 : decode cX8_tellSheet 49 = .ok (.ifCond .gt 19, 3) := by decide +kernel
theorem dX8_tellSheet_52 : decode cX8_tellSheet 52 = .ok (.lload 7, 2) := by decide +kernel
theorem dX8_tellSheet_54 : decode cX8_tellSheet 54 = .ok (.lconst 0, 1) := by decide +kernel
theorem dX8_tellSheet_55 : decode cX8_tellSheet 55 = .ok (.lcmp, 1) := by decide +kernel
theorem dX8_tellSheet_56 : decode cX8_tellSheet 56 = .ok (.ifCond .lt 12, 3) := by decide +kernel
theorem dX8_tellSheet_59 : decode cX8_tellSheet 59 = .ok (.lload 7, 2) := by decide +kernel
theorem dX8_tellSheet_61 : decode cX8_tellSheet 61 = .ok (.ldc2_w 187, 3) := by decide +kernel
theorem dX8_tellSheet_64 : decode cX8_tellSheet 64 = .ok (.lcmp, 1) := by decide +kernel
theorem dX8_tellSheet_65 : decode cX8_tellSheet 65 = .ok (.ifCond .le 6, 3) := by decide +kernel
theorem dX8_tellSheet_68 : decode cX8_tellSheet 68 = .ok (.bipush (-2), 2) := by decide +kernel
theorem dX8_tellSheet_70 : decode cX8_tellSheet 70 = .ok (.ireturn, 1) := by decide +kernel
theorem dX8_tellSheet_71 : decode cX8_tellSheet 71 = .ok (.aload_n 0, 1) := by decide +kernel
theorem dX8_tellSheet_72 : decode cX8_tellSheet 72 = .ok (.getfield 29, 3) := by decide +kernel
theorem dX8_tellSheet_75 : decode cX8_tellSheet 75 = .ok (.getfield 127, 3) := by decide +kernel
theorem dX8_tellSheet_78 : decode cX8_tellSheet 78 = .ok (.sipush 200, 3) := by decide +kernel
theorem dX8_tellSheet_81 : decode cX8_tellSheet 81 = .ok (.if_icmp .lt 6, 3) := by decide +kernel
theorem dX8_tellSheet_84 : decode cX8_tellSheet 84 = .ok (.bipush (-3), 2) := by decide +kernel
theorem dX8_tellSheet_86 : decode cX8_tellSheet 86 = .ok (.ireturn, 1) := by decide +kernel
theorem dX8_tellSheet_87 : decode cX8_tellSheet 87 = .ok (.aload_n 0, 1) := by decide +kernel
theorem dX8_tellSheet_88 : decode cX8_tellSheet 88 = .ok (.getfield 29, 3) := by decide +kernel
theorem dX8_tellSheet_91 : decode cX8_tellSheet 91 = .ok (.lload_n 1, 1) := by decide +kernel
theorem dX8_tellSheet_92 : decode cX8_tellSheet 92 = .ok (.l2i, 1) := by decide +kernel
theorem dX8_tellSheet_93 : decode cX8_tellSheet 93 = .ok (.lload_n 3, 1) := by decide +kernel
theorem dX8_tellSheet_94 : decode cX8_tellSheet 94 = .ok (.l2i, 1) := by decide +kernel
theorem dX8_tellSheet_95 : decode cX8_tellSheet 95 = .ok (.lload 5, 2) := by decide +kernel
theorem dX8_tellSheet_97 : decode cX8_tellSheet 97 = .ok (.l2i, 1) := by decide +kernel
theorem dX8_tellSheet_98 : decode cX8_tellSheet 98 = .ok (.lload 7, 2) := by decide +kernel
theorem dX8_tellSheet_100 : decode cX8_tellSheet 100 = .ok (.l2i, 1) := by decide +kernel
theorem dX8_tellSheet_101 : decode cX8_tellSheet 101 = .ok (.iconst 0, 1) := by decide +kernel
theorem dX8_tellSheet_102 : decode cX8_tellSheet 102 = .ok (.lload 5, 2) := by decide +kernel
theorem dX8_tellSheet_104 : decode cX8_tellSheet 104 = .ok (.l2i, 1) := by decide +kernel
theorem dX8_tellSheet_105 : decode cX8_tellSheet 105 = .ok (.invokevirtual 175, 3) := by decide +kernel
theorem dX8_tellSheet_108 : decode cX8_tellSheet 108 = .ok (.aload_n 0, 1) := by decide +kernel
theorem dX8_tellSheet_109 : decode cX8_tellSheet 109 = .ok (.getfield 29, 3) := by decide +kernel
theorem dX8_tellSheet_112 : decode cX8_tellSheet 112 = .ok (.getfield 127, 3) := by decide +kernel
theorem dX8_tellSheet_115 : decode cX8_tellSheet 115 = .ok (.iconst 1, 1) := by decide +kernel
theorem dX8_tellSheet_116 : decode cX8_tellSheet 116 = .ok (.isub, 1) := by decide +kernel
theorem dX8_tellSheet_117 : decode cX8_tellSheet 117 = .ok (.ireturn, 1) := by decide +kernel
set_option maxRecDepth 20000 in
theorem ggX8_told_X5_has : GoodIn wsX8_told wsX5_has := goodIn_r _ [12, 13, 24, 25, 26, 27, 28, 29, 30] (by decide +kernel) (by decide +kernel)
set_option maxRecDepth 20000 in
theorem gX8_told_X5_has : GoodIn wsX8_told (wsV RX8 189 RX5 yX5_has wsX5_has) := goodIn_app (goodIn_of _ (by decide +kernel)) ggX8_told_X5_has
theorem dX8_told_0 : decode cX8_told 0 = .ok (.aload_n 0, 1) := by decide +kernel
theorem dX8_told_1 : decode cX8_told 1 = .ok (.getfield 29, 3) := by decide +kernel
theorem dX8_told_4 : decode cX8_told 4 = .ok (.iload_n 1, 1) := by decide +kernel
theorem dX8_told_5 : decode cX8_told 5 = .ok (.invokevirtual 189, 3) := by decide +kernel
theorem dX8_told_8 : decode cX8_told 8 = .ok (.ifCond .ne 5, 3) := by decide +kernel
theorem dX8_told_11 : decode cX8_told 11 = .ok (.iconst (-1), 1) := by decide +kernel
theorem dX8_told_12 : decode cX8_told 12 = .ok (.ireturn, 1) := by decide +kernel
theorem dX8_told_13 : decode cX8_told 13 = .ok (.iload_n 2, 1) := by decide +kernel
theorem dX8_told_14 : decode cX8_told 14 = .ok (.tableswitch 98 0 5 #[38, 48, 58, 68, 78, 88], 38) := by decide +kernel
theorem dX8_told_52 : decode cX8_told 52 = .ok (.aload_n 0, 1) := by decide +kernel
theorem dX8_told_53 : decode cX8_told 53 = .ok (.getfield 29, 3) := by decide +kernel
theorem dX8_told_56 : decode cX8_told 56 = .ok (.getfield 192, 3) := by decide +kernel
theorem dX8_told_59 : decode cX8_told 59 = .ok (.iload_n 1, 1) := by decide +kernel
theorem dX8_told_60 : decode cX8_told 60 = .ok (.iaload, 1) := by decide +kernel
theorem dX8_told_61 : decode cX8_told 61 = .ok (.ireturn, 1) := by decide +kernel
theorem dX8_told_62 : decode cX8_told 62 = .ok (.aload_n 0, 1) := by decide +kernel
theorem dX8_told_63 : decode cX8_told 63 = .ok (.getfield 29, 3) := by decide +kernel
theorem dX8_told_66 : decode cX8_told 66 = .ok (.getfield 195, 3) := by decide +kernel
theorem dX8_told_69 : decode cX8_told 69 = .ok (.iload_n 1, 1) := by decide +kernel
theorem dX8_told_70 : decode cX8_told 70 = .ok (.iaload, 1) := by decide +kernel
theorem dX8_told_71 : decode cX8_told 71 = .ok (.ireturn, 1) := by decide +kernel
theorem dX8_told_72 : decode cX8_told 72 = .ok (.aload_n 0, 1) := by decide +kernel
theorem dX8_told_73 : decode cX8_told 73 = .ok (.getfield 29, 3) := by decide +kernel
theorem dX8_told_76 : decode cX8_told 76 = .ok (.getfield 198, 3) := by decide +kernel
theorem dX8_told_79 : decode cX8_told 79 = .ok (.iload_n 1, 1) := by decide +kernel
theorem dX8_told_80 : decode cX8_told 80 = .ok (.iaload, 1) := by decide +kernel
theorem dX8_told_81 : decode cX8_told 81 = .ok (.ireturn, 1) := by decide +kernel
theorem dX8_told_82 : decode cX8_told 82 = .ok (.aload_n 0, 1) := by decide +kernel
theorem dX8_told_83 : decode cX8_told 83 = .ok (.getfield 29, 3) := by decide +kernel
theorem dX8_told_86 : decode cX8_told 86 = .ok (.getfield 201, 3) := by decide +kernel
theorem dX8_told_89 : decode cX8_told 89 = .ok (.iload_n 1, 1) := by decide +kernel
theorem dX8_told_90 : decode cX8_told 90 = .ok (.iaload, 1) := by decide +kernel
theorem dX8_told_91 : decode cX8_told 91 = .ok (.ireturn, 1) := by decide +kernel
theorem dX8_told_92 : decode cX8_told 92 = .ok (.aload_n 0, 1) := by decide +kernel
theorem dX8_told_93 : decode cX8_told 93 = .ok (.getfield 29, 3) := by decide +kernel
theorem dX8_told_96 : decode cX8_told 96 = .ok (.getfield 204, 3) := by decide +kernel
theorem dX8_told_99 : decode cX8_told 99 = .ok (.iload_n 1, 1) := by decide +kernel
theorem dX8_told_100 : decode cX8_told 100 = .ok (.iaload, 1) := by decide +kernel
theorem dX8_told_101 : decode cX8_told 101 = .ok (.ireturn, 1) := by decide +kernel
theorem dX8_told_102 : decode cX8_told 102 = .ok (.aload_n 0, 1) := by decide +kernel
theorem dX8_told_103 : decode cX8_told 103 = .ok (.getfield 29, 3) := by decide +kernel
theorem dX8_told_106 : decode cX8_told 106 = .ok (.getfield 205, 3) := by decide +kernel
theorem dX8_told_109 : decode cX8_told 109 = .ok (.iload_n 1, 1) := by decide +kernel
theorem dX8_told_110 : decode cX8_told 110 = .ok (.iaload, 1) := by decide +kernel
theorem dX8_told_111 : decode cX8_told 111 = .ok (.ireturn, 1) := by decide +kernel
theorem dX8_told_112 : decode cX8_told 112 = .ok (.iconst (-1), 1) := by decide +kernel
theorem dX8_told_113 : decode cX8_told 113 = .ok (.ireturn, 1) := by decide +kernel
set_option maxRecDepth 20000 in
theorem ggX8_would_X8_isPlaced : GoodIn wsX8_would wsX8_isPlaced := goodIn_r _ [13, 2, 3, 14, 15, 16, 17, 18, 19, 20, 21, 22, 23, 24, 25, 42, 43, 44, 45, 46, 47, 48, 49, 50, 51, 52, 53, 54, 55, 56, 57, 58, 59, 60, 61, 62, 63, 64, 65, 66, 67, 68, 69, 70, 71, 72, 73, 74] (by decide +kernel) (by decide +kernel)
set_option maxRecDepth 20000 in
theorem gX8_would_X8_isPlaced : GoodIn wsX8_would (wsV RX8 206 RX8 yX8_isPlaced wsX8_isPlaced) := goodIn_app (goodIn_of _ (by decide +kernel)) ggX8_would_X8_isPlaced
set_option maxRecDepth 20000 in
theorem ggX8_would_X8_isMonth : GoodIn wsX8_would wsX8_isMonth := goodIn_r _ [28, 29, 30, 12, 31] (by decide +kernel) (by decide +kernel)
set_option maxRecDepth 20000 in
theorem gX8_would_X8_isMonth : GoodIn wsX8_would (va_wsS RX8 95 yX8_isMonth wsX8_isMonth) := goodIn_app (goodIn_of _ (by decide +kernel)) ggX8_would_X8_isMonth
set_option maxRecDepth 20000 in
theorem ggX8_would_X3_forcedAt : GoodIn wsX8_would wsX3_forcedAt := goodIn_r _ [35, 36, 37, 38, 39, 23, 40, 41, 59, 60, 61, 62, 63, 64, 65, 66, 67, 68, 69, 70, 71, 72, 73, 74] (by decide +kernel) (by decide +kernel)
set_option maxRecDepth 20000 in
theorem gX8_would_X3_forcedAt : GoodIn wsX8_would (wsV RX8 98 RX3 yX3_forcedAt wsX3_forcedAt) := goodIn_app (goodIn_of _ (by decide +kernel)) ggX8_would_X3_forcedAt
theorem dX8_would_0 : decode cX8_would 0 = .ok (.aload_n 0, 1) := by decide +kernel
theorem dX8_would_1 : decode cX8_would 1 = .ok (.aload_n 0, 1) := by decide +kernel
theorem dX8_would_2 : decode cX8_would 2 = .ok (.getfield 29, 3) := by decide +kernel
theorem dX8_would_5 : decode cX8_would 5 = .ok (.iload_n 1, 1) := by decide +kernel
theorem dX8_would_6 : decode cX8_would 6 = .ok (.invokevirtual 206, 3) := by decide +kernel
theorem dX8_would_9 : decode cX8_would 9 = .ok (.ifCond .eq 10, 3) := by decide +kernel
theorem dX8_would_12 : decode cX8_would 12 = .ok (.iload_n 2, 1) := by decide +kernel
theorem dX8_would_13 : decode cX8_would 13 = .ok (.invokestatic 95, 3) := by decide +kernel
theorem dX8_would_16 : decode cX8_would 16 = .ok (.ifCond .ne 6, 3) := by decide +kernel
theorem dX8_would_19 : decode cX8_would 19 = .ok (.bipush (-2), 2) := by decide +kernel
theorem dX8_would_21 : decode cX8_would 21 = .ok (.ireturn, 1) := by decide +kernel
theorem dX8_would_22 : decode cX8_would 22 = .ok (.aload_n 0, 1) := by decide +kernel
theorem dX8_would_23 : decode cX8_would 23 = .ok (.getfield 19, 3) := by decide +kernel
theorem dX8_would_26 : decode cX8_would 26 = .ok (.aload_n 0, 1) := by decide +kernel
theorem dX8_would_27 : decode cX8_would 27 = .ok (.getfield 29, 3) := by decide +kernel
theorem dX8_would_30 : decode cX8_would 30 = .ok (.getfield 192, 3) := by decide +kernel
theorem dX8_would_33 : decode cX8_would 33 = .ok (.iload_n 1, 1) := by decide +kernel
theorem dX8_would_34 : decode cX8_would 34 = .ok (.iaload, 1) := by decide +kernel
theorem dX8_would_35 : decode cX8_would 35 = .ok (.iload_n 2, 1) := by decide +kernel
theorem dX8_would_36 : decode cX8_would 36 = .ok (.invokevirtual 98, 3) := by decide +kernel
theorem dX8_would_39 : decode cX8_would 39 = .ok (.aload_n 0, 1) := by decide +kernel
theorem dX8_would_40 : decode cX8_would 40 = .ok (.getfield 29, 3) := by decide +kernel
theorem dX8_would_43 : decode cX8_would 43 = .ok (.getfield 205, 3) := by decide +kernel
theorem dX8_would_46 : decode cX8_would 46 = .ok (.iload_n 1, 1) := by decide +kernel
theorem dX8_would_47 : decode cX8_would 47 = .ok (.iaload, 1) := by decide +kernel
theorem dX8_would_48 : decode cX8_would 48 = .ok (.invokestatic 163, 3) := by decide +kernel
theorem dX8_would_51 : decode cX8_would 51 = .ok (.ireturn, 1) := by decide +kernel
set_option maxRecDepth 20000 in
theorem ggX8_worth_X8_isPlaced : GoodIn wsX8_worth wsX8_isPlaced := goodIn_r _ [7, 8, 9, 10, 11, 12, 13, 14, 15, 16, 17, 18, 19, 20, 21, 68, 69, 70, 71, 72, 73, 74, 75, 76, 77, 78, 79, 80, 81, 82, 83, 84, 85, 86, 87, 88, 89, 90, 91, 92, 93, 94, 95, 96, 97, 98, 99, 100] (by decide +kernel) (by decide +kernel)
set_option maxRecDepth 20000 in
theorem gX8_worth_X8_isPlaced : GoodIn wsX8_worth (wsV RX8 206 RX8 yX8_isPlaced wsX8_isPlaced) := goodIn_app (goodIn_of _ (by decide +kernel)) ggX8_worth_X8_isPlaced
set_option maxRecDepth 20000 in
theorem ggX8_worth_X8_gainOf : GoodIn wsX8_worth wsX8_gainOf := goodIn_r _ [25, 26, 27, 9, 28, 29, 30, 31, 32, 8, 33, 34, 35, 19, 36, 37, 38, 39, 40, 41, 42, 43, 44, 45, 46, 47, 48, 49, 50, 51, 52, 53, 54, 55, 56, 57, 58, 59, 6, 60, 61, 62, 63, 64, 65, 66, 67, 78, 79, 80, 81, 82, 83, 84, 68, 69, 70, 71, 72, 73, 74, 75, 76, 77, 85, 86, 87, 88, 89, 90, 91, 92, 93, 94, 95, 96, 97, 98, 99, 100] (by decide +kernel) (by decide +kernel)
set_option maxRecDepth 20000 in
theorem gX8_worth_X8_gainOf : GoodIn wsX8_worth (wsV RX8 210 RX8 yX8_gainOf wsX8_gainOf) := goodIn_app (goodIn_of _ (by decide +kernel)) ggX8_worth_X8_gainOf
theorem dX8_worth_0 : decode cX8_worth 0 = .ok (.aload_n 0, 1) := by decide +kernel
theorem dX8_worth_1 : decode cX8_worth 1 = .ok (.aload_n 0, 1) := by decide +kernel
theorem dX8_worth_2 : decode cX8_worth 2 = .ok (.getfield 29, 3) := by decide +kernel
theorem dX8_worth_5 : decode cX8_worth 5 = .ok (.iload_n 1, 1) := by decide +kernel
theorem dX8_worth_6 : decode cX8_worth 6 = .ok (.invokevirtual 206, 3) := by decide +kernel
theorem dX8_worth_9 : decode cX8_worth 9 = .ok (.ifCond .eq 15, 3) := by decide +kernel
theorem dX8_worth_12 : decode cX8_worth 12 = .ok (.aload_n 0, 1) := by decide +kernel
theorem dX8_worth_13 : decode cX8_worth 13 = .ok (.aload_n 0, 1) := by decide +kernel
theorem dX8_worth_14 : decode cX8_worth 14 = .ok (.getfield 29, 3) := by decide +kernel
theorem dX8_worth_17 : decode cX8_worth 17 = .ok (.iload_n 1, 1) := by decide +kernel
theorem dX8_worth_18 : decode cX8_worth 18 = .ok (.invokevirtual 210, 3) := by decide +kernel
theorem dX8_worth_21 : decode cX8_worth 21 = .ok (.goto 5, 3) := by decide +kernel
theorem dX8_worth_24 : decode cX8_worth 24 = .ok (.ldc 214, 2) := by decide +kernel
theorem dX8_worth_26 : decode cX8_worth 26 = .ok (.ireturn, 1) := by decide +kernel
set_option maxRecDepth 20000 in
theorem ggX8_month_X8_within : GoodIn wsX8_month wsX8_within := goodIn_r _ [7] (by decide +kernel) (by decide +kernel)
set_option maxRecDepth 20000 in
theorem gX8_month_X8_within : GoodIn wsX8_month (va_wsS RX8 105 yX8_within wsX8_within) := goodIn_app (goodIn_of _ (by decide +kernel)) ggX8_month_X8_within
set_option maxRecDepth 20000 in
theorem ggX8_month_X8_monthPart : GoodIn wsX8_month wsX8_monthPart := goodIn_r _ [11, 1, 12, 13, 14, 15, 16, 6, 17, 18, 19, 3, 20, 21, 22, 23, 24, 25, 26, 27, 28, 29, 30, 31, 32, 33, 34, 35, 36, 37, 38, 39, 40, 41, 42, 43, 44, 45, 46, 47, 48, 49, 50, 51, 52, 53, 54, 55, 56, 57, 58, 59, 60, 61, 62, 63, 64, 65, 66, 67, 68, 69, 70, 71, 72, 73, 74, 75, 76, 77, 78, 79] (by decide +kernel) (by decide +kernel)
set_option maxRecDepth 20000 in
theorem gX8_month_X8_monthPart : GoodIn wsX8_month (wsV RX8 215 RX8 yX8_monthPart wsX8_monthPart) := goodIn_app (goodIn_of _ (by decide +kernel)) ggX8_month_X8_monthPart
theorem dX8_month_0 : decode cX8_month 0 = .ok (.iload_n 1, 1) := by decide +kernel
theorem dX8_month_1 : decode cX8_month 1 = .ok (.iconst 0, 1) := by decide +kernel
theorem dX8_month_2 : decode cX8_month 2 = .ok (.bipush 12, 2) := by decide +kernel
theorem dX8_month_4 : decode cX8_month 4 = .ok (.invokestatic 105, 3) := by decide +kernel
theorem dX8_month_7 : decode cX8_month 7 = .ok (.ifCond .eq 12, 3) := by decide +kernel
theorem dX8_month_10 : decode cX8_month 10 = .ok (.iload_n 2, 1) := by decide +kernel
theorem dX8_month_11 : decode cX8_month 11 = .ok (.iconst 0, 1) := by decide +kernel
theorem dX8_month_12 : decode cX8_month 12 = .ok (.iconst 3, 1) := by decide +kernel
theorem dX8_month_13 : decode cX8_month 13 = .ok (.invokestatic 105, 3) := by decide +kernel
theorem dX8_month_16 : decode cX8_month 16 = .ok (.ifCond .ne 5, 3) := by decide +kernel
theorem dX8_month_19 : decode cX8_month 19 = .ok (.iconst (-1), 1) := by decide +kernel
theorem dX8_month_20 : decode cX8_month 20 = .ok (.ireturn, 1) := by decide +kernel
theorem dX8_month_21 : decode cX8_month 21 = .ok (.iconst 0, 1) := by decide +kernel
theorem dX8_month_22 : decode cX8_month 22 = .ok (.istore_n 3, 1) := by decide +kernel
theorem dX8_month_23 : decode cX8_month 23 = .ok (.iconst 0, 1) := by decide +kernel
theorem dX8_month_24 : decode cX8_month 24 = .ok (.istore 4, 2) := by decide +kernel
theorem dX8_month_26 : decode cX8_month 26 = .ok (.iload 4, 2) := by decide +kernel
theorem dX8_month_28 : decode cX8_month 28 = .ok (.aload_n 0, 1) := by decide +kernel
theorem dX8_month_29 : decode cX8_month 29 = .ok (.getfield 29, 3) := by decide +kernel
theorem dX8_month_32 : decode cX8_month 32 = .ok (.getfield 127, 3) := by decide +kernel
theorem dX8_month_35 : decode cX8_month 35 = .ok (.if_icmp .ge 37, 3) := by decide +kernel
theorem dX8_month_38 : decode cX8_month 38 = .ok (.iload_n 1, 1) := by decide +kernel
theorem dX8_month_39 : decode cX8_month 39 = .ok (.ifCond .eq 17, 3) := by decide +kernel
theorem dX8_month_42 : decode cX8_month 42 = .ok (.aload_n 0, 1) := by decide +kernel
theorem dX8_month_43 : decode cX8_month 43 = .ok (.getfield 29, 3) := by decide +kernel
theorem dX8_month_46 : decode cX8_month 46 = .ok (.getfield 195, 3) := by decide +kernel
theorem dX8_month_49 : decode cX8_month 49 = .ok (.iload 4, 2) := by decide +kernel
theorem dX8_month_51 : decode cX8_month 51 = .ok (.iaload, 1) := by decide +kernel
theorem dX8_month_52 : decode cX8_month 52 = .ok (.iload_n 1, 1) := by decide +kernel
theorem dX8_month_53 : decode cX8_month 53 = .ok (.if_icmp .ne 13, 3) := by decide +kernel
theorem dX8_month_56 : decode cX8_month 56 = .ok (.iload_n 3, 1) := by decide +kernel
theorem dX8_month_57 : decode cX8_month 57 = .ok (.aload_n 0, 1) := by decide +kernel
theorem dX8_month_58 : decode cX8_month 58 = .ok (.iload 4, 2) := by decide +kernel
theorem dX8_month_60 : decode cX8_month 60 = .ok (.iload_n 2, 1) := by decide +kernel
theorem dX8_month_61 : decode cX8_month 61 = .ok (.invokevirtual 215, 3) := by decide +kernel
theorem dX8_month_64 : decode cX8_month 64 = .ok (.iadd, 1) := by decide +kernel
theorem dX8_month_65 : decode cX8_month 65 = .ok (.istore_n 3, 1) := by decide +kernel
theorem dX8_month_66 : decode cX8_month 66 = .ok (.iinc 4 1, 3) := by decide +kernel
theorem dX8_month_69 : decode cX8_month 69 = .ok (.goto (-43), 3) := by decide +kernel
theorem dX8_month_72 : decode cX8_month 72 = .ok (.iload_n 3, 1) := by decide +kernel
theorem dX8_month_73 : decode cX8_month 73 = .ok (.ireturn, 1) := by decide +kernel
set_option maxRecDepth 20000 in
theorem ggX8_monthPart_X8_isHeld : GoodIn wsX8_monthPart wsX8_isHeld := goodIn_r _ [8, 9, 10, 11, 12, 13, 14, 15, 7, 16, 17, 18, 19, 20, 21, 22, 23, 24, 25, 26, 27, 28, 29, 30, 31, 32, 33, 34, 35, 36, 37, 38, 39, 40, 41, 42, 43, 44, 45, 46, 47, 48, 49, 50, 51, 52, 53, 54, 55, 56, 57, 58, 59, 60, 61, 62, 63, 64, 65, 66, 67, 68, 69, 70, 71] (by decide +kernel) (by decide +kernel)
set_option maxRecDepth 20000 in
theorem gX8_monthPart_X8_isHeld : GoodIn wsX8_monthPart (wsV RX8 218 RX8 yX8_isHeld wsX8_isHeld) := goodIn_app (goodIn_of _ (by decide +kernel)) ggX8_monthPart_X8_isHeld
theorem dX8_monthPart_0 : decode cX8_monthPart 0 = .ok (.iload_n 2, 1) := by decide +kernel
theorem dX8_monthPart_1 : decode cX8_monthPart 1 = .ok (.tableswitch 49 0 2 #[27, 29, 39], 27) := by decide +kernel
theorem dX8_monthPart_28 : decode cX8_monthPart 28 = .ok (.iconst 1, 1) := by decide +kernel
theorem dX8_monthPart_29 : decode cX8_monthPart 29 = .ok (.ireturn, 1) := by decide +kernel
theorem dX8_monthPart_30 : decode cX8_monthPart 30 = .ok (.aload_n 0, 1) := by decide +kernel
theorem dX8_monthPart_31 : decode cX8_monthPart 31 = .ok (.getfield 29, 3) := by decide +kernel
theorem dX8_monthPart_34 : decode cX8_monthPart 34 = .ok (.getfield 198, 3) := by decide +kernel
theorem dX8_monthPart_37 : decode cX8_monthPart 37 = .ok (.iload_n 1, 1) := by decide +kernel
theorem dX8_monthPart_38 : decode cX8_monthPart 38 = .ok (.iaload, 1) := by decide +kernel
theorem dX8_monthPart_39 : decode cX8_monthPart 39 = .ok (.ireturn, 1) := by decide +kernel
theorem dX8_monthPart_40 : decode cX8_monthPart 40 = .ok (.aload_n 0, 1) := by decide +kernel
theorem dX8_monthPart_41 : decode cX8_monthPart 41 = .ok (.getfield 29, 3) := by decide +kernel
theorem dX8_monthPart_44 : decode cX8_monthPart 44 = .ok (.getfield 201, 3) := by decide +kernel
theorem dX8_monthPart_47 : decode cX8_monthPart 47 = .ok (.iload_n 1, 1) := by decide +kernel
theorem dX8_monthPart_48 : decode cX8_monthPart 48 = .ok (.iaload, 1) := by decide +kernel
theorem dX8_monthPart_49 : decode cX8_monthPart 49 = .ok (.ireturn, 1) := by decide +kernel
theorem dX8_monthPart_50 : decode cX8_monthPart 50 = .ok (.aload_n 0, 1) := by decide +kernel
theorem dX8_monthPart_51 : decode cX8_monthPart 51 = .ok (.aload_n 0, 1) := by decide +kernel
theorem dX8_monthPart_52 : decode cX8_monthPart 52 = .ok (.getfield 29, 3) := by decide +kernel
theorem dX8_monthPart_55 : decode cX8_monthPart 55 = .ok (.iload_n 1, 1) := by decide +kernel
theorem dX8_monthPart_56 : decode cX8_monthPart 56 = .ok (.invokevirtual 218, 3) := by decide +kernel
theorem dX8_monthPart_59 : decode cX8_monthPart 59 = .ok (.ifCond .eq 7, 3) := by decide +kernel
theorem dX8_monthPart_62 : decode cX8_monthPart 62 = .ok (.iconst 1, 1) := by decide +kernel
theorem dX8_monthPart_63 : decode cX8_monthPart 63 = .ok (.goto 4, 3) := by decide +kernel
theorem dX8_monthPart_66 : decode cX8_monthPart 66 = .ok (.iconst 0, 1) := by decide +kernel
theorem dX8_monthPart_67 : decode cX8_monthPart 67 = .ok (.ireturn, 1) := by decide +kernel
set_option maxRecDepth 20000 in
theorem ggX8_plain_X8_plainOf : GoodIn wsX8_plain wsX8_plainOf := goodIn_r _ [5, 6, 7, 8, 9, 10, 11, 12, 13, 14, 15, 16, 17, 18, 19, 20, 21, 22, 23, 24, 25, 26, 27, 28, 29, 30, 31, 32, 33, 34, 35, 36, 37, 38, 4, 39, 40, 41, 46, 47, 48, 49, 50, 51, 52, 53, 54, 55, 56, 57, 58, 59, 60, 61, 62, 63, 64, 65, 66, 67, 68, 69, 70, 71, 72, 73] (by decide +kernel) (by decide +kernel)
set_option maxRecDepth 20000 in
theorem gX8_plain_X8_plainOf : GoodIn wsX8_plain (wsV RX8 221 RX8 yX8_plainOf wsX8_plainOf) := goodIn_app (goodIn_of _ (by decide +kernel)) ggX8_plain_X8_plainOf
set_option maxRecDepth 20000 in
theorem ggX8_plain_X8_toFace : GoodIn wsX8_plain wsX8_toFace := goodIn_r _ [44, 40, 45] (by decide +kernel) (by decide +kernel)
set_option maxRecDepth 20000 in
theorem gX8_plain_X8_toFace : GoodIn wsX8_plain (va_wsS RX8 225 yX8_toFace wsX8_toFace) := goodIn_app (goodIn_of _ (by decide +kernel)) ggX8_plain_X8_toFace
theorem dX8_plain_0 : decode cX8_plain 0 = .ok (.aload_n 0, 1) := by decide +kernel
theorem dX8_plain_1 : decode cX8_plain 1 = .ok (.invokevirtual 221, 3) := by decide +kernel
theorem dX8_plain_4 : decode cX8_plain 4 = .ok (.invokestatic 225, 3) := by decide +kernel
theorem dX8_plain_7 : decode cX8_plain 7 = .ok (.lreturn, 1) := by decide +kernel
set_option maxRecDepth 20000 in
theorem ggX8_plainOf_X6_clear : GoodIn wsX8_plainOf wsX6_clear := goodIn_r _ [13, 14, 15, 16, 17, 18, 19, 20, 21, 22, 23, 24, 55, 56, 57, 58, 59, 60, 61, 62, 63, 64, 65] (by decide +kernel) (by decide +kernel)
set_option maxRecDepth 20000 in
theorem gX8_plainOf_X6_clear : GoodIn wsX8_plainOf (wsV RX8 229 RX6 yX6_clear wsX6_clear) := goodIn_app (goodIn_of _ (by decide +kernel)) ggX8_plainOf_X6_clear
set_option maxRecDepth 20000 in
theorem ggX8_plainOf_X6_take : GoodIn wsX8_plainOf wsX6_take := goodIn_r _ [28, 29, 30, 22, 23, 24, 14, 15, 16, 17, 31, 18, 19, 20, 21, 48, 49, 50, 51, 52, 53, 54, 55, 56, 57, 58, 59, 60, 61, 62, 63, 64, 65] (by decide +kernel) (by decide +kernel)
set_option maxRecDepth 20000 in
theorem gX8_plainOf_X6_take : GoodIn wsX8_plainOf (wsV RX8 232 RX6 yX6_take wsX6_take) := goodIn_app (goodIn_of _ (by decide +kernel)) ggX8_plainOf_X6_take
set_option maxRecDepth 20000 in
theorem ggX8_plainOf_X8_thousandths : GoodIn wsX8_plainOf wsX8_thousandths := goodIn_r _ [35, 36, 37] (by decide +kernel) (by decide +kernel)
set_option maxRecDepth 20000 in
theorem gX8_plainOf_X8_thousandths : GoodIn wsX8_plainOf (va_wsS RX8 249 yX8_thousandths wsX8_thousandths) := goodIn_app (goodIn_of _ (by decide +kernel)) ggX8_plainOf_X8_thousandths
theorem dX8_plainOf_0 : decode cX8_plainOf 0 = .ok (.aload_n 0, 1) := by decide +kernel
theorem dX8_plainOf_1 : decode cX8_plainOf 1 = .ok (.getfield 46, 3) := by decide +kernel
theorem dX8_plainOf_4 : decode cX8_plainOf 4 = .ok (.invokevirtual 229, 3) := by decide +kernel
theorem dX8_plainOf_7 : decode cX8_plainOf 7 = .ok (.iconst 0, 1) := by decide +kernel
theorem dX8_plainOf_8 : decode cX8_plainOf 8 = .ok (.istore_n 1, 1) := by decide +kernel
theorem dX8_plainOf_9 : decode cX8_plainOf 9 = .ok (.iload_n 1, 1) := by decide +kernel
theorem dX8_plainOf_10 : decode cX8_plainOf 10 = .ok (.aload_n 0, 1) := by decide +kernel
theorem dX8_plainOf_11 : decode cX8_plainOf 11 = .ok (.getfield 29, 3) := by decide +kernel
theorem dX8_plainOf_14 : decode cX8_plainOf 14 = .ok (.getfield 127, 3) := by decide +kernel
theorem dX8_plainOf_17 : decode cX8_plainOf 17 = .ok (.if_icmp .ge 22, 3) := by decide +kernel
theorem dX8_plainOf_20 : decode cX8_plainOf 20 = .ok (.aload_n 0, 1) := by decide +kernel
theorem dX8_plainOf_21 : decode cX8_plainOf 21 = .ok (.getfield 46, 3) := by decide +kernel
theorem dX8_plainOf_24 : decode cX8_plainOf 24 = .ok (.aload_n 0, 1) := by decide +kernel
theorem dX8_plainOf_25 : decode cX8_plainOf 25 = .ok (.getfield 29, 3) := by decide +kernel
theorem dX8_plainOf_28 : decode cX8_plainOf 28 = .ok (.iload_n 1, 1) := by decide +kernel
theorem dX8_plainOf_29 : decode cX8_plainOf 29 = .ok (.iconst 1, 1) := by decide +kernel
theorem dX8_plainOf_30 : decode cX8_plainOf 30 = .ok (.invokevirtual 232, 3) := by decide +kernel
theorem dX8_plainOf_33 : decode cX8_plainOf 33 = .ok (.iinc 1 1, 3) := by decide +kernel
theorem dX8_plainOf_36 : decode cX8_plainOf 36 = .ok (.goto (-27), 3) := by decide +kernel
theorem dX8_plainOf_39 : decode cX8_plainOf 39 = .ok (.aload_n 0, 1) := by decide +kernel
theorem dX8_plainOf_40 : decode cX8_plainOf 40 = .ok (.getfield 46, 3) := by decide +kernel
theorem dX8_plainOf_43 : decode cX8_plainOf 43 = .ok (.getfield 236, 3) := by decide +kernel
theorem dX8_plainOf_46 : decode cX8_plainOf 46 = .ok (.lstore_n 1, 1) := by decide +kernel
theorem dX8_plainOf_47 : decode cX8_plainOf 47 = .ok (.lload_n 1, 1) := by decide +kernel
theorem dX8_plainOf_48 : decode cX8_plainOf 48 = .ok (.aload_n 0, 1) := by decide +kernel
theorem dX8_plainOf_49 : decode cX8_plainOf 49 = .ok (.getfield 46, 3) := by decide +kernel
theorem dX8_plainOf_52 : decode cX8_plainOf 52 = .ok (.getfield 239, 3) := by decide +kernel
theorem dX8_plainOf_55 : decode cX8_plainOf 55 = .ok (.lmul, 1) := by decide +kernel
theorem dX8_plainOf_56 : decode cX8_plainOf 56 = .ok (.aload_n 0, 1) := by decide +kernel
theorem dX8_plainOf_57 : decode cX8_plainOf 57 = .ok (.getfield 46, 3) := by decide +kernel
theorem dX8_plainOf_60 : decode cX8_plainOf 60 = .ok (.getfield 242, 3) := by decide +kernel
theorem dX8_plainOf_63 : decode cX8_plainOf 63 = .ok (.aload_n 0, 1) := by decide +kernel
theorem dX8_plainOf_64 : decode cX8_plainOf 64 = .ok (.getfield 46, 3) := by decide +kernel
theorem dX8_plainOf_67 : decode cX8_plainOf 67 = .ok (.getfield 244, 3) := by decide +kernel
theorem dX8_plainOf_70 : decode cX8_plainOf 70 = .ok (.lmul, 1) := by decide +kernel
theorem dX8_plainOf_71 : decode cX8_plainOf 71 = .ok (.lsub, 1) := by decide +kernel
theorem dX8_plainOf_72 : decode cX8_plainOf 72 = .ok (.lstore_n 3, 1) := by decide +kernel
theorem dX8_plainOf_73 : decode cX8_plainOf 73 = .ok (.lload_n 1, 1) := by decide +kernel
theorem dX8_plainOf_74 : decode cX8_plainOf 74 = .ok (.aload_n 0, 1) := by decide +kernel
theorem dX8_plainOf_75 : decode cX8_plainOf 75 = .ok (.getfield 46, 3) := by decide +kernel
theorem dX8_plainOf_78 : decode cX8_plainOf 78 = .ok (.getfield 246, 3) := by decide +kernel
theorem dX8_plainOf_81 : decode cX8_plainOf 81 = .ok (.lmul, 1) := by decide +kernel
theorem dX8_plainOf_82 : decode cX8_plainOf 82 = .ok (.aload_n 0, 1) := by decide +kernel
theorem dX8_plainOf_83 : decode cX8_plainOf 83 = .ok (.getfield 46, 3) := by decide +kernel
theorem dX8_plainOf_86 : decode cX8_plainOf 86 = .ok (.getfield 242, 3) := by decide +kernel
theorem dX8_plainOf_89 : decode cX8_plainOf 89 = .ok (.aload_n 0, 1) := by decide +kernel
theorem dX8_plainOf_90 : decode cX8_plainOf 90 = .ok (.getfield 46, 3) := by decide +kernel
theorem dX8_plainOf_93 : decode cX8_plainOf 93 = .ok (.getfield 242, 3) := by decide +kernel
theorem dX8_plainOf_96 : decode cX8_plainOf 96 = .ok (.lmul, 1) := by decide +kernel
theorem dX8_plainOf_97 : decode cX8_plainOf 97 = .ok (.lsub, 1) := by decide +kernel
theorem dX8_plainOf_98 : decode cX8_plainOf 98 = .ok (.lstore 5, 2) := by decide +kernel
theorem dX8_plainOf_100 : decode cX8_plainOf 100 = .ok (.lload_n 3, 1) := by decide +kernel
theorem dX8_plainOf_101 : decode cX8_plainOf 101 = .ok (.lload 5, 2) := by decide +kernel
theorem dX8_plainOf_103 : decode cX8_plainOf 103 = .ok (.invokestatic 249, 3) := by decide +kernel
theorem dX8_plainOf_106 : decode cX8_plainOf 106 = .ok (.lreturn, 1) := by decide +kernel
set_option maxRecDepth 20000 in
theorem ggX8_by_X8_divided : GoodIn wsX8_by wsX8_divided := goodIn_r _ [6, 7, 8, 9, 10, 11, 12, 13, 14, 15, 16, 17, 18, 19, 20, 21, 22, 23, 24, 25, 26, 27, 5, 28, 29, 30, 31, 32, 33, 34, 35, 36, 37, 38, 39, 40, 41, 65, 66, 67, 68, 69, 70, 71, 72, 73, 74, 75, 76, 77, 78, 79, 80, 81, 82, 83, 84, 85, 86, 87, 88, 89, 90, 91, 92] (by decide +kernel) (by decide +kernel)
set_option maxRecDepth 20000 in
theorem gX8_by_X8_divided : GoodIn wsX8_by (wsV RX8 253 RX8 yX8_divided wsX8_divided) := goodIn_app (goodIn_of _ (by decide +kernel)) ggX8_by_X8_divided
set_option maxRecDepth 20000 in
theorem ggX8_by_X6_byMoved : GoodIn wsX8_by wsX6_byMoved := goodIn_r _ [45, 46, 47, 48, 13, 49, 16, 20, 50, 51, 17, 21, 15, 19, 52, 53, 54, 55, 56, 57, 58, 59, 82, 83, 84, 85, 86, 87, 88, 89, 90, 91, 92] (by decide +kernel) (by decide +kernel)
set_option maxRecDepth 20000 in
theorem gX8_by_X6_byMoved : GoodIn wsX8_by (wsV RX8 257 RX6 yX6_byMoved wsX6_byMoved) := goodIn_app (goodIn_of _ (by decide +kernel)) ggX8_by_X6_byMoved
set_option maxRecDepth 20000 in
theorem ggX8_by_X8_toFace : GoodIn wsX8_by wsX8_toFace := goodIn_r _ [62, 63, 64] (by decide +kernel) (by decide +kernel)
set_option maxRecDepth 20000 in
theorem gX8_by_X8_toFace : GoodIn wsX8_by (va_wsS RX8 225 yX8_toFace wsX8_toFace) := goodIn_app (goodIn_of _ (by decide +kernel)) ggX8_by_X8_toFace
theorem dX8_by_0 : decode cX8_by 0 = .ok (.aload_n 0, 1) := by decide +kernel
theorem dX8_by_1 : decode cX8_by 1 = .ok (.aload_n 0, 1) := by decide +kernel
theorem dX8_by_2 : decode cX8_by 2 = .ok (.getfield 29, 3) := by decide +kernel
theorem dX8_by_5 : decode cX8_by 5 = .ok (.iload_n 1, 1) := by decide +kernel
theorem dX8_by_6 : decode cX8_by 6 = .ok (.invokevirtual 253, 3) := by decide +kernel
theorem dX8_by_9 : decode cX8_by 9 = .ok (.invokevirtual 257, 3) := by decide +kernel
theorem dX8_by_12 : decode cX8_by 12 = .ok (.invokestatic 225, 3) := by decide +kernel
theorem dX8_by_15 : decode cX8_by 15 = .ok (.lreturn, 1) := by decide +kernel
set_option maxRecDepth 20000 in
theorem ggX8_many_X8_manyOf : GoodIn wsX8_many wsX8_manyOf := goodIn_r _ [5, 6, 7, 8, 9, 10, 11, 12, 13, 14, 15, 16, 17, 18, 19, 20, 21, 22, 23, 24, 25, 26, 27, 28, 29, 4, 30, 31, 32, 37, 38, 39, 40, 41, 42, 43, 44, 45, 46, 47, 48, 49, 50, 51, 52, 53, 54, 55, 56] (by decide +kernel) (by decide +kernel)
set_option maxRecDepth 20000 in
theorem gX8_many_X8_manyOf : GoodIn wsX8_many (wsV RX8 260 RX8 yX8_manyOf wsX8_manyOf) := goodIn_app (goodIn_of _ (by decide +kernel)) ggX8_many_X8_manyOf
set_option maxRecDepth 20000 in
theorem ggX8_many_X8_toFace : GoodIn wsX8_many wsX8_toFace := goodIn_r _ [35, 31, 36] (by decide +kernel) (by decide +kernel)
set_option maxRecDepth 20000 in
theorem gX8_many_X8_toFace : GoodIn wsX8_many (va_wsS RX8 225 yX8_toFace wsX8_toFace) := goodIn_app (goodIn_of _ (by decide +kernel)) ggX8_many_X8_toFace
theorem dX8_many_0 : decode cX8_many 0 = .ok (.aload_n 0, 1) := by decide +kernel
theorem dX8_many_1 : decode cX8_many 1 = .ok (.invokevirtual 260, 3) := by decide +kernel
theorem dX8_many_4 : decode cX8_many 4 = .ok (.invokestatic 225, 3) := by decide +kernel
theorem dX8_many_7 : decode cX8_many 7 = .ok (.lreturn, 1) := by decide +kernel
set_option maxRecDepth 20000 in
theorem ggX8_manyOf_X1_takeAll : GoodIn wsX8_manyOf wsX1_takeAll := goodIn_r _ [7, 8, 9, 10, 11, 12, 13, 14, 15, 16, 17, 18, 19, 39, 40, 41, 42, 43, 44, 45, 46, 47, 48] (by decide +kernel) (by decide +kernel)
set_option maxRecDepth 20000 in
theorem gX8_manyOf_X1_takeAll : GoodIn wsX8_manyOf (wsV RX8 263 RX1 yX1_takeAll wsX1_takeAll) := goodIn_app (goodIn_of _ (by decide +kernel)) ggX8_manyOf_X1_takeAll
set_option maxRecDepth 20000 in
theorem ggX8_manyOf_X1_slope : GoodIn wsX8_manyOf wsX1_slope := goodIn_r _ [23, 8, 9, 10, 24, 25, 26, 27, 28, 39, 40, 41] (by decide +kernel) (by decide +kernel)
set_option maxRecDepth 20000 in
theorem gX8_manyOf_X1_slope : GoodIn wsX8_manyOf (wsV RX8 266 RX1 yX1_slope wsX1_slope) := goodIn_app (goodIn_of _ (by decide +kernel)) ggX8_manyOf_X1_slope
theorem dX8_manyOf_0 : decode cX8_manyOf 0 = .ok (.aload_n 0, 1) := by decide +kernel
theorem dX8_manyOf_1 : decode cX8_manyOf 1 = .ok (.getfield 53, 3) := by decide +kernel
theorem dX8_manyOf_4 : decode cX8_manyOf 4 = .ok (.aload_n 0, 1) := by decide +kernel
theorem dX8_manyOf_5 : decode cX8_manyOf 5 = .ok (.getfield 29, 3) := by decide +kernel
theorem dX8_manyOf_8 : decode cX8_manyOf 8 = .ok (.invokevirtual 263, 3) := by decide +kernel
theorem dX8_manyOf_11 : decode cX8_manyOf 11 = .ok (.aload_n 0, 1) := by decide +kernel
theorem dX8_manyOf_12 : decode cX8_manyOf 12 = .ok (.getfield 53, 3) := by decide +kernel
theorem dX8_manyOf_15 : decode cX8_manyOf 15 = .ok (.invokevirtual 266, 3) := by decide +kernel
theorem dX8_manyOf_18 : decode cX8_manyOf 18 = .ok (.lreturn, 1) := by decide +kernel
set_option maxRecDepth 20000 in
theorem ggX8_groups_X1_takeAll : GoodIn wsX8_groups wsX1_takeAll := goodIn_r _ [7, 8, 9, 10, 11, 12, 13, 14, 15, 16, 17, 18, 19, 34, 35, 36, 37, 38, 39, 40, 41, 42, 43] (by decide +kernel) (by decide +kernel)
set_option maxRecDepth 20000 in
theorem gX8_groups_X1_takeAll : GoodIn wsX8_groups (wsV RX8 263 RX1 yX1_takeAll wsX1_takeAll) := goodIn_app (goodIn_of _ (by decide +kernel)) ggX8_groups_X1_takeAll
set_option maxRecDepth 20000 in
theorem ggX8_groups_X1_filled : GoodIn wsX8_groups wsX1_filled := goodIn_r _ [23, 8, 34, 35, 36] (by decide +kernel) (by decide +kernel)
set_option maxRecDepth 20000 in
theorem gX8_groups_X1_filled : GoodIn wsX8_groups (wsV RX8 269 RX1 yX1_filled wsX1_filled) := goodIn_app (goodIn_of _ (by decide +kernel)) ggX8_groups_X1_filled
theorem dX8_groups_0 : decode cX8_groups 0 = .ok (.aload_n 0, 1) := by decide +kernel
theorem dX8_groups_1 : decode cX8_groups 1 = .ok (.getfield 53, 3) := by decide +kernel
theorem dX8_groups_4 : decode cX8_groups 4 = .ok (.aload_n 0, 1) := by decide +kernel
theorem dX8_groups_5 : decode cX8_groups 5 = .ok (.getfield 29, 3) := by decide +kernel
theorem dX8_groups_8 : decode cX8_groups 8 = .ok (.invokevirtual 263, 3) := by decide +kernel
theorem dX8_groups_11 : decode cX8_groups 11 = .ok (.aload_n 0, 1) := by decide +kernel
theorem dX8_groups_12 : decode cX8_groups 12 = .ok (.getfield 53, 3) := by decide +kernel
theorem dX8_groups_15 : decode cX8_groups 15 = .ok (.invokevirtual 269, 3) := by decide +kernel
theorem dX8_groups_18 : decode cX8_groups 18 = .ok (.ireturn, 1) := by decide +kernel
set_option maxRecDepth 20000 in
theorem ggX8_moves_X8_divided : GoodIn wsX8_moves wsX8_divided := goodIn_r _ [8, 9, 10, 11, 12, 13, 14, 15, 16, 17, 18, 19, 20, 21, 22, 23, 24, 25, 26, 27, 28, 29, 7, 30, 31, 32, 33, 34, 35, 36, 37, 38, 39, 40, 41, 42, 43, 65, 66, 67, 68, 69, 70, 71, 72, 73, 74, 86, 87, 88, 89, 90, 91, 92, 75, 76, 77, 78, 79, 80, 81, 82, 83, 84, 85] (by decide +kernel) (by decide +kernel)
set_option maxRecDepth 20000 in
theorem gX8_moves_X8_divided : GoodIn wsX8_moves (wsV RX8 253 RX8 yX8_divided wsX8_divided) := goodIn_app (goodIn_of _ (by decide +kernel)) ggX8_moves_X8_divided
set_option maxRecDepth 20000 in
theorem ggX8_moves_X6_meanGap : GoodIn wsX8_moves wsX6_meanGap := goodIn_r _ [47, 17, 21, 48, 49, 50, 51, 15, 52, 53, 54, 55, 56, 57, 7, 58, 59, 60, 75, 76, 77, 78, 79, 80, 81, 82, 83, 84, 85] (by decide +kernel) (by decide +kernel)
set_option maxRecDepth 20000 in
theorem gX8_moves_X6_meanGap : GoodIn wsX8_moves (wsV RX8 276 RX6 yX6_meanGap wsX6_meanGap) := goodIn_app (goodIn_of _ (by decide +kernel)) ggX8_moves_X6_meanGap
set_option maxRecDepth 20000 in
theorem ggX8_moves_X8_toFace : GoodIn wsX8_moves wsX8_toFace := goodIn_r _ [63, 59, 64] (by decide +kernel) (by decide +kernel)
set_option maxRecDepth 20000 in
theorem gX8_moves_X8_toFace : GoodIn wsX8_moves (va_wsS RX8 225 yX8_toFace wsX8_toFace) := goodIn_app (goodIn_of _ (by decide +kernel)) ggX8_moves_X8_toFace
theorem dX8_moves_0 : decode cX8_moves 0 = .ok (.aload_n 0, 1) := by decide +kernel
theorem dX8_moves_1 : decode cX8_moves 1 = .ok (.aload_n 0, 1) := by decide +kernel
theorem dX8_moves_2 : decode cX8_moves 2 = .ok (.getfield 29, 3) := by decide +kernel
theorem dX8_moves_5 : decode cX8_moves 5 = .ok (.iload_n 1, 1) := by decide +kernel
theorem dX8_moves_6 : decode cX8_moves 6 = .ok (.invokevirtual 253, 3) := by decide +kernel
theorem dX8_moves_9 : decode cX8_moves 9 = .ok (.astore_n 2, 1) := by decide +kernel
theorem dX8_moves_10 : decode cX8_moves 10 = .ok (.aload_n 2, 1) := by decide +kernel
theorem dX8_moves_11 : decode cX8_moves 11 = .ok (.aload_n 2, 1) := by decide +kernel
theorem dX8_moves_12 : decode cX8_moves 12 = .ok (.getfield 242, 3) := by decide +kernel
theorem dX8_moves_15 : decode cX8_moves 15 = .ok (.aload_n 2, 1) := by decide +kernel
theorem dX8_moves_16 : decode cX8_moves 16 = .ok (.getfield 273, 3) := by decide +kernel
theorem dX8_moves_19 : decode cX8_moves 19 = .ok (.invokevirtual 276, 3) := by decide +kernel
theorem dX8_moves_22 : decode cX8_moves 22 = .ok (.invokestatic 225, 3) := by decide +kernel
theorem dX8_moves_25 : decode cX8_moves 25 = .ok (.lreturn, 1) := by decide +kernel
set_option maxRecDepth 20000 in
theorem ggX8_strong_X8_divided : GoodIn wsX8_strong wsX8_divided := goodIn_r _ [6, 7, 8, 9, 10, 11, 12, 13, 14, 15, 16, 17, 18, 19, 20, 21, 22, 23, 24, 25, 26, 27, 5, 28, 29, 30, 31, 32, 33, 34, 35, 36, 37, 38, 39, 40, 41, 72, 73, 74, 75, 76, 77, 78, 79, 80, 81, 82, 83, 84, 85, 86, 87, 88, 89, 90, 91, 92, 93, 94, 95, 96, 97, 98, 99] (by decide +kernel) (by decide +kernel)
set_option maxRecDepth 20000 in
theorem gX8_strong_X8_divided : GoodIn wsX8_strong (wsV RX8 253 RX8 yX8_divided wsX8_divided) := goodIn_app (goodIn_of _ (by decide +kernel)) ggX8_strong_X8_divided
set_option maxRecDepth 20000 in
theorem ggX8_strong_X6_strength : GoodIn wsX8_strong wsX6_strength := goodIn_r _ [45, 46, 16, 20, 23, 47, 48, 15, 19, 49, 50, 51, 52, 13, 53, 54, 55, 56, 57, 58, 59, 60, 61, 62, 63, 64, 65, 66, 89, 90, 91, 92, 93, 94, 95, 96, 97, 98, 99] (by decide +kernel) (by decide +kernel)
set_option maxRecDepth 20000 in
theorem gX8_strong_X6_strength : GoodIn wsX8_strong (wsV RX8 279 RX6 yX6_strength wsX6_strength) := goodIn_app (goodIn_of _ (by decide +kernel)) ggX8_strong_X6_strength
set_option maxRecDepth 20000 in
theorem ggX8_strong_X8_toFace : GoodIn wsX8_strong wsX8_toFace := goodIn_r _ [69, 70, 71] (by decide +kernel) (by decide +kernel)
set_option maxRecDepth 20000 in
theorem gX8_strong_X8_toFace : GoodIn wsX8_strong (va_wsS RX8 225 yX8_toFace wsX8_toFace) := goodIn_app (goodIn_of _ (by decide +kernel)) ggX8_strong_X8_toFace
theorem dX8_strong_0 : decode cX8_strong 0 = .ok (.aload_n 0, 1) := by decide +kernel
theorem dX8_strong_1 : decode cX8_strong 1 = .ok (.aload_n 0, 1) := by decide +kernel
theorem dX8_strong_2 : decode cX8_strong 2 = .ok (.getfield 29, 3) := by decide +kernel
theorem dX8_strong_5 : decode cX8_strong 5 = .ok (.iload_n 1, 1) := by decide +kernel
theorem dX8_strong_6 : decode cX8_strong 6 = .ok (.invokevirtual 253, 3) := by decide +kernel
theorem dX8_strong_9 : decode cX8_strong 9 = .ok (.invokevirtual 279, 3) := by decide +kernel
theorem dX8_strong_12 : decode cX8_strong 12 = .ok (.invokestatic 225, 3) := by decide +kernel
theorem dX8_strong_15 : decode cX8_strong 15 = .ok (.lreturn, 1) := by decide +kernel
set_option maxRecDepth 20000 in
theorem ggX8_strongest_X8_divided : GoodIn wsX8_strongest wsX8_divided := goodIn_r _ [7, 8, 9, 10, 11, 12, 13, 14, 15, 16, 17, 18, 19, 20, 21, 22, 23, 24, 25, 26, 27, 28, 6, 29, 30, 31, 32, 33, 34, 35, 36, 37, 38, 39, 40, 41, 42, 68, 69, 70, 71, 72, 73, 74, 75, 76, 77, 78, 79, 80, 81, 82, 83, 84, 85, 86, 87, 88, 89, 90, 91, 92, 93, 94, 95] (by decide +kernel) (by decide +kernel)
set_option maxRecDepth 20000 in
theorem gX8_strongest_X8_divided : GoodIn wsX8_strongest (wsV RX8 253 RX8 yX8_divided wsX8_divided) := goodIn_app (goodIn_of _ (by decide +kernel)) ggX8_strongest_X8_divided
set_option maxRecDepth 20000 in
theorem ggX8_strongest_X6_strength : GoodIn wsX8_strongest wsX6_strength := goodIn_r _ [46, 47, 17, 21, 24, 48, 49, 16, 20, 50, 51, 52, 53, 14, 54, 55, 56, 57, 58, 59, 60, 61, 62, 63, 64, 65, 66, 67, 85, 86, 87, 88, 89, 90, 91, 92, 93, 94, 95] (by decide +kernel) (by decide +kernel)
set_option maxRecDepth 20000 in
theorem gX8_strongest_X6_strength : GoodIn wsX8_strongest (wsV RX8 279 RX6 yX6_strength wsX6_strength) := goodIn_app (goodIn_of _ (by decide +kernel)) ggX8_strongest_X6_strength
theorem dX8_strongest_0 : decode cX8_strongest 0 = .ok (.iconst (-1), 1) := by decide +kernel
theorem dX8_strongest_1 : decode cX8_strongest 1 = .ok (.istore_n 1, 1) := by decide +kernel
theorem dX8_strongest_2 : decode cX8_strongest 2 = .ok (.ldc2_w 282, 3) := by decide +kernel
theorem dX8_strongest_5 : decode cX8_strongest 5 = .ok (.lstore_n 2, 1) := by decide +kernel
theorem dX8_strongest_6 : decode cX8_strongest 6 = .ok (.iconst 1, 1) := by decide +kernel
theorem dX8_strongest_7 : decode cX8_strongest 7 = .ok (.istore 4, 2) := by decide +kernel
theorem dX8_strongest_9 : decode cX8_strongest 9 = .ok (.iload 4, 2) := by decide +kernel
theorem dX8_strongest_11 : decode cX8_strongest 11 = .ok (.bipush 12, 2) := by decide +kernel
theorem dX8_strongest_13 : decode cX8_strongest 13 = .ok (.if_icmp .gt 41, 3) := by decide +kernel
theorem dX8_strongest_16 : decode cX8_strongest 16 = .ok (.aload_n 0, 1) := by decide +kernel
theorem dX8_strongest_17 : decode cX8_strongest 17 = .ok (.aload_n 0, 1) := by decide +kernel
theorem dX8_strongest_18 : decode cX8_strongest 18 = .ok (.getfield 29, 3) := by decide +kernel
theorem dX8_strongest_21 : decode cX8_strongest 21 = .ok (.iconst 1, 1) := by decide +kernel
theorem dX8_strongest_22 : decode cX8_strongest 22 = .ok (.iload 4, 2) := by decide +kernel
theorem dX8_strongest_24 : decode cX8_strongest 24 = .ok (.iconst 1, 1) := by decide +kernel
theorem dX8_strongest_25 : decode cX8_strongest 25 = .ok (.isub, 1) := by decide +kernel
theorem dX8_strongest_26 : decode cX8_strongest 26 = .ok (.ishl, 1) := by decide +kernel
theorem dX8_strongest_27 : decode cX8_strongest 27 = .ok (.invokevirtual 253, 3) := by decide +kernel
theorem dX8_strongest_30 : decode cX8_strongest 30 = .ok (.invokevirtual 279, 3) := by decide +kernel
theorem dX8_strongest_33 : decode cX8_strongest 33 = .ok (.lstore 5, 2) := by decide +kernel
theorem dX8_strongest_35 : decode cX8_strongest 35 = .ok (.lload 5, 2) := by decide +kernel
theorem dX8_strongest_37 : decode cX8_strongest 37 = .ok (.lload_n 2, 1) := by decide +kernel
theorem dX8_strongest_38 : decode cX8_strongest 38 = .ok (.lcmp, 1) := by decide +kernel
theorem dX8_strongest_39 : decode cX8_strongest 39 = .ok (.ifCond .le 9, 3) := by decide +kernel
theorem dX8_strongest_42 : decode cX8_strongest 42 = .ok (.lload 5, 2) := by decide +kernel
theorem dX8_strongest_44 : decode cX8_strongest 44 = .ok (.lstore_n 2, 1) := by decide +kernel
theorem dX8_strongest_45 : decode cX8_strongest 45 = .ok (.iload 4, 2) := by decide +kernel
theorem dX8_strongest_47 : decode cX8_strongest 47 = .ok (.istore_n 1, 1) := by decide +kernel
theorem dX8_strongest_48 : decode cX8_strongest 48 = .ok (.iinc 4 1, 3) := by decide +kernel
theorem dX8_strongest_51 : decode cX8_strongest 51 = .ok (.goto (-42), 3) := by decide +kernel
theorem dX8_strongest_54 : decode cX8_strongest 54 = .ok (.iload_n 1, 1) := by decide +kernel
theorem dX8_strongest_55 : decode cX8_strongest 55 = .ok (.ireturn, 1) := by decide +kernel
set_option maxRecDepth 20000 in
theorem ggX8_span_X8_within : GoodIn wsX8_span wsX8_within := goodIn_r _ [6] (by decide +kernel) (by decide +kernel)
set_option maxRecDepth 20000 in
theorem gX8_span_X8_within : GoodIn wsX8_span (va_wsS RX8 105 yX8_within wsX8_within) := goodIn_app (goodIn_of _ (by decide +kernel)) ggX8_span_X8_within
set_option maxRecDepth 20000 in
theorem ggX8_span_X8_divided : GoodIn wsX8_span wsX8_divided := goodIn_r _ [10, 11, 12, 13, 14, 15, 16, 17, 18, 19, 20, 21, 22, 23, 24, 25, 26, 27, 28, 29, 30, 31, 5, 32, 3, 4, 6, 33, 34, 35, 36, 37, 38, 39, 40, 41, 42, 100, 101, 102, 103, 104, 105, 106, 107, 108, 109, 110, 111, 112, 113, 114, 115, 116, 117, 118, 119, 120, 121, 122, 123, 124, 125, 126, 127] (by decide +kernel) (by decide +kernel)
set_option maxRecDepth 20000 in
theorem gX8_span_X8_divided : GoodIn wsX8_span (wsV RX8 253 RX8 yX8_divided wsX8_divided) := goodIn_app (goodIn_of _ (by decide +kernel)) ggX8_span_X8_divided
set_option maxRecDepth 20000 in
theorem ggX8_span_X6_hasSpan : GoodIn wsX8_span wsX6_hasSpan := goodIn_r _ [46, 19, 23, 47, 48, 49, 50, 17, 51, 117, 118, 119, 120, 121, 122, 123, 124, 125, 126, 127] (by decide +kernel) (by decide +kernel)
set_option maxRecDepth 20000 in
theorem gX8_span_X6_hasSpan : GoodIn wsX8_span (wsV RX8 284 RX6 yX6_hasSpan wsX6_hasSpan) := goodIn_app (goodIn_of _ (by decide +kernel)) ggX8_span_X6_hasSpan
set_option maxRecDepth 20000 in
theorem ggX8_span_X6_trueSpan : GoodIn wsX8_span wsX6_trueSpan := goodIn_r _ [55, 56, 57, 58, 17, 59, 60, 61, 62, 63, 64, 65, 66, 67, 68, 69, 70, 71, 72, 73, 20, 24, 74, 21, 25, 19, 23, 75, 76, 77, 78, 48, 49, 50, 51, 79, 80, 81, 82, 29, 83, 28, 27, 84, 85, 86, 87, 88, 89, 90, 91, 92, 93, 94, 95, 96, 97, 98, 99, 117, 118, 119, 120, 121, 122, 123, 124, 125, 126, 127] (by decide +kernel) (by decide +kernel)
set_option maxRecDepth 20000 in
theorem gX8_span_X6_trueSpan : GoodIn wsX8_span (wsV RX8 287 RX6 yX6_trueSpan wsX6_trueSpan) := goodIn_app (goodIn_of _ (by decide +kernel)) ggX8_span_X6_trueSpan
theorem dX8_span_0 : decode cX8_span 0 = .ok (.iload_n 2, 1) := by decide +kernel
theorem dX8_span_1 : decode cX8_span 1 = .ok (.iconst 1, 1) := by decide +kernel
theorem dX8_span_2 : decode cX8_span 2 = .ok (.bipush 10, 2) := by decide +kernel
theorem dX8_span_4 : decode cX8_span 4 = .ok (.invokestatic 105, 3) := by decide +kernel
theorem dX8_span_7 : decode cX8_span 7 = .ok (.ifCond .eq 12, 3) := by decide +kernel
theorem dX8_span_10 : decode cX8_span 10 = .ok (.iload_n 3, 1) := by decide +kernel
theorem dX8_span_11 : decode cX8_span 11 = .ok (.iconst 0, 1) := by decide +kernel
theorem dX8_span_12 : decode cX8_span 12 = .ok (.iconst 3, 1) := by decide +kernel
theorem dX8_span_13 : decode cX8_span 13 = .ok (.invokestatic 105, 3) := by decide +kernel
theorem dX8_span_16 : decode cX8_span 16 = .ok (.ifCond .ne 6, 3) := by decide +kernel
theorem dX8_span_19 : decode cX8_span 19 = .ok (.ldc 214, 2) := by decide +kernel
theorem dX8_span_21 : decode cX8_span 21 = .ok (.ireturn, 1) := by decide +kernel
theorem dX8_span_22 : decode cX8_span 22 = .ok (.aload_n 0, 1) := by decide +kernel
theorem dX8_span_23 : decode cX8_span 23 = .ok (.aload_n 0, 1) := by decide +kernel
theorem dX8_span_24 : decode cX8_span 24 = .ok (.getfield 29, 3) := by decide +kernel
theorem dX8_span_27 : decode cX8_span 27 = .ok (.iload_n 1, 1) := by decide +kernel
theorem dX8_span_28 : decode cX8_span 28 = .ok (.invokevirtual 253, 3) := by decide +kernel
theorem dX8_span_31 : decode cX8_span 31 = .ok (.astore 4, 2) := by decide +kernel
theorem dX8_span_33 : decode cX8_span 33 = .ok (.aload 4, 2) := by decide +kernel
theorem dX8_span_35 : decode cX8_span 35 = .ok (.invokevirtual 284, 3) := by decide +kernel
theorem dX8_span_38 : decode cX8_span 38 = .ok (.ifCond .eq 13, 3) := by decide +kernel
theorem dX8_span_41 : decode cX8_span 41 = .ok (.aload 4, 2) := by decide +kernel
theorem dX8_span_43 : decode cX8_span 43 = .ok (.iload_n 2, 1) := by decide +kernel
theorem dX8_span_44 : decode cX8_span 44 = .ok (.iload_n 3, 1) := by decide +kernel
theorem dX8_span_45 : decode cX8_span 45 = .ok (.invokevirtual 287, 3) := by decide +kernel
theorem dX8_span_48 : decode cX8_span 48 = .ok (.goto 5, 3) := by decide +kernel
theorem dX8_span_51 : decode cX8_span 51 = .ok (.ldc 214, 2) := by decide +kernel
theorem dX8_span_53 : decode cX8_span 53 = .ok (.ireturn, 1) := by decide +kernel
set_option maxRecDepth 20000 in
theorem ggX8_usual_X8_within : GoodIn wsX8_usual wsX8_within := goodIn_r _ [6] (by decide +kernel) (by decide +kernel)
set_option maxRecDepth 20000 in
theorem gX8_usual_X8_within : GoodIn wsX8_usual (va_wsS RX8 105 yX8_within wsX8_within) := goodIn_app (goodIn_of _ (by decide +kernel)) ggX8_usual_X8_within
set_option maxRecDepth 20000 in
theorem ggX8_usual_X8_divided : GoodIn wsX8_usual wsX8_divided := goodIn_r _ [10, 11, 12, 13, 14, 15, 16, 17, 18, 19, 20, 21, 22, 23, 24, 25, 26, 27, 28, 29, 30, 31, 5, 32, 3, 4, 6, 33, 34, 35, 36, 37, 38, 39, 40, 41, 42, 106, 107, 108, 109, 110, 111, 112, 113, 114, 115, 116, 117, 118, 119, 120, 121, 122, 123, 124, 125, 126, 127, 128, 129, 130, 131, 132, 133] (by decide +kernel) (by decide +kernel)
set_option maxRecDepth 20000 in
theorem gX8_usual_X8_divided : GoodIn wsX8_usual (wsV RX8 253 RX8 yX8_divided wsX8_divided) := goodIn_app (goodIn_of _ (by decide +kernel)) ggX8_usual_X8_divided
set_option maxRecDepth 20000 in
theorem ggX8_usual_X6_hasUsualSpan : GoodIn wsX8_usual wsX6_hasUsualSpan := goodIn_r _ [46, 47, 48, 49, 50, 51, 52, 53, 17, 54, 55, 56, 57, 58, 20, 24, 21, 25, 19, 23, 59, 60, 61, 62, 63, 64, 65, 66, 67, 68, 69, 70, 71, 123, 124, 125, 126, 127, 128, 129, 130, 131, 132, 133] (by decide +kernel) (by decide +kernel)
set_option maxRecDepth 20000 in
theorem gX8_usual_X6_hasUsualSpan : GoodIn wsX8_usual (wsV RX8 290 RX6 yX6_hasUsualSpan wsX6_hasUsualSpan) := goodIn_app (goodIn_of _ (by decide +kernel)) ggX8_usual_X6_hasUsualSpan
set_option maxRecDepth 20000 in
theorem ggX8_usual_X6_usualSpan : GoodIn wsX8_usual wsX6_usualSpan := goodIn_r _ [75, 76, 77, 78, 17, 79, 80, 81, 82, 83, 84, 48, 51, 52, 53, 54, 55, 56, 57, 58, 20, 24, 47, 21, 25, 19, 23, 59, 60, 61, 62, 63, 64, 65, 66, 85, 86, 87, 88, 29, 89, 28, 27, 90, 91, 92, 93, 94, 95, 96, 97, 98, 99, 100, 101, 102, 103, 104, 105, 123, 124, 125, 126, 127, 128, 129, 130, 131, 132, 133] (by decide +kernel) (by decide +kernel)
set_option maxRecDepth 20000 in
theorem gX8_usual_X6_usualSpan : GoodIn wsX8_usual (wsV RX8 293 RX6 yX6_usualSpan wsX6_usualSpan) := goodIn_app (goodIn_of _ (by decide +kernel)) ggX8_usual_X6_usualSpan
theorem dX8_usual_0 : decode cX8_usual 0 = .ok (.iload_n 2, 1) := by decide +kernel
theorem dX8_usual_1 : decode cX8_usual 1 = .ok (.iconst 1, 1) := by decide +kernel
theorem dX8_usual_2 : decode cX8_usual 2 = .ok (.bipush 10, 2) := by decide +kernel
theorem dX8_usual_4 : decode cX8_usual 4 = .ok (.invokestatic 105, 3) := by decide +kernel
theorem dX8_usual_7 : decode cX8_usual 7 = .ok (.ifCond .eq 12, 3) := by decide +kernel
theorem dX8_usual_10 : decode cX8_usual 10 = .ok (.iload_n 3, 1) := by decide +kernel
theorem dX8_usual_11 : decode cX8_usual 11 = .ok (.iconst 0, 1) := by decide +kernel
theorem dX8_usual_12 : decode cX8_usual 12 = .ok (.iconst 3, 1) := by decide +kernel
theorem dX8_usual_13 : decode cX8_usual 13 = .ok (.invokestatic 105, 3) := by decide +kernel
theorem dX8_usual_16 : decode cX8_usual 16 = .ok (.ifCond .ne 6, 3) := by decide +kernel
theorem dX8_usual_19 : decode cX8_usual 19 = .ok (.ldc 214, 2) := by decide +kernel
theorem dX8_usual_21 : decode cX8_usual 21 = .ok (.ireturn, 1) := by decide +kernel
theorem dX8_usual_22 : decode cX8_usual 22 = .ok (.aload_n 0, 1) := by decide +kernel
theorem dX8_usual_23 : decode cX8_usual 23 = .ok (.aload_n 0, 1) := by decide +kernel
theorem dX8_usual_24 : decode cX8_usual 24 = .ok (.getfield 29, 3) := by decide +kernel
theorem dX8_usual_27 : decode cX8_usual 27 = .ok (.iload_n 1, 1) := by decide +kernel
theorem dX8_usual_28 : decode cX8_usual 28 = .ok (.invokevirtual 253, 3) := by decide +kernel
theorem dX8_usual_31 : decode cX8_usual 31 = .ok (.astore 4, 2) := by decide +kernel
theorem dX8_usual_33 : decode cX8_usual 33 = .ok (.aload 4, 2) := by decide +kernel
theorem dX8_usual_35 : decode cX8_usual 35 = .ok (.invokevirtual 290, 3) := by decide +kernel
theorem dX8_usual_38 : decode cX8_usual 38 = .ok (.ifCond .eq 13, 3) := by decide +kernel
theorem dX8_usual_41 : decode cX8_usual 41 = .ok (.aload 4, 2) := by decide +kernel
theorem dX8_usual_43 : decode cX8_usual 43 = .ok (.iload_n 2, 1) := by decide +kernel
theorem dX8_usual_44 : decode cX8_usual 44 = .ok (.iload_n 3, 1) := by decide +kernel
theorem dX8_usual_45 : decode cX8_usual 45 = .ok (.invokevirtual 293, 3) := by decide +kernel
theorem dX8_usual_48 : decode cX8_usual 48 = .ok (.goto 5, 3) := by decide +kernel
theorem dX8_usual_51 : decode cX8_usual 51 = .ok (.ldc 214, 2) := by decide +kernel
theorem dX8_usual_53 : decode cX8_usual 53 = .ok (.ireturn, 1) := by decide +kernel
set_option maxRecDepth 20000 in
theorem ggX8_kept_X8_within : GoodIn wsX8_kept wsX8_within := goodIn_r _ [5] (by decide +kernel) (by decide +kernel)
set_option maxRecDepth 20000 in
theorem gX8_kept_X8_within : GoodIn wsX8_kept (va_wsS RX8 105 yX8_within wsX8_within) := goodIn_app (goodIn_of _ (by decide +kernel)) ggX8_kept_X8_within
set_option maxRecDepth 20000 in
theorem ggX8_kept_X8_divided : GoodIn wsX8_kept wsX8_divided := goodIn_r _ [9, 10, 11, 12, 13, 14, 15, 16, 17, 18, 19, 20, 21, 22, 23, 24, 25, 26, 27, 28, 29, 30, 4, 31, 2, 3, 5, 32, 33, 34, 35, 36, 37, 38, 39, 40, 41, 76, 77, 78, 79, 80, 81, 82, 83, 84, 85, 86, 87, 88, 89, 90, 91, 92, 93, 94, 95, 96, 97, 98, 99, 100, 101, 102, 103] (by decide +kernel) (by decide +kernel)
set_option maxRecDepth 20000 in
theorem gX8_kept_X8_divided : GoodIn wsX8_kept (wsV RX8 253 RX8 yX8_divided wsX8_divided) := goodIn_app (goodIn_of _ (by decide +kernel)) ggX8_kept_X8_divided
set_option maxRecDepth 20000 in
theorem ggX8_kept_X6_hasSpan : GoodIn wsX8_kept wsX6_hasSpan := goodIn_r _ [45, 18, 22, 46, 47, 48, 49, 16, 50, 93, 94, 95, 96, 97, 98, 99, 100, 101, 102, 103] (by decide +kernel) (by decide +kernel)
set_option maxRecDepth 20000 in
theorem gX8_kept_X6_hasSpan : GoodIn wsX8_kept (wsV RX8 284 RX6 yX6_hasSpan wsX6_hasSpan) := goodIn_app (goodIn_of _ (by decide +kernel)) ggX8_kept_X6_hasSpan
set_option maxRecDepth 20000 in
theorem ggX8_kept_X6_inTrueSpan : GoodIn wsX8_kept wsX6_inTrueSpan := goodIn_r _ [54, 55, 56, 57, 16, 58, 28, 59, 27, 26, 20, 19, 24, 23, 60, 61, 62, 63, 18, 22, 64, 65, 66, 67, 68, 69, 70, 71, 72, 73, 74, 75, 93, 94, 95, 96, 97, 98, 99, 100, 101, 102, 103] (by decide +kernel) (by decide +kernel)
set_option maxRecDepth 20000 in
theorem gX8_kept_X6_inTrueSpan : GoodIn wsX8_kept (wsV RX8 296 RX6 yX6_inTrueSpan wsX6_inTrueSpan) := goodIn_app (goodIn_of _ (by decide +kernel)) ggX8_kept_X6_inTrueSpan
theorem dX8_kept_0 : decode cX8_kept 0 = .ok (.iload_n 2, 1) := by decide +kernel
theorem dX8_kept_1 : decode cX8_kept 1 = .ok (.iconst 1, 1) := by decide +kernel
theorem dX8_kept_2 : decode cX8_kept 2 = .ok (.bipush 10, 2) := by decide +kernel
theorem dX8_kept_4 : decode cX8_kept 4 = .ok (.invokestatic 105, 3) := by decide +kernel
theorem dX8_kept_7 : decode cX8_kept 7 = .ok (.ifCond .eq 14, 3) := by decide +kernel
theorem dX8_kept_10 : decode cX8_kept 10 = .ok (.iload_n 3, 1) := by decide +kernel
theorem dX8_kept_11 : decode cX8_kept 11 = .ok (.bipush (-99), 2) := by decide +kernel
theorem dX8_kept_13 : decode cX8_kept 13 = .ok (.bipush 99, 2) := by decide +kernel
theorem dX8_kept_15 : decode cX8_kept 15 = .ok (.invokestatic 105, 3) := by decide +kernel
theorem dX8_kept_18 : decode cX8_kept 18 = .ok (.ifCond .ne 6, 3) := by decide +kernel
theorem dX8_kept_21 : decode cX8_kept 21 = .ok (.bipush (-2), 2) := by decide +kernel
theorem dX8_kept_23 : decode cX8_kept 23 = .ok (.ireturn, 1) := by decide +kernel
theorem dX8_kept_24 : decode cX8_kept 24 = .ok (.aload_n 0, 1) := by decide +kernel
theorem dX8_kept_25 : decode cX8_kept 25 = .ok (.aload_n 0, 1) := by decide +kernel
theorem dX8_kept_26 : decode cX8_kept 26 = .ok (.getfield 29, 3) := by decide +kernel
theorem dX8_kept_29 : decode cX8_kept 29 = .ok (.iload_n 1, 1) := by decide +kernel
theorem dX8_kept_30 : decode cX8_kept 30 = .ok (.invokevirtual 253, 3) := by decide +kernel
theorem dX8_kept_33 : decode cX8_kept 33 = .ok (.astore 4, 2) := by decide +kernel
theorem dX8_kept_35 : decode cX8_kept 35 = .ok (.aload 4, 2) := by decide +kernel
theorem dX8_kept_37 : decode cX8_kept 37 = .ok (.invokevirtual 284, 3) := by decide +kernel
theorem dX8_kept_40 : decode cX8_kept 40 = .ok (.ifCond .ne 6, 3) := by decide +kernel
theorem dX8_kept_43 : decode cX8_kept 43 = .ok (.bipush (-2), 2) := by decide +kernel
theorem dX8_kept_45 : decode cX8_kept 45 = .ok (.ireturn, 1) := by decide +kernel
theorem dX8_kept_46 : decode cX8_kept 46 = .ok (.aload 4, 2) := by decide +kernel
theorem dX8_kept_48 : decode cX8_kept 48 = .ok (.iload_n 3, 1) := by decide +kernel
theorem dX8_kept_49 : decode cX8_kept 49 = .ok (.i2l, 1) := by decide +kernel
theorem dX8_kept_50 : decode cX8_kept 50 = .ok (.iload_n 2, 1) := by decide +kernel
theorem dX8_kept_51 : decode cX8_kept 51 = .ok (.invokevirtual 296, 3) := by decide +kernel
theorem dX8_kept_54 : decode cX8_kept 54 = .ok (.ifCond .eq 7, 3) := by decide +kernel
theorem dX8_kept_57 : decode cX8_kept 57 = .ok (.iconst 1, 1) := by decide +kernel
theorem dX8_kept_58 : decode cX8_kept 58 = .ok (.goto 4, 3) := by decide +kernel
theorem dX8_kept_61 : decode cX8_kept 61 = .ok (.iconst 0, 1) := by decide +kernel
theorem dX8_kept_62 : decode cX8_kept 62 = .ok (.ireturn, 1) := by decide +kernel
set_option maxRecDepth 20000 in
theorem ggX8_hats_X8_isSeed : GoodIn wsX8_hats wsX8_isSeed := goodIn_r _ [7, 8, 9, 10, 6, 11] (by decide +kernel) (by decide +kernel)
set_option maxRecDepth 20000 in
theorem gX8_hats_X8_isSeed : GoodIn wsX8_hats (va_wsS RX8 113 yX8_isSeed wsX8_isSeed) := goodIn_app (goodIn_of _ (by decide +kernel)) ggX8_hats_X8_isSeed
set_option maxRecDepth 20000 in
theorem ggX8_hats_X8_within : GoodIn wsX8_hats wsX8_within := goodIn_r _ [11] (by decide +kernel) (by decide +kernel)
set_option maxRecDepth 20000 in
theorem gX8_hats_X8_within : GoodIn wsX8_hats (va_wsS RX8 105 yX8_within wsX8_within) := goodIn_app (goodIn_of _ (by decide +kernel)) ggX8_hats_X8_within
set_option maxRecDepth 20000 in
theorem ggX8_hats_X8_plainOf : GoodIn wsX8_hats wsX8_plainOf := goodIn_r _ [15, 16, 17, 18, 19, 20, 21, 22, 23, 24, 25, 26, 27, 28, 29, 30, 31, 32, 33, 34, 35, 36, 37, 38, 39, 40, 41, 42, 43, 44, 45, 46, 47, 48, 6, 49, 1, 50, 128, 129, 130, 131, 132, 133, 134, 135, 136, 137, 138, 139, 140, 141, 142, 143, 144, 145, 146, 147, 148, 149, 150, 151, 152, 153, 154, 155] (by decide +kernel) (by decide +kernel)
set_option maxRecDepth 20000 in
theorem gX8_hats_X8_plainOf : GoodIn wsX8_hats (wsV RX8 221 RX8 yX8_plainOf wsX8_plainOf) := goodIn_app (goodIn_of _ (by decide +kernel)) ggX8_hats_X8_plainOf
set_option maxRecDepth 20000 in
theorem ggX8_hats_X0_from : GoodIn wsX8_hats wsX0_from := goodIn_r _ [55, 56, 156] (by decide +kernel) (by decide +kernel)
set_option maxRecDepth 20000 in
theorem gX8_hats_X0_from : GoodIn wsX8_hats (wsV RX8 124 RX0 yX0_from wsX0_from) := goodIn_app (goodIn_of _ (by decide +kernel)) ggX8_hats_X0_from
set_option maxRecDepth 20000 in
theorem ggX8_hats_X8_drawHat : GoodIn wsX8_hats wsX8_drawHat := goodIn_r _ [60, 16, 17, 18, 3, 24, 25, 26, 27, 28, 29, 30, 31, 32, 33, 34, 35, 36, 37, 38, 39, 61, 62, 63, 54, 64, 65, 56, 66, 67, 68, 40, 41, 42, 43, 44, 45, 46, 128, 129, 130, 131, 132, 133, 134, 135, 136, 137, 138, 139, 140, 141, 142, 143, 144, 145, 146, 147, 148, 149, 150, 151, 152, 153, 154, 155, 156] (by decide +kernel) (by decide +kernel)
set_option maxRecDepth 20000 in
theorem gX8_hats_X8_drawHat : GoodIn wsX8_hats (wsV RX8 300 RX8 yX8_drawHat wsX8_drawHat) := goodIn_app (goodIn_of _ (by decide +kernel)) ggX8_hats_X8_drawHat
set_option maxRecDepth 20000 in
theorem ggX8_hats_X8_hatCounts : GoodIn wsX8_hats wsX8_hatCounts := goodIn_r _ [72, 16, 1, 73, 74, 75, 76, 50, 77, 78, 79, 27, 80, 81, 82, 83, 84, 30, 34, 85, 86, 31, 35, 29, 33, 87, 88, 89, 90, 91, 92, 93, 94, 95, 96, 97, 98, 99, 100, 101, 102, 103, 104, 105, 106, 107, 108, 109, 110, 111, 112, 113, 114, 39, 115, 38, 37, 116, 117, 118, 119, 120, 121, 122, 123, 124, 125, 126, 127, 128, 129, 130, 131, 132, 133, 134, 135, 136, 137, 145, 146, 147, 148, 149, 150, 151, 152, 153, 154, 155] (by decide +kernel) (by decide +kernel)
set_option maxRecDepth 20000 in
theorem gX8_hats_X8_hatCounts : GoodIn wsX8_hats (wsV RX8 303 RX8 yX8_hatCounts wsX8_hatCounts) := goodIn_app (goodIn_of _ (by decide +kernel)) ggX8_hats_X8_hatCounts
theorem dX8_hats_0 : decode cX8_hats 0 = .ok (.iload_n 1, 1) := by decide +kernel
theorem dX8_hats_1 : decode cX8_hats 1 = .ok (.invokestatic 113, 3) := by decide +kernel
theorem dX8_hats_4 : decode cX8_hats 4 = .ok (.ifCond .eq 13, 3) := by decide +kernel
theorem dX8_hats_7 : decode cX8_hats 7 = .ok (.iload_n 2, 1) := by decide +kernel
theorem dX8_hats_8 : decode cX8_hats 8 = .ok (.iconst 1, 1) := by decide +kernel
theorem dX8_hats_9 : decode cX8_hats 9 = .ok (.bipush 40, 2) := by decide +kernel
theorem dX8_hats_11 : decode cX8_hats 11 = .ok (.invokestatic 105, 3) := by decide +kernel
theorem dX8_hats_14 : decode cX8_hats 14 = .ok (.ifCond .ne 6, 3) := by decide +kernel
theorem dX8_hats_17 : decode cX8_hats 17 = .ok (.bipush (-2), 2) := by decide +kernel
theorem dX8_hats_19 : decode cX8_hats 19 = .ok (.ireturn, 1) := by decide +kernel
theorem dX8_hats_20 : decode cX8_hats 20 = .ok (.iload_n 3, 1) := by decide +kernel
theorem dX8_hats_21 : decode cX8_hats 21 = .ok (.iconst 1, 1) := by decide +kernel
theorem dX8_hats_22 : decode cX8_hats 22 = .ok (.bipush 10, 2) := by decide +kernel
theorem dX8_hats_24 : decode cX8_hats 24 = .ok (.invokestatic 105, 3) := by decide +kernel
theorem dX8_hats_27 : decode cX8_hats 27 = .ok (.ifCond .eq 13, 3) := by decide +kernel
theorem dX8_hats_30 : decode cX8_hats 30 = .ok (.iload 4, 2) := by decide +kernel
theorem dX8_hats_32 : decode cX8_hats 32 = .ok (.iconst 0, 1) := by decide +kernel
theorem dX8_hats_33 : decode cX8_hats 33 = .ok (.iconst 2, 1) := by decide +kernel
theorem dX8_hats_34 : decode cX8_hats 34 = .ok (.invokestatic 105, 3) := by decide +kernel
theorem dX8_hats_37 : decode cX8_hats 37 = .ok (.ifCond .ne 6, 3) := by decide +kernel
theorem dX8_hats_40 : decode cX8_hats 40 = .ok (.bipush (-2), 2) := by decide +kernel
theorem dX8_hats_42 : decode cX8_hats 42 = .ok (.ireturn, 1) := by decide +kernel
theorem dX8_hats_43 : decode cX8_hats 43 = .ok (.aload_n 0, 1) := by decide +kernel
theorem dX8_hats_44 : decode cX8_hats 44 = .ok (.invokevirtual 221, 3) := by decide +kernel
theorem dX8_hats_47 : decode cX8_hats 47 = .ok (.lstore 5, 2) := by decide +kernel
theorem dX8_hats_49 : decode cX8_hats 49 = .ok (.iload 4, 2) := by decide +kernel
theorem dX8_hats_51 : decode cX8_hats 51 = .ok (.iconst 1, 1) := by decide +kernel
theorem dX8_hats_52 : decode cX8_hats 52 = .ok (.if_icmp .ne 15, 3) := by decide +kernel
theorem dX8_hats_55 : decode cX8_hats 55 = .ok (.lload 5, 2) := by decide +kernel
theorem dX8_hats_57 : decode cX8_hats 57 = .ok (.ldc2_w 282, 3) := by decide +kernel
theorem dX8_hats_60 : decode cX8_hats 60 = .ok (.lcmp, 1) := by decide +kernel
theorem dX8_hats_61 : decode cX8_hats 61 = .ok (.ifCond .ne 6, 3) := by decide +kernel
theorem dX8_hats_64 : decode cX8_hats 64 = .ok (.ldc 214, 2) := by decide +kernel
theorem dX8_hats_66 : decode cX8_hats 66 = .ok (.ireturn, 1) := by decide +kernel
theorem dX8_hats_67 : decode cX8_hats 67 = .ok (.aload_n 0, 1) := by decide +kernel
theorem dX8_hats_68 : decode cX8_hats 68 = .ok (.getfield 39, 3) := by decide +kernel
theorem dX8_hats_71 : decode cX8_hats 71 = .ok (.iload_n 1, 1) := by decide +kernel
theorem dX8_hats_72 : decode cX8_hats 72 = .ok (.invokevirtual 124, 3) := by decide +kernel
theorem dX8_hats_75 : decode cX8_hats 75 = .ok (.iconst 0, 1) := by decide +kernel
theorem dX8_hats_76 : decode cX8_hats 76 = .ok (.istore 7, 2) := by decide +kernel
theorem dX8_hats_78 : decode cX8_hats 78 = .ok (.iconst 0, 1) := by decide +kernel
theorem dX8_hats_79 : decode cX8_hats 79 = .ok (.istore 8, 2) := by decide +kernel
theorem dX8_hats_81 : decode cX8_hats 81 = .ok (.iload 8, 2) := by decide +kernel
theorem dX8_hats_83 : decode cX8_hats 83 = .ok (.iload_n 2, 1) := by decide +kernel
theorem dX8_hats_84 : decode cX8_hats 84 = .ok (.if_icmp .ge 28, 3) := by decide +kernel
theorem dX8_hats_87 : decode cX8_hats 87 = .ok (.aload_n 0, 1) := by decide +kernel
theorem dX8_hats_88 : decode cX8_hats 88 = .ok (.invokevirtual 300, 3) := by decide +kernel
theorem dX8_hats_91 : decode cX8_hats 91 = .ok (.aload_n 0, 1) := by decide +kernel
theorem dX8_hats_92 : decode cX8_hats 92 = .ok (.iload_n 3, 1) := by decide +kernel
theorem dX8_hats_93 : decode cX8_hats 93 = .ok (.iload 4, 2) := by decide +kernel
theorem dX8_hats_95 : decode cX8_hats 95 = .ok (.lload 5, 2) := by decide +kernel
theorem dX8_hats_97 : decode cX8_hats 97 = .ok (.invokevirtual 303, 3) := by decide +kernel
theorem dX8_hats_100 : decode cX8_hats 100 = .ok (.ifCond .eq 6, 3) := by decide +kernel
theorem dX8_hats_103 : decode cX8_hats 103 = .ok (.iinc 7 1, 3) := by decide +kernel
theorem dX8_hats_106 : decode cX8_hats 106 = .ok (.iinc 8 1, 3) := by decide +kernel
theorem dX8_hats_109 : decode cX8_hats 109 = .ok (.goto (-28), 3) := by decide +kernel
theorem dX8_hats_112 : decode cX8_hats 112 = .ok (.iload 7, 2) := by decide +kernel
theorem dX8_hats_114 : decode cX8_hats 114 = .ok (.ireturn, 1) := by decide +kernel
set_option maxRecDepth 20000 in
theorem ggX8_drawHat_X6_clear : GoodIn wsX8_drawHat wsX6_clear := goodIn_r _ [9, 10, 11, 12, 13, 14, 15, 16, 17, 18, 19, 20, 55, 56, 57, 58, 59, 60, 61, 62, 63, 64, 65] (by decide +kernel) (by decide +kernel)
set_option maxRecDepth 20000 in
theorem gX8_drawHat_X6_clear : GoodIn wsX8_drawHat (wsV RX8 229 RX6 yX6_clear wsX6_clear) := goodIn_app (goodIn_of _ (by decide +kernel)) ggX8_drawHat_X6_clear
set_option maxRecDepth 20000 in
theorem ggX8_drawHat_X0_of : GoodIn wsX8_drawHat wsX0_of := goodIn_r _ [25, 26, 27, 28, 29, 30, 66] (by decide +kernel) (by decide +kernel)
set_option maxRecDepth 20000 in
theorem gX8_drawHat_X0_of : GoodIn wsX8_drawHat (wsV RX8 137 RX0 yX0_of wsX0_of) := goodIn_app (goodIn_of _ (by decide +kernel)) ggX8_drawHat_X0_of
set_option maxRecDepth 20000 in
theorem ggX8_drawHat_X6_take : GoodIn wsX8_drawHat wsX6_take := goodIn_r _ [34, 35, 36, 18, 19, 20, 10, 11, 12, 13, 37, 14, 15, 16, 17, 48, 49, 50, 51, 52, 53, 54, 55, 56, 57, 58, 59, 60, 61, 62, 63, 64, 65] (by decide +kernel) (by decide +kernel)
set_option maxRecDepth 20000 in
theorem gX8_drawHat_X6_take : GoodIn wsX8_drawHat (wsV RX8 232 RX6 yX6_take wsX6_take) := goodIn_app (goodIn_of _ (by decide +kernel)) ggX8_drawHat_X6_take
theorem dX8_drawHat_0 : decode cX8_drawHat 0 = .ok (.aload_n 0, 1) := by decide +kernel
theorem dX8_drawHat_1 : decode cX8_drawHat 1 = .ok (.getfield 46, 3) := by decide +kernel
theorem dX8_drawHat_4 : decode cX8_drawHat 4 = .ok (.invokevirtual 229, 3) := by decide +kernel
theorem dX8_drawHat_7 : decode cX8_drawHat 7 = .ok (.iconst 0, 1) := by decide +kernel
theorem dX8_drawHat_8 : decode cX8_drawHat 8 = .ok (.istore_n 1, 1) := by decide +kernel
theorem dX8_drawHat_9 : decode cX8_drawHat 9 = .ok (.iload_n 1, 1) := by decide +kernel
theorem dX8_drawHat_10 : decode cX8_drawHat 10 = .ok (.aload_n 0, 1) := by decide +kernel
theorem dX8_drawHat_11 : decode cX8_drawHat 11 = .ok (.getfield 29, 3) := by decide +kernel
theorem dX8_drawHat_14 : decode cX8_drawHat 14 = .ok (.getfield 127, 3) := by decide +kernel
theorem dX8_drawHat_17 : decode cX8_drawHat 17 = .ok (.if_icmp .ge 38, 3) := by decide +kernel
theorem dX8_drawHat_20 : decode cX8_drawHat 20 = .ok (.aload_n 0, 1) := by decide +kernel
theorem dX8_drawHat_21 : decode cX8_drawHat 21 = .ok (.getfield 46, 3) := by decide +kernel
theorem dX8_drawHat_24 : decode cX8_drawHat 24 = .ok (.aload_n 0, 1) := by decide +kernel
theorem dX8_drawHat_25 : decode cX8_drawHat 25 = .ok (.getfield 29, 3) := by decide +kernel
theorem dX8_drawHat_28 : decode cX8_drawHat 28 = .ok (.iload_n 1, 1) := by decide +kernel
theorem dX8_drawHat_29 : decode cX8_drawHat 29 = .ok (.aload_n 0, 1) := by decide +kernel
theorem dX8_drawHat_30 : decode cX8_drawHat 30 = .ok (.getfield 39, 3) := by decide +kernel
theorem dX8_drawHat_33 : decode cX8_drawHat 33 = .ok (.iconst 2, 1) := by decide +kernel
theorem dX8_drawHat_34 : decode cX8_drawHat 34 = .ok (.invokevirtual 137, 3) := by decide +kernel
theorem dX8_drawHat_37 : decode cX8_drawHat 37 = .ok (.iconst 1, 1) := by decide +kernel
theorem dX8_drawHat_38 : decode cX8_drawHat 38 = .ok (.if_icmp .ne 7, 3) := by decide +kernel
theorem dX8_drawHat_41 : decode cX8_drawHat 41 = .ok (.iconst 1, 1) := by decide +kernel
theorem dX8_drawHat_42 : decode cX8_drawHat 42 = .ok (.goto 4, 3) := by decide +kernel
theorem dX8_drawHat_45 : decode cX8_drawHat 45 = .ok (.iconst 0, 1) := by decide +kernel
theorem dX8_drawHat_46 : decode cX8_drawHat 46 = .ok (.invokevirtual 232, 3) := by decide +kernel
theorem dX8_drawHat_49 : decode cX8_drawHat 49 = .ok (.iinc 1 1, 3) := by decide +kernel
theorem dX8_drawHat_52 : decode cX8_drawHat 52 = .ok (.goto (-43), 3) := by decide +kernel
theorem dX8_drawHat_55 : decode cX8_drawHat 55 = .ok (.return_, 1) := by decide +kernel
set_option maxRecDepth 20000 in
theorem ggX8_hatCounts_X6_byMoved : GoodIn wsX8_hatCounts wsX6_byMoved := goodIn_r _ [12, 13, 14, 15, 11, 16, 17, 18, 19, 20, 21, 22, 23, 24, 25, 26, 27, 28, 29, 30, 31, 32, 79, 80, 81, 82, 83, 84, 85, 86, 87, 88, 89] (by decide +kernel) (by decide +kernel)
set_option maxRecDepth 20000 in
theorem gX8_hatCounts_X6_byMoved : GoodIn wsX8_hatCounts (wsV RX8 257 RX6 yX6_byMoved wsX6_byMoved) := goodIn_app (goodIn_of _ (by decide +kernel)) ggX8_hatCounts_X6_byMoved
set_option maxRecDepth 20000 in
theorem ggX8_hatCounts_X6_hasUsualSpan : GoodIn wsX8_hatCounts wsX6_hasUsualSpan := goodIn_r _ [36, 19, 20, 37, 38, 39, 9, 10, 11, 12, 13, 14, 15, 16, 17, 18, 21, 22, 23, 24, 25, 26, 27, 28, 29, 30, 31, 32, 40, 41, 42, 43, 44, 79, 80, 81, 82, 83, 84, 85, 86, 87, 88, 89] (by decide +kernel) (by decide +kernel)
set_option maxRecDepth 20000 in
theorem gX8_hatCounts_X6_hasUsualSpan : GoodIn wsX8_hatCounts (wsV RX8 290 RX6 yX6_hasUsualSpan wsX6_hasUsualSpan) := goodIn_app (goodIn_of _ (by decide +kernel)) ggX8_hatCounts_X6_hasUsualSpan
set_option maxRecDepth 20000 in
theorem ggX8_hatCounts_X6_inUsualSpan : GoodIn wsX8_hatCounts wsX6_inUsualSpan := goodIn_r _ [48, 20, 39, 9, 10, 11, 12, 13, 14, 15, 16, 17, 18, 19, 21, 22, 23, 24, 25, 26, 27, 28, 29, 30, 31, 32, 49, 50, 51, 52, 53, 54, 55, 56, 57, 58, 59, 60, 61, 62, 63, 64, 65, 66, 67, 68, 79, 80, 81, 82, 83, 84, 85, 86, 87, 88, 89] (by decide +kernel) (by decide +kernel)
set_option maxRecDepth 20000 in
theorem gX8_hatCounts_X6_inUsualSpan : GoodIn wsX8_hatCounts (wsV RX8 312 RX6 yX6_inUsualSpan wsX6_inUsualSpan) := goodIn_app (goodIn_of _ (by decide +kernel)) ggX8_hatCounts_X6_inUsualSpan
theorem dX8_hatCounts_0 : decode cX8_hatCounts 0 = .ok (.aload_n 0, 1) := by decide +kernel
theorem dX8_hatCounts_1 : decode cX8_hatCounts 1 = .ok (.getfield 46, 3) := by decide +kernel
theorem dX8_hatCounts_4 : decode cX8_hatCounts 4 = .ok (.invokevirtual 257, 3) := by decide +kernel
theorem dX8_hatCounts_7 : decode cX8_hatCounts 7 = .ok (.lstore 5, 2) := by decide +kernel
theorem dX8_hatCounts_9 : decode cX8_hatCounts 9 = .ok (.lload 5, 2) := by decide +kernel
theorem dX8_hatCounts_11 : decode cX8_hatCounts 11 = .ok (.ldc2_w 282, 3) := by decide +kernel
theorem dX8_hatCounts_14 : decode cX8_hatCounts 14 = .ok (.lcmp, 1) := by decide +kernel
theorem dX8_hatCounts_15 : decode cX8_hatCounts 15 = .ok (.ifCond .ne 5, 3) := by decide +kernel
theorem dX8_hatCounts_18 : decode cX8_hatCounts 18 = .ok (.iconst 0, 1) := by decide +kernel
theorem dX8_hatCounts_19 : decode cX8_hatCounts 19 = .ok (.ireturn, 1) := by decide +kernel
theorem dX8_hatCounts_20 : decode cX8_hatCounts 20 = .ok (.iload_n 2, 1) := by decide +kernel
theorem dX8_hatCounts_21 : decode cX8_hatCounts 21 = .ok (.lookupswitch 49 #[(0, 27), (1, 29)], 27) := by decide +kernel
theorem dX8_hatCounts_48 : decode cX8_hatCounts 48 = .ok (.iconst 1, 1) := by decide +kernel
theorem dX8_hatCounts_49 : decode cX8_hatCounts 49 = .ok (.ireturn, 1) := by decide +kernel
theorem dX8_hatCounts_50 : decode cX8_hatCounts 50 = .ok (.lload 5, 2) := by decide +kernel
theorem dX8_hatCounts_52 : decode cX8_hatCounts 52 = .ok (.lload_n 3, 1) := by decide +kernel
theorem dX8_hatCounts_53 : decode cX8_hatCounts 53 = .ok (.lsub, 1) := by decide +kernel
theorem dX8_hatCounts_54 : decode cX8_hatCounts 54 = .ok (.invokestatic 307, 3) := by decide +kernel
theorem dX8_hatCounts_57 : decode cX8_hatCounts 57 = .ok (.ldc2_w 310, 3) := by decide +kernel
theorem dX8_hatCounts_60 : decode cX8_hatCounts 60 = .ok (.lcmp, 1) := by decide +kernel
theorem dX8_hatCounts_61 : decode cX8_hatCounts 61 = .ok (.ifCond .gt 7, 3) := by decide +kernel
theorem dX8_hatCounts_64 : decode cX8_hatCounts 64 = .ok (.iconst 1, 1) := by decide +kernel
theorem dX8_hatCounts_65 : decode cX8_hatCounts 65 = .ok (.goto 4, 3) := by decide +kernel
theorem dX8_hatCounts_68 : decode cX8_hatCounts 68 = .ok (.iconst 0, 1) := by decide +kernel
theorem dX8_hatCounts_69 : decode cX8_hatCounts 69 = .ok (.ireturn, 1) := by decide +kernel
theorem dX8_hatCounts_70 : decode cX8_hatCounts 70 = .ok (.aload_n 0, 1) := by decide +kernel
theorem dX8_hatCounts_71 : decode cX8_hatCounts 71 = .ok (.getfield 46, 3) := by decide +kernel
theorem dX8_hatCounts_74 : decode cX8_hatCounts 74 = .ok (.invokevirtual 290, 3) := by decide +kernel
theorem dX8_hatCounts_77 : decode cX8_hatCounts 77 = .ok (.ifCond .eq 19, 3) := by decide +kernel
theorem dX8_hatCounts_80 : decode cX8_hatCounts 80 = .ok (.aload_n 0, 1) := by decide +kernel
theorem dX8_hatCounts_81 : decode cX8_hatCounts 81 = .ok (.getfield 46, 3) := by decide +kernel
theorem dX8_hatCounts_84 : decode cX8_hatCounts 84 = .ok (.lconst 0, 1) := by decide +kernel
theorem dX8_hatCounts_85 : decode cX8_hatCounts 85 = .ok (.iload_n 1, 1) := by decide +kernel
theorem dX8_hatCounts_86 : decode cX8_hatCounts 86 = .ok (.invokevirtual 312, 3) := by decide +kernel
theorem dX8_hatCounts_89 : decode cX8_hatCounts 89 = .ok (.ifCond .ne 7, 3) := by decide +kernel
theorem dX8_hatCounts_92 : decode cX8_hatCounts 92 = .ok (.iconst 1, 1) := by decide +kernel
theorem dX8_hatCounts_93 : decode cX8_hatCounts 93 = .ok (.goto 4, 3) := by decide +kernel
theorem dX8_hatCounts_96 : decode cX8_hatCounts 96 = .ok (.iconst 0, 1) := by decide +kernel
theorem dX8_hatCounts_97 : decode cX8_hatCounts 97 = .ok (.ireturn, 1) := by decide +kernel
set_option maxRecDepth 20000 in
theorem ggX8_leak_X8_divided : GoodIn wsX8_leak wsX8_divided := goodIn_r _ [8, 9, 10, 11, 12, 13, 14, 15, 16, 17, 18, 19, 20, 21, 22, 23, 24, 25, 26, 27, 28, 29, 7, 30, 31, 32, 33, 34, 35, 36, 37, 38, 39, 40, 41, 42, 43, 65, 66, 67, 68, 69, 70, 71, 72, 73, 74, 86, 87, 88, 89, 90, 91, 92, 75, 76, 77, 78, 79, 80, 81, 82, 83, 84, 85] (by decide +kernel) (by decide +kernel)
set_option maxRecDepth 20000 in
theorem gX8_leak_X8_divided : GoodIn wsX8_leak (wsV RX8 253 RX8 yX8_divided wsX8_divided) := goodIn_app (goodIn_of _ (by decide +kernel)) ggX8_leak_X8_divided
set_option maxRecDepth 20000 in
theorem ggX8_leak_X6_meanGap : GoodIn wsX8_leak wsX6_meanGap := goodIn_r _ [47, 17, 21, 48, 49, 50, 51, 15, 52, 53, 54, 55, 56, 57, 7, 58, 59, 60, 75, 76, 77, 78, 79, 80, 81, 82, 83, 84, 85] (by decide +kernel) (by decide +kernel)
set_option maxRecDepth 20000 in
theorem gX8_leak_X6_meanGap : GoodIn wsX8_leak (wsV RX8 276 RX6 yX6_meanGap wsX6_meanGap) := goodIn_app (goodIn_of _ (by decide +kernel)) ggX8_leak_X6_meanGap
set_option maxRecDepth 20000 in
theorem ggX8_leak_X8_toFace : GoodIn wsX8_leak wsX8_toFace := goodIn_r _ [63, 59, 64] (by decide +kernel) (by decide +kernel)
set_option maxRecDepth 20000 in
theorem gX8_leak_X8_toFace : GoodIn wsX8_leak (va_wsS RX8 225 yX8_toFace wsX8_toFace) := goodIn_app (goodIn_of _ (by decide +kernel)) ggX8_leak_X8_toFace
theorem dX8_leak_0 : decode cX8_leak 0 = .ok (.aload_n 0, 1) := by decide +kernel
theorem dX8_leak_1 : decode cX8_leak 1 = .ok (.aload_n 0, 1) := by decide +kernel
theorem dX8_leak_2 : decode cX8_leak 2 = .ok (.getfield 29, 3) := by decide +kernel
theorem dX8_leak_5 : decode cX8_leak 5 = .ok (.iload_n 1, 1) := by decide +kernel
theorem dX8_leak_6 : decode cX8_leak 6 = .ok (.invokevirtual 253, 3) := by decide +kernel
theorem dX8_leak_9 : decode cX8_leak 9 = .ok (.astore_n 2, 1) := by decide +kernel
theorem dX8_leak_10 : decode cX8_leak 10 = .ok (.aload_n 2, 1) := by decide +kernel
theorem dX8_leak_11 : decode cX8_leak 11 = .ok (.aload_n 2, 1) := by decide +kernel
theorem dX8_leak_12 : decode cX8_leak 12 = .ok (.getfield 244, 3) := by decide +kernel
theorem dX8_leak_15 : decode cX8_leak 15 = .ok (.aload_n 2, 1) := by decide +kernel
theorem dX8_leak_16 : decode cX8_leak 16 = .ok (.getfield 315, 3) := by decide +kernel
theorem dX8_leak_19 : decode cX8_leak 19 = .ok (.invokevirtual 276, 3) := by decide +kernel
theorem dX8_leak_22 : decode cX8_leak 22 = .ok (.invokestatic 225, 3) := by decide +kernel
theorem dX8_leak_25 : decode cX8_leak 25 = .ok (.lreturn, 1) := by decide +kernel
set_option maxRecDepth 20000 in
theorem ggX8_leaked_X8_within : GoodIn wsX8_leaked wsX8_within := goodIn_r _ [8] (by decide +kernel) (by decide +kernel)
set_option maxRecDepth 20000 in
theorem gX8_leaked_X8_within : GoodIn wsX8_leaked (va_wsS RX8 105 yX8_within wsX8_within) := goodIn_app (goodIn_of _ (by decide +kernel)) ggX8_leaked_X8_within
set_option maxRecDepth 20000 in
theorem ggX8_leaked_X8_divided : GoodIn wsX8_leaked wsX8_divided := goodIn_r _ [12, 13, 14, 15, 16, 17, 18, 19, 20, 21, 22, 23, 24, 25, 26, 27, 28, 29, 30, 31, 32, 33, 7, 34, 5, 6, 8, 35, 36, 37, 38, 39, 40, 41, 42, 43, 44, 63, 64, 65, 66, 67, 68, 69, 70, 71, 72, 73, 74, 75, 76, 77, 78, 79, 80, 81, 82, 83, 84, 85, 86, 87, 88, 89, 90] (by decide +kernel) (by decide +kernel)
set_option maxRecDepth 20000 in
theorem gX8_leaked_X8_divided : GoodIn wsX8_leaked (wsV RX8 253 RX8 yX8_divided wsX8_divided) := goodIn_app (goodIn_of _ (by decide +kernel)) ggX8_leaked_X8_divided
set_option maxRecDepth 20000 in
theorem ggX8_leaked_X6_byMovedLess : GoodIn wsX8_leaked wsX6_byMovedLess := goodIn_r _ [48, 22, 26, 49, 50, 23, 27, 21, 25, 51, 52, 53, 19, 54, 55, 56, 57, 58, 80, 81, 82, 83, 84, 85, 86, 87, 88, 89, 90] (by decide +kernel) (by decide +kernel)
set_option maxRecDepth 20000 in
theorem gX8_leaked_X6_byMovedLess : GoodIn wsX8_leaked (wsV RX8 322 RX6 yX6_byMovedLess wsX6_byMovedLess) := goodIn_app (goodIn_of _ (by decide +kernel)) ggX8_leaked_X6_byMovedLess
set_option maxRecDepth 20000 in
theorem ggX8_leaked_X8_toFace : GoodIn wsX8_leaked wsX8_toFace := goodIn_r _ [61, 62, 3] (by decide +kernel) (by decide +kernel)
set_option maxRecDepth 20000 in
theorem gX8_leaked_X8_toFace : GoodIn wsX8_leaked (va_wsS RX8 225 yX8_toFace wsX8_toFace) := goodIn_app (goodIn_of _ (by decide +kernel)) ggX8_leaked_X8_toFace
theorem dX8_leaked_0 : decode cX8_leaked 0 = .ok (.iload_n 2, 1) := by decide +kernel
theorem dX8_leaked_1 : decode cX8_leaked 1 = .ok (.ldc_w 318, 3) := by decide +kernel
theorem dX8_leaked_4 : decode cX8_leaked 4 = .ok (.ldc_w 319, 3) := by decide +kernel
theorem dX8_leaked_7 : decode cX8_leaked 7 = .ok (.invokestatic 105, 3) := by decide +kernel
theorem dX8_leaked_10 : decode cX8_leaked 10 = .ok (.ifCond .ne 7, 3) := by decide +kernel
theorem dX8_leaked_13 : decode cX8_leaked 13 = .ok (.ldc2_w 320, 3) := by decide +kernel
theorem dX8_leaked_16 : decode cX8_leaked 16 = .ok (.lreturn, 1) := by decide +kernel
theorem dX8_leaked_17 : decode cX8_leaked 17 = .ok (.aload_n 0, 1) := by decide +kernel
theorem dX8_leaked_18 : decode cX8_leaked 18 = .ok (.aload_n 0, 1) := by decide +kernel
theorem dX8_leaked_19 : decode cX8_leaked 19 = .ok (.getfield 29, 3) := by decide +kernel
theorem dX8_leaked_22 : decode cX8_leaked 22 = .ok (.iload_n 1, 1) := by decide +kernel
theorem dX8_leaked_23 : decode cX8_leaked 23 = .ok (.invokevirtual 253, 3) := by decide +kernel
theorem dX8_leaked_26 : decode cX8_leaked 26 = .ok (.iload_n 2, 1) := by decide +kernel
theorem dX8_leaked_27 : decode cX8_leaked 27 = .ok (.i2l, 1) := by decide +kernel
theorem dX8_leaked_28 : decode cX8_leaked 28 = .ok (.invokevirtual 322, 3) := by decide +kernel
theorem dX8_leaked_31 : decode cX8_leaked 31 = .ok (.invokestatic 225, 3) := by decide +kernel
theorem dX8_leaked_34 : decode cX8_leaked 34 = .ok (.lreturn, 1) := by decide +kernel
set_option maxRecDepth 20000 in
theorem ggX8_homes_X8_divided : GoodIn wsX8_homes wsX8_divided := goodIn_r _ [8, 9, 10, 11, 12, 13, 14, 15, 16, 17, 18, 19, 20, 21, 22, 23, 24, 25, 26, 27, 28, 29, 7, 30, 31, 32, 33, 34, 35, 36, 37, 38, 39, 40, 41, 42, 43, 65, 66, 67, 68, 69, 70, 71, 72, 73, 74, 86, 87, 88, 89, 90, 91, 92, 75, 76, 77, 78, 79, 80, 81, 82, 83, 84, 85] (by decide +kernel) (by decide +kernel)
set_option maxRecDepth 20000 in
theorem gX8_homes_X8_divided : GoodIn wsX8_homes (wsV RX8 253 RX8 yX8_divided wsX8_divided) := goodIn_app (goodIn_of _ (by decide +kernel)) ggX8_homes_X8_divided
set_option maxRecDepth 20000 in
theorem ggX8_homes_X6_meanGap : GoodIn wsX8_homes wsX6_meanGap := goodIn_r _ [47, 17, 21, 48, 49, 50, 51, 15, 52, 53, 54, 55, 56, 57, 7, 58, 59, 60, 75, 76, 77, 78, 79, 80, 81, 82, 83, 84, 85] (by decide +kernel) (by decide +kernel)
set_option maxRecDepth 20000 in
theorem gX8_homes_X6_meanGap : GoodIn wsX8_homes (wsV RX8 276 RX6 yX6_meanGap wsX6_meanGap) := goodIn_app (goodIn_of _ (by decide +kernel)) ggX8_homes_X6_meanGap
set_option maxRecDepth 20000 in
theorem ggX8_homes_X8_toFace : GoodIn wsX8_homes wsX8_toFace := goodIn_r _ [63, 59, 64] (by decide +kernel) (by decide +kernel)
set_option maxRecDepth 20000 in
theorem gX8_homes_X8_toFace : GoodIn wsX8_homes (va_wsS RX8 225 yX8_toFace wsX8_toFace) := goodIn_app (goodIn_of _ (by decide +kernel)) ggX8_homes_X8_toFace
theorem dX8_homes_0 : decode cX8_homes 0 = .ok (.aload_n 0, 1) := by decide +kernel
theorem dX8_homes_1 : decode cX8_homes 1 = .ok (.aload_n 0, 1) := by decide +kernel
theorem dX8_homes_2 : decode cX8_homes 2 = .ok (.getfield 29, 3) := by decide +kernel
theorem dX8_homes_5 : decode cX8_homes 5 = .ok (.iload_n 1, 1) := by decide +kernel
theorem dX8_homes_6 : decode cX8_homes 6 = .ok (.invokevirtual 253, 3) := by decide +kernel
theorem dX8_homes_9 : decode cX8_homes 9 = .ok (.astore_n 2, 1) := by decide +kernel
theorem dX8_homes_10 : decode cX8_homes 10 = .ok (.aload_n 2, 1) := by decide +kernel
theorem dX8_homes_11 : decode cX8_homes 11 = .ok (.aload_n 2, 1) := by decide +kernel
theorem dX8_homes_12 : decode cX8_homes 12 = .ok (.getfield 325, 3) := by decide +kernel
theorem dX8_homes_15 : decode cX8_homes 15 = .ok (.aload_n 2, 1) := by decide +kernel
theorem dX8_homes_16 : decode cX8_homes 16 = .ok (.getfield 327, 3) := by decide +kernel
theorem dX8_homes_19 : decode cX8_homes 19 = .ok (.invokevirtual 276, 3) := by decide +kernel
theorem dX8_homes_22 : decode cX8_homes 22 = .ok (.invokestatic 225, 3) := by decide +kernel
theorem dX8_homes_25 : decode cX8_homes 25 = .ok (.lreturn, 1) := by decide +kernel
set_option maxRecDepth 20000 in
theorem ggX8_whom_X8_within : GoodIn wsX8_whom wsX8_within := goodIn_r _ [6] (by decide +kernel) (by decide +kernel)
set_option maxRecDepth 20000 in
theorem gX8_whom_X8_within : GoodIn wsX8_whom (va_wsS RX8 105 yX8_within wsX8_within) := goodIn_app (goodIn_of _ (by decide +kernel)) ggX8_whom_X8_within
set_option maxRecDepth 20000 in
theorem ggX8_whom_X8_isHeld : GoodIn wsX8_whom wsX8_isHeld := goodIn_r _ [10, 11, 12, 13, 14, 15, 16, 17, 5, 18, 19, 20, 21, 22, 23, 24, 25, 26, 27, 28, 29, 30, 31, 32, 33, 34, 35, 36, 37, 38, 39, 40, 77, 78, 79, 80, 81, 82, 83, 84, 85, 86, 87, 88, 89, 90, 91, 92, 93, 94, 95, 96, 97, 98, 99, 100, 101, 102, 103, 104, 105, 106, 107, 108, 109] (by decide +kernel) (by decide +kernel)
set_option maxRecDepth 20000 in
theorem gX8_whom_X8_isHeld : GoodIn wsX8_whom (wsV RX8 218 RX8 yX8_isHeld wsX8_isHeld) := goodIn_app (goodIn_of _ (by decide +kernel)) ggX8_whom_X8_isHeld
set_option maxRecDepth 20000 in
theorem ggX8_whom_X8_gainOf : GoodIn wsX8_whom wsX8_gainOf := goodIn_r _ [44, 45, 13, 12, 46, 47, 48, 49, 50, 11, 51, 52, 53, 28, 54, 55, 56, 57, 58, 59, 60, 61, 36, 37, 38, 39, 40, 62, 32, 33, 34, 35, 63, 64, 65, 66, 67, 68, 5, 69, 70, 71, 72, 73, 74, 75, 76, 87, 88, 89, 90, 91, 92, 93, 77, 78, 79, 80, 81, 82, 83, 84, 85, 86, 94, 95, 96, 97, 98, 99, 100, 101, 102, 103, 104, 105, 106, 107, 108, 109] (by decide +kernel) (by decide +kernel)
set_option maxRecDepth 20000 in
theorem gX8_whom_X8_gainOf : GoodIn wsX8_whom (wsV RX8 210 RX8 yX8_gainOf wsX8_gainOf) := goodIn_app (goodIn_of _ (by decide +kernel)) ggX8_whom_X8_gainOf
theorem dX8_whom_0 : decode cX8_whom 0 = .ok (.iload_n 1, 1) := by decide +kernel
theorem dX8_whom_1 : decode cX8_whom 1 = .ok (.iconst 0, 1) := by decide +kernel
theorem dX8_whom_2 : decode cX8_whom 2 = .ok (.iconst 1, 1) := by decide +kernel
theorem dX8_whom_3 : decode cX8_whom 3 = .ok (.invokestatic 105, 3) := by decide +kernel
theorem dX8_whom_6 : decode cX8_whom 6 = .ok (.ifCond .ne 5, 3) := by decide +kernel
theorem dX8_whom_9 : decode cX8_whom 9 = .ok (.iconst (-1), 1) := by decide +kernel
theorem dX8_whom_10 : decode cX8_whom 10 = .ok (.ireturn, 1) := by decide +kernel
theorem dX8_whom_11 : decode cX8_whom 11 = .ok (.iconst 0, 1) := by decide +kernel
theorem dX8_whom_12 : decode cX8_whom 12 = .ok (.istore_n 2, 1) := by decide +kernel
theorem dX8_whom_13 : decode cX8_whom 13 = .ok (.iconst 0, 1) := by decide +kernel
theorem dX8_whom_14 : decode cX8_whom 14 = .ok (.istore_n 3, 1) := by decide +kernel
theorem dX8_whom_15 : decode cX8_whom 15 = .ok (.iload_n 3, 1) := by decide +kernel
theorem dX8_whom_16 : decode cX8_whom 16 = .ok (.aload_n 0, 1) := by decide +kernel
theorem dX8_whom_17 : decode cX8_whom 17 = .ok (.getfield 29, 3) := by decide +kernel
theorem dX8_whom_20 : decode cX8_whom 20 = .ok (.getfield 127, 3) := by decide +kernel
theorem dX8_whom_23 : decode cX8_whom 23 = .ok (.if_icmp .ge 40, 3) := by decide +kernel
theorem dX8_whom_26 : decode cX8_whom 26 = .ok (.aload_n 0, 1) := by decide +kernel
theorem dX8_whom_27 : decode cX8_whom 27 = .ok (.aload_n 0, 1) := by decide +kernel
theorem dX8_whom_28 : decode cX8_whom 28 = .ok (.getfield 29, 3) := by decide +kernel
theorem dX8_whom_31 : decode cX8_whom 31 = .ok (.iload_n 3, 1) := by decide +kernel
theorem dX8_whom_32 : decode cX8_whom 32 = .ok (.invokevirtual 218, 3) := by decide +kernel
theorem dX8_whom_35 : decode cX8_whom 35 = .ok (.ifCond .eq 22, 3) := by decide +kernel
theorem dX8_whom_38 : decode cX8_whom 38 = .ok (.iload_n 1, 1) := by decide +kernel
theorem dX8_whom_39 : decode cX8_whom 39 = .ok (.ifCond .eq 15, 3) := by decide +kernel
theorem dX8_whom_42 : decode cX8_whom 42 = .ok (.aload_n 0, 1) := by decide +kernel
theorem dX8_whom_43 : decode cX8_whom 43 = .ok (.aload_n 0, 1) := by decide +kernel
theorem dX8_whom_44 : decode cX8_whom 44 = .ok (.getfield 29, 3) := by decide +kernel
theorem dX8_whom_47 : decode cX8_whom 47 = .ok (.iload_n 3, 1) := by decide +kernel
theorem dX8_whom_48 : decode cX8_whom 48 = .ok (.invokevirtual 210, 3) := by decide +kernel
theorem dX8_whom_51 : decode cX8_whom 51 = .ok (.ifCond .eq 6, 3) := by decide +kernel
theorem dX8_whom_54 : decode cX8_whom 54 = .ok (.iinc 2 1, 3) := by decide +kernel
theorem dX8_whom_57 : decode cX8_whom 57 = .ok (.iinc 3 1, 3) := by decide +kernel
theorem dX8_whom_60 : decode cX8_whom 60 = .ok (.goto (-45), 3) := by decide +kernel
theorem dX8_whom_63 : decode cX8_whom 63 = .ok (.iload_n 2, 1) := by decide +kernel
theorem dX8_whom_64 : decode cX8_whom 64 = .ok (.ireturn, 1) := by decide +kernel
set_option maxRecDepth 20000 in
theorem ggX8_truth_X8_truthOf : GoodIn wsX8_truth wsX8_truthOf := goodIn_r _ [6, 7, 8, 9, 10, 11, 5, 12, 13, 14, 15, 16, 17, 18, 19, 20, 21, 22, 23, 24, 25, 26, 27, 28, 29, 30, 31, 32, 33, 34, 35, 36, 37, 38, 39, 40, 41, 42, 43, 44, 45, 46, 47, 48, 49, 50, 51, 52, 53, 54, 55, 56, 57, 58, 59, 60, 61, 62, 63, 64, 65, 66, 67, 68, 69, 70, 71, 72, 73, 74, 75, 76, 77, 78, 79, 80, 81, 82, 97, 98, 99, 100, 101, 102, 103, 87, 88, 89, 90, 91, 92, 93, 94, 95, 96, 104, 105, 106, 107, 108, 109, 110, 111, 112, 113, 114, 115, 116, 117, 118, 119] (by decide +kernel) (by decide +kernel)
set_option maxRecDepth 20000 in
theorem gX8_truth_X8_truthOf : GoodIn wsX8_truth (wsV RX8 330 RX8 yX8_truthOf wsX8_truthOf) := goodIn_app (goodIn_of _ (by decide +kernel)) ggX8_truth_X8_truthOf
set_option maxRecDepth 20000 in
theorem ggX8_truth_X8_toFace : GoodIn wsX8_truth wsX8_toFace := goodIn_r _ [85, 8, 86] (by decide +kernel) (by decide +kernel)
set_option maxRecDepth 20000 in
theorem gX8_truth_X8_toFace : GoodIn wsX8_truth (va_wsS RX8 225 yX8_toFace wsX8_toFace) := goodIn_app (goodIn_of _ (by decide +kernel)) ggX8_truth_X8_toFace
theorem dX8_truth_0 : decode cX8_truth 0 = .ok (.aload_n 0, 1) := by decide +kernel
theorem dX8_truth_1 : decode cX8_truth 1 = .ok (.aload_n 0, 1) := by decide +kernel
theorem dX8_truth_2 : decode cX8_truth 2 = .ok (.getfield 29, 3) := by decide +kernel
theorem dX8_truth_5 : decode cX8_truth 5 = .ok (.iload_n 1, 1) := by decide +kernel
theorem dX8_truth_6 : decode cX8_truth 6 = .ok (.invokevirtual 330, 3) := by decide +kernel
theorem dX8_truth_9 : decode cX8_truth 9 = .ok (.invokestatic 225, 3) := by decide +kernel
theorem dX8_truth_12 : decode cX8_truth 12 = .ok (.lreturn, 1) := by decide +kernel
set_option maxRecDepth 20000 in
theorem ggX8_truthOf_X8_isHeld : GoodIn wsX8_truthOf wsX8_isHeld := goodIn_r _ [7, 8, 9, 10, 11, 12, 13, 14, 6, 15, 16, 17, 18, 19, 20, 21, 22, 23, 24, 25, 26, 27, 28, 29, 30, 31, 32, 33, 34, 35, 36, 37, 85, 86, 87, 88, 89, 90, 91, 92, 93, 94, 78, 79, 80, 81, 82, 83, 84, 95, 96, 97, 98, 99, 100, 101, 102, 103, 104, 105, 106, 107, 108, 109, 110] (by decide +kernel) (by decide +kernel)
set_option maxRecDepth 20000 in
theorem gX8_truthOf_X8_isHeld : GoodIn wsX8_truthOf (wsV RX8 218 RX8 yX8_isHeld wsX8_isHeld) := goodIn_app (goodIn_of _ (by decide +kernel)) ggX8_truthOf_X8_isHeld
set_option maxRecDepth 20000 in
theorem ggX8_truthOf_X8_isPlaced : GoodIn wsX8_truthOf wsX8_isPlaced := goodIn_r _ [15, 8, 9, 16, 17, 18, 19, 20, 21, 22, 23, 24, 25, 26, 27, 85, 86, 87, 88, 89, 90, 91, 92, 93, 94, 78, 79, 80, 81, 82, 83, 84, 95, 96, 97, 98, 99, 100, 101, 102, 103, 104, 105, 106, 107, 108, 109, 110] (by decide +kernel) (by decide +kernel)
set_option maxRecDepth 20000 in
theorem gX8_truthOf_X8_isPlaced : GoodIn wsX8_truthOf (wsV RX8 206 RX8 yX8_isPlaced wsX8_isPlaced) := goodIn_app (goodIn_of _ (by decide +kernel)) ggX8_truthOf_X8_isPlaced
set_option maxRecDepth 20000 in
theorem ggX8_truthOf_X8_gainOf : GoodIn wsX8_truthOf wsX8_gainOf := goodIn_r _ [41, 42, 10, 9, 43, 44, 45, 46, 47, 8, 48, 49, 50, 25, 51, 52, 53, 54, 55, 56, 57, 58, 33, 34, 35, 36, 37, 59, 29, 30, 31, 32, 60, 61, 62, 63, 64, 65, 6, 66, 67, 68, 69, 70, 71, 72, 73, 78, 79, 80, 81, 82, 83, 84, 85, 86, 87, 88, 89, 90, 91, 92, 93, 94, 95, 96, 97, 98, 99, 100, 101, 102, 103, 104, 105, 106, 107, 108, 109, 110] (by decide +kernel) (by decide +kernel)
set_option maxRecDepth 20000 in
theorem gX8_truthOf_X8_gainOf : GoodIn wsX8_truthOf (wsV RX8 210 RX8 yX8_gainOf wsX8_gainOf) := goodIn_app (goodIn_of _ (by decide +kernel)) ggX8_truthOf_X8_gainOf
set_option maxRecDepth 20000 in
theorem ggX8_truthOf_X8_thousandths : GoodIn wsX8_truthOf wsX8_thousandths := goodIn_r _ [76, 2, 77] (by decide +kernel) (by decide +kernel)
set_option maxRecDepth 20000 in
theorem gX8_truthOf_X8_thousandths : GoodIn wsX8_truthOf (va_wsS RX8 249 yX8_thousandths wsX8_thousandths) := goodIn_app (goodIn_of _ (by decide +kernel)) ggX8_truthOf_X8_thousandths
theorem dX8_truthOf_0 : decode cX8_truthOf 0 = .ok (.lconst 0, 1) := by decide +kernel
theorem dX8_truthOf_1 : decode cX8_truthOf 1 = .ok (.lstore_n 3, 1) := by decide +kernel
theorem dX8_truthOf_2 : decode cX8_truthOf 2 = .ok (.lconst 0, 1) := by decide +kernel
theorem dX8_truthOf_3 : decode cX8_truthOf 3 = .ok (.lstore 5, 2) := by decide +kernel
theorem dX8_truthOf_5 : decode cX8_truthOf 5 = .ok (.iconst 0, 1) := by decide +kernel
theorem dX8_truthOf_6 : decode cX8_truthOf 6 = .ok (.istore 7, 2) := by decide +kernel
theorem dX8_truthOf_8 : decode cX8_truthOf 8 = .ok (.iload 7, 2) := by decide +kernel
theorem dX8_truthOf_10 : decode cX8_truthOf 10 = .ok (.aload_n 1, 1) := by decide +kernel
theorem dX8_truthOf_11 : decode cX8_truthOf 11 = .ok (.getfield 127, 3) := by decide +kernel
theorem dX8_truthOf_14 : decode cX8_truthOf 14 = .ok (.if_icmp .ge 57, 3) := by decide +kernel
theorem dX8_truthOf_17 : decode cX8_truthOf 17 = .ok (.iload_n 2, 1) := by decide +kernel
theorem dX8_truthOf_18 : decode cX8_truthOf 18 = .ok (.ifCond .eq 16, 3) := by decide +kernel
theorem dX8_truthOf_21 : decode cX8_truthOf 21 = .ok (.aload_n 0, 1) := by decide +kernel
theorem dX8_truthOf_22 : decode cX8_truthOf 22 = .ok (.aload_n 1, 1) := by decide +kernel
theorem dX8_truthOf_23 : decode cX8_truthOf 23 = .ok (.iload 7, 2) := by decide +kernel
theorem dX8_truthOf_25 : decode cX8_truthOf 25 = .ok (.invokevirtual 218, 3) := by decide +kernel
theorem dX8_truthOf_28 : decode cX8_truthOf 28 = .ok (.ifCond .ne 6, 3) := by decide +kernel
theorem dX8_truthOf_31 : decode cX8_truthOf 31 = .ok (.goto 34, 3) := by decide +kernel
theorem dX8_truthOf_34 : decode cX8_truthOf 34 = .ok (.aload_n 0, 1) := by decide +kernel
theorem dX8_truthOf_35 : decode cX8_truthOf 35 = .ok (.aload_n 1, 1) := by decide +kernel
theorem dX8_truthOf_36 : decode cX8_truthOf 36 = .ok (.iload 7, 2) := by decide +kernel
theorem dX8_truthOf_38 : decode cX8_truthOf 38 = .ok (.invokevirtual 206, 3) := by decide +kernel
theorem dX8_truthOf_41 : decode cX8_truthOf 41 = .ok (.ifCond .ne 7, 3) := by decide +kernel
theorem dX8_truthOf_44 : decode cX8_truthOf 44 = .ok (.ldc2_w 282, 3) := by decide +kernel
theorem dX8_truthOf_47 : decode cX8_truthOf 47 = .ok (.lreturn, 1) := by decide +kernel
theorem dX8_truthOf_48 : decode cX8_truthOf 48 = .ok (.lload_n 3, 1) := by decide +kernel
theorem dX8_truthOf_49 : decode cX8_truthOf 49 = .ok (.aload_n 0, 1) := by decide +kernel
theorem dX8_truthOf_50 : decode cX8_truthOf 50 = .ok (.aload_n 1, 1) := by decide +kernel
theorem dX8_truthOf_51 : decode cX8_truthOf 51 = .ok (.iload 7, 2) := by decide +kernel
theorem dX8_truthOf_53 : decode cX8_truthOf 53 = .ok (.invokevirtual 210, 3) := by decide +kernel
theorem dX8_truthOf_56 : decode cX8_truthOf 56 = .ok (.i2l, 1) := by decide +kernel
theorem dX8_truthOf_57 : decode cX8_truthOf 57 = .ok (.ladd, 1) := by decide +kernel
theorem dX8_truthOf_58 : decode cX8_truthOf 58 = .ok (.lstore_n 3, 1) := by decide +kernel
theorem dX8_truthOf_59 : decode cX8_truthOf 59 = .ok (.lload 5, 2) := by decide +kernel
theorem dX8_truthOf_61 : decode cX8_truthOf 61 = .ok (.lconst 1, 1) := by decide +kernel
theorem dX8_truthOf_62 : decode cX8_truthOf 62 = .ok (.ladd, 1) := by decide +kernel
theorem dX8_truthOf_63 : decode cX8_truthOf 63 = .ok (.lstore 5, 2) := by decide +kernel
theorem dX8_truthOf_65 : decode cX8_truthOf 65 = .ok (.iinc 7 1, 3) := by decide +kernel
theorem dX8_truthOf_68 : decode cX8_truthOf 68 = .ok (.goto (-60), 3) := by decide +kernel
theorem dX8_truthOf_71 : decode cX8_truthOf 71 = .ok (.lload_n 3, 1) := by decide +kernel
theorem dX8_truthOf_72 : decode cX8_truthOf 72 = .ok (.lload 5, 2) := by decide +kernel
theorem dX8_truthOf_74 : decode cX8_truthOf 74 = .ok (.invokestatic 249, 3) := by decide +kernel
theorem dX8_truthOf_77 : decode cX8_truthOf 77 = .ok (.lreturn, 1) := by decide +kernel
set_option maxRecDepth 20000 in
theorem ggX8_leans_X8_leanOf : GoodIn wsX8_leans wsX8_leanOf := goodIn_r _ [5, 6, 7, 8, 9, 10, 4, 11, 12, 13, 14, 15, 16, 17, 18, 19, 20, 21, 22, 23, 24, 25, 26, 27, 28, 29, 30, 31, 32, 33, 34, 35, 36, 37, 38, 39, 40, 41, 42, 43, 44, 45, 46, 47, 48, 49, 50, 51, 52, 53, 54, 55, 56, 57, 58, 59, 60, 61, 62, 63, 64, 65, 66, 67, 68, 69, 70, 71, 72, 73, 74, 75, 76, 77, 78, 79, 80, 81, 82, 83, 84, 85, 86, 87, 88, 89, 90, 91, 92, 93, 94, 95, 96, 97, 98, 99, 100, 101, 102, 103, 104, 105, 106, 107, 108, 109, 110, 111, 112, 113, 114, 115, 116, 117, 118, 119, 120, 121, 122, 123, 124, 125, 126, 127, 128, 129, 130, 131, 132, 133, 134, 135, 136, 137, 138, 139, 140, 141, 142, 143, 144, 145, 146, 147, 148, 149, 150, 151, 152, 153, 154, 155, 156, 157, 158, 159, 160, 161, 162, 163, 164, 165, 166, 167, 168, 169, 170, 171, 172, 173, 174, 175, 176, 177, 178, 179, 180, 185, 186, 187, 188, 189, 190, 191, 192, 193, 194, 195, 196, 197, 198, 199, 200, 201, 202, 203, 204, 205, 206, 207, 208, 209, 210, 211, 212, 213, 214, 215, 216, 217, 218, 219, 220, 221, 222, 223, 224, 225, 226, 227, 228, 229, 230, 231] (by decide +kernel) (by decide +kernel)
set_option maxRecDepth 20000 in
theorem gX8_leans_X8_leanOf : GoodIn wsX8_leans (wsV RX8 334 RX8 yX8_leanOf wsX8_leanOf) := goodIn_app (goodIn_of _ (by decide +kernel)) ggX8_leans_X8_leanOf
set_option maxRecDepth 20000 in
theorem ggX8_leans_X8_toFace : GoodIn wsX8_leans wsX8_toFace := goodIn_r _ [183, 7, 184] (by decide +kernel) (by decide +kernel)
set_option maxRecDepth 20000 in
theorem gX8_leans_X8_toFace : GoodIn wsX8_leans (va_wsS RX8 225 yX8_toFace wsX8_toFace) := goodIn_app (goodIn_of _ (by decide +kernel)) ggX8_leans_X8_toFace
theorem dX8_leans_0 : decode cX8_leans 0 = .ok (.aload_n 0, 1) := by decide +kernel
theorem dX8_leans_1 : decode cX8_leans 1 = .ok (.iload_n 1, 1) := by decide +kernel
theorem dX8_leans_2 : decode cX8_leans 2 = .ok (.iload_n 2, 1) := by decide +kernel
theorem dX8_leans_3 : decode cX8_leans 3 = .ok (.invokevirtual 334, 3) := by decide +kernel
theorem dX8_leans_6 : decode cX8_leans 6 = .ok (.invokestatic 225, 3) := by decide +kernel
theorem dX8_leans_9 : decode cX8_leans 9 = .ok (.lreturn, 1) := by decide +kernel
set_option maxRecDepth 20000 in
theorem ggX8_leanOf_X8_estimateOf : GoodIn wsX8_leanOf wsX8_estimateOf := goodIn_r _ [7, 1, 2, 8, 9, 10, 6, 11, 12, 13, 14, 15, 16, 17, 18, 19, 20, 21, 22, 23, 24, 25, 26, 27, 28, 29, 30, 31, 32, 33, 34, 35, 36, 37, 38, 39, 40, 41, 42, 43, 44, 45, 46, 47, 48, 49, 50, 51, 52, 53, 54, 55, 56, 57, 58, 59, 60, 61, 62, 63, 64, 65, 66, 67, 68, 69, 70, 71, 72, 73, 74, 75, 76, 77, 78, 79, 80, 81, 82, 83, 84, 85, 86, 87, 88, 89, 90, 91, 92, 93, 94, 95, 96, 97, 98, 99, 100, 101, 102, 103, 177, 178, 179, 180, 181, 182, 183, 184, 185, 186, 187, 188, 189, 190, 191, 192, 193, 194, 195, 196, 197, 198, 199, 200, 201, 202, 203, 204, 205, 206, 207] (by decide +kernel) (by decide +kernel)
set_option maxRecDepth 20000 in
theorem gX8_leanOf_X8_estimateOf : GoodIn wsX8_leanOf (wsV RX8 338 RX8 yX8_estimateOf wsX8_estimateOf) := goodIn_app (goodIn_of _ (by decide +kernel)) ggX8_leanOf_X8_estimateOf
set_option maxRecDepth 20000 in
theorem ggX8_leanOf_X8_truthOf : GoodIn wsX8_leanOf wsX8_truthOf := goodIn_r _ [107, 13, 2, 108, 109, 110, 6, 111, 112, 113, 50, 114, 115, 116, 117, 118, 119, 120, 121, 122, 123, 124, 125, 126, 127, 128, 129, 130, 131, 132, 133, 134, 135, 136, 137, 138, 139, 140, 141, 142, 143, 144, 145, 146, 147, 148, 149, 150, 151, 152, 153, 154, 155, 156, 157, 158, 159, 160, 161, 162, 163, 164, 165, 166, 167, 168, 169, 170, 171, 172, 173, 174, 175, 176, 42, 43, 44, 45, 187, 188, 189, 190, 191, 192, 193, 177, 178, 179, 180, 181, 182, 183, 184, 185, 186, 208, 209, 210, 211, 212, 213, 214, 215, 216, 217, 218, 219, 220, 221, 222, 223] (by decide +kernel) (by decide +kernel)
set_option maxRecDepth 20000 in
theorem gX8_leanOf_X8_truthOf : GoodIn wsX8_leanOf (wsV RX8 330 RX8 yX8_truthOf wsX8_truthOf) := goodIn_app (goodIn_of _ (by decide +kernel)) ggX8_leanOf_X8_truthOf
theorem dX8_leanOf_0 : decode cX8_leanOf 0 = .ok (.aload_n 0, 1) := by decide +kernel
theorem dX8_leanOf_1 : decode cX8_leanOf 1 = .ok (.iload_n 1, 1) := by decide +kernel
theorem dX8_leanOf_2 : decode cX8_leanOf 2 = .ok (.iload_n 2, 1) := by decide +kernel
theorem dX8_leanOf_3 : decode cX8_leanOf 3 = .ok (.invokevirtual 338, 3) := by decide +kernel
theorem dX8_leanOf_6 : decode cX8_leanOf 6 = .ok (.lstore_n 3, 1) := by decide +kernel
theorem dX8_leanOf_7 : decode cX8_leanOf 7 = .ok (.aload_n 0, 1) := by decide +kernel
theorem dX8_leanOf_8 : decode cX8_leanOf 8 = .ok (.aload_n 0, 1) := by decide +kernel
theorem dX8_leanOf_9 : decode cX8_leanOf 9 = .ok (.getfield 29, 3) := by decide +kernel
theorem dX8_leanOf_12 : decode cX8_leanOf 12 = .ok (.iconst 1, 1) := by decide +kernel
theorem dX8_leanOf_13 : decode cX8_leanOf 13 = .ok (.invokevirtual 330, 3) := by decide +kernel
theorem dX8_leanOf_16 : decode cX8_leanOf 16 = .ok (.lstore 5, 2) := by decide +kernel
theorem dX8_leanOf_18 : decode cX8_leanOf 18 = .ok (.lload_n 3, 1) := by decide +kernel
theorem dX8_leanOf_19 : decode cX8_leanOf 19 = .ok (.ldc2_w 282, 3) := by decide +kernel
theorem dX8_leanOf_22 : decode cX8_leanOf 22 = .ok (.lcmp, 1) := by decide +kernel
theorem dX8_leanOf_23 : decode cX8_leanOf 23 = .ok (.ifCond .eq 12, 3) := by decide +kernel
theorem dX8_leanOf_26 : decode cX8_leanOf 26 = .ok (.lload 5, 2) := by decide +kernel
theorem dX8_leanOf_28 : decode cX8_leanOf 28 = .ok (.ldc2_w 282, 3) := by decide +kernel
theorem dX8_leanOf_31 : decode cX8_leanOf 31 = .ok (.lcmp, 1) := by decide +kernel
theorem dX8_leanOf_32 : decode cX8_leanOf 32 = .ok (.ifCond .ne 9, 3) := by decide +kernel
theorem dX8_leanOf_35 : decode cX8_leanOf 35 = .ok (.ldc2_w 282, 3) := by decide +kernel
theorem dX8_leanOf_38 : decode cX8_leanOf 38 = .ok (.goto 7, 3) := by decide +kernel
theorem dX8_leanOf_41 : decode cX8_leanOf 41 = .ok (.lload_n 3, 1) := by decide +kernel
theorem dX8_leanOf_42 : decode cX8_leanOf 42 = .ok (.lload 5, 2) := by decide +kernel
theorem dX8_leanOf_44 : decode cX8_leanOf 44 = .ok (.lsub, 1) := by decide +kernel
theorem dX8_leanOf_45 : decode cX8_leanOf 45 = .ok (.lreturn, 1) := by decide +kernel
set_option maxRecDepth 20000 in
theorem ggX8_estimateOf_X8_plainOf : GoodIn wsX8_estimateOf wsX8_plainOf := goodIn_r _ [7, 8, 1, 9, 10, 11, 12, 13, 14, 15, 16, 17, 18, 19, 20, 21, 22, 23, 24, 25, 26, 27, 28, 29, 30, 31, 32, 33, 34, 35, 36, 37, 38, 39, 6, 40, 2, 41, 100, 101, 102, 103, 104, 105, 106, 107, 108, 109, 110, 111, 112, 113, 114, 115, 116, 117, 118, 119, 120, 121, 122, 123, 124, 125, 126, 127] (by decide +kernel) (by decide +kernel)
set_option maxRecDepth 20000 in
theorem gX8_estimateOf_X8_plainOf : GoodIn wsX8_estimateOf (wsV RX8 221 RX8 yX8_plainOf wsX8_plainOf) := goodIn_app (goodIn_of _ (by decide +kernel)) ggX8_estimateOf_X8_plainOf
set_option maxRecDepth 20000 in
theorem ggX8_estimateOf_X8_divided : GoodIn wsX8_estimateOf wsX8_divided := goodIn_r _ [45, 8, 9, 46, 15, 16, 17, 18, 19, 20, 21, 22, 23, 24, 25, 26, 27, 28, 29, 30, 47, 48, 6, 49, 50, 51, 52, 53, 54, 55, 31, 32, 33, 34, 35, 36, 37, 100, 101, 102, 103, 104, 105, 106, 107, 108, 109, 110, 111, 112, 113, 114, 115, 116, 117, 118, 119, 120, 121, 122, 123, 124, 125, 126, 127] (by decide +kernel) (by decide +kernel)
set_option maxRecDepth 20000 in
theorem gX8_estimateOf_X8_divided : GoodIn wsX8_estimateOf (wsV RX8 253 RX8 yX8_divided wsX8_divided) := goodIn_app (goodIn_of _ (by decide +kernel)) ggX8_estimateOf_X8_divided
set_option maxRecDepth 20000 in
theorem ggX8_estimateOf_X6_byMoved : GoodIn wsX8_estimateOf wsX6_byMoved := goodIn_r _ [59, 60, 61, 62, 18, 63, 21, 25, 64, 65, 22, 26, 20, 24, 66, 67, 68, 69, 70, 71, 72, 73, 117, 118, 119, 120, 121, 122, 123, 124, 125, 126, 127] (by decide +kernel) (by decide +kernel)
set_option maxRecDepth 20000 in
theorem gX8_estimateOf_X6_byMoved : GoodIn wsX8_estimateOf (wsV RX8 257 RX6 yX6_byMoved wsX6_byMoved) := goodIn_app (goodIn_of _ (by decide +kernel)) ggX8_estimateOf_X6_byMoved
set_option maxRecDepth 20000 in
theorem ggX8_estimateOf_X8_manyOf : GoodIn wsX8_estimateOf wsX8_manyOf := goodIn_r _ [77, 78, 1, 79, 80, 81, 82, 83, 84, 85, 86, 87, 88, 89, 90, 91, 92, 93, 94, 95, 96, 97, 98, 99, 39, 6, 40, 2, 41, 100, 101, 102, 103, 104, 105, 106, 107, 108, 109, 128, 129, 130, 110, 111, 112, 113, 114, 115, 116] (by decide +kernel) (by decide +kernel)
set_option maxRecDepth 20000 in
theorem gX8_estimateOf_X8_manyOf : GoodIn wsX8_estimateOf (wsV RX8 260 RX8 yX8_manyOf wsX8_manyOf) := goodIn_app (goodIn_of _ (by decide +kernel)) ggX8_estimateOf_X8_manyOf
theorem dX8_estimateOf_0 : decode cX8_estimateOf 0 = .ok (.iload_n 1, 1) := by decide +kernel
theorem dX8_estimateOf_1 : decode cX8_estimateOf 1 = .ok (.tableswitch 50 0 2 #[27, 32, 45], 27) := by decide +kernel
theorem dX8_estimateOf_28 : decode cX8_estimateOf 28 = .ok (.aload_n 0, 1) := by decide +kernel
theorem dX8_estimateOf_29 : decode cX8_estimateOf 29 = .ok (.invokevirtual 221, 3) := by decide +kernel
theorem dX8_estimateOf_32 : decode cX8_estimateOf 32 = .ok (.lreturn, 1) := by decide +kernel
theorem dX8_estimateOf_33 : decode cX8_estimateOf 33 = .ok (.aload_n 0, 1) := by decide +kernel
theorem dX8_estimateOf_34 : decode cX8_estimateOf 34 = .ok (.aload_n 0, 1) := by decide +kernel
theorem dX8_estimateOf_35 : decode cX8_estimateOf 35 = .ok (.getfield 29, 3) := by decide +kernel
theorem dX8_estimateOf_38 : decode cX8_estimateOf 38 = .ok (.iload_n 2, 1) := by decide +kernel
theorem dX8_estimateOf_39 : decode cX8_estimateOf 39 = .ok (.invokevirtual 253, 3) := by decide +kernel
theorem dX8_estimateOf_42 : decode cX8_estimateOf 42 = .ok (.invokevirtual 257, 3) := by decide +kernel
theorem dX8_estimateOf_45 : decode cX8_estimateOf 45 = .ok (.lreturn, 1) := by decide +kernel
theorem dX8_estimateOf_46 : decode cX8_estimateOf 46 = .ok (.aload_n 0, 1) := by decide +kernel
theorem dX8_estimateOf_47 : decode cX8_estimateOf 47 = .ok (.invokevirtual 260, 3) := by decide +kernel
theorem dX8_estimateOf_50 : decode cX8_estimateOf 50 = .ok (.lreturn, 1) := by decide +kernel
theorem dX8_estimateOf_51 : decode cX8_estimateOf 51 = .ok (.ldc2_w 282, 3) := by decide +kernel
theorem dX8_estimateOf_54 : decode cX8_estimateOf 54 = .ok (.lreturn, 1) := by decide +kernel
set_option maxRecDepth 20000 in
theorem ggX8_least_X8_leanOf : GoodIn wsX8_least wsX8_leanOf := goodIn_r _ [10, 11, 1, 12, 13, 14, 9, 15, 16, 17, 18, 19, 20, 21, 22, 23, 24, 25, 26, 27, 28, 29, 30, 31, 32, 33, 34, 35, 36, 37, 38, 39, 40, 41, 42, 43, 44, 45, 46, 47, 48, 49, 50, 51, 52, 53, 54, 55, 56, 57, 58, 59, 60, 61, 62, 63, 64, 65, 66, 67, 68, 69, 70, 71, 72, 73, 74, 75, 76, 77, 78, 79, 80, 81, 82, 83, 84, 85, 86, 87, 88, 89, 90, 91, 92, 93, 94, 95, 96, 97, 98, 99, 100, 101, 102, 103, 104, 105, 106, 107, 108, 109, 110, 111, 112, 113, 114, 115, 116, 117, 118, 119, 120, 121, 122, 123, 124, 125, 126, 127, 128, 129, 130, 131, 132, 133, 134, 135, 136, 137, 138, 139, 140, 141, 142, 143, 144, 145, 146, 147, 148, 149, 150, 151, 152, 153, 154, 155, 156, 4, 157, 158, 159, 160, 161, 162, 163, 164, 165, 166, 167, 168, 169, 170, 171, 172, 173, 174, 175, 176, 177, 178, 179, 180, 181, 182, 183, 184, 185, 186, 187, 188, 189, 190, 191, 192, 193, 194, 195, 196, 197, 198, 199, 200, 201, 202, 203, 204, 205, 206, 207, 208, 209, 210, 211, 212, 213, 214, 215, 216, 217, 218, 219, 220, 221, 222, 223, 224, 225, 226, 227, 228, 229, 230] (by decide +kernel) (by decide +kernel)
set_option maxRecDepth 20000 in
theorem gX8_least_X8_leanOf : GoodIn wsX8_least (wsV RX8 334 RX8 yX8_leanOf wsX8_leanOf) := goodIn_app (goodIn_of _ (by decide +kernel)) ggX8_least_X8_leanOf
theorem dX8_least_0 : decode cX8_least 0 = .ok (.iconst (-1), 1) := by decide +kernel
theorem dX8_least_1 : decode cX8_least 1 = .ok (.istore_n 2, 1) := by decide +kernel
theorem dX8_least_2 : decode cX8_least 2 = .ok (.lconst 0, 1) := by decide +kernel
theorem dX8_least_3 : decode cX8_least 3 = .ok (.lstore_n 3, 1) := by decide +kernel
theorem dX8_least_4 : decode cX8_least 4 = .ok (.iconst 0, 1) := by decide +kernel
theorem dX8_least_5 : decode cX8_least 5 = .ok (.istore 5, 2) := by decide +kernel
theorem dX8_least_7 : decode cX8_least 7 = .ok (.iload 5, 2) := by decide +kernel
theorem dX8_least_9 : decode cX8_least 9 = .ok (.iconst 2, 1) := by decide +kernel
theorem dX8_least_10 : decode cX8_least 10 = .ok (.if_icmp .gt 51, 3) := by decide +kernel
theorem dX8_least_13 : decode cX8_least 13 = .ok (.aload_n 0, 1) := by decide +kernel
theorem dX8_least_14 : decode cX8_least 14 = .ok (.iload 5, 2) := by decide +kernel
theorem dX8_least_16 : decode cX8_least 16 = .ok (.iload_n 1, 1) := by decide +kernel
theorem dX8_least_17 : decode cX8_least 17 = .ok (.invokevirtual 334, 3) := by decide +kernel
theorem dX8_least_20 : decode cX8_least 20 = .ok (.lstore 6, 2) := by decide +kernel
theorem dX8_least_22 : decode cX8_least 22 = .ok (.lload 6, 2) := by decide +kernel
theorem dX8_least_24 : decode cX8_least 24 = .ok (.ldc2_w 282, 3) := by decide +kernel
theorem dX8_least_27 : decode cX8_least 27 = .ok (.lcmp, 1) := by decide +kernel
theorem dX8_least_28 : decode cX8_least 28 = .ok (.ifCond .eq 27, 3) := by decide +kernel
theorem dX8_least_31 : decode cX8_least 31 = .ok (.iload_n 2, 1) := by decide +kernel
theorem dX8_least_32 : decode cX8_least 32 = .ok (.iconst (-1), 1) := by decide +kernel
theorem dX8_least_33 : decode cX8_least 33 = .ok (.if_icmp .eq 13, 3) := by decide +kernel
theorem dX8_least_36 : decode cX8_least 36 = .ok (.lload 6, 2) := by decide +kernel
theorem dX8_least_38 : decode cX8_least 38 = .ok (.invokestatic 307, 3) := by decide +kernel
theorem dX8_least_41 : decode cX8_least 41 = .ok (.lload_n 3, 1) := by decide +kernel
theorem dX8_least_42 : decode cX8_least 42 = .ok (.lcmp, 1) := by decide +kernel
theorem dX8_least_43 : decode cX8_least 43 = .ok (.ifCond .ge 12, 3) := by decide +kernel
theorem dX8_least_46 : decode cX8_least 46 = .ok (.iload 5, 2) := by decide +kernel
theorem dX8_least_48 : decode cX8_least 48 = .ok (.istore_n 2, 1) := by decide +kernel
theorem dX8_least_49 : decode cX8_least 49 = .ok (.lload 6, 2) := by decide +kernel
theorem dX8_least_51 : decode cX8_least 51 = .ok (.invokestatic 307, 3) := by decide +kernel
theorem dX8_least_54 : decode cX8_least 54 = .ok (.lstore_n 3, 1) := by decide +kernel
theorem dX8_least_55 : decode cX8_least 55 = .ok (.iinc 5 1, 3) := by decide +kernel
theorem dX8_least_58 : decode cX8_least 58 = .ok (.goto (-51), 3) := by decide +kernel
theorem dX8_least_61 : decode cX8_least 61 = .ok (.iload_n 2, 1) := by decide +kernel
theorem dX8_least_62 : decode cX8_least 62 = .ok (.ireturn, 1) := by decide +kernel
set_option maxRecDepth 20000 in
theorem ggX8_beside_X8_isPlaced : GoodIn wsX8_beside wsX8_isPlaced := goodIn_r _ [12, 6, 5, 13, 14, 15, 16, 17, 18, 19, 20, 21, 22, 23, 24, 67, 68, 69, 70, 71, 72, 73, 74, 75, 76, 77, 78, 79, 80, 81, 82, 83, 84, 85, 86, 87, 88, 89, 90, 91, 92, 93, 94, 95, 96, 97, 98, 99] (by decide +kernel) (by decide +kernel)
set_option maxRecDepth 20000 in
theorem gX8_beside_X8_isPlaced : GoodIn wsX8_beside (wsV RX8 206 RX8 yX8_isPlaced wsX8_isPlaced) := goodIn_app (goodIn_of _ (by decide +kernel)) ggX8_beside_X8_isPlaced
set_option maxRecDepth 20000 in
theorem ggX8_beside_X8_isMonth : GoodIn wsX8_beside wsX8_isMonth := goodIn_r _ [27, 28, 29, 11, 30] (by decide +kernel) (by decide +kernel)
set_option maxRecDepth 20000 in
theorem gX8_beside_X8_isMonth : GoodIn wsX8_beside (va_wsS RX8 95 yX8_isMonth wsX8_isMonth) := goodIn_app (goodIn_of _ (by decide +kernel)) ggX8_beside_X8_isMonth
set_option maxRecDepth 20000 in
theorem ggX8_beside_X3_payFor : GoodIn wsX8_beside wsX3_payFor := goodIn_r _ [34, 35, 36, 37, 38, 39, 40, 22, 41, 42, 43, 44, 45, 46, 47, 48, 49, 50, 51, 52, 53, 54, 55, 56, 57, 11, 58, 59, 60, 61, 62, 63, 64, 65, 66, 84, 85, 86, 87, 88, 89, 90, 91, 92, 93, 94, 95, 96, 97, 98, 99] (by decide +kernel) (by decide +kernel)
set_option maxRecDepth 20000 in
theorem gX8_beside_X3_payFor : GoodIn wsX8_beside (wsV RX8 109 RX3 yX3_payFor wsX3_payFor) := goodIn_app (goodIn_of _ (by decide +kernel)) ggX8_beside_X3_payFor
theorem dX8_beside_0 : decode cX8_beside 0 = .ok (.aload_n 0, 1) := by decide +kernel
theorem dX8_beside_1 : decode cX8_beside 1 = .ok (.aload_n 0, 1) := by decide +kernel
theorem dX8_beside_2 : decode cX8_beside 2 = .ok (.getfield 29, 3) := by decide +kernel
theorem dX8_beside_5 : decode cX8_beside 5 = .ok (.iload_n 1, 1) := by decide +kernel
theorem dX8_beside_6 : decode cX8_beside 6 = .ok (.invokevirtual 206, 3) := by decide +kernel
theorem dX8_beside_9 : decode cX8_beside 9 = .ok (.ifCond .eq 10, 3) := by decide +kernel
theorem dX8_beside_12 : decode cX8_beside 12 = .ok (.iload_n 2, 1) := by decide +kernel
theorem dX8_beside_13 : decode cX8_beside 13 = .ok (.invokestatic 95, 3) := by decide +kernel
theorem dX8_beside_16 : decode cX8_beside 16 = .ok (.ifCond .ne 6, 3) := by decide +kernel
theorem dX8_beside_19 : decode cX8_beside 19 = .ok (.ldc 214, 2) := by decide +kernel
theorem dX8_beside_21 : decode cX8_beside 21 = .ok (.ireturn, 1) := by decide +kernel
theorem dX8_beside_22 : decode cX8_beside 22 = .ok (.aload_n 0, 1) := by decide +kernel
theorem dX8_beside_23 : decode cX8_beside 23 = .ok (.getfield 29, 3) := by decide +kernel
theorem dX8_beside_26 : decode cX8_beside 26 = .ok (.getfield 198, 3) := by decide +kernel
theorem dX8_beside_29 : decode cX8_beside 29 = .ok (.iload_n 1, 1) := by decide +kernel
theorem dX8_beside_30 : decode cX8_beside 30 = .ok (.iaload, 1) := by decide +kernel
theorem dX8_beside_31 : decode cX8_beside 31 = .ok (.istore_n 3, 1) := by decide +kernel
theorem dX8_beside_32 : decode cX8_beside 32 = .ok (.aload_n 0, 1) := by decide +kernel
theorem dX8_beside_33 : decode cX8_beside 33 = .ok (.getfield 29, 3) := by decide +kernel
theorem dX8_beside_36 : decode cX8_beside 36 = .ok (.getfield 204, 3) := by decide +kernel
theorem dX8_beside_39 : decode cX8_beside 39 = .ok (.iload_n 1, 1) := by decide +kernel
theorem dX8_beside_40 : decode cX8_beside 40 = .ok (.iaload, 1) := by decide +kernel
theorem dX8_beside_41 : decode cX8_beside 41 = .ok (.istore 4, 2) := by decide +kernel
theorem dX8_beside_43 : decode cX8_beside 43 = .ok (.aload_n 0, 1) := by decide +kernel
theorem dX8_beside_44 : decode cX8_beside 44 = .ok (.getfield 29, 3) := by decide +kernel
theorem dX8_beside_47 : decode cX8_beside 47 = .ok (.getfield 192, 3) := by decide +kernel
theorem dX8_beside_50 : decode cX8_beside 50 = .ok (.iload_n 1, 1) := by decide +kernel
