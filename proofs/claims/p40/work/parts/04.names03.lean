theorem adX9_lawLine_43 : (decode cX9_lawLine 43 = .ok (.bipush 20, 2)) ∧ (decode cX9_lawLine 45 = .ok (.invokevirtual 209, 3)) ∧ (decode cX9_lawLine 48 = .ok (.iastore, 1)) ∧ (decode cX9_lawLine 49 = .ok (.aload_n 0, 1)) ∧ (decode cX9_lawLine 50 = .ok (.getfield 34, 3)) ∧ (decode cX9_lawLine 53 = .ok (.iconst 4, 1)) ∧ (decode cX9_lawLine 54 = .ok (.dup2, 1)) ∧ (decode cX9_lawLine 55 = .ok (.iaload, 1)) := by decide +kernel
theorem dX9_lawLine_43 : decode cX9_lawLine 43 = .ok (.bipush 20, 2) := adX9_lawLine_43.1
theorem dX9_lawLine_45 : decode cX9_lawLine 45 = .ok (.invokevirtual 209, 3) := adX9_lawLine_43.2.1
theorem dX9_lawLine_48 : decode cX9_lawLine 48 = .ok (.iastore, 1) := adX9_lawLine_43.2.2.1
theorem dX9_lawLine_49 : decode cX9_lawLine 49 = .ok (.aload_n 0, 1) := adX9_lawLine_43.2.2.2.1
theorem dX9_lawLine_50 : decode cX9_lawLine 50 = .ok (.getfield 34, 3) := adX9_lawLine_43.2.2.2.2.1
theorem dX9_lawLine_53 : decode cX9_lawLine 53 = .ok (.iconst 4, 1) := adX9_lawLine_43.2.2.2.2.2.1
theorem dX9_lawLine_54 : decode cX9_lawLine 54 = .ok (.dup2, 1) := adX9_lawLine_43.2.2.2.2.2.2.1
theorem dX9_lawLine_55 : decode cX9_lawLine 55 = .ok (.iaload, 1) := adX9_lawLine_43.2.2.2.2.2.2.2
theorem adX9_lawLine_56 : (decode cX9_lawLine 56 = .ok (.iconst 1, 1)) ∧ (decode cX9_lawLine 57 = .ok (.iadd, 1)) ∧ (decode cX9_lawLine 58 = .ok (.iastore, 1)) ∧ (decode cX9_lawLine 59 = .ok (.return_, 1)) := by decide +kernel
theorem dX9_lawLine_56 : decode cX9_lawLine 56 = .ok (.iconst 1, 1) := adX9_lawLine_56.1
theorem dX9_lawLine_57 : decode cX9_lawLine 57 = .ok (.iadd, 1) := adX9_lawLine_56.2.1
theorem dX9_lawLine_58 : decode cX9_lawLine 58 = .ok (.iastore, 1) := adX9_lawLine_56.2.2.1
theorem dX9_lawLine_59 : decode cX9_lawLine 59 = .ok (.return_, 1) := adX9_lawLine_56.2.2.2
set_option maxRecDepth 20000 in
theorem ggX9_sortLine_X9_number_ : GoodIn wsX9_sortLine wsX9_number_ := goodIn_r _ [14, 15, 16, 17, 13, 18, 19, 20, 21, 22, 23, 24, 25, 26, 27, 28, 29, 30, 31, 32, 33, 34, 35, 36, 37, 38, 39, 40, 41, 42, 43, 44, 45, 46, 47, 48, 49, 50, 51, 52, 53, 54, 55, 56, 57, 58, 59, 60, 61, 62, 63, 64, 65, 66, 67, 68, 69, 70, 71, 72, 73, 74, 75, 76, 77, 78, 79, 80, 81, 82, 83, 84, 85, 86, 87, 88, 89, 90, 91, 92, 93, 94, 95, 96, 97, 98, 99, 100, 101, 102, 103, 104, 105, 106, 107, 108, 109, 110, 111, 112, 113, 114, 115, 116, 117, 118, 119] (by decide +kernel) (by decide +kernel)
set_option maxRecDepth 20000 in
theorem gX9_sortLine_X9_number_ : GoodIn wsX9_sortLine (wsV RX9 209 RX9 yX9_number_ wsX9_number_) := goodIn_app (goodIn_of _ (by decide +kernel)) ggX9_sortLine_X9_number_
set_option maxRecDepth 20000 in
theorem ggX9_sortLine_X9_is : GoodIn wsX9_sortLine wsX9_is := goodIn_r _ [26, 27, 28, 29, 60, 61, 62, 63, 64, 65, 66, 67, 68, 69, 70, 71, 72, 73, 74, 75, 76, 77, 78, 79, 80, 81, 82, 83, 84, 85, 86, 87, 88, 89, 90, 91, 92, 93, 94, 95, 96, 97, 98, 99, 100, 101, 102, 103, 104, 105, 106, 107, 108, 109, 110, 111, 112, 113, 114, 115, 116, 117, 118, 119] (by decide +kernel) (by decide +kernel)
set_option maxRecDepth 20000 in
theorem gX9_sortLine_X9_is : GoodIn wsX9_sortLine (wsV RX9 183 RX9 yX9_is wsX9_is) := goodIn_app (goodIn_of _ (by decide +kernel)) ggX9_sortLine_X9_is
theorem adX9_sortLine_0 : (decode cX9_sortLine 0 = .ok (.bipush 32, 2)) ∧ (decode cX9_sortLine 2 = .ok (.aload_n 0, 1)) ∧ (decode cX9_sortLine 3 = .ok (.getfield 43, 3)) ∧ (decode cX9_sortLine 6 = .ok (.iconst 4, 1)) ∧ (decode cX9_sortLine 7 = .ok (.iaload, 1)) ∧ (decode cX9_sortLine 8 = .ok (.iadd, 1)) ∧ (decode cX9_sortLine 9 = .ok (.istore_n 1, 1)) ∧ (decode cX9_sortLine 10 = .ok (.aload_n 0, 1)) := by decide +kernel
theorem dX9_sortLine_0 : decode cX9_sortLine 0 = .ok (.bipush 32, 2) := adX9_sortLine_0.1
theorem dX9_sortLine_2 : decode cX9_sortLine 2 = .ok (.aload_n 0, 1) := adX9_sortLine_0.2.1
theorem dX9_sortLine_3 : decode cX9_sortLine 3 = .ok (.getfield 43, 3) := adX9_sortLine_0.2.2.1
theorem dX9_sortLine_6 : decode cX9_sortLine 6 = .ok (.iconst 4, 1) := adX9_sortLine_0.2.2.2.1
theorem dX9_sortLine_7 : decode cX9_sortLine 7 = .ok (.iaload, 1) := adX9_sortLine_0.2.2.2.2.1
theorem dX9_sortLine_8 : decode cX9_sortLine 8 = .ok (.iadd, 1) := adX9_sortLine_0.2.2.2.2.2.1
theorem dX9_sortLine_9 : decode cX9_sortLine 9 = .ok (.istore_n 1, 1) := adX9_sortLine_0.2.2.2.2.2.2.1
theorem dX9_sortLine_10 : decode cX9_sortLine 10 = .ok (.aload_n 0, 1) := adX9_sortLine_0.2.2.2.2.2.2.2
theorem adX9_sortLine_11 : (decode cX9_sortLine 11 = .ok (.getfield 46, 3)) ∧ (decode cX9_sortLine 14 = .ok (.iload_n 1, 1)) ∧ (decode cX9_sortLine 15 = .ok (.aload_n 0, 1)) ∧ (decode cX9_sortLine 16 = .ok (.ldc2_w 214, 3)) ∧ (decode cX9_sortLine 19 = .ok (.iconst 1, 1)) ∧ (decode cX9_sortLine 20 = .ok (.bipush 99, 2)) ∧ (decode cX9_sortLine 22 = .ok (.invokevirtual 209, 3)) ∧ (decode cX9_sortLine 25 = .ok (.iastore, 1)) := by decide +kernel
theorem dX9_sortLine_11 : decode cX9_sortLine 11 = .ok (.getfield 46, 3) := adX9_sortLine_11.1
theorem dX9_sortLine_14 : decode cX9_sortLine 14 = .ok (.iload_n 1, 1) := adX9_sortLine_11.2.1
theorem dX9_sortLine_15 : decode cX9_sortLine 15 = .ok (.aload_n 0, 1) := adX9_sortLine_11.2.2.1
theorem dX9_sortLine_16 : decode cX9_sortLine 16 = .ok (.ldc2_w 214, 3) := adX9_sortLine_11.2.2.2.1
theorem dX9_sortLine_19 : decode cX9_sortLine 19 = .ok (.iconst 1, 1) := adX9_sortLine_11.2.2.2.2.1
theorem dX9_sortLine_20 : decode cX9_sortLine 20 = .ok (.bipush 99, 2) := adX9_sortLine_11.2.2.2.2.2.1
theorem dX9_sortLine_22 : decode cX9_sortLine 22 = .ok (.invokevirtual 209, 3) := adX9_sortLine_11.2.2.2.2.2.2.1
theorem dX9_sortLine_25 : decode cX9_sortLine 25 = .ok (.iastore, 1) := adX9_sortLine_11.2.2.2.2.2.2.2
theorem adX9_sortLine_26 : (decode cX9_sortLine 26 = .ok (.aload_n 0, 1)) ∧ (decode cX9_sortLine 27 = .ok (.getfield 49, 3)) ∧ (decode cX9_sortLine 30 = .ok (.iload_n 1, 1)) ∧ (decode cX9_sortLine 31 = .ok (.aload_n 0, 1)) ∧ (decode cX9_sortLine 32 = .ok (.ldc2_w 216, 3)) ∧ (decode cX9_sortLine 35 = .ok (.iconst 0, 1)) ∧ (decode cX9_sortLine 36 = .ok (.bipush 99, 2)) ∧ (decode cX9_sortLine 38 = .ok (.invokevirtual 209, 3)) := by decide +kernel
theorem dX9_sortLine_26 : decode cX9_sortLine 26 = .ok (.aload_n 0, 1) := adX9_sortLine_26.1
theorem dX9_sortLine_27 : decode cX9_sortLine 27 = .ok (.getfield 49, 3) := adX9_sortLine_26.2.1
theorem dX9_sortLine_30 : decode cX9_sortLine 30 = .ok (.iload_n 1, 1) := adX9_sortLine_26.2.2.1
theorem dX9_sortLine_31 : decode cX9_sortLine 31 = .ok (.aload_n 0, 1) := adX9_sortLine_26.2.2.2.1
theorem dX9_sortLine_32 : decode cX9_sortLine 32 = .ok (.ldc2_w 216, 3) := adX9_sortLine_26.2.2.2.2.1
theorem dX9_sortLine_35 : decode cX9_sortLine 35 = .ok (.iconst 0, 1) := adX9_sortLine_26.2.2.2.2.2.1
theorem dX9_sortLine_36 : decode cX9_sortLine 36 = .ok (.bipush 99, 2) := adX9_sortLine_26.2.2.2.2.2.2.1
theorem dX9_sortLine_38 : decode cX9_sortLine 38 = .ok (.invokevirtual 209, 3) := adX9_sortLine_26.2.2.2.2.2.2.2
theorem adX9_sortLine_41 : (decode cX9_sortLine 41 = .ok (.iastore, 1)) ∧ (decode cX9_sortLine 42 = .ok (.aload_n 0, 1)) ∧ (decode cX9_sortLine 43 = .ok (.getfield 52, 3)) ∧ (decode cX9_sortLine 46 = .ok (.iload_n 1, 1)) ∧ (decode cX9_sortLine 47 = .ok (.aload_n 0, 1)) ∧ (decode cX9_sortLine 48 = .ok (.ldc2_w 218, 3)) ∧ (decode cX9_sortLine 51 = .ok (.iconst 0, 1)) ∧ (decode cX9_sortLine 52 = .ok (.sipush 240, 3)) := by decide +kernel
theorem dX9_sortLine_41 : decode cX9_sortLine 41 = .ok (.iastore, 1) := adX9_sortLine_41.1
theorem dX9_sortLine_42 : decode cX9_sortLine 42 = .ok (.aload_n 0, 1) := adX9_sortLine_41.2.1
theorem dX9_sortLine_43 : decode cX9_sortLine 43 = .ok (.getfield 52, 3) := adX9_sortLine_41.2.2.1
theorem dX9_sortLine_46 : decode cX9_sortLine 46 = .ok (.iload_n 1, 1) := adX9_sortLine_41.2.2.2.1
theorem dX9_sortLine_47 : decode cX9_sortLine 47 = .ok (.aload_n 0, 1) := adX9_sortLine_41.2.2.2.2.1
theorem dX9_sortLine_48 : decode cX9_sortLine 48 = .ok (.ldc2_w 218, 3) := adX9_sortLine_41.2.2.2.2.2.1
theorem dX9_sortLine_51 : decode cX9_sortLine 51 = .ok (.iconst 0, 1) := adX9_sortLine_41.2.2.2.2.2.2.1
theorem dX9_sortLine_52 : decode cX9_sortLine 52 = .ok (.sipush 240, 3) := adX9_sortLine_41.2.2.2.2.2.2.2
theorem adX9_sortLine_55 : (decode cX9_sortLine 55 = .ok (.invokevirtual 209, 3)) ∧ (decode cX9_sortLine 58 = .ok (.iastore, 1)) ∧ (decode cX9_sortLine 59 = .ok (.aload_n 0, 1)) ∧ (decode cX9_sortLine 60 = .ok (.getfield 55, 3)) ∧ (decode cX9_sortLine 63 = .ok (.iload_n 1, 1)) ∧ (decode cX9_sortLine 64 = .ok (.aload_n 0, 1)) ∧ (decode cX9_sortLine 65 = .ok (.ldc2_w 220, 3)) ∧ (decode cX9_sortLine 68 = .ok (.invokevirtual 183, 3)) := by decide +kernel
theorem dX9_sortLine_55 : decode cX9_sortLine 55 = .ok (.invokevirtual 209, 3) := adX9_sortLine_55.1
theorem dX9_sortLine_58 : decode cX9_sortLine 58 = .ok (.iastore, 1) := adX9_sortLine_55.2.1
theorem dX9_sortLine_59 : decode cX9_sortLine 59 = .ok (.aload_n 0, 1) := adX9_sortLine_55.2.2.1
theorem dX9_sortLine_60 : decode cX9_sortLine 60 = .ok (.getfield 55, 3) := adX9_sortLine_55.2.2.2.1
theorem dX9_sortLine_63 : decode cX9_sortLine 63 = .ok (.iload_n 1, 1) := adX9_sortLine_55.2.2.2.2.1
theorem dX9_sortLine_64 : decode cX9_sortLine 64 = .ok (.aload_n 0, 1) := adX9_sortLine_55.2.2.2.2.2.1
theorem dX9_sortLine_65 : decode cX9_sortLine 65 = .ok (.ldc2_w 220, 3) := adX9_sortLine_55.2.2.2.2.2.2.1
theorem dX9_sortLine_68 : decode cX9_sortLine 68 = .ok (.invokevirtual 183, 3) := adX9_sortLine_55.2.2.2.2.2.2.2
theorem adX9_sortLine_71 : (decode cX9_sortLine 71 = .ok (.ifCond .eq 16, 3)) ∧ (decode cX9_sortLine 74 = .ok (.aload_n 0, 1)) ∧ (decode cX9_sortLine 75 = .ok (.ldc2_w 220, 3)) ∧ (decode cX9_sortLine 78 = .ok (.iconst 0, 1)) ∧ (decode cX9_sortLine 79 = .ok (.bipush 60, 2)) ∧ (decode cX9_sortLine 81 = .ok (.invokevirtual 209, 3)) ∧ (decode cX9_sortLine 84 = .ok (.goto 4, 3)) ∧ (decode cX9_sortLine 87 = .ok (.iconst 0, 1)) := by decide +kernel
theorem dX9_sortLine_71 : decode cX9_sortLine 71 = .ok (.ifCond .eq 16, 3) := adX9_sortLine_71.1
theorem dX9_sortLine_74 : decode cX9_sortLine 74 = .ok (.aload_n 0, 1) := adX9_sortLine_71.2.1
theorem dX9_sortLine_75 : decode cX9_sortLine 75 = .ok (.ldc2_w 220, 3) := adX9_sortLine_71.2.2.1
theorem dX9_sortLine_78 : decode cX9_sortLine 78 = .ok (.iconst 0, 1) := adX9_sortLine_71.2.2.2.1
theorem dX9_sortLine_79 : decode cX9_sortLine 79 = .ok (.bipush 60, 2) := adX9_sortLine_71.2.2.2.2.1
theorem dX9_sortLine_81 : decode cX9_sortLine 81 = .ok (.invokevirtual 209, 3) := adX9_sortLine_71.2.2.2.2.2.1
theorem dX9_sortLine_84 : decode cX9_sortLine 84 = .ok (.goto 4, 3) := adX9_sortLine_71.2.2.2.2.2.2.1
theorem dX9_sortLine_87 : decode cX9_sortLine 87 = .ok (.iconst 0, 1) := adX9_sortLine_71.2.2.2.2.2.2.2
theorem adX9_sortLine_88 : (decode cX9_sortLine 88 = .ok (.iastore, 1)) ∧ (decode cX9_sortLine 89 = .ok (.aload_n 0, 1)) ∧ (decode cX9_sortLine 90 = .ok (.getfield 43, 3)) ∧ (decode cX9_sortLine 93 = .ok (.iconst 4, 1)) ∧ (decode cX9_sortLine 94 = .ok (.dup2, 1)) ∧ (decode cX9_sortLine 95 = .ok (.iaload, 1)) ∧ (decode cX9_sortLine 96 = .ok (.iconst 1, 1)) ∧ (decode cX9_sortLine 97 = .ok (.iadd, 1)) := by decide +kernel
theorem dX9_sortLine_88 : decode cX9_sortLine 88 = .ok (.iastore, 1) := adX9_sortLine_88.1
theorem dX9_sortLine_89 : decode cX9_sortLine 89 = .ok (.aload_n 0, 1) := adX9_sortLine_88.2.1
theorem dX9_sortLine_90 : decode cX9_sortLine 90 = .ok (.getfield 43, 3) := adX9_sortLine_88.2.2.1
theorem dX9_sortLine_93 : decode cX9_sortLine 93 = .ok (.iconst 4, 1) := adX9_sortLine_88.2.2.2.1
theorem dX9_sortLine_94 : decode cX9_sortLine 94 = .ok (.dup2, 1) := adX9_sortLine_88.2.2.2.2.1
theorem dX9_sortLine_95 : decode cX9_sortLine 95 = .ok (.iaload, 1) := adX9_sortLine_88.2.2.2.2.2.1
theorem dX9_sortLine_96 : decode cX9_sortLine 96 = .ok (.iconst 1, 1) := adX9_sortLine_88.2.2.2.2.2.2.1
theorem dX9_sortLine_97 : decode cX9_sortLine 97 = .ok (.iadd, 1) := adX9_sortLine_88.2.2.2.2.2.2.2
theorem adX9_sortLine_98 : (decode cX9_sortLine 98 = .ok (.iastore, 1)) ∧ (decode cX9_sortLine 99 = .ok (.return_, 1)) := by decide +kernel
theorem dX9_sortLine_98 : decode cX9_sortLine 98 = .ok (.iastore, 1) := adX9_sortLine_98.1
theorem dX9_sortLine_99 : decode cX9_sortLine 99 = .ok (.return_, 1) := adX9_sortLine_98.2
set_option maxRecDepth 20000 in
theorem ggX9_leakLine_X9_in : GoodIn wsX9_leakLine wsX9_in := goodIn_r _ [10] (by decide +kernel) (by decide +kernel)
set_option maxRecDepth 20000 in
theorem gX9_leakLine_X9_in : GoodIn wsX9_leakLine (va_wsS RX9 130 yX9_in wsX9_in) := goodIn_app (goodIn_of _ (by decide +kernel)) ggX9_leakLine_X9_in
set_option maxRecDepth 20000 in
theorem ggX9_leakLine_X9_fails : GoodIn wsX9_leakLine wsX9_fails := goodIn_r _ [14, 15, 16, 17, 55, 56, 57, 58, 59, 60, 61, 62, 63, 64, 65, 66, 67, 68, 69, 70, 71, 72, 73, 74, 75, 76, 77, 78, 79, 80, 81, 82, 83, 84, 85, 86, 87, 88, 89, 90, 91, 92, 93, 94, 95, 96, 97, 98, 99, 100, 101, 102, 103, 104, 105, 106, 107, 108, 109, 110, 111, 112, 113, 114] (by decide +kernel) (by decide +kernel)
set_option maxRecDepth 20000 in
theorem gX9_leakLine_X9_fails : GoodIn wsX9_leakLine (wsV RX9 193 RX9 yX9_fails wsX9_fails) := goodIn_app (goodIn_of _ (by decide +kernel)) ggX9_leakLine_X9_fails
set_option maxRecDepth 20000 in
theorem ggX9_leakLine_X9_number : GoodIn wsX9_leakLine wsX9_number := goodIn_r _ [21, 15, 1, 2, 11, 12, 13, 9, 14, 16, 17, 7, 8, 10, 22, 23, 24, 25, 26, 27, 28, 29, 30, 31, 32, 33, 34, 35, 36, 37, 38, 55, 56, 57, 58, 59, 60, 61, 62, 63, 64, 65, 66, 67, 68, 69, 70, 71, 72, 73, 74, 75, 76, 77, 78, 79, 80, 81, 82, 83, 84, 85, 86, 87, 88, 89, 90, 91, 92, 93, 94, 95, 96, 97, 98, 99, 100, 101, 102, 103, 104, 105, 106, 107, 108, 109, 110, 111, 112, 113, 114] (by decide +kernel) (by decide +kernel)
set_option maxRecDepth 20000 in
theorem gX9_leakLine_X9_number : GoodIn wsX9_leakLine (wsV RX9 200 RX9 yX9_number wsX9_number) := goodIn_app (goodIn_of _ (by decide +kernel)) ggX9_leakLine_X9_number
set_option maxRecDepth 20000 in
theorem ggX9_leakLine_X9_number_ : GoodIn wsX9_leakLine wsX9_number_ := goodIn_r _ [42, 43, 44, 45, 9, 46, 47, 48, 49, 50, 51, 52, 53, 54, 15, 1, 27, 22, 23, 24, 25, 26, 16, 2, 28, 29, 30, 31, 32, 33, 34, 35, 36, 37, 38, 11, 12, 13, 14, 17, 18, 19, 20, 21, 7, 8, 10, 55, 56, 57, 58, 59, 60, 61, 62, 63, 64, 65, 66, 67, 68, 69, 70, 71, 72, 73, 74, 75, 76, 77, 78, 79, 80, 81, 82, 83, 84, 85, 86, 87, 88, 89, 90, 91, 92, 93, 94, 95, 96, 97, 98, 99, 100, 101, 102, 103, 104, 105, 106, 107, 108, 109, 110, 111, 112, 113, 114] (by decide +kernel) (by decide +kernel)
set_option maxRecDepth 20000 in
theorem gX9_leakLine_X9_number_ : GoodIn wsX9_leakLine (wsV RX9 209 RX9 yX9_number_ wsX9_number_) := goodIn_app (goodIn_of _ (by decide +kernel)) ggX9_leakLine_X9_number_
theorem adX9_leakLine_0 : (decode cX9_leakLine 0 = .ok (.aload_n 0, 1)) ∧ (decode cX9_leakLine 1 = .ok (.getfield 166, 3)) ∧ (decode cX9_leakLine 4 = .ok (.iconst 2, 1)) ∧ (decode cX9_leakLine 5 = .ok (.if_icmp .ne 40, 3)) ∧ (decode cX9_leakLine 8 = .ok (.aload_n 0, 1)) ∧ (decode cX9_leakLine 9 = .ok (.getfield 159, 3)) ∧ (decode cX9_leakLine 12 = .ok (.i2l, 1)) ∧ (decode cX9_leakLine 13 = .ok (.lconst 1, 1)) := by decide +kernel
theorem dX9_leakLine_0 : decode cX9_leakLine 0 = .ok (.aload_n 0, 1) := adX9_leakLine_0.1
theorem dX9_leakLine_1 : decode cX9_leakLine 1 = .ok (.getfield 166, 3) := adX9_leakLine_0.2.1
theorem dX9_leakLine_4 : decode cX9_leakLine 4 = .ok (.iconst 2, 1) := adX9_leakLine_0.2.2.1
theorem dX9_leakLine_5 : decode cX9_leakLine 5 = .ok (.if_icmp .ne 40, 3) := adX9_leakLine_0.2.2.2.1
theorem dX9_leakLine_8 : decode cX9_leakLine 8 = .ok (.aload_n 0, 1) := adX9_leakLine_0.2.2.2.2.1
theorem dX9_leakLine_9 : decode cX9_leakLine 9 = .ok (.getfield 159, 3) := adX9_leakLine_0.2.2.2.2.2.1
theorem dX9_leakLine_12 : decode cX9_leakLine 12 = .ok (.i2l, 1) := adX9_leakLine_0.2.2.2.2.2.2.1
theorem dX9_leakLine_13 : decode cX9_leakLine 13 = .ok (.lconst 1, 1) := adX9_leakLine_0.2.2.2.2.2.2.2
theorem adX9_leakLine_14 : (decode cX9_leakLine 14 = .ok (.ldc2_w 222, 3)) ∧ (decode cX9_leakLine 17 = .ok (.invokestatic 130, 3)) ∧ (decode cX9_leakLine 20 = .ok (.ifCond .eq 25, 3)) ∧ (decode cX9_leakLine 23 = .ok (.aload_n 0, 1)) ∧ (decode cX9_leakLine 24 = .ok (.getfield 58, 3)) ∧ (decode cX9_leakLine 27 = .ok (.bipush 48, 2)) ∧ (decode cX9_leakLine 29 = .ok (.aload_n 0, 1)) ∧ (decode cX9_leakLine 30 = .ok (.getfield 159, 3)) := by decide +kernel
theorem dX9_leakLine_14 : decode cX9_leakLine 14 = .ok (.ldc2_w 222, 3) := adX9_leakLine_14.1
theorem dX9_leakLine_17 : decode cX9_leakLine 17 = .ok (.invokestatic 130, 3) := adX9_leakLine_14.2.1
theorem dX9_leakLine_20 : decode cX9_leakLine 20 = .ok (.ifCond .eq 25, 3) := adX9_leakLine_14.2.2.1
theorem dX9_leakLine_23 : decode cX9_leakLine 23 = .ok (.aload_n 0, 1) := adX9_leakLine_14.2.2.2.1
theorem dX9_leakLine_24 : decode cX9_leakLine 24 = .ok (.getfield 58, 3) := adX9_leakLine_14.2.2.2.2.1
theorem dX9_leakLine_27 : decode cX9_leakLine 27 = .ok (.bipush 48, 2) := adX9_leakLine_14.2.2.2.2.2.1
theorem dX9_leakLine_29 : decode cX9_leakLine 29 = .ok (.aload_n 0, 1) := adX9_leakLine_14.2.2.2.2.2.2.1
theorem dX9_leakLine_30 : decode cX9_leakLine 30 = .ok (.getfield 159, 3) := adX9_leakLine_14.2.2.2.2.2.2.2
theorem adX9_leakLine_33 : (decode cX9_leakLine 33 = .ok (.iadd, 1)) ∧ (decode cX9_leakLine 34 = .ok (.iconst 1, 1)) ∧ (decode cX9_leakLine 35 = .ok (.isub, 1)) ∧ (decode cX9_leakLine 36 = .ok (.baload, 1)) ∧ (decode cX9_leakLine 37 = .ok (.ifCond .eq 8, 3)) ∧ (decode cX9_leakLine 40 = .ok (.aload_n 0, 1)) ∧ (decode cX9_leakLine 41 = .ok (.iconst 2, 1)) ∧ (decode cX9_leakLine 42 = .ok (.invokevirtual 193, 3)) := by decide +kernel
theorem dX9_leakLine_33 : decode cX9_leakLine 33 = .ok (.iadd, 1) := adX9_leakLine_33.1
theorem dX9_leakLine_34 : decode cX9_leakLine 34 = .ok (.iconst 1, 1) := adX9_leakLine_33.2.1
theorem dX9_leakLine_35 : decode cX9_leakLine 35 = .ok (.isub, 1) := adX9_leakLine_33.2.2.1
theorem dX9_leakLine_36 : decode cX9_leakLine 36 = .ok (.baload, 1) := adX9_leakLine_33.2.2.2.1
theorem dX9_leakLine_37 : decode cX9_leakLine 37 = .ok (.ifCond .eq 8, 3) := adX9_leakLine_33.2.2.2.2.1
theorem dX9_leakLine_40 : decode cX9_leakLine 40 = .ok (.aload_n 0, 1) := adX9_leakLine_33.2.2.2.2.2.1
theorem dX9_leakLine_41 : decode cX9_leakLine 41 = .ok (.iconst 2, 1) := adX9_leakLine_33.2.2.2.2.2.2.1
theorem dX9_leakLine_42 : decode cX9_leakLine 42 = .ok (.invokevirtual 193, 3) := adX9_leakLine_33.2.2.2.2.2.2.2
theorem adX9_leakLine_45 : (decode cX9_leakLine 45 = .ok (.aload_n 0, 1)) ∧ (decode cX9_leakLine 46 = .ok (.iconst 1, 1)) ∧ (decode cX9_leakLine 47 = .ok (.bipush 12, 2)) ∧ (decode cX9_leakLine 49 = .ok (.invokevirtual 200, 3)) ∧ (decode cX9_leakLine 52 = .ok (.iconst 1, 1)) ∧ (decode cX9_leakLine 53 = .ok (.isub, 1)) ∧ (decode cX9_leakLine 54 = .ok (.istore_n 1, 1)) ∧ (decode cX9_leakLine 55 = .ok (.aload_n 0, 1)) := by decide +kernel
theorem dX9_leakLine_45 : decode cX9_leakLine 45 = .ok (.aload_n 0, 1) := adX9_leakLine_45.1
theorem dX9_leakLine_46 : decode cX9_leakLine 46 = .ok (.iconst 1, 1) := adX9_leakLine_45.2.1
theorem dX9_leakLine_47 : decode cX9_leakLine 47 = .ok (.bipush 12, 2) := adX9_leakLine_45.2.2.1
theorem dX9_leakLine_49 : decode cX9_leakLine 49 = .ok (.invokevirtual 200, 3) := adX9_leakLine_45.2.2.2.1
theorem dX9_leakLine_52 : decode cX9_leakLine 52 = .ok (.iconst 1, 1) := adX9_leakLine_45.2.2.2.2.1
theorem dX9_leakLine_53 : decode cX9_leakLine 53 = .ok (.isub, 1) := adX9_leakLine_45.2.2.2.2.2.1
theorem dX9_leakLine_54 : decode cX9_leakLine 54 = .ok (.istore_n 1, 1) := adX9_leakLine_45.2.2.2.2.2.2.1
theorem dX9_leakLine_55 : decode cX9_leakLine 55 = .ok (.aload_n 0, 1) := adX9_leakLine_45.2.2.2.2.2.2.2
theorem adX9_leakLine_56 : (decode cX9_leakLine 56 = .ok (.ldc2_w 224, 3)) ∧ (decode cX9_leakLine 59 = .ok (.iconst 0, 1)) ∧ (decode cX9_leakLine 60 = .ok (.bipush 99, 2)) ∧ (decode cX9_leakLine 62 = .ok (.invokevirtual 209, 3)) ∧ (decode cX9_leakLine 65 = .ok (.istore_n 2, 1)) ∧ (decode cX9_leakLine 66 = .ok (.aload_n 0, 1)) ∧ (decode cX9_leakLine 67 = .ok (.getfield 58, 3)) ∧ (decode cX9_leakLine 70 = .ok (.bipush 48, 2)) := by decide +kernel
theorem dX9_leakLine_56 : decode cX9_leakLine 56 = .ok (.ldc2_w 224, 3) := adX9_leakLine_56.1
theorem dX9_leakLine_59 : decode cX9_leakLine 59 = .ok (.iconst 0, 1) := adX9_leakLine_56.2.1
theorem dX9_leakLine_60 : decode cX9_leakLine 60 = .ok (.bipush 99, 2) := adX9_leakLine_56.2.2.1
theorem dX9_leakLine_62 : decode cX9_leakLine 62 = .ok (.invokevirtual 209, 3) := adX9_leakLine_56.2.2.2.1
theorem dX9_leakLine_65 : decode cX9_leakLine 65 = .ok (.istore_n 2, 1) := adX9_leakLine_56.2.2.2.2.1
theorem dX9_leakLine_66 : decode cX9_leakLine 66 = .ok (.aload_n 0, 1) := adX9_leakLine_56.2.2.2.2.2.1
theorem dX9_leakLine_67 : decode cX9_leakLine 67 = .ok (.getfield 58, 3) := adX9_leakLine_56.2.2.2.2.2.2.1
theorem dX9_leakLine_70 : decode cX9_leakLine 70 = .ok (.bipush 48, 2) := adX9_leakLine_56.2.2.2.2.2.2.2
theorem adX9_leakLine_72 : (decode cX9_leakLine 72 = .ok (.iload_n 1, 1)) ∧ (decode cX9_leakLine 73 = .ok (.iadd, 1)) ∧ (decode cX9_leakLine 74 = .ok (.iconst 1, 1)) ∧ (decode cX9_leakLine 75 = .ok (.bastore, 1)) ∧ (decode cX9_leakLine 76 = .ok (.aload_n 0, 1)) ∧ (decode cX9_leakLine 77 = .ok (.getfield 62, 3)) ∧ (decode cX9_leakLine 80 = .ok (.bipush 48, 2)) ∧ (decode cX9_leakLine 82 = .ok (.iload_n 1, 1)) := by decide +kernel
theorem dX9_leakLine_72 : decode cX9_leakLine 72 = .ok (.iload_n 1, 1) := adX9_leakLine_72.1
theorem dX9_leakLine_73 : decode cX9_leakLine 73 = .ok (.iadd, 1) := adX9_leakLine_72.2.1
theorem dX9_leakLine_74 : decode cX9_leakLine 74 = .ok (.iconst 1, 1) := adX9_leakLine_72.2.2.1
theorem dX9_leakLine_75 : decode cX9_leakLine 75 = .ok (.bastore, 1) := adX9_leakLine_72.2.2.2.1
theorem dX9_leakLine_76 : decode cX9_leakLine 76 = .ok (.aload_n 0, 1) := adX9_leakLine_72.2.2.2.2.1
theorem dX9_leakLine_77 : decode cX9_leakLine 77 = .ok (.getfield 62, 3) := adX9_leakLine_72.2.2.2.2.2.1
theorem dX9_leakLine_80 : decode cX9_leakLine 80 = .ok (.bipush 48, 2) := adX9_leakLine_72.2.2.2.2.2.2.1
theorem dX9_leakLine_82 : decode cX9_leakLine 82 = .ok (.iload_n 1, 1) := adX9_leakLine_72.2.2.2.2.2.2.2
theorem adX9_leakLine_83 : (decode cX9_leakLine 83 = .ok (.iadd, 1)) ∧ (decode cX9_leakLine 84 = .ok (.iload_n 2, 1)) ∧ (decode cX9_leakLine 85 = .ok (.iastore, 1)) ∧ (decode cX9_leakLine 86 = .ok (.return_, 1)) := by decide +kernel
theorem dX9_leakLine_83 : decode cX9_leakLine 83 = .ok (.iadd, 1) := adX9_leakLine_83.1
theorem dX9_leakLine_84 : decode cX9_leakLine 84 = .ok (.iload_n 2, 1) := adX9_leakLine_83.2.1
theorem dX9_leakLine_85 : decode cX9_leakLine 85 = .ok (.iastore, 1) := adX9_leakLine_83.2.2.1
theorem dX9_leakLine_86 : decode cX9_leakLine 86 = .ok (.return_, 1) := adX9_leakLine_83.2.2.2
theorem adX9_emit_0 : (decode cX9_emit 0 = .ok (.aload_n 0, 1)) ∧ (decode cX9_emit 1 = .ok (.getfield 80, 3)) ∧ (decode cX9_emit 4 = .ok (.sipush 1280, 3)) ∧ (decode cX9_emit 7 = .ok (.aload_n 0, 1)) ∧ (decode cX9_emit 8 = .ok (.getfield 77, 3)) ∧ (decode cX9_emit 11 = .ok (.iconst 4, 1)) ∧ (decode cX9_emit 12 = .ok (.iaload, 1)) ∧ (decode cX9_emit 13 = .ok (.iadd, 1)) := by decide +kernel
theorem dX9_emit_0 : decode cX9_emit 0 = .ok (.aload_n 0, 1) := adX9_emit_0.1
theorem dX9_emit_1 : decode cX9_emit 1 = .ok (.getfield 80, 3) := adX9_emit_0.2.1
theorem dX9_emit_4 : decode cX9_emit 4 = .ok (.sipush 1280, 3) := adX9_emit_0.2.2.1
theorem dX9_emit_7 : decode cX9_emit 7 = .ok (.aload_n 0, 1) := adX9_emit_0.2.2.2.1
theorem dX9_emit_8 : decode cX9_emit 8 = .ok (.getfield 77, 3) := adX9_emit_0.2.2.2.2.1
theorem dX9_emit_11 : decode cX9_emit 11 = .ok (.iconst 4, 1) := adX9_emit_0.2.2.2.2.2.1
theorem dX9_emit_12 : decode cX9_emit 12 = .ok (.iaload, 1) := adX9_emit_0.2.2.2.2.2.2.1
theorem dX9_emit_13 : decode cX9_emit 13 = .ok (.iadd, 1) := adX9_emit_0.2.2.2.2.2.2.2
theorem adX9_emit_14 : (decode cX9_emit 14 = .ok (.iload_n 1, 1)) ∧ (decode cX9_emit 15 = .ok (.iastore, 1)) ∧ (decode cX9_emit 16 = .ok (.aload_n 0, 1)) ∧ (decode cX9_emit 17 = .ok (.getfield 77, 3)) ∧ (decode cX9_emit 20 = .ok (.iconst 4, 1)) ∧ (decode cX9_emit 21 = .ok (.dup2, 1)) ∧ (decode cX9_emit 22 = .ok (.iaload, 1)) ∧ (decode cX9_emit 23 = .ok (.iconst 1, 1)) := by decide +kernel
theorem dX9_emit_14 : decode cX9_emit 14 = .ok (.iload_n 1, 1) := adX9_emit_14.1
theorem dX9_emit_15 : decode cX9_emit 15 = .ok (.iastore, 1) := adX9_emit_14.2.1
theorem dX9_emit_16 : decode cX9_emit 16 = .ok (.aload_n 0, 1) := adX9_emit_14.2.2.1
theorem dX9_emit_17 : decode cX9_emit 17 = .ok (.getfield 77, 3) := adX9_emit_14.2.2.2.1
theorem dX9_emit_20 : decode cX9_emit 20 = .ok (.iconst 4, 1) := adX9_emit_14.2.2.2.2.1
theorem dX9_emit_21 : decode cX9_emit 21 = .ok (.dup2, 1) := adX9_emit_14.2.2.2.2.2.1
theorem dX9_emit_22 : decode cX9_emit 22 = .ok (.iaload, 1) := adX9_emit_14.2.2.2.2.2.2.1
theorem dX9_emit_23 : decode cX9_emit 23 = .ok (.iconst 1, 1) := adX9_emit_14.2.2.2.2.2.2.2
theorem adX9_emit_24 : (decode cX9_emit 24 = .ok (.iadd, 1)) ∧ (decode cX9_emit 25 = .ok (.iastore, 1)) ∧ (decode cX9_emit 26 = .ok (.return_, 1)) := by decide +kernel
theorem dX9_emit_24 : decode cX9_emit 24 = .ok (.iadd, 1) := adX9_emit_24.1
theorem dX9_emit_25 : decode cX9_emit 25 = .ok (.iastore, 1) := adX9_emit_24.2.1
theorem dX9_emit_26 : decode cX9_emit 26 = .ok (.return_, 1) := adX9_emit_24.2.2
set_option maxRecDepth 20000 in
theorem ggX9_part_X9_number : GoodIn wsX9_part wsX9_number := goodIn_r _ [13, 1, 3, 14, 15, 16, 17, 12, 18, 19, 20, 21, 22, 23, 24, 25, 26, 27, 28, 29, 30, 31, 32, 33, 34, 35, 36, 37, 38, 39, 40, 51, 52, 53, 54, 55, 56, 57, 58, 59, 60, 61, 62, 63, 64, 65, 66, 67, 68, 69, 70, 71, 72, 73, 74, 75, 76, 77, 78, 79, 80, 81, 82, 83, 84, 85, 86, 87, 88, 89, 90, 91, 92, 93, 94, 95, 96, 97, 98, 99, 100, 101, 102, 103, 104, 105, 106, 107, 108, 109, 110] (by decide +kernel) (by decide +kernel)
set_option maxRecDepth 20000 in
theorem gX9_part_X9_number : GoodIn wsX9_part (wsV RX9 200 RX9 yX9_number wsX9_number) := goodIn_app (goodIn_of _ (by decide +kernel)) ggX9_part_X9_number
set_option maxRecDepth 20000 in
theorem ggX9_part_X9_emit : GoodIn wsX9_part wsX9_emit := goodIn_r _ [44, 45, 46, 51, 52, 53, 54, 55, 56, 57, 58, 59, 60, 61, 62, 63, 64, 65, 66, 67, 68, 69, 70, 71, 72, 73, 74, 75, 76, 77, 78, 79, 80, 81, 82, 83, 84, 85, 86, 87, 88, 89, 90, 91, 92, 93, 94, 95, 96, 97, 98, 99, 100, 101, 102, 103, 104, 105, 106, 107, 108, 109, 110] (by decide +kernel) (by decide +kernel)
set_option maxRecDepth 20000 in
theorem gX9_part_X9_emit : GoodIn wsX9_part (wsV RX9 226 RX9 yX9_emit wsX9_emit) := goodIn_app (goodIn_of _ (by decide +kernel)) ggX9_part_X9_emit
set_option maxRecDepth 20000 in
theorem ggX9_part_X9_is : GoodIn wsX9_part wsX9_is := goodIn_r _ [50, 1, 3, 29, 51, 52, 53, 54, 55, 56, 57, 58, 59, 60, 61, 62, 63, 64, 65, 66, 67, 68, 69, 70, 71, 72, 73, 74, 75, 76, 77, 78, 79, 80, 81, 82, 83, 84, 85, 86, 87, 88, 89, 90, 91, 92, 93, 94, 95, 96, 97, 98, 99, 100, 101, 102, 103, 104, 105, 106, 107, 108, 109, 110] (by decide +kernel) (by decide +kernel)
set_option maxRecDepth 20000 in
theorem gX9_part_X9_is : GoodIn wsX9_part (wsV RX9 183 RX9 yX9_is wsX9_is) := goodIn_app (goodIn_of _ (by decide +kernel)) ggX9_part_X9_is
set_option maxRecDepth 20000 in
theorem ggX9_part_X9_fails : GoodIn wsX9_part wsX9_fails := goodIn_r _ [18, 1, 19, 20, 51, 52, 53, 54, 55, 56, 57, 58, 59, 60, 61, 62, 63, 64, 65, 66, 67, 68, 69, 70, 71, 72, 73, 74, 75, 76, 77, 78, 79, 80, 81, 82, 83, 84, 85, 86, 87, 88, 89, 90, 91, 92, 93, 94, 95, 96, 97, 98, 99, 100, 101, 102, 103, 104, 105, 106, 107, 108, 109, 110] (by decide +kernel) (by decide +kernel)
set_option maxRecDepth 20000 in
theorem gX9_part_X9_fails : GoodIn wsX9_part (wsV RX9 193 RX9 yX9_fails wsX9_fails) := goodIn_app (goodIn_of _ (by decide +kernel)) ggX9_part_X9_fails
set_option maxRecDepth 20000 in
theorem ggX9_part_X9_next : GoodIn wsX9_part wsX9_next := goodIn_r _ [27, 28, 19, 14, 29, 30, 3, 31, 32, 33, 34, 35, 36, 37, 38, 39, 12, 40, 51, 52, 53, 54, 55, 56, 57, 58, 59, 60, 61, 62, 63, 64, 65, 66, 67, 68, 69, 70, 71, 72, 73, 74, 75, 76, 77, 78, 79, 80, 81, 82, 83, 84, 85, 86, 87, 88, 89, 90, 91, 92, 93, 94, 95, 96, 97, 98, 99, 100, 101, 102, 103, 104, 105, 106, 107, 108, 109, 110] (by decide +kernel) (by decide +kernel)
set_option maxRecDepth 20000 in
theorem gX9_part_X9_next : GoodIn wsX9_part (wsV RX9 187 RX9 yX9_next wsX9_next) := goodIn_app (goodIn_of _ (by decide +kernel)) ggX9_part_X9_next
theorem adX9_part_0 : (decode cX9_part 0 = .ok (.aload_n 0, 1)) ∧ (decode cX9_part 1 = .ok (.getfield 177, 3)) ∧ (decode cX9_part 4 = .ok (.ifCond .eq 4, 3)) ∧ (decode cX9_part 7 = .ok (.return_, 1)) ∧ (decode cX9_part 8 = .ok (.aload_n 0, 1)) ∧ (decode cX9_part 9 = .ok (.getfield 74, 3)) ∧ (decode cX9_part 12 = .ok (.iconst 4, 1)) ∧ (decode cX9_part 13 = .ok (.dup2, 1)) := by decide +kernel
theorem dX9_part_0 : decode cX9_part 0 = .ok (.aload_n 0, 1) := adX9_part_0.1
theorem dX9_part_1 : decode cX9_part 1 = .ok (.getfield 177, 3) := adX9_part_0.2.1
theorem dX9_part_4 : decode cX9_part 4 = .ok (.ifCond .eq 4, 3) := adX9_part_0.2.2.1
theorem dX9_part_7 : decode cX9_part 7 = .ok (.return_, 1) := adX9_part_0.2.2.2.1
theorem dX9_part_8 : decode cX9_part 8 = .ok (.aload_n 0, 1) := adX9_part_0.2.2.2.2.1
theorem dX9_part_9 : decode cX9_part 9 = .ok (.getfield 74, 3) := adX9_part_0.2.2.2.2.2.1
theorem dX9_part_12 : decode cX9_part 12 = .ok (.iconst 4, 1) := adX9_part_0.2.2.2.2.2.2.1
theorem dX9_part_13 : decode cX9_part 13 = .ok (.dup2, 1) := adX9_part_0.2.2.2.2.2.2.2
theorem adX9_part_14 : (decode cX9_part 14 = .ok (.iaload, 1)) ∧ (decode cX9_part 15 = .ok (.iconst 1, 1)) ∧ (decode cX9_part 16 = .ok (.iadd, 1)) ∧ (decode cX9_part 17 = .ok (.iastore, 1)) ∧ (decode cX9_part 18 = .ok (.aload_n 0, 1)) ∧ (decode cX9_part 19 = .ok (.getfield 166, 3)) ∧ (decode cX9_part 22 = .ok (.iconst 2, 1)) ∧ (decode cX9_part 23 = .ok (.if_icmp .ne 16, 3)) := by decide +kernel
theorem dX9_part_14 : decode cX9_part 14 = .ok (.iaload, 1) := adX9_part_14.1
theorem dX9_part_15 : decode cX9_part 15 = .ok (.iconst 1, 1) := adX9_part_14.2.1
theorem dX9_part_16 : decode cX9_part 16 = .ok (.iadd, 1) := adX9_part_14.2.2.1
theorem dX9_part_17 : decode cX9_part 17 = .ok (.iastore, 1) := adX9_part_14.2.2.2.1
theorem dX9_part_18 : decode cX9_part 18 = .ok (.aload_n 0, 1) := adX9_part_14.2.2.2.2.1
theorem dX9_part_19 : decode cX9_part 19 = .ok (.getfield 166, 3) := adX9_part_14.2.2.2.2.2.1
theorem dX9_part_22 : decode cX9_part 22 = .ok (.iconst 2, 1) := adX9_part_14.2.2.2.2.2.2.1
theorem dX9_part_23 : decode cX9_part 23 = .ok (.if_icmp .ne 16, 3) := adX9_part_14.2.2.2.2.2.2.2
theorem adX9_part_26 : (decode cX9_part 26 = .ok (.aload_n 0, 1)) ∧ (decode cX9_part 27 = .ok (.aload_n 0, 1)) ∧ (decode cX9_part 28 = .ok (.iconst 0, 1)) ∧ (decode cX9_part 29 = .ok (.sipush 999, 3)) ∧ (decode cX9_part 32 = .ok (.invokevirtual 200, 3)) ∧ (decode cX9_part 35 = .ok (.invokevirtual 226, 3)) ∧ (decode cX9_part 38 = .ok (.return_, 1)) ∧ (decode cX9_part 39 = .ok (.aload_n 0, 1)) := by decide +kernel
theorem dX9_part_26 : decode cX9_part 26 = .ok (.aload_n 0, 1) := adX9_part_26.1
theorem dX9_part_27 : decode cX9_part 27 = .ok (.aload_n 0, 1) := adX9_part_26.2.1
theorem dX9_part_28 : decode cX9_part 28 = .ok (.iconst 0, 1) := adX9_part_26.2.2.1
theorem dX9_part_29 : decode cX9_part 29 = .ok (.sipush 999, 3) := adX9_part_26.2.2.2.1
theorem dX9_part_32 : decode cX9_part 32 = .ok (.invokevirtual 200, 3) := adX9_part_26.2.2.2.2.1
theorem dX9_part_35 : decode cX9_part 35 = .ok (.invokevirtual 226, 3) := adX9_part_26.2.2.2.2.2.1
theorem dX9_part_38 : decode cX9_part 38 = .ok (.return_, 1) := adX9_part_26.2.2.2.2.2.2.1
theorem dX9_part_39 : decode cX9_part 39 = .ok (.aload_n 0, 1) := adX9_part_26.2.2.2.2.2.2.2
theorem adX9_part_40 : (decode cX9_part 40 = .ok (.ldc2_w 229, 3)) ∧ (decode cX9_part 43 = .ok (.invokevirtual 183, 3)) ∧ (decode cX9_part 46 = .ok (.ifCond .eq 7, 3)) ∧ (decode cX9_part 49 = .ok (.iconst 0, 1)) ∧ (decode cX9_part 50 = .ok (.goto 60, 3)) ∧ (decode cX9_part 53 = .ok (.aload_n 0, 1)) ∧ (decode cX9_part 54 = .ok (.ldc2_w 216, 3)) ∧ (decode cX9_part 57 = .ok (.invokevirtual 183, 3)) := by decide +kernel
theorem dX9_part_40 : decode cX9_part 40 = .ok (.ldc2_w 229, 3) := adX9_part_40.1
theorem dX9_part_43 : decode cX9_part 43 = .ok (.invokevirtual 183, 3) := adX9_part_40.2.1
theorem dX9_part_46 : decode cX9_part 46 = .ok (.ifCond .eq 7, 3) := adX9_part_40.2.2.1
theorem dX9_part_49 : decode cX9_part 49 = .ok (.iconst 0, 1) := adX9_part_40.2.2.2.1
theorem dX9_part_50 : decode cX9_part 50 = .ok (.goto 60, 3) := adX9_part_40.2.2.2.2.1
theorem dX9_part_53 : decode cX9_part 53 = .ok (.aload_n 0, 1) := adX9_part_40.2.2.2.2.2.1
theorem dX9_part_54 : decode cX9_part 54 = .ok (.ldc2_w 216, 3) := adX9_part_40.2.2.2.2.2.2.1
theorem dX9_part_57 : decode cX9_part 57 = .ok (.invokevirtual 183, 3) := adX9_part_40.2.2.2.2.2.2.2
theorem adX9_part_60 : (decode cX9_part 60 = .ok (.ifCond .eq 7, 3)) ∧ (decode cX9_part 63 = .ok (.iconst 1, 1)) ∧ (decode cX9_part 64 = .ok (.goto 46, 3)) ∧ (decode cX9_part 67 = .ok (.aload_n 0, 1)) ∧ (decode cX9_part 68 = .ok (.ldc2_w 231, 3)) ∧ (decode cX9_part 71 = .ok (.invokevirtual 183, 3)) ∧ (decode cX9_part 74 = .ok (.ifCond .eq 7, 3)) ∧ (decode cX9_part 77 = .ok (.iconst 2, 1)) := by decide +kernel
theorem dX9_part_60 : decode cX9_part 60 = .ok (.ifCond .eq 7, 3) := adX9_part_60.1
theorem dX9_part_63 : decode cX9_part 63 = .ok (.iconst 1, 1) := adX9_part_60.2.1
theorem dX9_part_64 : decode cX9_part 64 = .ok (.goto 46, 3) := adX9_part_60.2.2.1
theorem dX9_part_67 : decode cX9_part 67 = .ok (.aload_n 0, 1) := adX9_part_60.2.2.2.1
theorem dX9_part_68 : decode cX9_part 68 = .ok (.ldc2_w 231, 3) := adX9_part_60.2.2.2.2.1
theorem dX9_part_71 : decode cX9_part 71 = .ok (.invokevirtual 183, 3) := adX9_part_60.2.2.2.2.2.1
theorem dX9_part_74 : decode cX9_part 74 = .ok (.ifCond .eq 7, 3) := adX9_part_60.2.2.2.2.2.2.1
theorem dX9_part_77 : decode cX9_part 77 = .ok (.iconst 2, 1) := adX9_part_60.2.2.2.2.2.2.2
theorem adX9_part_78 : (decode cX9_part 78 = .ok (.goto 32, 3)) ∧ (decode cX9_part 81 = .ok (.aload_n 0, 1)) ∧ (decode cX9_part 82 = .ok (.ldc2_w 233, 3)) ∧ (decode cX9_part 85 = .ok (.invokevirtual 183, 3)) ∧ (decode cX9_part 88 = .ok (.ifCond .eq 7, 3)) ∧ (decode cX9_part 91 = .ok (.iconst 3, 1)) ∧ (decode cX9_part 92 = .ok (.goto 18, 3)) ∧ (decode cX9_part 95 = .ok (.aload_n 0, 1)) := by decide +kernel
theorem dX9_part_78 : decode cX9_part 78 = .ok (.goto 32, 3) := adX9_part_78.1
theorem dX9_part_81 : decode cX9_part 81 = .ok (.aload_n 0, 1) := adX9_part_78.2.1
theorem dX9_part_82 : decode cX9_part 82 = .ok (.ldc2_w 233, 3) := adX9_part_78.2.2.1
theorem dX9_part_85 : decode cX9_part 85 = .ok (.invokevirtual 183, 3) := adX9_part_78.2.2.2.1
theorem dX9_part_88 : decode cX9_part 88 = .ok (.ifCond .eq 7, 3) := adX9_part_78.2.2.2.2.1
theorem dX9_part_91 : decode cX9_part 91 = .ok (.iconst 3, 1) := adX9_part_78.2.2.2.2.2.1
theorem dX9_part_92 : decode cX9_part 92 = .ok (.goto 18, 3) := adX9_part_78.2.2.2.2.2.2.1
theorem dX9_part_95 : decode cX9_part 95 = .ok (.aload_n 0, 1) := adX9_part_78.2.2.2.2.2.2.2
theorem adX9_part_96 : (decode cX9_part 96 = .ok (.ldc2_w 235, 3)) ∧ (decode cX9_part 99 = .ok (.invokevirtual 183, 3)) ∧ (decode cX9_part 102 = .ok (.ifCond .eq 7, 3)) ∧ (decode cX9_part 105 = .ok (.iconst 4, 1)) ∧ (decode cX9_part 106 = .ok (.goto 4, 3)) ∧ (decode cX9_part 109 = .ok (.iconst (-1), 1)) ∧ (decode cX9_part 110 = .ok (.istore_n 1, 1)) ∧ (decode cX9_part 111 = .ok (.iload_n 1, 1)) := by decide +kernel
theorem dX9_part_96 : decode cX9_part 96 = .ok (.ldc2_w 235, 3) := adX9_part_96.1
theorem dX9_part_99 : decode cX9_part 99 = .ok (.invokevirtual 183, 3) := adX9_part_96.2.1
theorem dX9_part_102 : decode cX9_part 102 = .ok (.ifCond .eq 7, 3) := adX9_part_96.2.2.1
theorem dX9_part_105 : decode cX9_part 105 = .ok (.iconst 4, 1) := adX9_part_96.2.2.2.1
theorem dX9_part_106 : decode cX9_part 106 = .ok (.goto 4, 3) := adX9_part_96.2.2.2.2.1
theorem dX9_part_109 : decode cX9_part 109 = .ok (.iconst (-1), 1) := adX9_part_96.2.2.2.2.2.1
theorem dX9_part_110 : decode cX9_part 110 = .ok (.istore_n 1, 1) := adX9_part_96.2.2.2.2.2.2.1
theorem dX9_part_111 : decode cX9_part 111 = .ok (.iload_n 1, 1) := adX9_part_96.2.2.2.2.2.2.2
theorem adX9_part_112 : (decode cX9_part 112 = .ok (.iconst (-1), 1)) ∧ (decode cX9_part 113 = .ok (.if_icmp .ne 9, 3)) ∧ (decode cX9_part 116 = .ok (.aload_n 0, 1)) ∧ (decode cX9_part 117 = .ok (.iconst 1, 1)) ∧ (decode cX9_part 118 = .ok (.invokevirtual 193, 3)) ∧ (decode cX9_part 121 = .ok (.return_, 1)) ∧ (decode cX9_part 122 = .ok (.aload_n 0, 1)) ∧ (decode cX9_part 123 = .ok (.invokevirtual 187, 3)) := by decide +kernel
theorem dX9_part_112 : decode cX9_part 112 = .ok (.iconst (-1), 1) := adX9_part_112.1
theorem dX9_part_113 : decode cX9_part 113 = .ok (.if_icmp .ne 9, 3) := adX9_part_112.2.1
theorem dX9_part_116 : decode cX9_part 116 = .ok (.aload_n 0, 1) := adX9_part_112.2.2.1
theorem dX9_part_117 : decode cX9_part 117 = .ok (.iconst 1, 1) := adX9_part_112.2.2.2.1
theorem dX9_part_118 : decode cX9_part 118 = .ok (.invokevirtual 193, 3) := adX9_part_112.2.2.2.2.1
theorem dX9_part_121 : decode cX9_part 121 = .ok (.return_, 1) := adX9_part_112.2.2.2.2.2.1
theorem dX9_part_122 : decode cX9_part 122 = .ok (.aload_n 0, 1) := adX9_part_112.2.2.2.2.2.2.1
theorem dX9_part_123 : decode cX9_part 123 = .ok (.invokevirtual 187, 3) := adX9_part_112.2.2.2.2.2.2.2
theorem adX9_part_126 : (decode cX9_part 126 = .ok (.aload_n 0, 1)) ∧ (decode cX9_part 127 = .ok (.sipush 1000, 3)) ∧ (decode cX9_part 130 = .ok (.iload_n 1, 1)) ∧ (decode cX9_part 131 = .ok (.iadd, 1)) ∧ (decode cX9_part 132 = .ok (.invokevirtual 226, 3)) ∧ (decode cX9_part 135 = .ok (.return_, 1)) := by decide +kernel
theorem dX9_part_126 : decode cX9_part 126 = .ok (.aload_n 0, 1) := adX9_part_126.1
theorem dX9_part_127 : decode cX9_part 127 = .ok (.sipush 1000, 3) := adX9_part_126.2.1
theorem dX9_part_130 : decode cX9_part 130 = .ok (.iload_n 1, 1) := adX9_part_126.2.2.1
theorem dX9_part_131 : decode cX9_part 131 = .ok (.iadd, 1) := adX9_part_126.2.2.2.1
theorem dX9_part_132 : decode cX9_part 132 = .ok (.invokevirtual 226, 3) := adX9_part_126.2.2.2.2.1
theorem dX9_part_135 : decode cX9_part 135 = .ok (.return_, 1) := adX9_part_126.2.2.2.2.2
set_option maxRecDepth 20000 in
theorem ggX9_term_X9_part : GoodIn wsX9_term wsX9_part := goodIn_r _ [7, 8, 9, 10, 11, 12, 13, 14, 15, 16, 17, 18, 6, 19, 20, 21, 22, 23, 24, 25, 26, 27, 28, 29, 30, 31, 32, 33, 34, 35, 36, 37, 38, 39, 40, 41, 42, 43, 44, 45, 46, 47, 48, 49, 50, 51, 52, 53, 54, 55, 56, 57, 58, 59, 60, 61, 62, 63, 64, 65, 66, 67, 68, 69, 70, 71, 72, 73, 74, 75, 76, 77, 78, 79, 80, 81, 82, 83, 84, 85, 86, 87, 88, 89, 90, 91, 92, 93, 94, 95, 96, 97, 98, 99, 100, 101, 102, 103, 104, 105, 106, 107, 108, 109, 110, 111, 112, 113, 114, 115, 116] (by decide +kernel) (by decide +kernel)
set_option maxRecDepth 20000 in
theorem gX9_term_X9_part : GoodIn wsX9_term (wsV RX9 237 RX9 yX9_part wsX9_part) := goodIn_app (goodIn_of _ (by decide +kernel)) ggX9_term_X9_part
set_option maxRecDepth 20000 in
theorem ggX9_term_X9_is : GoodIn wsX9_term wsX9_is := goodIn_r _ [56, 8, 10, 35, 57, 58, 59, 60, 61, 62, 63, 64, 65, 66, 67, 68, 69, 70, 71, 72, 73, 74, 75, 76, 77, 78, 79, 80, 81, 82, 83, 84, 85, 86, 87, 88, 89, 90, 91, 92, 93, 94, 95, 96, 97, 98, 99, 100, 101, 102, 103, 104, 105, 106, 107, 108, 109, 110, 111, 112, 113, 114, 115, 116] (by decide +kernel) (by decide +kernel)
set_option maxRecDepth 20000 in
theorem gX9_term_X9_is : GoodIn wsX9_term (wsV RX9 183 RX9 yX9_is wsX9_is) := goodIn_app (goodIn_of _ (by decide +kernel)) ggX9_term_X9_is
set_option maxRecDepth 20000 in
theorem ggX9_term_X9_next : GoodIn wsX9_term wsX9_next := goodIn_r _ [33, 34, 25, 20, 35, 36, 10, 37, 38, 39, 40, 41, 42, 43, 44, 45, 6, 46, 57, 58, 59, 60, 61, 62, 63, 64, 65, 66, 67, 68, 69, 70, 71, 72, 73, 74, 75, 76, 77, 78, 79, 80, 81, 82, 83, 84, 85, 86, 87, 88, 89, 90, 91, 92, 93, 94, 95, 96, 97, 98, 99, 100, 101, 102, 103, 104, 105, 106, 107, 108, 109, 110, 111, 112, 113, 114, 115, 116] (by decide +kernel) (by decide +kernel)
set_option maxRecDepth 20000 in
theorem gX9_term_X9_next : GoodIn wsX9_term (wsV RX9 187 RX9 yX9_next wsX9_next) := goodIn_app (goodIn_of _ (by decide +kernel)) ggX9_term_X9_next
set_option maxRecDepth 20000 in
theorem ggX9_term_X9_emit : GoodIn wsX9_term wsX9_emit := goodIn_r _ [50, 51, 52, 57, 58, 59, 60, 61, 62, 63, 64, 65, 66, 67, 68, 69, 70, 71, 72, 73, 74, 75, 76, 77, 78, 79, 80, 81, 82, 83, 84, 85, 86, 87, 88, 89, 90, 91, 92, 93, 94, 95, 96, 97, 98, 99, 100, 101, 102, 103, 104, 105, 106, 107, 108, 109, 110, 111, 112, 113, 114, 115, 116] (by decide +kernel) (by decide +kernel)
set_option maxRecDepth 20000 in
theorem gX9_term_X9_emit : GoodIn wsX9_term (wsV RX9 226 RX9 yX9_emit wsX9_emit) := goodIn_app (goodIn_of _ (by decide +kernel)) ggX9_term_X9_emit
theorem adX9_term_0 : (decode cX9_term 0 = .ok (.aload_n 0, 1)) ∧ (decode cX9_term 1 = .ok (.invokevirtual 237, 3)) ∧ (decode cX9_term 4 = .ok (.aload_n 0, 1)) ∧ (decode cX9_term 5 = .ok (.ldc2_w 240, 3)) ∧ (decode cX9_term 8 = .ok (.invokevirtual 183, 3)) ∧ (decode cX9_term 11 = .ok (.ifCond .ne 13, 3)) ∧ (decode cX9_term 14 = .ok (.aload_n 0, 1)) ∧ (decode cX9_term 15 = .ok (.ldc2_w 242, 3)) := by decide +kernel
theorem dX9_term_0 : decode cX9_term 0 = .ok (.aload_n 0, 1) := adX9_term_0.1
theorem dX9_term_1 : decode cX9_term 1 = .ok (.invokevirtual 237, 3) := adX9_term_0.2.1
theorem dX9_term_4 : decode cX9_term 4 = .ok (.aload_n 0, 1) := adX9_term_0.2.2.1
theorem dX9_term_5 : decode cX9_term 5 = .ok (.ldc2_w 240, 3) := adX9_term_0.2.2.2.1
theorem dX9_term_8 : decode cX9_term 8 = .ok (.invokevirtual 183, 3) := adX9_term_0.2.2.2.2.1
theorem dX9_term_11 : decode cX9_term 11 = .ok (.ifCond .ne 13, 3) := adX9_term_0.2.2.2.2.2.1
theorem dX9_term_14 : decode cX9_term 14 = .ok (.aload_n 0, 1) := adX9_term_0.2.2.2.2.2.2.1
theorem dX9_term_15 : decode cX9_term 15 = .ok (.ldc2_w 242, 3) := adX9_term_0.2.2.2.2.2.2.2
theorem adX9_term_18 : (decode cX9_term 18 = .ok (.invokevirtual 183, 3)) ∧ (decode cX9_term 21 = .ok (.ifCond .eq 37, 3)) ∧ (decode cX9_term 24 = .ok (.aload_n 0, 1)) ∧ (decode cX9_term 25 = .ok (.ldc2_w 240, 3)) ∧ (decode cX9_term 28 = .ok (.invokevirtual 183, 3)) ∧ (decode cX9_term 31 = .ok (.ifCond .eq 8, 3)) ∧ (decode cX9_term 34 = .ok (.bipush (-3), 2)) ∧ (decode cX9_term 36 = .ok (.goto 5, 3)) := by decide +kernel
theorem dX9_term_18 : decode cX9_term 18 = .ok (.invokevirtual 183, 3) := adX9_term_18.1
theorem dX9_term_21 : decode cX9_term 21 = .ok (.ifCond .eq 37, 3) := adX9_term_18.2.1
theorem dX9_term_24 : decode cX9_term 24 = .ok (.aload_n 0, 1) := adX9_term_18.2.2.1
theorem dX9_term_25 : decode cX9_term 25 = .ok (.ldc2_w 240, 3) := adX9_term_18.2.2.2.1
theorem dX9_term_28 : decode cX9_term 28 = .ok (.invokevirtual 183, 3) := adX9_term_18.2.2.2.2.1
theorem dX9_term_31 : decode cX9_term 31 = .ok (.ifCond .eq 8, 3) := adX9_term_18.2.2.2.2.2.1
theorem dX9_term_34 : decode cX9_term 34 = .ok (.bipush (-3), 2) := adX9_term_18.2.2.2.2.2.2.1
theorem dX9_term_36 : decode cX9_term 36 = .ok (.goto 5, 3) := adX9_term_18.2.2.2.2.2.2.2
theorem adX9_term_39 : (decode cX9_term 39 = .ok (.bipush (-4), 2)) ∧ (decode cX9_term 41 = .ok (.istore_n 1, 1)) ∧ (decode cX9_term 42 = .ok (.aload_n 0, 1)) ∧ (decode cX9_term 43 = .ok (.invokevirtual 187, 3)) ∧ (decode cX9_term 46 = .ok (.aload_n 0, 1)) ∧ (decode cX9_term 47 = .ok (.invokevirtual 237, 3)) ∧ (decode cX9_term 50 = .ok (.aload_n 0, 1)) ∧ (decode cX9_term 51 = .ok (.iload_n 1, 1)) := by decide +kernel
theorem dX9_term_39 : decode cX9_term 39 = .ok (.bipush (-4), 2) := adX9_term_39.1
theorem dX9_term_41 : decode cX9_term 41 = .ok (.istore_n 1, 1) := adX9_term_39.2.1
theorem dX9_term_42 : decode cX9_term 42 = .ok (.aload_n 0, 1) := adX9_term_39.2.2.1
theorem dX9_term_43 : decode cX9_term 43 = .ok (.invokevirtual 187, 3) := adX9_term_39.2.2.2.1
theorem dX9_term_46 : decode cX9_term 46 = .ok (.aload_n 0, 1) := adX9_term_39.2.2.2.2.1
theorem dX9_term_47 : decode cX9_term 47 = .ok (.invokevirtual 237, 3) := adX9_term_39.2.2.2.2.2.1
theorem dX9_term_50 : decode cX9_term 50 = .ok (.aload_n 0, 1) := adX9_term_39.2.2.2.2.2.2.1
theorem dX9_term_51 : decode cX9_term 51 = .ok (.iload_n 1, 1) := adX9_term_39.2.2.2.2.2.2.2
theorem adX9_term_52 : (decode cX9_term 52 = .ok (.invokevirtual 226, 3)) ∧ (decode cX9_term 55 = .ok (.goto (-51), 3)) ∧ (decode cX9_term 58 = .ok (.return_, 1)) := by decide +kernel
theorem dX9_term_52 : decode cX9_term 52 = .ok (.invokevirtual 226, 3) := adX9_term_52.1
theorem dX9_term_55 : decode cX9_term 55 = .ok (.goto (-51), 3) := adX9_term_52.2.1
theorem dX9_term_58 : decode cX9_term 58 = .ok (.return_, 1) := adX9_term_52.2.2
set_option maxRecDepth 20000 in
theorem ggX9_sumTold_X9_term : GoodIn wsX9_sumTold wsX9_term := goodIn_r _ [8, 9, 10, 11, 12, 13, 7, 14, 15, 16, 17, 18, 19, 20, 21, 22, 23, 24, 25, 26, 27, 28, 29, 30, 31, 32, 33, 34, 35, 36, 37, 38, 39, 40, 41, 42, 43, 44, 45, 46, 47, 48, 49, 50, 51, 52, 53, 54, 55, 56, 57, 58, 59, 60, 61, 62, 63, 64, 65, 66, 67, 68, 69, 70, 71, 72, 73, 74, 75, 76, 77, 78, 79, 80, 81, 82, 83, 84, 85, 86, 87, 88, 89, 90, 91, 92, 93, 94, 95, 96, 97, 98, 99, 100, 101, 102, 103, 104, 105, 106, 107, 108, 109, 110, 111, 112, 113, 114, 115, 116, 117, 118, 119, 120, 121, 122, 123] (by decide +kernel) (by decide +kernel)
set_option maxRecDepth 20000 in
theorem gX9_sumTold_X9_term : GoodIn wsX9_sumTold (wsV RX9 244 RX9 yX9_term wsX9_term) := goodIn_app (goodIn_of _ (by decide +kernel)) ggX9_sumTold_X9_term
set_option maxRecDepth 20000 in
theorem ggX9_sumTold_X9_is : GoodIn wsX9_sumTold wsX9_is := goodIn_r _ [63, 15, 17, 42, 64, 65, 66, 67, 68, 69, 70, 71, 72, 73, 74, 75, 76, 77, 78, 79, 80, 81, 82, 83, 84, 85, 86, 87, 88, 89, 90, 91, 92, 93, 94, 95, 96, 97, 98, 99, 100, 101, 102, 103, 104, 105, 106, 107, 108, 109, 110, 111, 112, 113, 114, 115, 116, 117, 118, 119, 120, 121, 122, 123] (by decide +kernel) (by decide +kernel)
set_option maxRecDepth 20000 in
theorem gX9_sumTold_X9_is : GoodIn wsX9_sumTold (wsV RX9 183 RX9 yX9_is wsX9_is) := goodIn_app (goodIn_of _ (by decide +kernel)) ggX9_sumTold_X9_is
set_option maxRecDepth 20000 in
theorem ggX9_sumTold_X9_next : GoodIn wsX9_sumTold wsX9_next := goodIn_r _ [40, 41, 32, 27, 42, 43, 17, 44, 45, 46, 47, 48, 49, 50, 51, 52, 7, 53, 64, 65, 66, 67, 68, 69, 70, 71, 72, 73, 74, 75, 76, 77, 78, 79, 80, 81, 82, 83, 84, 85, 86, 87, 88, 89, 90, 91, 92, 93, 94, 95, 96, 97, 98, 99, 100, 101, 102, 103, 104, 105, 106, 107, 108, 109, 110, 111, 112, 113, 114, 115, 116, 117, 118, 119, 120, 121, 122, 123] (by decide +kernel) (by decide +kernel)
set_option maxRecDepth 20000 in
theorem gX9_sumTold_X9_next : GoodIn wsX9_sumTold (wsV RX9 187 RX9 yX9_next wsX9_next) := goodIn_app (goodIn_of _ (by decide +kernel)) ggX9_sumTold_X9_next
set_option maxRecDepth 20000 in
theorem ggX9_sumTold_X9_emit : GoodIn wsX9_sumTold wsX9_emit := goodIn_r _ [57, 58, 59, 64, 65, 66, 67, 68, 69, 70, 71, 72, 73, 74, 75, 76, 77, 78, 79, 80, 81, 82, 83, 84, 85, 86, 87, 88, 89, 90, 91, 92, 93, 94, 95, 96, 97, 98, 99, 100, 101, 102, 103, 104, 105, 106, 107, 108, 109, 110, 111, 112, 113, 114, 115, 116, 117, 118, 119, 120, 121, 122, 123] (by decide +kernel) (by decide +kernel)
set_option maxRecDepth 20000 in
theorem gX9_sumTold_X9_emit : GoodIn wsX9_sumTold (wsV RX9 226 RX9 yX9_emit wsX9_emit) := goodIn_app (goodIn_of _ (by decide +kernel)) ggX9_sumTold_X9_emit
theorem adX9_sumTold_0 : (decode cX9_sumTold 0 = .ok (.aload_n 0, 1)) ∧ (decode cX9_sumTold 1 = .ok (.invokevirtual 244, 3)) ∧ (decode cX9_sumTold 4 = .ok (.aload_n 0, 1)) ∧ (decode cX9_sumTold 5 = .ok (.ldc2_w 247, 3)) ∧ (decode cX9_sumTold 8 = .ok (.invokevirtual 183, 3)) ∧ (decode cX9_sumTold 11 = .ok (.ifCond .ne 13, 3)) ∧ (decode cX9_sumTold 14 = .ok (.aload_n 0, 1)) ∧ (decode cX9_sumTold 15 = .ok (.ldc2_w 249, 3)) := by decide +kernel
theorem dX9_sumTold_0 : decode cX9_sumTold 0 = .ok (.aload_n 0, 1) := adX9_sumTold_0.1
theorem dX9_sumTold_1 : decode cX9_sumTold 1 = .ok (.invokevirtual 244, 3) := adX9_sumTold_0.2.1
theorem dX9_sumTold_4 : decode cX9_sumTold 4 = .ok (.aload_n 0, 1) := adX9_sumTold_0.2.2.1
theorem dX9_sumTold_5 : decode cX9_sumTold 5 = .ok (.ldc2_w 247, 3) := adX9_sumTold_0.2.2.2.1
theorem dX9_sumTold_8 : decode cX9_sumTold 8 = .ok (.invokevirtual 183, 3) := adX9_sumTold_0.2.2.2.2.1
theorem dX9_sumTold_11 : decode cX9_sumTold 11 = .ok (.ifCond .ne 13, 3) := adX9_sumTold_0.2.2.2.2.2.1
theorem dX9_sumTold_14 : decode cX9_sumTold 14 = .ok (.aload_n 0, 1) := adX9_sumTold_0.2.2.2.2.2.2.1
theorem dX9_sumTold_15 : decode cX9_sumTold 15 = .ok (.ldc2_w 249, 3) := adX9_sumTold_0.2.2.2.2.2.2.2
theorem adX9_sumTold_18 : (decode cX9_sumTold 18 = .ok (.invokevirtual 183, 3)) ∧ (decode cX9_sumTold 21 = .ok (.ifCond .eq 36, 3)) ∧ (decode cX9_sumTold 24 = .ok (.aload_n 0, 1)) ∧ (decode cX9_sumTold 25 = .ok (.ldc2_w 247, 3)) ∧ (decode cX9_sumTold 28 = .ok (.invokevirtual 183, 3)) ∧ (decode cX9_sumTold 31 = .ok (.ifCond .eq 7, 3)) ∧ (decode cX9_sumTold 34 = .ok (.iconst (-1), 1)) ∧ (decode cX9_sumTold 35 = .ok (.goto 5, 3)) := by decide +kernel
theorem dX9_sumTold_18 : decode cX9_sumTold 18 = .ok (.invokevirtual 183, 3) := adX9_sumTold_18.1
theorem dX9_sumTold_21 : decode cX9_sumTold 21 = .ok (.ifCond .eq 36, 3) := adX9_sumTold_18.2.1
theorem dX9_sumTold_24 : decode cX9_sumTold 24 = .ok (.aload_n 0, 1) := adX9_sumTold_18.2.2.1
theorem dX9_sumTold_25 : decode cX9_sumTold 25 = .ok (.ldc2_w 247, 3) := adX9_sumTold_18.2.2.2.1
theorem dX9_sumTold_28 : decode cX9_sumTold 28 = .ok (.invokevirtual 183, 3) := adX9_sumTold_18.2.2.2.2.1
theorem dX9_sumTold_31 : decode cX9_sumTold 31 = .ok (.ifCond .eq 7, 3) := adX9_sumTold_18.2.2.2.2.2.1
theorem dX9_sumTold_34 : decode cX9_sumTold 34 = .ok (.iconst (-1), 1) := adX9_sumTold_18.2.2.2.2.2.2.1
theorem dX9_sumTold_35 : decode cX9_sumTold 35 = .ok (.goto 5, 3) := adX9_sumTold_18.2.2.2.2.2.2.2
theorem adX9_sumTold_38 : (decode cX9_sumTold 38 = .ok (.bipush (-2), 2)) ∧ (decode cX9_sumTold 40 = .ok (.istore_n 1, 1)) ∧ (decode cX9_sumTold 41 = .ok (.aload_n 0, 1)) ∧ (decode cX9_sumTold 42 = .ok (.invokevirtual 187, 3)) ∧ (decode cX9_sumTold 45 = .ok (.aload_n 0, 1)) ∧ (decode cX9_sumTold 46 = .ok (.invokevirtual 244, 3)) ∧ (decode cX9_sumTold 49 = .ok (.aload_n 0, 1)) ∧ (decode cX9_sumTold 50 = .ok (.iload_n 1, 1)) := by decide +kernel
theorem dX9_sumTold_38 : decode cX9_sumTold 38 = .ok (.bipush (-2), 2) := adX9_sumTold_38.1
theorem dX9_sumTold_40 : decode cX9_sumTold 40 = .ok (.istore_n 1, 1) := adX9_sumTold_38.2.1
theorem dX9_sumTold_41 : decode cX9_sumTold 41 = .ok (.aload_n 0, 1) := adX9_sumTold_38.2.2.1
theorem dX9_sumTold_42 : decode cX9_sumTold 42 = .ok (.invokevirtual 187, 3) := adX9_sumTold_38.2.2.2.1
theorem dX9_sumTold_45 : decode cX9_sumTold 45 = .ok (.aload_n 0, 1) := adX9_sumTold_38.2.2.2.2.1
theorem dX9_sumTold_46 : decode cX9_sumTold 46 = .ok (.invokevirtual 244, 3) := adX9_sumTold_38.2.2.2.2.2.1
theorem dX9_sumTold_49 : decode cX9_sumTold 49 = .ok (.aload_n 0, 1) := adX9_sumTold_38.2.2.2.2.2.2.1
theorem dX9_sumTold_50 : decode cX9_sumTold 50 = .ok (.iload_n 1, 1) := adX9_sumTold_38.2.2.2.2.2.2.2
theorem adX9_sumTold_51 : (decode cX9_sumTold 51 = .ok (.invokevirtual 226, 3)) ∧ (decode cX9_sumTold 54 = .ok (.goto (-50), 3)) ∧ (decode cX9_sumTold 57 = .ok (.aload_n 0, 1)) ∧ (decode cX9_sumTold 58 = .ok (.getfield 65, 3)) ∧ (decode cX9_sumTold 61 = .ok (.iconst 4, 1)) ∧ (decode cX9_sumTold 62 = .ok (.iconst 1, 1)) ∧ (decode cX9_sumTold 63 = .ok (.bastore, 1)) ∧ (decode cX9_sumTold 64 = .ok (.return_, 1)) := by decide +kernel
theorem dX9_sumTold_51 : decode cX9_sumTold 51 = .ok (.invokevirtual 226, 3) := adX9_sumTold_51.1
theorem dX9_sumTold_54 : decode cX9_sumTold 54 = .ok (.goto (-50), 3) := adX9_sumTold_51.2.1
theorem dX9_sumTold_57 : decode cX9_sumTold 57 = .ok (.aload_n 0, 1) := adX9_sumTold_51.2.2.1
theorem dX9_sumTold_58 : decode cX9_sumTold 58 = .ok (.getfield 65, 3) := adX9_sumTold_51.2.2.2.1
theorem dX9_sumTold_61 : decode cX9_sumTold 61 = .ok (.iconst 4, 1) := adX9_sumTold_51.2.2.2.2.1
theorem dX9_sumTold_62 : decode cX9_sumTold 62 = .ok (.iconst 1, 1) := adX9_sumTold_51.2.2.2.2.2.1
theorem dX9_sumTold_63 : decode cX9_sumTold 63 = .ok (.bastore, 1) := adX9_sumTold_51.2.2.2.2.2.2.1
theorem dX9_sumTold_64 : decode cX9_sumTold 64 = .ok (.return_, 1) := adX9_sumTold_51.2.2.2.2.2.2.2
set_option maxRecDepth 20000 in
theorem ggX9_line_X9_is : GoodIn wsX9_line wsX9_is := goodIn_r _ [16, 3, 17, 18, 116, 117, 118, 119, 120, 121, 122, 123, 124, 125, 126, 127, 128, 129, 130, 131, 132, 133, 134, 135, 136, 137, 138, 139, 140, 141, 142, 143, 144, 145, 146, 147, 148, 149, 150, 151, 152, 153, 154, 155, 156, 157, 158, 159, 160, 161, 162, 163, 164, 165, 166, 167, 168, 169, 170, 171, 172, 173, 174, 175] (by decide +kernel) (by decide +kernel)
set_option maxRecDepth 20000 in
theorem gX9_line_X9_is : GoodIn wsX9_line (wsV RX9 183 RX9 yX9_is wsX9_is) := goodIn_app (goodIn_of _ (by decide +kernel)) ggX9_line_X9_is
set_option maxRecDepth 20000 in
theorem ggX9_line_X9_fails : GoodIn wsX9_line wsX9_fails := goodIn_r _ [22, 3, 23, 24, 116, 117, 118, 119, 120, 121, 122, 123, 124, 125, 126, 127, 128, 129, 130, 131, 132, 133, 134, 135, 136, 137, 138, 139, 140, 141, 142, 143, 144, 145, 146, 147, 148, 149, 150, 151, 152, 153, 154, 155, 156, 157, 158, 159, 160, 161, 162, 163, 164, 165, 166, 167, 168, 169, 170, 171, 172, 173, 174, 175] (by decide +kernel) (by decide +kernel)
set_option maxRecDepth 20000 in
theorem gX9_line_X9_fails : GoodIn wsX9_line (wsV RX9 193 RX9 yX9_fails wsX9_fails) := goodIn_app (goodIn_of _ (by decide +kernel)) ggX9_line_X9_fails
set_option maxRecDepth 20000 in
theorem ggX9_line_X9_next : GoodIn wsX9_line wsX9_next := goodIn_r _ [28, 29, 23, 30, 18, 31, 17, 32, 33, 34, 35, 36, 37, 38, 39, 40, 15, 41, 116, 117, 118, 119, 120, 121, 122, 123, 124, 125, 126, 127, 128, 129, 130, 131, 132, 133, 134, 135, 136, 137, 138, 139, 140, 141, 142, 143, 144, 145, 146, 147, 148, 149, 150, 151, 152, 153, 154, 155, 156, 157, 158, 159, 160, 161, 162, 163, 164, 165, 166, 167, 168, 169, 170, 171, 172, 173, 174, 175] (by decide +kernel) (by decide +kernel)
set_option maxRecDepth 20000 in
theorem gX9_line_X9_next : GoodIn wsX9_line (wsV RX9 187 RX9 yX9_next wsX9_next) := goodIn_app (goodIn_of _ (by decide +kernel)) ggX9_line_X9_next
set_option maxRecDepth 20000 in
theorem ggX9_line_X9_lawLine : GoodIn wsX9_line wsX9_lawLine := goodIn_r _ [45, 46, 2, 47, 48, 49, 50, 51, 52, 15, 53, 54, 55, 56, 57, 58, 59, 60, 61, 12, 13, 14, 16, 3, 17, 18, 25, 26, 27, 28, 29, 23, 30, 31, 32, 33, 34, 35, 36, 37, 38, 39, 40, 41, 19, 20, 21, 22, 24, 62, 63, 64, 65, 66, 67, 68, 116, 117, 118, 119, 120, 121, 122, 123, 124, 125, 126, 127, 128, 129, 130, 131, 132, 133, 134, 135, 136, 137, 138, 139, 140, 141, 142, 143, 144, 145, 146, 147, 148, 149, 150, 151, 152, 153, 154, 155, 156, 157, 158, 159, 160, 161, 162, 163, 164, 165, 166, 167, 168, 169, 170, 171, 172, 173, 174, 175] (by decide +kernel) (by decide +kernel)
set_option maxRecDepth 20000 in
theorem gX9_line_X9_lawLine : GoodIn wsX9_line (wsV RX9 253 RX9 yX9_lawLine wsX9_lawLine) := goodIn_app (goodIn_of _ (by decide +kernel)) ggX9_line_X9_lawLine
set_option maxRecDepth 20000 in
theorem ggX9_line_X9_sortLine : GoodIn wsX9_line wsX9_sortLine := goodIn_r _ [72, 5, 73, 74, 75, 76, 77, 78, 79, 80, 50, 51, 52, 15, 53, 54, 55, 56, 57, 58, 59, 60, 61, 12, 13, 14, 16, 3, 17, 18, 25, 26, 27, 28, 29, 23, 30, 31, 32, 33, 34, 35, 36, 37, 38, 39, 40, 41, 19, 20, 21, 22, 24, 62, 63, 64, 65, 66, 67, 68, 116, 117, 118, 119, 120, 121, 122, 123, 124, 125, 126, 127, 128, 129, 130, 131, 132, 133, 134, 135, 136, 137, 138, 139, 140, 141, 142, 143, 144, 145, 146, 147, 148, 149, 150, 151, 152, 153, 154, 155, 156, 157, 158, 159, 160, 161, 162, 163, 164, 165, 166, 167, 168, 169, 170, 171, 172, 173, 174, 175] (by decide +kernel) (by decide +kernel)
set_option maxRecDepth 20000 in
theorem gX9_line_X9_sortLine : GoodIn wsX9_line (wsV RX9 258 RX9 yX9_sortLine wsX9_sortLine) := goodIn_app (goodIn_of _ (by decide +kernel)) ggX9_line_X9_sortLine
set_option maxRecDepth 20000 in
theorem ggX9_line_X9_takes : GoodIn wsX9_line wsX9_takes := goodIn_r _ [61, 12, 13, 14, 15, 16, 3, 17, 18, 25, 26, 27, 28, 29, 23, 30, 31, 32, 33, 34, 35, 36, 37, 38, 39, 40, 41, 116, 117, 118, 119, 120, 121, 122, 123, 124, 125, 126, 127, 128, 129, 130, 131, 132, 133, 134, 135, 136, 137, 138, 139, 140, 141, 142, 143, 144, 145, 146, 147, 148, 149, 150, 151, 152, 153, 154, 155, 156, 157, 158, 159, 160, 161, 162, 163, 164, 165, 166, 167, 168, 169, 170, 171, 172, 173, 174, 175] (by decide +kernel) (by decide +kernel)
set_option maxRecDepth 20000 in
theorem gX9_line_X9_takes : GoodIn wsX9_line (wsV RX9 190 RX9 yX9_takes wsX9_takes) := goodIn_app (goodIn_of _ (by decide +kernel)) ggX9_line_X9_takes
set_option maxRecDepth 20000 in
theorem ggX9_line_X9_leakLine : GoodIn wsX9_line wsX9_leakLine := goodIn_r _ [84, 17, 30, 85, 86, 87, 88, 66, 67, 15, 68, 19, 20, 21, 22, 3, 23, 24, 62, 63, 64, 65, 25, 26, 27, 28, 29, 18, 31, 32, 33, 34, 35, 36, 37, 38, 39, 40, 41, 50, 51, 52, 53, 54, 55, 56, 57, 58, 59, 60, 61, 12, 13, 14, 16, 116, 117, 118, 119, 120, 121, 122, 123, 124, 125, 126, 127, 128, 129, 130, 131, 132, 133, 134, 135, 136, 137, 138, 139, 140, 141, 142, 143, 144, 145, 146, 147, 148, 149, 150, 151, 152, 153, 154, 155, 156, 157, 158, 159, 160, 161, 162, 163, 164, 165, 166, 167, 168, 169, 170, 171, 172, 173, 174, 175] (by decide +kernel) (by decide +kernel)
set_option maxRecDepth 20000 in
theorem gX9_line_X9_leakLine : GoodIn wsX9_line (wsV RX9 263 RX9 yX9_leakLine wsX9_leakLine) := goodIn_app (goodIn_of _ (by decide +kernel)) ggX9_line_X9_leakLine
set_option maxRecDepth 20000 in
theorem ggX9_line_X9_sumTold : GoodIn wsX9_line wsX9_sumTold := goodIn_r _ [92, 93, 94, 8, 95, 96, 97, 15, 98, 99, 100, 101, 102, 103, 104, 3, 105, 17, 106, 76, 107, 108, 109, 62, 63, 64, 65, 30, 19, 20, 21, 22, 23, 24, 66, 67, 68, 25, 26, 27, 28, 29, 18, 31, 32, 33, 34, 35, 36, 37, 38, 39, 40, 41, 110, 111, 112, 113, 114, 115, 12, 13, 14, 16, 116, 117, 118, 119, 120, 121, 122, 123, 124, 125, 126, 127, 128, 129, 130, 131, 132, 133, 134, 135, 136, 137, 138, 139, 140, 141, 142, 143, 144, 145, 146, 147, 148, 149, 150, 151, 152, 153, 154, 155, 156, 157, 158, 159, 160, 161, 162, 163, 164, 165, 166, 167, 168, 169, 170, 171, 172, 173, 174, 175] (by decide +kernel) (by decide +kernel)
set_option maxRecDepth 20000 in
theorem gX9_line_X9_sumTold : GoodIn wsX9_line (wsV RX9 268 RX9 yX9_sumTold wsX9_sumTold) := goodIn_app (goodIn_of _ (by decide +kernel)) ggX9_line_X9_sumTold
set_option maxRecDepth 20000 in
theorem ggX9_line_X9_number : GoodIn wsX9_line wsX9_number := goodIn_r _ [65, 3, 17, 30, 19, 20, 21, 15, 22, 23, 24, 66, 67, 68, 25, 26, 27, 28, 29, 18, 31, 32, 33, 34, 35, 36, 37, 38, 39, 40, 41, 116, 117, 118, 119, 120, 121, 122, 123, 124, 125, 126, 127, 128, 129, 130, 131, 132, 133, 134, 135, 136, 137, 138, 139, 140, 141, 142, 143, 144, 145, 146, 147, 148, 149, 150, 151, 152, 153, 154, 155, 156, 157, 158, 159, 160, 161, 162, 163, 164, 165, 166, 167, 168, 169, 170, 171, 172, 173, 174, 175] (by decide +kernel) (by decide +kernel)
set_option maxRecDepth 20000 in
theorem gX9_line_X9_number : GoodIn wsX9_line (wsV RX9 200 RX9 yX9_number wsX9_number) := goodIn_app (goodIn_of _ (by decide +kernel)) ggX9_line_X9_number
theorem adX9_line_0 : (decode cX9_line 0 = .ok (.aload_n 0, 1)) ∧ (decode cX9_line 1 = .ok (.ldc2_w 251, 3)) ∧ (decode cX9_line 4 = .ok (.invokevirtual 183, 3)) ∧ (decode cX9_line 7 = .ok (.ifCond .eq 44, 3)) ∧ (decode cX9_line 10 = .ok (.aload_n 0, 1)) ∧ (decode cX9_line 11 = .ok (.getfield 34, 3)) ∧ (decode cX9_line 14 = .ok (.iconst 4, 1)) ∧ (decode cX9_line 15 = .ok (.iaload, 1)) := by decide +kernel
theorem dX9_line_0 : decode cX9_line 0 = .ok (.aload_n 0, 1) := adX9_line_0.1
theorem dX9_line_1 : decode cX9_line 1 = .ok (.ldc2_w 251, 3) := adX9_line_0.2.1
theorem dX9_line_4 : decode cX9_line 4 = .ok (.invokevirtual 183, 3) := adX9_line_0.2.2.1
theorem dX9_line_7 : decode cX9_line 7 = .ok (.ifCond .eq 44, 3) := adX9_line_0.2.2.2.1
theorem dX9_line_10 : decode cX9_line 10 = .ok (.aload_n 0, 1) := adX9_line_0.2.2.2.2.1
theorem dX9_line_11 : decode cX9_line 11 = .ok (.getfield 34, 3) := adX9_line_0.2.2.2.2.2.1
theorem dX9_line_14 : decode cX9_line 14 = .ok (.iconst 4, 1) := adX9_line_0.2.2.2.2.2.2.1
theorem dX9_line_15 : decode cX9_line 15 = .ok (.iaload, 1) := adX9_line_0.2.2.2.2.2.2.2
theorem adX9_line_16 : (decode cX9_line 16 = .ok (.bipush 6, 2)) ∧ (decode cX9_line 18 = .ok (.if_icmp .ne 8, 3)) ∧ (decode cX9_line 21 = .ok (.aload_n 0, 1)) ∧ (decode cX9_line 22 = .ok (.iconst 3, 1)) ∧ (decode cX9_line 23 = .ok (.invokevirtual 193, 3)) ∧ (decode cX9_line 26 = .ok (.aload_n 0, 1)) ∧ (decode cX9_line 27 = .ok (.getfield 177, 3)) ∧ (decode cX9_line 30 = .ok (.ifCond .ne 7, 3)) := by decide +kernel
theorem dX9_line_16 : decode cX9_line 16 = .ok (.bipush 6, 2) := adX9_line_16.1
theorem dX9_line_18 : decode cX9_line 18 = .ok (.if_icmp .ne 8, 3) := adX9_line_16.2.1
theorem dX9_line_21 : decode cX9_line 21 = .ok (.aload_n 0, 1) := adX9_line_16.2.2.1
theorem dX9_line_22 : decode cX9_line 22 = .ok (.iconst 3, 1) := adX9_line_16.2.2.2.1
theorem dX9_line_23 : decode cX9_line 23 = .ok (.invokevirtual 193, 3) := adX9_line_16.2.2.2.2.1
theorem dX9_line_26 : decode cX9_line 26 = .ok (.aload_n 0, 1) := adX9_line_16.2.2.2.2.2.1
theorem dX9_line_27 : decode cX9_line 27 = .ok (.getfield 177, 3) := adX9_line_16.2.2.2.2.2.2.1
theorem dX9_line_30 : decode cX9_line 30 = .ok (.ifCond .ne 7, 3) := adX9_line_16.2.2.2.2.2.2.2
theorem adX9_line_33 : (decode cX9_line 33 = .ok (.aload_n 0, 1)) ∧ (decode cX9_line 34 = .ok (.invokevirtual 187, 3)) ∧ (decode cX9_line 37 = .ok (.aload_n 0, 1)) ∧ (decode cX9_line 38 = .ok (.getfield 177, 3)) ∧ (decode cX9_line 41 = .ok (.ifCond .ne 191, 3)) ∧ (decode cX9_line 44 = .ok (.aload_n 0, 1)) ∧ (decode cX9_line 45 = .ok (.invokevirtual 253, 3)) ∧ (decode cX9_line 48 = .ok (.goto 184, 3)) := by decide +kernel
theorem dX9_line_33 : decode cX9_line 33 = .ok (.aload_n 0, 1) := adX9_line_33.1
theorem dX9_line_34 : decode cX9_line 34 = .ok (.invokevirtual 187, 3) := adX9_line_33.2.1
theorem dX9_line_37 : decode cX9_line 37 = .ok (.aload_n 0, 1) := adX9_line_33.2.2.1
theorem dX9_line_38 : decode cX9_line 38 = .ok (.getfield 177, 3) := adX9_line_33.2.2.2.1
theorem dX9_line_41 : decode cX9_line 41 = .ok (.ifCond .ne 191, 3) := adX9_line_33.2.2.2.2.1
theorem dX9_line_44 : decode cX9_line 44 = .ok (.aload_n 0, 1) := adX9_line_33.2.2.2.2.2.1
theorem dX9_line_45 : decode cX9_line 45 = .ok (.invokevirtual 253, 3) := adX9_line_33.2.2.2.2.2.2.1
theorem dX9_line_48 : decode cX9_line 48 = .ok (.goto 184, 3) := adX9_line_33.2.2.2.2.2.2.2
theorem adX9_line_51 : (decode cX9_line 51 = .ok (.aload_n 0, 1)) ∧ (decode cX9_line 52 = .ok (.ldc2_w 256, 3)) ∧ (decode cX9_line 55 = .ok (.invokevirtual 183, 3)) ∧ (decode cX9_line 58 = .ok (.ifCond .eq 44, 3)) ∧ (decode cX9_line 61 = .ok (.aload_n 0, 1)) ∧ (decode cX9_line 62 = .ok (.getfield 43, 3)) ∧ (decode cX9_line 65 = .ok (.iconst 4, 1)) ∧ (decode cX9_line 66 = .ok (.iaload, 1)) := by decide +kernel
theorem dX9_line_51 : decode cX9_line 51 = .ok (.aload_n 0, 1) := adX9_line_51.1
theorem dX9_line_52 : decode cX9_line 52 = .ok (.ldc2_w 256, 3) := adX9_line_51.2.1
theorem dX9_line_55 : decode cX9_line 55 = .ok (.invokevirtual 183, 3) := adX9_line_51.2.2.1
theorem dX9_line_58 : decode cX9_line 58 = .ok (.ifCond .eq 44, 3) := adX9_line_51.2.2.2.1
theorem dX9_line_61 : decode cX9_line 61 = .ok (.aload_n 0, 1) := adX9_line_51.2.2.2.2.1
theorem dX9_line_62 : decode cX9_line 62 = .ok (.getfield 43, 3) := adX9_line_51.2.2.2.2.2.1
theorem dX9_line_65 : decode cX9_line 65 = .ok (.iconst 4, 1) := adX9_line_51.2.2.2.2.2.2.1
theorem dX9_line_66 : decode cX9_line 66 = .ok (.iaload, 1) := adX9_line_51.2.2.2.2.2.2.2
theorem adX9_line_67 : (decode cX9_line 67 = .ok (.bipush 8, 2)) ∧ (decode cX9_line 69 = .ok (.if_icmp .ne 8, 3)) ∧ (decode cX9_line 72 = .ok (.aload_n 0, 1)) ∧ (decode cX9_line 73 = .ok (.iconst 3, 1)) ∧ (decode cX9_line 74 = .ok (.invokevirtual 193, 3)) ∧ (decode cX9_line 77 = .ok (.aload_n 0, 1)) ∧ (decode cX9_line 78 = .ok (.getfield 177, 3)) ∧ (decode cX9_line 81 = .ok (.ifCond .ne 7, 3)) := by decide +kernel
theorem dX9_line_67 : decode cX9_line 67 = .ok (.bipush 8, 2) := adX9_line_67.1
theorem dX9_line_69 : decode cX9_line 69 = .ok (.if_icmp .ne 8, 3) := adX9_line_67.2.1
theorem dX9_line_72 : decode cX9_line 72 = .ok (.aload_n 0, 1) := adX9_line_67.2.2.1
theorem dX9_line_73 : decode cX9_line 73 = .ok (.iconst 3, 1) := adX9_line_67.2.2.2.1
theorem dX9_line_74 : decode cX9_line 74 = .ok (.invokevirtual 193, 3) := adX9_line_67.2.2.2.2.1
theorem dX9_line_77 : decode cX9_line 77 = .ok (.aload_n 0, 1) := adX9_line_67.2.2.2.2.2.1
theorem dX9_line_78 : decode cX9_line 78 = .ok (.getfield 177, 3) := adX9_line_67.2.2.2.2.2.2.1
theorem dX9_line_81 : decode cX9_line 81 = .ok (.ifCond .ne 7, 3) := adX9_line_67.2.2.2.2.2.2.2
theorem adX9_line_84 : (decode cX9_line 84 = .ok (.aload_n 0, 1)) ∧ (decode cX9_line 85 = .ok (.invokevirtual 187, 3)) ∧ (decode cX9_line 88 = .ok (.aload_n 0, 1)) ∧ (decode cX9_line 89 = .ok (.getfield 177, 3)) ∧ (decode cX9_line 92 = .ok (.ifCond .ne 140, 3)) ∧ (decode cX9_line 95 = .ok (.aload_n 0, 1)) ∧ (decode cX9_line 96 = .ok (.invokevirtual 258, 3)) ∧ (decode cX9_line 99 = .ok (.goto 133, 3)) := by decide +kernel
theorem dX9_line_84 : decode cX9_line 84 = .ok (.aload_n 0, 1) := adX9_line_84.1
theorem dX9_line_85 : decode cX9_line 85 = .ok (.invokevirtual 187, 3) := adX9_line_84.2.1
theorem dX9_line_88 : decode cX9_line 88 = .ok (.aload_n 0, 1) := adX9_line_84.2.2.1
theorem dX9_line_89 : decode cX9_line 89 = .ok (.getfield 177, 3) := adX9_line_84.2.2.2.1
theorem dX9_line_92 : decode cX9_line 92 = .ok (.ifCond .ne 140, 3) := adX9_line_84.2.2.2.2.1
theorem dX9_line_95 : decode cX9_line 95 = .ok (.aload_n 0, 1) := adX9_line_84.2.2.2.2.2.1
theorem dX9_line_96 : decode cX9_line 96 = .ok (.invokevirtual 258, 3) := adX9_line_84.2.2.2.2.2.2.1
theorem dX9_line_99 : decode cX9_line 99 = .ok (.goto 133, 3) := adX9_line_84.2.2.2.2.2.2.2
theorem adX9_line_102 : (decode cX9_line 102 = .ok (.aload_n 0, 1)) ∧ (decode cX9_line 103 = .ok (.ldc2_w 261, 3)) ∧ (decode cX9_line 106 = .ok (.invokevirtual 190, 3)) ∧ (decode cX9_line 109 = .ok (.ifCond .eq 10, 3)) ∧ (decode cX9_line 112 = .ok (.aload_n 0, 1)) ∧ (decode cX9_line 113 = .ok (.invokevirtual 263, 3)) ∧ (decode cX9_line 116 = .ok (.goto 116, 3)) ∧ (decode cX9_line 119 = .ok (.aload_n 0, 1)) := by decide +kernel
theorem dX9_line_102 : decode cX9_line 102 = .ok (.aload_n 0, 1) := adX9_line_102.1
theorem dX9_line_103 : decode cX9_line 103 = .ok (.ldc2_w 261, 3) := adX9_line_102.2.1
theorem dX9_line_106 : decode cX9_line 106 = .ok (.invokevirtual 190, 3) := adX9_line_102.2.2.1
theorem dX9_line_109 : decode cX9_line 109 = .ok (.ifCond .eq 10, 3) := adX9_line_102.2.2.2.1
theorem dX9_line_112 : decode cX9_line 112 = .ok (.aload_n 0, 1) := adX9_line_102.2.2.2.2.1
theorem dX9_line_113 : decode cX9_line 113 = .ok (.invokevirtual 263, 3) := adX9_line_102.2.2.2.2.2.1
theorem dX9_line_116 : decode cX9_line 116 = .ok (.goto 116, 3) := adX9_line_102.2.2.2.2.2.2.1
theorem dX9_line_119 : decode cX9_line 119 = .ok (.aload_n 0, 1) := adX9_line_102.2.2.2.2.2.2.2
theorem adX9_line_120 : (decode cX9_line 120 = .ok (.ldc2_w 266, 3)) ∧ (decode cX9_line 123 = .ok (.invokevirtual 183, 3)) ∧ (decode cX9_line 126 = .ok (.ifCond .eq 42, 3)) ∧ (decode cX9_line 129 = .ok (.aload_n 0, 1)) ∧ (decode cX9_line 130 = .ok (.getfield 65, 3)) ∧ (decode cX9_line 133 = .ok (.iconst 4, 1)) ∧ (decode cX9_line 134 = .ok (.baload, 1)) ∧ (decode cX9_line 135 = .ok (.ifCond .eq 8, 3)) := by decide +kernel
theorem dX9_line_120 : decode cX9_line 120 = .ok (.ldc2_w 266, 3) := adX9_line_120.1
theorem dX9_line_123 : decode cX9_line 123 = .ok (.invokevirtual 183, 3) := adX9_line_120.2.1
theorem dX9_line_126 : decode cX9_line 126 = .ok (.ifCond .eq 42, 3) := adX9_line_120.2.2.1
theorem dX9_line_129 : decode cX9_line 129 = .ok (.aload_n 0, 1) := adX9_line_120.2.2.2.1
theorem dX9_line_130 : decode cX9_line 130 = .ok (.getfield 65, 3) := adX9_line_120.2.2.2.2.1
theorem dX9_line_133 : decode cX9_line 133 = .ok (.iconst 4, 1) := adX9_line_120.2.2.2.2.2.1
theorem dX9_line_134 : decode cX9_line 134 = .ok (.baload, 1) := adX9_line_120.2.2.2.2.2.2.1
theorem dX9_line_135 : decode cX9_line 135 = .ok (.ifCond .eq 8, 3) := adX9_line_120.2.2.2.2.2.2.2
theorem adX9_line_138 : (decode cX9_line 138 = .ok (.aload_n 0, 1)) ∧ (decode cX9_line 139 = .ok (.iconst 2, 1)) ∧ (decode cX9_line 140 = .ok (.invokevirtual 193, 3)) ∧ (decode cX9_line 143 = .ok (.aload_n 0, 1)) ∧ (decode cX9_line 144 = .ok (.getfield 177, 3)) ∧ (decode cX9_line 147 = .ok (.ifCond .ne 7, 3)) ∧ (decode cX9_line 150 = .ok (.aload_n 0, 1)) ∧ (decode cX9_line 151 = .ok (.invokevirtual 187, 3)) := by decide +kernel
theorem dX9_line_138 : decode cX9_line 138 = .ok (.aload_n 0, 1) := adX9_line_138.1
theorem dX9_line_139 : decode cX9_line 139 = .ok (.iconst 2, 1) := adX9_line_138.2.1
theorem dX9_line_140 : decode cX9_line 140 = .ok (.invokevirtual 193, 3) := adX9_line_138.2.2.1
theorem dX9_line_143 : decode cX9_line 143 = .ok (.aload_n 0, 1) := adX9_line_138.2.2.2.1
theorem dX9_line_144 : decode cX9_line 144 = .ok (.getfield 177, 3) := adX9_line_138.2.2.2.2.1
theorem dX9_line_147 : decode cX9_line 147 = .ok (.ifCond .ne 7, 3) := adX9_line_138.2.2.2.2.2.1
theorem dX9_line_150 : decode cX9_line 150 = .ok (.aload_n 0, 1) := adX9_line_138.2.2.2.2.2.2.1
theorem dX9_line_151 : decode cX9_line 151 = .ok (.invokevirtual 187, 3) := adX9_line_138.2.2.2.2.2.2.2
theorem adX9_line_154 : (decode cX9_line 154 = .ok (.aload_n 0, 1)) ∧ (decode cX9_line 155 = .ok (.getfield 177, 3)) ∧ (decode cX9_line 158 = .ok (.ifCond .ne 74, 3)) ∧ (decode cX9_line 161 = .ok (.aload_n 0, 1)) ∧ (decode cX9_line 162 = .ok (.invokevirtual 268, 3)) ∧ (decode cX9_line 165 = .ok (.goto 67, 3)) ∧ (decode cX9_line 168 = .ok (.aload_n 0, 1)) ∧ (decode cX9_line 169 = .ok (.ldc2_w 271, 3)) := by decide +kernel
theorem dX9_line_154 : decode cX9_line 154 = .ok (.aload_n 0, 1) := adX9_line_154.1
theorem dX9_line_155 : decode cX9_line 155 = .ok (.getfield 177, 3) := adX9_line_154.2.1
theorem dX9_line_158 : decode cX9_line 158 = .ok (.ifCond .ne 74, 3) := adX9_line_154.2.2.1
theorem dX9_line_161 : decode cX9_line 161 = .ok (.aload_n 0, 1) := adX9_line_154.2.2.2.1
theorem dX9_line_162 : decode cX9_line 162 = .ok (.invokevirtual 268, 3) := adX9_line_154.2.2.2.2.1
theorem dX9_line_165 : decode cX9_line 165 = .ok (.goto 67, 3) := adX9_line_154.2.2.2.2.2.1
theorem dX9_line_168 : decode cX9_line 168 = .ok (.aload_n 0, 1) := adX9_line_154.2.2.2.2.2.2.1
theorem dX9_line_169 : decode cX9_line 169 = .ok (.ldc2_w 271, 3) := adX9_line_154.2.2.2.2.2.2.2
theorem adX9_line_172 : (decode cX9_line 172 = .ok (.invokevirtual 183, 3)) ∧ (decode cX9_line 175 = .ok (.ifCond .eq 52, 3)) ∧ (decode cX9_line 178 = .ok (.aload_n 0, 1)) ∧ (decode cX9_line 179 = .ok (.getfield 68, 3)) ∧ (decode cX9_line 182 = .ok (.iconst 4, 1)) ∧ (decode cX9_line 183 = .ok (.baload, 1)) ∧ (decode cX9_line 184 = .ok (.ifCond .eq 8, 3)) ∧ (decode cX9_line 187 = .ok (.aload_n 0, 1)) := by decide +kernel
theorem dX9_line_172 : decode cX9_line 172 = .ok (.invokevirtual 183, 3) := adX9_line_172.1
theorem dX9_line_175 : decode cX9_line 175 = .ok (.ifCond .eq 52, 3) := adX9_line_172.2.1
theorem dX9_line_178 : decode cX9_line 178 = .ok (.aload_n 0, 1) := adX9_line_172.2.2.1
theorem dX9_line_179 : decode cX9_line 179 = .ok (.getfield 68, 3) := adX9_line_172.2.2.2.1
theorem dX9_line_182 : decode cX9_line 182 = .ok (.iconst 4, 1) := adX9_line_172.2.2.2.2.1
theorem dX9_line_183 : decode cX9_line 183 = .ok (.baload, 1) := adX9_line_172.2.2.2.2.2.1
theorem dX9_line_184 : decode cX9_line 184 = .ok (.ifCond .eq 8, 3) := adX9_line_172.2.2.2.2.2.2.1
theorem dX9_line_187 : decode cX9_line 187 = .ok (.aload_n 0, 1) := adX9_line_172.2.2.2.2.2.2.2
theorem adX9_line_188 : (decode cX9_line 188 = .ok (.iconst 2, 1)) ∧ (decode cX9_line 189 = .ok (.invokevirtual 193, 3)) ∧ (decode cX9_line 192 = .ok (.aload_n 0, 1)) ∧ (decode cX9_line 193 = .ok (.getfield 177, 3)) ∧ (decode cX9_line 196 = .ok (.ifCond .ne 7, 3)) ∧ (decode cX9_line 199 = .ok (.aload_n 0, 1)) ∧ (decode cX9_line 200 = .ok (.invokevirtual 187, 3)) ∧ (decode cX9_line 203 = .ok (.aload_n 0, 1)) := by decide +kernel
theorem dX9_line_188 : decode cX9_line 188 = .ok (.iconst 2, 1) := adX9_line_188.1
theorem dX9_line_189 : decode cX9_line 189 = .ok (.invokevirtual 193, 3) := adX9_line_188.2.1
theorem dX9_line_192 : decode cX9_line 192 = .ok (.aload_n 0, 1) := adX9_line_188.2.2.1
theorem dX9_line_193 : decode cX9_line 193 = .ok (.getfield 177, 3) := adX9_line_188.2.2.2.1
theorem dX9_line_196 : decode cX9_line 196 = .ok (.ifCond .ne 7, 3) := adX9_line_188.2.2.2.2.1
theorem dX9_line_199 : decode cX9_line 199 = .ok (.aload_n 0, 1) := adX9_line_188.2.2.2.2.2.1
theorem dX9_line_200 : decode cX9_line 200 = .ok (.invokevirtual 187, 3) := adX9_line_188.2.2.2.2.2.2.1
theorem dX9_line_203 : decode cX9_line 203 = .ok (.aload_n 0, 1) := adX9_line_188.2.2.2.2.2.2.2
theorem adX9_line_204 : (decode cX9_line 204 = .ok (.getfield 71, 3)) ∧ (decode cX9_line 207 = .ok (.iconst 4, 1)) ∧ (decode cX9_line 208 = .ok (.aload_n 0, 1)) ∧ (decode cX9_line 209 = .ok (.iconst 0, 1)) ∧ (decode cX9_line 210 = .ok (.sipush 999, 3)) ∧ (decode cX9_line 213 = .ok (.invokevirtual 200, 3)) ∧ (decode cX9_line 216 = .ok (.iastore, 1)) ∧ (decode cX9_line 217 = .ok (.aload_n 0, 1)) := by decide +kernel
theorem dX9_line_204 : decode cX9_line 204 = .ok (.getfield 71, 3) := adX9_line_204.1
theorem dX9_line_207 : decode cX9_line 207 = .ok (.iconst 4, 1) := adX9_line_204.2.1
theorem dX9_line_208 : decode cX9_line 208 = .ok (.aload_n 0, 1) := adX9_line_204.2.2.1
theorem dX9_line_209 : decode cX9_line 209 = .ok (.iconst 0, 1) := adX9_line_204.2.2.2.1
theorem dX9_line_210 : decode cX9_line 210 = .ok (.sipush 999, 3) := adX9_line_204.2.2.2.2.1
theorem dX9_line_213 : decode cX9_line 213 = .ok (.invokevirtual 200, 3) := adX9_line_204.2.2.2.2.2.1
theorem dX9_line_216 : decode cX9_line 216 = .ok (.iastore, 1) := adX9_line_204.2.2.2.2.2.2.1
theorem dX9_line_217 : decode cX9_line 217 = .ok (.aload_n 0, 1) := adX9_line_204.2.2.2.2.2.2.2
theorem adX9_line_218 : (decode cX9_line 218 = .ok (.getfield 68, 3)) ∧ (decode cX9_line 221 = .ok (.iconst 4, 1)) ∧ (decode cX9_line 222 = .ok (.iconst 1, 1)) ∧ (decode cX9_line 223 = .ok (.bastore, 1)) ∧ (decode cX9_line 224 = .ok (.goto 8, 3)) ∧ (decode cX9_line 227 = .ok (.aload_n 0, 1)) ∧ (decode cX9_line 228 = .ok (.iconst 1, 1)) ∧ (decode cX9_line 229 = .ok (.invokevirtual 193, 3)) := by decide +kernel
theorem dX9_line_218 : decode cX9_line 218 = .ok (.getfield 68, 3) := adX9_line_218.1
theorem dX9_line_221 : decode cX9_line 221 = .ok (.iconst 4, 1) := adX9_line_218.2.1
theorem dX9_line_222 : decode cX9_line 222 = .ok (.iconst 1, 1) := adX9_line_218.2.2.1
theorem dX9_line_223 : decode cX9_line 223 = .ok (.bastore, 1) := adX9_line_218.2.2.2.1
theorem dX9_line_224 : decode cX9_line 224 = .ok (.goto 8, 3) := adX9_line_218.2.2.2.2.1
theorem dX9_line_227 : decode cX9_line 227 = .ok (.aload_n 0, 1) := adX9_line_218.2.2.2.2.2.1
theorem dX9_line_228 : decode cX9_line 228 = .ok (.iconst 1, 1) := adX9_line_218.2.2.2.2.2.2.1
theorem dX9_line_229 : decode cX9_line 229 = .ok (.invokevirtual 193, 3) := adX9_line_218.2.2.2.2.2.2.2
theorem dX9_line_232 : decode cX9_line 232 = .ok (.return_, 1) := by decide +kernel
set_option maxRecDepth 20000 in
theorem ggX9_land_X9_begins : GoodIn wsX9_land wsX9_begins := goodIn_r _ [18, 13, 19, 20, 21, 22, 23, 17, 24, 25, 26, 27, 28, 12, 29, 30, 31, 32, 33, 34, 35, 36, 37, 38, 144, 145, 146, 147, 148, 149, 150, 151, 152, 153, 154, 155, 156, 157, 158, 159, 160, 161, 162, 163, 164, 165, 166, 167, 168, 169, 170, 171, 172, 173, 174, 175, 176, 177, 178, 179, 180, 181, 182, 183, 184, 185, 186, 187, 188, 189, 190, 191, 192, 193, 194, 195, 196, 197, 198, 199, 200, 201, 202, 203] (by decide +kernel) (by decide +kernel)
set_option maxRecDepth 20000 in
theorem gX9_land_X9_begins : GoodIn wsX9_land (wsV RX9 273 RX9 yX9_begins wsX9_begins) := goodIn_app (goodIn_of _ (by decide +kernel)) ggX9_land_X9_begins
set_option maxRecDepth 20000 in
theorem ggX9_land_X9_isGood : GoodIn wsX9_land wsX9_isGood := goodIn_r _ [42, 13, 144, 145, 146, 147, 148, 149, 150, 151, 152, 153, 154, 155, 156, 157, 158, 159, 160, 161, 162, 163, 164, 165, 166, 167, 168, 169, 170, 171, 172, 173, 174, 175, 176, 177, 178, 179, 180, 181, 182, 183, 184, 185, 186, 187, 188, 189, 190, 191, 192, 193, 194, 195, 196, 197, 198, 199, 200, 201, 202, 203] (by decide +kernel) (by decide +kernel)
set_option maxRecDepth 20000 in
theorem gX9_land_X9_isGood : GoodIn wsX9_land (wsV RX9 276 RX9 yX9_isGood wsX9_isGood) := goodIn_app (goodIn_of _ (by decide +kernel)) ggX9_land_X9_isGood
set_option maxRecDepth 20000 in
theorem ggX9_land_X9_line : GoodIn wsX9_land wsX9_line := goodIn_r _ [46, 47, 3, 13, 48, 4, 49, 50, 8, 51, 9, 7, 52, 53, 54, 17, 55, 12, 27, 56, 57, 58, 59, 25, 19, 21, 22, 23, 24, 20, 26, 28, 29, 30, 31, 32, 33, 34, 35, 36, 37, 38, 60, 61, 62, 63, 64, 65, 66, 67, 68, 69, 70, 71, 72, 73, 74, 75, 76, 77, 78, 79, 80, 81, 82, 83, 84, 85, 86, 87, 88, 89, 90, 91, 92, 93, 94, 95, 96, 97, 98, 99, 100, 101, 102, 103, 10, 104, 11, 105, 106, 107, 108, 109, 110, 111, 112, 113, 114, 115, 116, 117, 118, 119, 120, 5, 121, 122, 123, 124, 125, 126, 127, 128, 129, 6, 144, 145, 146, 147, 148, 149, 150, 151, 152, 153, 154, 155, 156, 157, 158, 159, 160, 161, 162, 163, 164, 165, 166, 167, 168, 169, 170, 171, 172, 173, 174, 175, 176, 177, 178, 179, 180, 181, 182, 183, 184, 185, 186, 187, 188, 189, 190, 191, 192, 193, 194, 195, 196, 197, 198, 199, 200, 201, 202, 203] (by decide +kernel) (by decide +kernel)
set_option maxRecDepth 20000 in
theorem gX9_land_X9_line : GoodIn wsX9_land (wsV RX9 280 RX9 yX9_line wsX9_line) := goodIn_app (goodIn_of _ (by decide +kernel)) ggX9_land_X9_line
set_option maxRecDepth 20000 in
theorem ggX9_land_X9_ends : GoodIn wsX9_land wsX9_ends := goodIn_r _ [133, 12, 13, 56, 57, 58, 17, 59, 25, 19, 21, 22, 23, 24, 20, 26, 27, 28, 29, 30, 31, 32, 33, 34, 35, 36, 37, 38, 144, 145, 146, 147, 148, 149, 150, 151, 152, 153, 154, 155, 156, 157, 158, 159, 160, 161, 162, 163, 164, 165, 166, 167, 168, 169, 170, 171, 172, 173, 174, 175, 176, 177, 178, 179, 180, 181, 182, 183, 184, 185, 186, 187, 188, 189, 190, 191, 192, 193, 194, 195, 196, 197, 198, 199, 200, 201, 202, 203] (by decide +kernel) (by decide +kernel)
set_option maxRecDepth 20000 in
theorem gX9_land_X9_ends : GoodIn wsX9_land (wsV RX9 283 RX9 yX9_ends wsX9_ends) := goodIn_app (goodIn_of _ (by decide +kernel)) ggX9_land_X9_ends
set_option maxRecDepth 20000 in
theorem ggX9_land_X9_isOver : GoodIn wsX9_land wsX9_isOver := goodIn_r _ [137, 28, 13, 138, 19, 139, 144, 145, 146, 147, 148, 149, 150, 151, 152, 153, 154, 155, 156, 157, 158, 159, 160, 161, 162, 163, 164, 165, 166, 167, 168, 169, 170, 171, 172, 173, 174, 175, 176, 177, 178, 179, 180, 181, 182, 183, 184, 185, 186, 187, 188, 189, 190, 191, 192, 193, 194, 195, 196, 197, 198, 199, 200, 201, 202, 203] (by decide +kernel) (by decide +kernel)
set_option maxRecDepth 20000 in
theorem gX9_land_X9_isOver : GoodIn wsX9_land (wsV RX9 286 RX9 yX9_isOver wsX9_isOver) := goodIn_app (goodIn_of _ (by decide +kernel)) ggX9_land_X9_isOver
set_option maxRecDepth 20000 in
theorem ggX9_land_X9_copyLand : GoodIn wsX9_land wsX9_copyLand := goodIn_r _ [143, 2, 3, 4, 5, 6, 7, 8, 64, 66, 91, 93, 95, 97, 11, 129, 144, 145, 146, 147, 148, 149, 150, 151, 152, 153, 154, 155, 156, 157, 158, 159, 160, 161, 162, 163, 164, 165, 166, 167, 168, 169, 170, 171, 172, 173, 174, 175, 176, 177, 178, 179, 180, 181, 182, 183, 184, 185, 186, 187, 188, 189, 190, 191, 192, 193, 194, 195, 196, 197, 198, 199, 200, 201, 202, 203] (by decide +kernel) (by decide +kernel)
set_option maxRecDepth 20000 in
theorem gX9_land_X9_copyLand : GoodIn wsX9_land (wsV RX9 289 RX9 yX9_copyLand wsX9_copyLand) := goodIn_app (goodIn_of _ (by decide +kernel)) ggX9_land_X9_copyLand
theorem adX9_land_0 : (decode cX9_land 0 = .ok (.aload_n 0, 1)) ∧ (decode cX9_land 1 = .ok (.iconst 0, 1)) ∧ (decode cX9_land 2 = .ok (.putfield 125, 3)) ∧ (decode cX9_land 5 = .ok (.aload_n 0, 1)) ∧ (decode cX9_land 6 = .ok (.getfield 31, 3)) ∧ (decode cX9_land 9 = .ok (.iconst 4, 1)) ∧ (decode cX9_land 10 = .ok (.iconst 0, 1)) ∧ (decode cX9_land 11 = .ok (.iastore, 1)) := by decide +kernel
theorem dX9_land_0 : decode cX9_land 0 = .ok (.aload_n 0, 1) := adX9_land_0.1
theorem dX9_land_1 : decode cX9_land 1 = .ok (.iconst 0, 1) := adX9_land_0.2.1
theorem dX9_land_2 : decode cX9_land 2 = .ok (.putfield 125, 3) := adX9_land_0.2.2.1
theorem dX9_land_5 : decode cX9_land 5 = .ok (.aload_n 0, 1) := adX9_land_0.2.2.2.1
theorem dX9_land_6 : decode cX9_land 6 = .ok (.getfield 31, 3) := adX9_land_0.2.2.2.2.1
theorem dX9_land_9 : decode cX9_land 9 = .ok (.iconst 4, 1) := adX9_land_0.2.2.2.2.2.1
theorem dX9_land_10 : decode cX9_land 10 = .ok (.iconst 0, 1) := adX9_land_0.2.2.2.2.2.2.1
theorem dX9_land_11 : decode cX9_land 11 = .ok (.iastore, 1) := adX9_land_0.2.2.2.2.2.2.2
theorem adX9_land_12 : (decode cX9_land 12 = .ok (.aload_n 0, 1)) ∧ (decode cX9_land 13 = .ok (.getfield 34, 3)) ∧ (decode cX9_land 16 = .ok (.iconst 4, 1)) ∧ (decode cX9_land 17 = .ok (.iconst 0, 1)) ∧ (decode cX9_land 18 = .ok (.iastore, 1)) ∧ (decode cX9_land 19 = .ok (.aload_n 0, 1)) ∧ (decode cX9_land 20 = .ok (.getfield 43, 3)) ∧ (decode cX9_land 23 = .ok (.iconst 4, 1)) := by decide +kernel
theorem dX9_land_12 : decode cX9_land 12 = .ok (.aload_n 0, 1) := adX9_land_12.1
theorem dX9_land_13 : decode cX9_land 13 = .ok (.getfield 34, 3) := adX9_land_12.2.1
theorem dX9_land_16 : decode cX9_land 16 = .ok (.iconst 4, 1) := adX9_land_12.2.2.1
theorem dX9_land_17 : decode cX9_land 17 = .ok (.iconst 0, 1) := adX9_land_12.2.2.2.1
theorem dX9_land_18 : decode cX9_land 18 = .ok (.iastore, 1) := adX9_land_12.2.2.2.2.1
theorem dX9_land_19 : decode cX9_land 19 = .ok (.aload_n 0, 1) := adX9_land_12.2.2.2.2.2.1
theorem dX9_land_20 : decode cX9_land 20 = .ok (.getfield 43, 3) := adX9_land_12.2.2.2.2.2.2.1
theorem dX9_land_23 : decode cX9_land 23 = .ok (.iconst 4, 1) := adX9_land_12.2.2.2.2.2.2.2
theorem adX9_land_24 : (decode cX9_land 24 = .ok (.iconst 0, 1)) ∧ (decode cX9_land 25 = .ok (.iastore, 1)) ∧ (decode cX9_land 26 = .ok (.aload_n 0, 1)) ∧ (decode cX9_land 27 = .ok (.getfield 74, 3)) ∧ (decode cX9_land 30 = .ok (.iconst 4, 1)) ∧ (decode cX9_land 31 = .ok (.iconst 0, 1)) ∧ (decode cX9_land 32 = .ok (.iastore, 1)) ∧ (decode cX9_land 33 = .ok (.aload_n 0, 1)) := by decide +kernel
theorem dX9_land_24 : decode cX9_land 24 = .ok (.iconst 0, 1) := adX9_land_24.1
theorem dX9_land_25 : decode cX9_land 25 = .ok (.iastore, 1) := adX9_land_24.2.1
theorem dX9_land_26 : decode cX9_land 26 = .ok (.aload_n 0, 1) := adX9_land_24.2.2.1
theorem dX9_land_27 : decode cX9_land 27 = .ok (.getfield 74, 3) := adX9_land_24.2.2.2.1
theorem dX9_land_30 : decode cX9_land 30 = .ok (.iconst 4, 1) := adX9_land_24.2.2.2.2.1
theorem dX9_land_31 : decode cX9_land 31 = .ok (.iconst 0, 1) := adX9_land_24.2.2.2.2.2.1
theorem dX9_land_32 : decode cX9_land 32 = .ok (.iastore, 1) := adX9_land_24.2.2.2.2.2.2.1
theorem dX9_land_33 : decode cX9_land 33 = .ok (.aload_n 0, 1) := adX9_land_24.2.2.2.2.2.2.2
theorem adX9_land_34 : (decode cX9_land 34 = .ok (.getfield 77, 3)) ∧ (decode cX9_land 37 = .ok (.iconst 4, 1)) ∧ (decode cX9_land 38 = .ok (.iconst 0, 1)) ∧ (decode cX9_land 39 = .ok (.iastore, 1)) ∧ (decode cX9_land 40 = .ok (.aload_n 0, 1)) ∧ (decode cX9_land 41 = .ok (.getfield 71, 3)) ∧ (decode cX9_land 44 = .ok (.iconst 4, 1)) ∧ (decode cX9_land 45 = .ok (.iconst 0, 1)) := by decide +kernel
theorem dX9_land_34 : decode cX9_land 34 = .ok (.getfield 77, 3) := adX9_land_34.1
theorem dX9_land_37 : decode cX9_land 37 = .ok (.iconst 4, 1) := adX9_land_34.2.1
theorem dX9_land_38 : decode cX9_land 38 = .ok (.iconst 0, 1) := adX9_land_34.2.2.1
theorem dX9_land_39 : decode cX9_land 39 = .ok (.iastore, 1) := adX9_land_34.2.2.2.1
theorem dX9_land_40 : decode cX9_land 40 = .ok (.aload_n 0, 1) := adX9_land_34.2.2.2.2.1
theorem dX9_land_41 : decode cX9_land 41 = .ok (.getfield 71, 3) := adX9_land_34.2.2.2.2.2.1
theorem dX9_land_44 : decode cX9_land 44 = .ok (.iconst 4, 1) := adX9_land_34.2.2.2.2.2.2.1
theorem dX9_land_45 : decode cX9_land 45 = .ok (.iconst 0, 1) := adX9_land_34.2.2.2.2.2.2.2
theorem adX9_land_46 : (decode cX9_land 46 = .ok (.iastore, 1)) ∧ (decode cX9_land 47 = .ok (.aload_n 0, 1)) ∧ (decode cX9_land 48 = .ok (.getfield 65, 3)) ∧ (decode cX9_land 51 = .ok (.iconst 4, 1)) ∧ (decode cX9_land 52 = .ok (.iconst 0, 1)) ∧ (decode cX9_land 53 = .ok (.bastore, 1)) ∧ (decode cX9_land 54 = .ok (.aload_n 0, 1)) ∧ (decode cX9_land 55 = .ok (.getfield 68, 3)) := by decide +kernel
theorem dX9_land_46 : decode cX9_land 46 = .ok (.iastore, 1) := adX9_land_46.1
theorem dX9_land_47 : decode cX9_land 47 = .ok (.aload_n 0, 1) := adX9_land_46.2.1
theorem dX9_land_48 : decode cX9_land 48 = .ok (.getfield 65, 3) := adX9_land_46.2.2.1
theorem dX9_land_51 : decode cX9_land 51 = .ok (.iconst 4, 1) := adX9_land_46.2.2.2.1
theorem dX9_land_52 : decode cX9_land 52 = .ok (.iconst 0, 1) := adX9_land_46.2.2.2.2.1
theorem dX9_land_53 : decode cX9_land 53 = .ok (.bastore, 1) := adX9_land_46.2.2.2.2.2.1
theorem dX9_land_54 : decode cX9_land 54 = .ok (.aload_n 0, 1) := adX9_land_46.2.2.2.2.2.2.1
theorem dX9_land_55 : decode cX9_land 55 = .ok (.getfield 68, 3) := adX9_land_46.2.2.2.2.2.2.2
theorem adX9_land_58 : (decode cX9_land 58 = .ok (.iconst 4, 1)) ∧ (decode cX9_land 59 = .ok (.iconst 0, 1)) ∧ (decode cX9_land 60 = .ok (.bastore, 1)) ∧ (decode cX9_land 61 = .ok (.iconst 0, 1)) ∧ (decode cX9_land 62 = .ok (.istore_n 1, 1)) ∧ (decode cX9_land 63 = .ok (.iload_n 1, 1)) ∧ (decode cX9_land 64 = .ok (.bipush 12, 2)) ∧ (decode cX9_land 66 = .ok (.if_icmp .ge 29, 3)) := by decide +kernel
theorem dX9_land_58 : decode cX9_land 58 = .ok (.iconst 4, 1) := adX9_land_58.1
theorem dX9_land_59 : decode cX9_land 59 = .ok (.iconst 0, 1) := adX9_land_58.2.1
theorem dX9_land_60 : decode cX9_land 60 = .ok (.bastore, 1) := adX9_land_58.2.2.1
theorem dX9_land_61 : decode cX9_land 61 = .ok (.iconst 0, 1) := adX9_land_58.2.2.2.1
theorem dX9_land_62 : decode cX9_land 62 = .ok (.istore_n 1, 1) := adX9_land_58.2.2.2.2.1
theorem dX9_land_63 : decode cX9_land 63 = .ok (.iload_n 1, 1) := adX9_land_58.2.2.2.2.2.1
theorem dX9_land_64 : decode cX9_land 64 = .ok (.bipush 12, 2) := adX9_land_58.2.2.2.2.2.2.1
theorem dX9_land_66 : decode cX9_land 66 = .ok (.if_icmp .ge 29, 3) := adX9_land_58.2.2.2.2.2.2.2
theorem adX9_land_69 : (decode cX9_land 69 = .ok (.aload_n 0, 1)) ∧ (decode cX9_land 70 = .ok (.getfield 58, 3)) ∧ (decode cX9_land 73 = .ok (.bipush 48, 2)) ∧ (decode cX9_land 75 = .ok (.iload_n 1, 1)) ∧ (decode cX9_land 76 = .ok (.iadd, 1)) ∧ (decode cX9_land 77 = .ok (.iconst 0, 1)) ∧ (decode cX9_land 78 = .ok (.bastore, 1)) ∧ (decode cX9_land 79 = .ok (.aload_n 0, 1)) := by decide +kernel
theorem dX9_land_69 : decode cX9_land 69 = .ok (.aload_n 0, 1) := adX9_land_69.1
theorem dX9_land_70 : decode cX9_land 70 = .ok (.getfield 58, 3) := adX9_land_69.2.1
theorem dX9_land_73 : decode cX9_land 73 = .ok (.bipush 48, 2) := adX9_land_69.2.2.1
theorem dX9_land_75 : decode cX9_land 75 = .ok (.iload_n 1, 1) := adX9_land_69.2.2.2.1
theorem dX9_land_76 : decode cX9_land 76 = .ok (.iadd, 1) := adX9_land_69.2.2.2.2.1
theorem dX9_land_77 : decode cX9_land 77 = .ok (.iconst 0, 1) := adX9_land_69.2.2.2.2.2.1
theorem dX9_land_78 : decode cX9_land 78 = .ok (.bastore, 1) := adX9_land_69.2.2.2.2.2.2.1
theorem dX9_land_79 : decode cX9_land 79 = .ok (.aload_n 0, 1) := adX9_land_69.2.2.2.2.2.2.2
theorem adX9_land_80 : (decode cX9_land 80 = .ok (.getfield 62, 3)) ∧ (decode cX9_land 83 = .ok (.bipush 48, 2)) ∧ (decode cX9_land 85 = .ok (.iload_n 1, 1)) ∧ (decode cX9_land 86 = .ok (.iadd, 1)) ∧ (decode cX9_land 87 = .ok (.iconst 0, 1)) ∧ (decode cX9_land 88 = .ok (.iastore, 1)) ∧ (decode cX9_land 89 = .ok (.iinc 1 1, 3)) ∧ (decode cX9_land 92 = .ok (.goto (-29), 3)) := by decide +kernel
theorem dX9_land_80 : decode cX9_land 80 = .ok (.getfield 62, 3) := adX9_land_80.1
theorem dX9_land_83 : decode cX9_land 83 = .ok (.bipush 48, 2) := adX9_land_80.2.1
theorem dX9_land_85 : decode cX9_land 85 = .ok (.iload_n 1, 1) := adX9_land_80.2.2.1
theorem dX9_land_86 : decode cX9_land 86 = .ok (.iadd, 1) := adX9_land_80.2.2.2.1
theorem dX9_land_87 : decode cX9_land 87 = .ok (.iconst 0, 1) := adX9_land_80.2.2.2.2.1
theorem dX9_land_88 : decode cX9_land 88 = .ok (.iastore, 1) := adX9_land_80.2.2.2.2.2.1
theorem dX9_land_89 : decode cX9_land 89 = .ok (.iinc 1 1, 3) := adX9_land_80.2.2.2.2.2.2.1
theorem dX9_land_92 : decode cX9_land 92 = .ok (.goto (-29), 3) := adX9_land_80.2.2.2.2.2.2.2
theorem adX9_land_95 : (decode cX9_land 95 = .ok (.aload_n 0, 1)) ∧ (decode cX9_land 96 = .ok (.invokevirtual 273, 3)) ∧ (decode cX9_land 99 = .ok (.aload_n 0, 1)) ∧ (decode cX9_land 100 = .ok (.invokevirtual 276, 3)) ∧ (decode cX9_land 103 = .ok (.ifCond .eq 38, 3)) ∧ (decode cX9_land 106 = .ok (.aload_n 0, 1)) ∧ (decode cX9_land 107 = .ok (.getfield 166, 3)) ∧ (decode cX9_land 110 = .ok (.ifCond .eq 31, 3)) := by decide +kernel
theorem dX9_land_95 : decode cX9_land 95 = .ok (.aload_n 0, 1) := adX9_land_95.1
theorem dX9_land_96 : decode cX9_land 96 = .ok (.invokevirtual 273, 3) := adX9_land_95.2.1
theorem dX9_land_99 : decode cX9_land 99 = .ok (.aload_n 0, 1) := adX9_land_95.2.2.1
theorem dX9_land_100 : decode cX9_land 100 = .ok (.invokevirtual 276, 3) := adX9_land_95.2.2.2.1
theorem dX9_land_103 : decode cX9_land 103 = .ok (.ifCond .eq 38, 3) := adX9_land_95.2.2.2.2.1
theorem dX9_land_106 : decode cX9_land 106 = .ok (.aload_n 0, 1) := adX9_land_95.2.2.2.2.2.1
theorem dX9_land_107 : decode cX9_land 107 = .ok (.getfield 166, 3) := adX9_land_95.2.2.2.2.2.2.1
theorem dX9_land_110 : decode cX9_land 110 = .ok (.ifCond .eq 31, 3) := adX9_land_95.2.2.2.2.2.2.2
theorem adX9_land_113 : (decode cX9_land 113 = .ok (.aload_n 0, 1)) ∧ (decode cX9_land 114 = .ok (.invokevirtual 280, 3)) ∧ (decode cX9_land 117 = .ok (.aload_n 0, 1)) ∧ (decode cX9_land 118 = .ok (.invokevirtual 276, 3)) ∧ (decode cX9_land 121 = .ok (.ifCond .eq 7, 3)) ∧ (decode cX9_land 124 = .ok (.aload_n 0, 1)) ∧ (decode cX9_land 125 = .ok (.invokevirtual 283, 3)) ∧ (decode cX9_land 128 = .ok (.aload_n 0, 1)) := by decide +kernel
theorem dX9_land_113 : decode cX9_land 113 = .ok (.aload_n 0, 1) := adX9_land_113.1
theorem dX9_land_114 : decode cX9_land 114 = .ok (.invokevirtual 280, 3) := adX9_land_113.2.1
theorem dX9_land_117 : decode cX9_land 117 = .ok (.aload_n 0, 1) := adX9_land_113.2.2.1
theorem dX9_land_118 : decode cX9_land 118 = .ok (.invokevirtual 276, 3) := adX9_land_113.2.2.2.1
theorem dX9_land_121 : decode cX9_land 121 = .ok (.ifCond .eq 7, 3) := adX9_land_113.2.2.2.2.1
theorem dX9_land_124 : decode cX9_land 124 = .ok (.aload_n 0, 1) := adX9_land_113.2.2.2.2.2.1
theorem dX9_land_125 : decode cX9_land 125 = .ok (.invokevirtual 283, 3) := adX9_land_113.2.2.2.2.2.2.1
theorem dX9_land_128 : decode cX9_land 128 = .ok (.aload_n 0, 1) := adX9_land_113.2.2.2.2.2.2.2
theorem adX9_land_129 : (decode cX9_land 129 = .ok (.getfield 31, 3)) ∧ (decode cX9_land 132 = .ok (.iconst 4, 1)) ∧ (decode cX9_land 133 = .ok (.dup2, 1)) ∧ (decode cX9_land 134 = .ok (.iaload, 1)) ∧ (decode cX9_land 135 = .ok (.iconst 1, 1)) ∧ (decode cX9_land 136 = .ok (.iadd, 1)) ∧ (decode cX9_land 137 = .ok (.iastore, 1)) ∧ (decode cX9_land 138 = .ok (.goto (-39), 3)) := by decide +kernel
theorem dX9_land_129 : decode cX9_land 129 = .ok (.getfield 31, 3) := adX9_land_129.1
theorem dX9_land_132 : decode cX9_land 132 = .ok (.iconst 4, 1) := adX9_land_129.2.1
theorem dX9_land_133 : decode cX9_land 133 = .ok (.dup2, 1) := adX9_land_129.2.2.1
theorem dX9_land_134 : decode cX9_land 134 = .ok (.iaload, 1) := adX9_land_129.2.2.2.1
theorem dX9_land_135 : decode cX9_land 135 = .ok (.iconst 1, 1) := adX9_land_129.2.2.2.2.1
theorem dX9_land_136 : decode cX9_land 136 = .ok (.iadd, 1) := adX9_land_129.2.2.2.2.2.1
theorem dX9_land_137 : decode cX9_land 137 = .ok (.iastore, 1) := adX9_land_129.2.2.2.2.2.2.1
theorem dX9_land_138 : decode cX9_land 138 = .ok (.goto (-39), 3) := adX9_land_129.2.2.2.2.2.2.2
theorem adX9_land_141 : (decode cX9_land 141 = .ok (.aload_n 0, 1)) ∧ (decode cX9_land 142 = .ok (.invokevirtual 286, 3)) ∧ (decode cX9_land 145 = .ok (.aload_n 0, 1)) ∧ (decode cX9_land 146 = .ok (.getfield 177, 3)) ∧ (decode cX9_land 149 = .ok (.ifCond .eq 6, 3)) ∧ (decode cX9_land 152 = .ok (.bipush (-4), 2)) ∧ (decode cX9_land 154 = .ok (.ireturn, 1)) ∧ (decode cX9_land 155 = .ok (.aload_n 0, 1)) := by decide +kernel
theorem dX9_land_141 : decode cX9_land 141 = .ok (.aload_n 0, 1) := adX9_land_141.1
theorem dX9_land_142 : decode cX9_land 142 = .ok (.invokevirtual 286, 3) := adX9_land_141.2.1
theorem dX9_land_145 : decode cX9_land 145 = .ok (.aload_n 0, 1) := adX9_land_141.2.2.1
theorem dX9_land_146 : decode cX9_land 146 = .ok (.getfield 177, 3) := adX9_land_141.2.2.2.1
theorem dX9_land_149 : decode cX9_land 149 = .ok (.ifCond .eq 6, 3) := adX9_land_141.2.2.2.2.1
theorem dX9_land_152 : decode cX9_land 152 = .ok (.bipush (-4), 2) := adX9_land_141.2.2.2.2.2.1
theorem dX9_land_154 : decode cX9_land 154 = .ok (.ireturn, 1) := adX9_land_141.2.2.2.2.2.2.1
theorem dX9_land_155 : decode cX9_land 155 = .ok (.aload_n 0, 1) := adX9_land_141.2.2.2.2.2.2.2
theorem adX9_land_156 : (decode cX9_land 156 = .ok (.iconst 4, 1)) ∧ (decode cX9_land 157 = .ok (.iconst 0, 1)) ∧ (decode cX9_land 158 = .ok (.invokevirtual 289, 3)) ∧ (decode cX9_land 161 = .ok (.aload_n 0, 1)) ∧ (decode cX9_land 162 = .ok (.getfield 31, 3)) ∧ (decode cX9_land 165 = .ok (.iconst 0, 1)) ∧ (decode cX9_land 166 = .ok (.iaload, 1)) ∧ (decode cX9_land 167 = .ok (.ireturn, 1)) := by decide +kernel
theorem dX9_land_156 : decode cX9_land 156 = .ok (.iconst 4, 1) := adX9_land_156.1
theorem dX9_land_157 : decode cX9_land 157 = .ok (.iconst 0, 1) := adX9_land_156.2.1
theorem dX9_land_158 : decode cX9_land 158 = .ok (.invokevirtual 289, 3) := adX9_land_156.2.2.1
theorem dX9_land_161 : decode cX9_land 161 = .ok (.aload_n 0, 1) := adX9_land_156.2.2.2.1
theorem dX9_land_162 : decode cX9_land 162 = .ok (.getfield 31, 3) := adX9_land_156.2.2.2.2.1
theorem dX9_land_165 : decode cX9_land 165 = .ok (.iconst 0, 1) := adX9_land_156.2.2.2.2.2.1
theorem dX9_land_166 : decode cX9_land 166 = .ok (.iaload, 1) := adX9_land_156.2.2.2.2.2.2.1
theorem dX9_land_167 : decode cX9_land 167 = .ok (.ireturn, 1) := adX9_land_156.2.2.2.2.2.2.2
theorem adX9_copyLand_0 : (decode cX9_copyLand 0 = .ok (.aload_n 0, 1)) ∧ (decode cX9_copyLand 1 = .ok (.getfield 31, 3)) ∧ (decode cX9_copyLand 4 = .ok (.iload_n 2, 1)) ∧ (decode cX9_copyLand 5 = .ok (.aload_n 0, 1)) ∧ (decode cX9_copyLand 6 = .ok (.getfield 31, 3)) ∧ (decode cX9_copyLand 9 = .ok (.iload_n 1, 1)) ∧ (decode cX9_copyLand 10 = .ok (.iaload, 1)) ∧ (decode cX9_copyLand 11 = .ok (.iastore, 1)) := by decide +kernel
theorem dX9_copyLand_0 : decode cX9_copyLand 0 = .ok (.aload_n 0, 1) := adX9_copyLand_0.1
theorem dX9_copyLand_1 : decode cX9_copyLand 1 = .ok (.getfield 31, 3) := adX9_copyLand_0.2.1
theorem dX9_copyLand_4 : decode cX9_copyLand 4 = .ok (.iload_n 2, 1) := adX9_copyLand_0.2.2.1
theorem dX9_copyLand_5 : decode cX9_copyLand 5 = .ok (.aload_n 0, 1) := adX9_copyLand_0.2.2.2.1
theorem dX9_copyLand_6 : decode cX9_copyLand 6 = .ok (.getfield 31, 3) := adX9_copyLand_0.2.2.2.2.1
theorem dX9_copyLand_9 : decode cX9_copyLand 9 = .ok (.iload_n 1, 1) := adX9_copyLand_0.2.2.2.2.2.1
theorem dX9_copyLand_10 : decode cX9_copyLand 10 = .ok (.iaload, 1) := adX9_copyLand_0.2.2.2.2.2.2.1
theorem dX9_copyLand_11 : decode cX9_copyLand 11 = .ok (.iastore, 1) := adX9_copyLand_0.2.2.2.2.2.2.2
theorem adX9_copyLand_12 : (decode cX9_copyLand 12 = .ok (.aload_n 0, 1)) ∧ (decode cX9_copyLand 13 = .ok (.getfield 34, 3)) ∧ (decode cX9_copyLand 16 = .ok (.iload_n 2, 1)) ∧ (decode cX9_copyLand 17 = .ok (.aload_n 0, 1)) ∧ (decode cX9_copyLand 18 = .ok (.getfield 34, 3)) ∧ (decode cX9_copyLand 21 = .ok (.iload_n 1, 1)) ∧ (decode cX9_copyLand 22 = .ok (.iaload, 1)) ∧ (decode cX9_copyLand 23 = .ok (.iastore, 1)) := by decide +kernel
theorem dX9_copyLand_12 : decode cX9_copyLand 12 = .ok (.aload_n 0, 1) := adX9_copyLand_12.1
theorem dX9_copyLand_13 : decode cX9_copyLand 13 = .ok (.getfield 34, 3) := adX9_copyLand_12.2.1
theorem dX9_copyLand_16 : decode cX9_copyLand 16 = .ok (.iload_n 2, 1) := adX9_copyLand_12.2.2.1
theorem dX9_copyLand_17 : decode cX9_copyLand 17 = .ok (.aload_n 0, 1) := adX9_copyLand_12.2.2.2.1
theorem dX9_copyLand_18 : decode cX9_copyLand 18 = .ok (.getfield 34, 3) := adX9_copyLand_12.2.2.2.2.1
theorem dX9_copyLand_21 : decode cX9_copyLand 21 = .ok (.iload_n 1, 1) := adX9_copyLand_12.2.2.2.2.2.1
theorem dX9_copyLand_22 : decode cX9_copyLand 22 = .ok (.iaload, 1) := adX9_copyLand_12.2.2.2.2.2.2.1
theorem dX9_copyLand_23 : decode cX9_copyLand 23 = .ok (.iastore, 1) := adX9_copyLand_12.2.2.2.2.2.2.2
theorem adX9_copyLand_24 : (decode cX9_copyLand 24 = .ok (.aload_n 0, 1)) ∧ (decode cX9_copyLand 25 = .ok (.getfield 43, 3)) ∧ (decode cX9_copyLand 28 = .ok (.iload_n 2, 1)) ∧ (decode cX9_copyLand 29 = .ok (.aload_n 0, 1)) ∧ (decode cX9_copyLand 30 = .ok (.getfield 43, 3)) ∧ (decode cX9_copyLand 33 = .ok (.iload_n 1, 1)) ∧ (decode cX9_copyLand 34 = .ok (.iaload, 1)) ∧ (decode cX9_copyLand 35 = .ok (.iastore, 1)) := by decide +kernel
theorem dX9_copyLand_24 : decode cX9_copyLand 24 = .ok (.aload_n 0, 1) := adX9_copyLand_24.1
theorem dX9_copyLand_25 : decode cX9_copyLand 25 = .ok (.getfield 43, 3) := adX9_copyLand_24.2.1
theorem dX9_copyLand_28 : decode cX9_copyLand 28 = .ok (.iload_n 2, 1) := adX9_copyLand_24.2.2.1
theorem dX9_copyLand_29 : decode cX9_copyLand 29 = .ok (.aload_n 0, 1) := adX9_copyLand_24.2.2.2.1
theorem dX9_copyLand_30 : decode cX9_copyLand 30 = .ok (.getfield 43, 3) := adX9_copyLand_24.2.2.2.2.1
theorem dX9_copyLand_33 : decode cX9_copyLand 33 = .ok (.iload_n 1, 1) := adX9_copyLand_24.2.2.2.2.2.1
theorem dX9_copyLand_34 : decode cX9_copyLand 34 = .ok (.iaload, 1) := adX9_copyLand_24.2.2.2.2.2.2.1
theorem dX9_copyLand_35 : decode cX9_copyLand 35 = .ok (.iastore, 1) := adX9_copyLand_24.2.2.2.2.2.2.2
theorem adX9_copyLand_36 : (decode cX9_copyLand 36 = .ok (.aload_n 0, 1)) ∧ (decode cX9_copyLand 37 = .ok (.getfield 74, 3)) ∧ (decode cX9_copyLand 40 = .ok (.iload_n 2, 1)) ∧ (decode cX9_copyLand 41 = .ok (.aload_n 0, 1)) ∧ (decode cX9_copyLand 42 = .ok (.getfield 74, 3)) ∧ (decode cX9_copyLand 45 = .ok (.iload_n 1, 1)) ∧ (decode cX9_copyLand 46 = .ok (.iaload, 1)) ∧ (decode cX9_copyLand 47 = .ok (.iastore, 1)) := by decide +kernel
theorem dX9_copyLand_36 : decode cX9_copyLand 36 = .ok (.aload_n 0, 1) := adX9_copyLand_36.1
theorem dX9_copyLand_37 : decode cX9_copyLand 37 = .ok (.getfield 74, 3) := adX9_copyLand_36.2.1
theorem dX9_copyLand_40 : decode cX9_copyLand 40 = .ok (.iload_n 2, 1) := adX9_copyLand_36.2.2.1
theorem dX9_copyLand_41 : decode cX9_copyLand 41 = .ok (.aload_n 0, 1) := adX9_copyLand_36.2.2.2.1
theorem dX9_copyLand_42 : decode cX9_copyLand 42 = .ok (.getfield 74, 3) := adX9_copyLand_36.2.2.2.2.1
theorem dX9_copyLand_45 : decode cX9_copyLand 45 = .ok (.iload_n 1, 1) := adX9_copyLand_36.2.2.2.2.2.1
theorem dX9_copyLand_46 : decode cX9_copyLand 46 = .ok (.iaload, 1) := adX9_copyLand_36.2.2.2.2.2.2.1
theorem dX9_copyLand_47 : decode cX9_copyLand 47 = .ok (.iastore, 1) := adX9_copyLand_36.2.2.2.2.2.2.2
theorem adX9_copyLand_48 : (decode cX9_copyLand 48 = .ok (.aload_n 0, 1)) ∧ (decode cX9_copyLand 49 = .ok (.getfield 77, 3)) ∧ (decode cX9_copyLand 52 = .ok (.iload_n 2, 1)) ∧ (decode cX9_copyLand 53 = .ok (.aload_n 0, 1)) ∧ (decode cX9_copyLand 54 = .ok (.getfield 77, 3)) ∧ (decode cX9_copyLand 57 = .ok (.iload_n 1, 1)) ∧ (decode cX9_copyLand 58 = .ok (.iaload, 1)) ∧ (decode cX9_copyLand 59 = .ok (.iastore, 1)) := by decide +kernel
theorem dX9_copyLand_48 : decode cX9_copyLand 48 = .ok (.aload_n 0, 1) := adX9_copyLand_48.1
theorem dX9_copyLand_49 : decode cX9_copyLand 49 = .ok (.getfield 77, 3) := adX9_copyLand_48.2.1
theorem dX9_copyLand_52 : decode cX9_copyLand 52 = .ok (.iload_n 2, 1) := adX9_copyLand_48.2.2.1
theorem dX9_copyLand_53 : decode cX9_copyLand 53 = .ok (.aload_n 0, 1) := adX9_copyLand_48.2.2.2.1
theorem dX9_copyLand_54 : decode cX9_copyLand 54 = .ok (.getfield 77, 3) := adX9_copyLand_48.2.2.2.2.1
theorem dX9_copyLand_57 : decode cX9_copyLand 57 = .ok (.iload_n 1, 1) := adX9_copyLand_48.2.2.2.2.2.1
theorem dX9_copyLand_58 : decode cX9_copyLand 58 = .ok (.iaload, 1) := adX9_copyLand_48.2.2.2.2.2.2.1
theorem dX9_copyLand_59 : decode cX9_copyLand 59 = .ok (.iastore, 1) := adX9_copyLand_48.2.2.2.2.2.2.2
theorem adX9_copyLand_60 : (decode cX9_copyLand 60 = .ok (.aload_n 0, 1)) ∧ (decode cX9_copyLand 61 = .ok (.getfield 71, 3)) ∧ (decode cX9_copyLand 64 = .ok (.iload_n 2, 1)) ∧ (decode cX9_copyLand 65 = .ok (.aload_n 0, 1)) ∧ (decode cX9_copyLand 66 = .ok (.getfield 71, 3)) ∧ (decode cX9_copyLand 69 = .ok (.iload_n 1, 1)) ∧ (decode cX9_copyLand 70 = .ok (.iaload, 1)) ∧ (decode cX9_copyLand 71 = .ok (.iastore, 1)) := by decide +kernel
theorem dX9_copyLand_60 : decode cX9_copyLand 60 = .ok (.aload_n 0, 1) := adX9_copyLand_60.1
theorem dX9_copyLand_61 : decode cX9_copyLand 61 = .ok (.getfield 71, 3) := adX9_copyLand_60.2.1
theorem dX9_copyLand_64 : decode cX9_copyLand 64 = .ok (.iload_n 2, 1) := adX9_copyLand_60.2.2.1
theorem dX9_copyLand_65 : decode cX9_copyLand 65 = .ok (.aload_n 0, 1) := adX9_copyLand_60.2.2.2.1
theorem dX9_copyLand_66 : decode cX9_copyLand 66 = .ok (.getfield 71, 3) := adX9_copyLand_60.2.2.2.2.1
theorem dX9_copyLand_69 : decode cX9_copyLand 69 = .ok (.iload_n 1, 1) := adX9_copyLand_60.2.2.2.2.2.1
theorem dX9_copyLand_70 : decode cX9_copyLand 70 = .ok (.iaload, 1) := adX9_copyLand_60.2.2.2.2.2.2.1
theorem dX9_copyLand_71 : decode cX9_copyLand 71 = .ok (.iastore, 1) := adX9_copyLand_60.2.2.2.2.2.2.2
theorem adX9_copyLand_72 : (decode cX9_copyLand 72 = .ok (.aload_n 0, 1)) ∧ (decode cX9_copyLand 73 = .ok (.getfield 65, 3)) ∧ (decode cX9_copyLand 76 = .ok (.iload_n 2, 1)) ∧ (decode cX9_copyLand 77 = .ok (.aload_n 0, 1)) ∧ (decode cX9_copyLand 78 = .ok (.getfield 65, 3)) ∧ (decode cX9_copyLand 81 = .ok (.iload_n 1, 1)) ∧ (decode cX9_copyLand 82 = .ok (.baload, 1)) ∧ (decode cX9_copyLand 83 = .ok (.bastore, 1)) := by decide +kernel
theorem dX9_copyLand_72 : decode cX9_copyLand 72 = .ok (.aload_n 0, 1) := adX9_copyLand_72.1
theorem dX9_copyLand_73 : decode cX9_copyLand 73 = .ok (.getfield 65, 3) := adX9_copyLand_72.2.1
theorem dX9_copyLand_76 : decode cX9_copyLand 76 = .ok (.iload_n 2, 1) := adX9_copyLand_72.2.2.1
theorem dX9_copyLand_77 : decode cX9_copyLand 77 = .ok (.aload_n 0, 1) := adX9_copyLand_72.2.2.2.1
theorem dX9_copyLand_78 : decode cX9_copyLand 78 = .ok (.getfield 65, 3) := adX9_copyLand_72.2.2.2.2.1
theorem dX9_copyLand_81 : decode cX9_copyLand 81 = .ok (.iload_n 1, 1) := adX9_copyLand_72.2.2.2.2.2.1
theorem dX9_copyLand_82 : decode cX9_copyLand 82 = .ok (.baload, 1) := adX9_copyLand_72.2.2.2.2.2.2.1
theorem dX9_copyLand_83 : decode cX9_copyLand 83 = .ok (.bastore, 1) := adX9_copyLand_72.2.2.2.2.2.2.2
theorem adX9_copyLand_84 : (decode cX9_copyLand 84 = .ok (.iconst 0, 1)) ∧ (decode cX9_copyLand 85 = .ok (.istore_n 3, 1)) ∧ (decode cX9_copyLand 86 = .ok (.iload_n 3, 1)) ∧ (decode cX9_copyLand 87 = .ok (.bipush 6, 2)) ∧ (decode cX9_copyLand 89 = .ok (.if_icmp .ge 53, 3)) ∧ (decode cX9_copyLand 92 = .ok (.aload_n 0, 1)) ∧ (decode cX9_copyLand 93 = .ok (.getfield 37, 3)) ∧ (decode cX9_copyLand 96 = .ok (.bipush 6, 2)) := by decide +kernel
theorem dX9_copyLand_84 : decode cX9_copyLand 84 = .ok (.iconst 0, 1) := adX9_copyLand_84.1
theorem dX9_copyLand_85 : decode cX9_copyLand 85 = .ok (.istore_n 3, 1) := adX9_copyLand_84.2.1
theorem dX9_copyLand_86 : decode cX9_copyLand 86 = .ok (.iload_n 3, 1) := adX9_copyLand_84.2.2.1
theorem dX9_copyLand_87 : decode cX9_copyLand 87 = .ok (.bipush 6, 2) := adX9_copyLand_84.2.2.2.1
theorem dX9_copyLand_89 : decode cX9_copyLand 89 = .ok (.if_icmp .ge 53, 3) := adX9_copyLand_84.2.2.2.2.1
theorem dX9_copyLand_92 : decode cX9_copyLand 92 = .ok (.aload_n 0, 1) := adX9_copyLand_84.2.2.2.2.2.1
theorem dX9_copyLand_93 : decode cX9_copyLand 93 = .ok (.getfield 37, 3) := adX9_copyLand_84.2.2.2.2.2.2.1
theorem dX9_copyLand_96 : decode cX9_copyLand 96 = .ok (.bipush 6, 2) := adX9_copyLand_84.2.2.2.2.2.2.2
theorem adX9_copyLand_98 : (decode cX9_copyLand 98 = .ok (.iload_n 2, 1)) ∧ (decode cX9_copyLand 99 = .ok (.imul, 1)) ∧ (decode cX9_copyLand 100 = .ok (.iload_n 3, 1)) ∧ (decode cX9_copyLand 101 = .ok (.iadd, 1)) ∧ (decode cX9_copyLand 102 = .ok (.aload_n 0, 1)) ∧ (decode cX9_copyLand 103 = .ok (.getfield 37, 3)) ∧ (decode cX9_copyLand 106 = .ok (.bipush 6, 2)) ∧ (decode cX9_copyLand 108 = .ok (.iload_n 1, 1)) := by decide +kernel
theorem dX9_copyLand_98 : decode cX9_copyLand 98 = .ok (.iload_n 2, 1) := adX9_copyLand_98.1
theorem dX9_copyLand_99 : decode cX9_copyLand 99 = .ok (.imul, 1) := adX9_copyLand_98.2.1
theorem dX9_copyLand_100 : decode cX9_copyLand 100 = .ok (.iload_n 3, 1) := adX9_copyLand_98.2.2.1
theorem dX9_copyLand_101 : decode cX9_copyLand 101 = .ok (.iadd, 1) := adX9_copyLand_98.2.2.2.1
theorem dX9_copyLand_102 : decode cX9_copyLand 102 = .ok (.aload_n 0, 1) := adX9_copyLand_98.2.2.2.2.1
theorem dX9_copyLand_103 : decode cX9_copyLand 103 = .ok (.getfield 37, 3) := adX9_copyLand_98.2.2.2.2.2.1
theorem dX9_copyLand_106 : decode cX9_copyLand 106 = .ok (.bipush 6, 2) := adX9_copyLand_98.2.2.2.2.2.2.1
theorem dX9_copyLand_108 : decode cX9_copyLand 108 = .ok (.iload_n 1, 1) := adX9_copyLand_98.2.2.2.2.2.2.2
theorem adX9_copyLand_109 : (decode cX9_copyLand 109 = .ok (.imul, 1)) ∧ (decode cX9_copyLand 110 = .ok (.iload_n 3, 1)) ∧ (decode cX9_copyLand 111 = .ok (.iadd, 1)) ∧ (decode cX9_copyLand 112 = .ok (.iaload, 1)) ∧ (decode cX9_copyLand 113 = .ok (.iastore, 1)) ∧ (decode cX9_copyLand 114 = .ok (.aload_n 0, 1)) ∧ (decode cX9_copyLand 115 = .ok (.getfield 40, 3)) ∧ (decode cX9_copyLand 118 = .ok (.bipush 6, 2)) := by decide +kernel
theorem dX9_copyLand_109 : decode cX9_copyLand 109 = .ok (.imul, 1) := adX9_copyLand_109.1
theorem dX9_copyLand_110 : decode cX9_copyLand 110 = .ok (.iload_n 3, 1) := adX9_copyLand_109.2.1
theorem dX9_copyLand_111 : decode cX9_copyLand 111 = .ok (.iadd, 1) := adX9_copyLand_109.2.2.1
theorem dX9_copyLand_112 : decode cX9_copyLand 112 = .ok (.iaload, 1) := adX9_copyLand_109.2.2.2.1
theorem dX9_copyLand_113 : decode cX9_copyLand 113 = .ok (.iastore, 1) := adX9_copyLand_109.2.2.2.2.1
theorem dX9_copyLand_114 : decode cX9_copyLand 114 = .ok (.aload_n 0, 1) := adX9_copyLand_109.2.2.2.2.2.1
theorem dX9_copyLand_115 : decode cX9_copyLand 115 = .ok (.getfield 40, 3) := adX9_copyLand_109.2.2.2.2.2.2.1
theorem dX9_copyLand_118 : decode cX9_copyLand 118 = .ok (.bipush 6, 2) := adX9_copyLand_109.2.2.2.2.2.2.2
theorem adX9_copyLand_120 : (decode cX9_copyLand 120 = .ok (.iload_n 2, 1)) ∧ (decode cX9_copyLand 121 = .ok (.imul, 1)) ∧ (decode cX9_copyLand 122 = .ok (.iload_n 3, 1)) ∧ (decode cX9_copyLand 123 = .ok (.iadd, 1)) ∧ (decode cX9_copyLand 124 = .ok (.aload_n 0, 1)) ∧ (decode cX9_copyLand 125 = .ok (.getfield 40, 3)) ∧ (decode cX9_copyLand 128 = .ok (.bipush 6, 2)) ∧ (decode cX9_copyLand 130 = .ok (.iload_n 1, 1)) := by decide +kernel
theorem dX9_copyLand_120 : decode cX9_copyLand 120 = .ok (.iload_n 2, 1) := adX9_copyLand_120.1
theorem dX9_copyLand_121 : decode cX9_copyLand 121 = .ok (.imul, 1) := adX9_copyLand_120.2.1
theorem dX9_copyLand_122 : decode cX9_copyLand 122 = .ok (.iload_n 3, 1) := adX9_copyLand_120.2.2.1
theorem dX9_copyLand_123 : decode cX9_copyLand 123 = .ok (.iadd, 1) := adX9_copyLand_120.2.2.2.1
theorem dX9_copyLand_124 : decode cX9_copyLand 124 = .ok (.aload_n 0, 1) := adX9_copyLand_120.2.2.2.2.1
theorem dX9_copyLand_125 : decode cX9_copyLand 125 = .ok (.getfield 40, 3) := adX9_copyLand_120.2.2.2.2.2.1
theorem dX9_copyLand_128 : decode cX9_copyLand 128 = .ok (.bipush 6, 2) := adX9_copyLand_120.2.2.2.2.2.2.1
theorem dX9_copyLand_130 : decode cX9_copyLand 130 = .ok (.iload_n 1, 1) := adX9_copyLand_120.2.2.2.2.2.2.2
theorem adX9_copyLand_131 : (decode cX9_copyLand 131 = .ok (.imul, 1)) ∧ (decode cX9_copyLand 132 = .ok (.iload_n 3, 1)) ∧ (decode cX9_copyLand 133 = .ok (.iadd, 1)) ∧ (decode cX9_copyLand 134 = .ok (.iaload, 1)) ∧ (decode cX9_copyLand 135 = .ok (.iastore, 1)) ∧ (decode cX9_copyLand 136 = .ok (.iinc 3 1, 3)) ∧ (decode cX9_copyLand 139 = .ok (.goto (-53), 3)) ∧ (decode cX9_copyLand 142 = .ok (.iconst 0, 1)) := by decide +kernel
theorem dX9_copyLand_131 : decode cX9_copyLand 131 = .ok (.imul, 1) := adX9_copyLand_131.1
theorem dX9_copyLand_132 : decode cX9_copyLand 132 = .ok (.iload_n 3, 1) := adX9_copyLand_131.2.1
theorem dX9_copyLand_133 : decode cX9_copyLand 133 = .ok (.iadd, 1) := adX9_copyLand_131.2.2.1
theorem dX9_copyLand_134 : decode cX9_copyLand 134 = .ok (.iaload, 1) := adX9_copyLand_131.2.2.2.1
theorem dX9_copyLand_135 : decode cX9_copyLand 135 = .ok (.iastore, 1) := adX9_copyLand_131.2.2.2.2.1
theorem dX9_copyLand_136 : decode cX9_copyLand 136 = .ok (.iinc 3 1, 3) := adX9_copyLand_131.2.2.2.2.2.1
theorem dX9_copyLand_139 : decode cX9_copyLand 139 = .ok (.goto (-53), 3) := adX9_copyLand_131.2.2.2.2.2.2.1
theorem dX9_copyLand_142 : decode cX9_copyLand 142 = .ok (.iconst 0, 1) := adX9_copyLand_131.2.2.2.2.2.2.2
theorem adX9_copyLand_143 : (decode cX9_copyLand 143 = .ok (.istore_n 3, 1)) ∧ (decode cX9_copyLand 144 = .ok (.iload_n 3, 1)) ∧ (decode cX9_copyLand 145 = .ok (.bipush 8, 2)) ∧ (decode cX9_copyLand 147 = .ok (.if_icmp .ge 97, 3)) ∧ (decode cX9_copyLand 150 = .ok (.aload_n 0, 1)) ∧ (decode cX9_copyLand 151 = .ok (.getfield 46, 3)) ∧ (decode cX9_copyLand 154 = .ok (.bipush 8, 2)) ∧ (decode cX9_copyLand 156 = .ok (.iload_n 2, 1)) := by decide +kernel
theorem dX9_copyLand_143 : decode cX9_copyLand 143 = .ok (.istore_n 3, 1) := adX9_copyLand_143.1
theorem dX9_copyLand_144 : decode cX9_copyLand 144 = .ok (.iload_n 3, 1) := adX9_copyLand_143.2.1
theorem dX9_copyLand_145 : decode cX9_copyLand 145 = .ok (.bipush 8, 2) := adX9_copyLand_143.2.2.1
theorem dX9_copyLand_147 : decode cX9_copyLand 147 = .ok (.if_icmp .ge 97, 3) := adX9_copyLand_143.2.2.2.1
theorem dX9_copyLand_150 : decode cX9_copyLand 150 = .ok (.aload_n 0, 1) := adX9_copyLand_143.2.2.2.2.1
theorem dX9_copyLand_151 : decode cX9_copyLand 151 = .ok (.getfield 46, 3) := adX9_copyLand_143.2.2.2.2.2.1
theorem dX9_copyLand_154 : decode cX9_copyLand 154 = .ok (.bipush 8, 2) := adX9_copyLand_143.2.2.2.2.2.2.1
theorem dX9_copyLand_156 : decode cX9_copyLand 156 = .ok (.iload_n 2, 1) := adX9_copyLand_143.2.2.2.2.2.2.2
theorem adX9_copyLand_157 : (decode cX9_copyLand 157 = .ok (.imul, 1)) ∧ (decode cX9_copyLand 158 = .ok (.iload_n 3, 1)) ∧ (decode cX9_copyLand 159 = .ok (.iadd, 1)) ∧ (decode cX9_copyLand 160 = .ok (.aload_n 0, 1)) ∧ (decode cX9_copyLand 161 = .ok (.getfield 46, 3)) ∧ (decode cX9_copyLand 164 = .ok (.bipush 8, 2)) ∧ (decode cX9_copyLand 166 = .ok (.iload_n 1, 1)) ∧ (decode cX9_copyLand 167 = .ok (.imul, 1)) := by decide +kernel
theorem dX9_copyLand_157 : decode cX9_copyLand 157 = .ok (.imul, 1) := adX9_copyLand_157.1
theorem dX9_copyLand_158 : decode cX9_copyLand 158 = .ok (.iload_n 3, 1) := adX9_copyLand_157.2.1
theorem dX9_copyLand_159 : decode cX9_copyLand 159 = .ok (.iadd, 1) := adX9_copyLand_157.2.2.1
theorem dX9_copyLand_160 : decode cX9_copyLand 160 = .ok (.aload_n 0, 1) := adX9_copyLand_157.2.2.2.1
theorem dX9_copyLand_161 : decode cX9_copyLand 161 = .ok (.getfield 46, 3) := adX9_copyLand_157.2.2.2.2.1
theorem dX9_copyLand_164 : decode cX9_copyLand 164 = .ok (.bipush 8, 2) := adX9_copyLand_157.2.2.2.2.2.1
theorem dX9_copyLand_166 : decode cX9_copyLand 166 = .ok (.iload_n 1, 1) := adX9_copyLand_157.2.2.2.2.2.2.1
theorem dX9_copyLand_167 : decode cX9_copyLand 167 = .ok (.imul, 1) := adX9_copyLand_157.2.2.2.2.2.2.2
theorem adX9_copyLand_168 : (decode cX9_copyLand 168 = .ok (.iload_n 3, 1)) ∧ (decode cX9_copyLand 169 = .ok (.iadd, 1)) ∧ (decode cX9_copyLand 170 = .ok (.iaload, 1)) ∧ (decode cX9_copyLand 171 = .ok (.iastore, 1)) ∧ (decode cX9_copyLand 172 = .ok (.aload_n 0, 1)) ∧ (decode cX9_copyLand 173 = .ok (.getfield 49, 3)) ∧ (decode cX9_copyLand 176 = .ok (.bipush 8, 2)) ∧ (decode cX9_copyLand 178 = .ok (.iload_n 2, 1)) := by decide +kernel
theorem dX9_copyLand_168 : decode cX9_copyLand 168 = .ok (.iload_n 3, 1) := adX9_copyLand_168.1
theorem dX9_copyLand_169 : decode cX9_copyLand 169 = .ok (.iadd, 1) := adX9_copyLand_168.2.1
theorem dX9_copyLand_170 : decode cX9_copyLand 170 = .ok (.iaload, 1) := adX9_copyLand_168.2.2.1
theorem dX9_copyLand_171 : decode cX9_copyLand 171 = .ok (.iastore, 1) := adX9_copyLand_168.2.2.2.1
theorem dX9_copyLand_172 : decode cX9_copyLand 172 = .ok (.aload_n 0, 1) := adX9_copyLand_168.2.2.2.2.1
theorem dX9_copyLand_173 : decode cX9_copyLand 173 = .ok (.getfield 49, 3) := adX9_copyLand_168.2.2.2.2.2.1
theorem dX9_copyLand_176 : decode cX9_copyLand 176 = .ok (.bipush 8, 2) := adX9_copyLand_168.2.2.2.2.2.2.1
theorem dX9_copyLand_178 : decode cX9_copyLand 178 = .ok (.iload_n 2, 1) := adX9_copyLand_168.2.2.2.2.2.2.2
theorem adX9_copyLand_179 : (decode cX9_copyLand 179 = .ok (.imul, 1)) ∧ (decode cX9_copyLand 180 = .ok (.iload_n 3, 1)) ∧ (decode cX9_copyLand 181 = .ok (.iadd, 1)) ∧ (decode cX9_copyLand 182 = .ok (.aload_n 0, 1)) ∧ (decode cX9_copyLand 183 = .ok (.getfield 49, 3)) ∧ (decode cX9_copyLand 186 = .ok (.bipush 8, 2)) ∧ (decode cX9_copyLand 188 = .ok (.iload_n 1, 1)) ∧ (decode cX9_copyLand 189 = .ok (.imul, 1)) := by decide +kernel
theorem dX9_copyLand_179 : decode cX9_copyLand 179 = .ok (.imul, 1) := adX9_copyLand_179.1
theorem dX9_copyLand_180 : decode cX9_copyLand 180 = .ok (.iload_n 3, 1) := adX9_copyLand_179.2.1
theorem dX9_copyLand_181 : decode cX9_copyLand 181 = .ok (.iadd, 1) := adX9_copyLand_179.2.2.1
theorem dX9_copyLand_182 : decode cX9_copyLand 182 = .ok (.aload_n 0, 1) := adX9_copyLand_179.2.2.2.1
theorem dX9_copyLand_183 : decode cX9_copyLand 183 = .ok (.getfield 49, 3) := adX9_copyLand_179.2.2.2.2.1
theorem dX9_copyLand_186 : decode cX9_copyLand 186 = .ok (.bipush 8, 2) := adX9_copyLand_179.2.2.2.2.2.1
theorem dX9_copyLand_188 : decode cX9_copyLand 188 = .ok (.iload_n 1, 1) := adX9_copyLand_179.2.2.2.2.2.2.1
theorem dX9_copyLand_189 : decode cX9_copyLand 189 = .ok (.imul, 1) := adX9_copyLand_179.2.2.2.2.2.2.2
theorem adX9_copyLand_190 : (decode cX9_copyLand 190 = .ok (.iload_n 3, 1)) ∧ (decode cX9_copyLand 191 = .ok (.iadd, 1)) ∧ (decode cX9_copyLand 192 = .ok (.iaload, 1)) ∧ (decode cX9_copyLand 193 = .ok (.iastore, 1)) ∧ (decode cX9_copyLand 194 = .ok (.aload_n 0, 1)) ∧ (decode cX9_copyLand 195 = .ok (.getfield 52, 3)) ∧ (decode cX9_copyLand 198 = .ok (.bipush 8, 2)) ∧ (decode cX9_copyLand 200 = .ok (.iload_n 2, 1)) := by decide +kernel
theorem dX9_copyLand_190 : decode cX9_copyLand 190 = .ok (.iload_n 3, 1) := adX9_copyLand_190.1
theorem dX9_copyLand_191 : decode cX9_copyLand 191 = .ok (.iadd, 1) := adX9_copyLand_190.2.1
theorem dX9_copyLand_192 : decode cX9_copyLand 192 = .ok (.iaload, 1) := adX9_copyLand_190.2.2.1
theorem dX9_copyLand_193 : decode cX9_copyLand 193 = .ok (.iastore, 1) := adX9_copyLand_190.2.2.2.1
theorem dX9_copyLand_194 : decode cX9_copyLand 194 = .ok (.aload_n 0, 1) := adX9_copyLand_190.2.2.2.2.1
theorem dX9_copyLand_195 : decode cX9_copyLand 195 = .ok (.getfield 52, 3) := adX9_copyLand_190.2.2.2.2.2.1
theorem dX9_copyLand_198 : decode cX9_copyLand 198 = .ok (.bipush 8, 2) := adX9_copyLand_190.2.2.2.2.2.2.1
theorem dX9_copyLand_200 : decode cX9_copyLand 200 = .ok (.iload_n 2, 1) := adX9_copyLand_190.2.2.2.2.2.2.2
theorem adX9_copyLand_201 : (decode cX9_copyLand 201 = .ok (.imul, 1)) ∧ (decode cX9_copyLand 202 = .ok (.iload_n 3, 1)) ∧ (decode cX9_copyLand 203 = .ok (.iadd, 1)) ∧ (decode cX9_copyLand 204 = .ok (.aload_n 0, 1)) ∧ (decode cX9_copyLand 205 = .ok (.getfield 52, 3)) ∧ (decode cX9_copyLand 208 = .ok (.bipush 8, 2)) ∧ (decode cX9_copyLand 210 = .ok (.iload_n 1, 1)) ∧ (decode cX9_copyLand 211 = .ok (.imul, 1)) := by decide +kernel
theorem dX9_copyLand_201 : decode cX9_copyLand 201 = .ok (.imul, 1) := adX9_copyLand_201.1
theorem dX9_copyLand_202 : decode cX9_copyLand 202 = .ok (.iload_n 3, 1) := adX9_copyLand_201.2.1
theorem dX9_copyLand_203 : decode cX9_copyLand 203 = .ok (.iadd, 1) := adX9_copyLand_201.2.2.1
theorem dX9_copyLand_204 : decode cX9_copyLand 204 = .ok (.aload_n 0, 1) := adX9_copyLand_201.2.2.2.1
theorem dX9_copyLand_205 : decode cX9_copyLand 205 = .ok (.getfield 52, 3) := adX9_copyLand_201.2.2.2.2.1
theorem dX9_copyLand_208 : decode cX9_copyLand 208 = .ok (.bipush 8, 2) := adX9_copyLand_201.2.2.2.2.2.1
theorem dX9_copyLand_210 : decode cX9_copyLand 210 = .ok (.iload_n 1, 1) := adX9_copyLand_201.2.2.2.2.2.2.1
theorem dX9_copyLand_211 : decode cX9_copyLand 211 = .ok (.imul, 1) := adX9_copyLand_201.2.2.2.2.2.2.2
theorem adX9_copyLand_212 : (decode cX9_copyLand 212 = .ok (.iload_n 3, 1)) ∧ (decode cX9_copyLand 213 = .ok (.iadd, 1)) ∧ (decode cX9_copyLand 214 = .ok (.iaload, 1)) ∧ (decode cX9_copyLand 215 = .ok (.iastore, 1)) ∧ (decode cX9_copyLand 216 = .ok (.aload_n 0, 1)) ∧ (decode cX9_copyLand 217 = .ok (.getfield 55, 3)) ∧ (decode cX9_copyLand 220 = .ok (.bipush 8, 2)) ∧ (decode cX9_copyLand 222 = .ok (.iload_n 2, 1)) := by decide +kernel
theorem dX9_copyLand_212 : decode cX9_copyLand 212 = .ok (.iload_n 3, 1) := adX9_copyLand_212.1
theorem dX9_copyLand_213 : decode cX9_copyLand 213 = .ok (.iadd, 1) := adX9_copyLand_212.2.1
theorem dX9_copyLand_214 : decode cX9_copyLand 214 = .ok (.iaload, 1) := adX9_copyLand_212.2.2.1
theorem dX9_copyLand_215 : decode cX9_copyLand 215 = .ok (.iastore, 1) := adX9_copyLand_212.2.2.2.1
theorem dX9_copyLand_216 : decode cX9_copyLand 216 = .ok (.aload_n 0, 1) := adX9_copyLand_212.2.2.2.2.1
theorem dX9_copyLand_217 : decode cX9_copyLand 217 = .ok (.getfield 55, 3) := adX9_copyLand_212.2.2.2.2.2.1
theorem dX9_copyLand_220 : decode cX9_copyLand 220 = .ok (.bipush 8, 2) := adX9_copyLand_212.2.2.2.2.2.2.1
theorem dX9_copyLand_222 : decode cX9_copyLand 222 = .ok (.iload_n 2, 1) := adX9_copyLand_212.2.2.2.2.2.2.2
theorem adX9_copyLand_223 : (decode cX9_copyLand 223 = .ok (.imul, 1)) ∧ (decode cX9_copyLand 224 = .ok (.iload_n 3, 1)) ∧ (decode cX9_copyLand 225 = .ok (.iadd, 1)) ∧ (decode cX9_copyLand 226 = .ok (.aload_n 0, 1)) ∧ (decode cX9_copyLand 227 = .ok (.getfield 55, 3)) ∧ (decode cX9_copyLand 230 = .ok (.bipush 8, 2)) ∧ (decode cX9_copyLand 232 = .ok (.iload_n 1, 1)) ∧ (decode cX9_copyLand 233 = .ok (.imul, 1)) := by decide +kernel
theorem dX9_copyLand_223 : decode cX9_copyLand 223 = .ok (.imul, 1) := adX9_copyLand_223.1
theorem dX9_copyLand_224 : decode cX9_copyLand 224 = .ok (.iload_n 3, 1) := adX9_copyLand_223.2.1
theorem dX9_copyLand_225 : decode cX9_copyLand 225 = .ok (.iadd, 1) := adX9_copyLand_223.2.2.1
theorem dX9_copyLand_226 : decode cX9_copyLand 226 = .ok (.aload_n 0, 1) := adX9_copyLand_223.2.2.2.1
theorem dX9_copyLand_227 : decode cX9_copyLand 227 = .ok (.getfield 55, 3) := adX9_copyLand_223.2.2.2.2.1
theorem dX9_copyLand_230 : decode cX9_copyLand 230 = .ok (.bipush 8, 2) := adX9_copyLand_223.2.2.2.2.2.1
theorem dX9_copyLand_232 : decode cX9_copyLand 232 = .ok (.iload_n 1, 1) := adX9_copyLand_223.2.2.2.2.2.2.1
theorem dX9_copyLand_233 : decode cX9_copyLand 233 = .ok (.imul, 1) := adX9_copyLand_223.2.2.2.2.2.2.2
theorem adX9_copyLand_234 : (decode cX9_copyLand 234 = .ok (.iload_n 3, 1)) ∧ (decode cX9_copyLand 235 = .ok (.iadd, 1)) ∧ (decode cX9_copyLand 236 = .ok (.iaload, 1)) ∧ (decode cX9_copyLand 237 = .ok (.iastore, 1)) ∧ (decode cX9_copyLand 238 = .ok (.iinc 3 1, 3)) ∧ (decode cX9_copyLand 241 = .ok (.goto (-97), 3)) ∧ (decode cX9_copyLand 244 = .ok (.iconst 0, 1)) ∧ (decode cX9_copyLand 245 = .ok (.istore_n 3, 1)) := by decide +kernel
theorem dX9_copyLand_234 : decode cX9_copyLand 234 = .ok (.iload_n 3, 1) := adX9_copyLand_234.1
theorem dX9_copyLand_235 : decode cX9_copyLand 235 = .ok (.iadd, 1) := adX9_copyLand_234.2.1
theorem dX9_copyLand_236 : decode cX9_copyLand 236 = .ok (.iaload, 1) := adX9_copyLand_234.2.2.1
theorem dX9_copyLand_237 : decode cX9_copyLand 237 = .ok (.iastore, 1) := adX9_copyLand_234.2.2.2.1
theorem dX9_copyLand_238 : decode cX9_copyLand 238 = .ok (.iinc 3 1, 3) := adX9_copyLand_234.2.2.2.2.1
theorem dX9_copyLand_241 : decode cX9_copyLand 241 = .ok (.goto (-97), 3) := adX9_copyLand_234.2.2.2.2.2.1
theorem dX9_copyLand_244 : decode cX9_copyLand 244 = .ok (.iconst 0, 1) := adX9_copyLand_234.2.2.2.2.2.2.1
theorem dX9_copyLand_245 : decode cX9_copyLand 245 = .ok (.istore_n 3, 1) := adX9_copyLand_234.2.2.2.2.2.2.2
theorem adX9_copyLand_246 : (decode cX9_copyLand 246 = .ok (.iload_n 3, 1)) ∧ (decode cX9_copyLand 247 = .ok (.bipush 12, 2)) ∧ (decode cX9_copyLand 249 = .ok (.if_icmp .ge 31, 3)) ∧ (decode cX9_copyLand 252 = .ok (.aload_n 0, 1)) ∧ (decode cX9_copyLand 253 = .ok (.getfield 62, 3)) ∧ (decode cX9_copyLand 256 = .ok (.bipush 12, 2)) ∧ (decode cX9_copyLand 258 = .ok (.iload_n 2, 1)) ∧ (decode cX9_copyLand 259 = .ok (.imul, 1)) := by decide +kernel
theorem dX9_copyLand_246 : decode cX9_copyLand 246 = .ok (.iload_n 3, 1) := adX9_copyLand_246.1
theorem dX9_copyLand_247 : decode cX9_copyLand 247 = .ok (.bipush 12, 2) := adX9_copyLand_246.2.1
theorem dX9_copyLand_249 : decode cX9_copyLand 249 = .ok (.if_icmp .ge 31, 3) := adX9_copyLand_246.2.2.1
theorem dX9_copyLand_252 : decode cX9_copyLand 252 = .ok (.aload_n 0, 1) := adX9_copyLand_246.2.2.2.1
theorem dX9_copyLand_253 : decode cX9_copyLand 253 = .ok (.getfield 62, 3) := adX9_copyLand_246.2.2.2.2.1
theorem dX9_copyLand_256 : decode cX9_copyLand 256 = .ok (.bipush 12, 2) := adX9_copyLand_246.2.2.2.2.2.1
theorem dX9_copyLand_258 : decode cX9_copyLand 258 = .ok (.iload_n 2, 1) := adX9_copyLand_246.2.2.2.2.2.2.1
theorem dX9_copyLand_259 : decode cX9_copyLand 259 = .ok (.imul, 1) := adX9_copyLand_246.2.2.2.2.2.2.2
theorem adX9_copyLand_260 : (decode cX9_copyLand 260 = .ok (.iload_n 3, 1)) ∧ (decode cX9_copyLand 261 = .ok (.iadd, 1)) ∧ (decode cX9_copyLand 262 = .ok (.aload_n 0, 1)) ∧ (decode cX9_copyLand 263 = .ok (.getfield 62, 3)) ∧ (decode cX9_copyLand 266 = .ok (.bipush 12, 2)) ∧ (decode cX9_copyLand 268 = .ok (.iload_n 1, 1)) ∧ (decode cX9_copyLand 269 = .ok (.imul, 1)) ∧ (decode cX9_copyLand 270 = .ok (.iload_n 3, 1)) := by decide +kernel
theorem dX9_copyLand_260 : decode cX9_copyLand 260 = .ok (.iload_n 3, 1) := adX9_copyLand_260.1
theorem dX9_copyLand_261 : decode cX9_copyLand 261 = .ok (.iadd, 1) := adX9_copyLand_260.2.1
theorem dX9_copyLand_262 : decode cX9_copyLand 262 = .ok (.aload_n 0, 1) := adX9_copyLand_260.2.2.1
theorem dX9_copyLand_263 : decode cX9_copyLand 263 = .ok (.getfield 62, 3) := adX9_copyLand_260.2.2.2.1
theorem dX9_copyLand_266 : decode cX9_copyLand 266 = .ok (.bipush 12, 2) := adX9_copyLand_260.2.2.2.2.1
theorem dX9_copyLand_268 : decode cX9_copyLand 268 = .ok (.iload_n 1, 1) := adX9_copyLand_260.2.2.2.2.2.1
theorem dX9_copyLand_269 : decode cX9_copyLand 269 = .ok (.imul, 1) := adX9_copyLand_260.2.2.2.2.2.2.1
theorem dX9_copyLand_270 : decode cX9_copyLand 270 = .ok (.iload_n 3, 1) := adX9_copyLand_260.2.2.2.2.2.2.2
theorem adX9_copyLand_271 : (decode cX9_copyLand 271 = .ok (.iadd, 1)) ∧ (decode cX9_copyLand 272 = .ok (.iaload, 1)) ∧ (decode cX9_copyLand 273 = .ok (.iastore, 1)) ∧ (decode cX9_copyLand 274 = .ok (.iinc 3 1, 3)) ∧ (decode cX9_copyLand 277 = .ok (.goto (-31), 3)) ∧ (decode cX9_copyLand 280 = .ok (.iconst 0, 1)) ∧ (decode cX9_copyLand 281 = .ok (.istore_n 3, 1)) ∧ (decode cX9_copyLand 282 = .ok (.iload_n 3, 1)) := by decide +kernel
theorem dX9_copyLand_271 : decode cX9_copyLand 271 = .ok (.iadd, 1) := adX9_copyLand_271.1
theorem dX9_copyLand_272 : decode cX9_copyLand 272 = .ok (.iaload, 1) := adX9_copyLand_271.2.1
theorem dX9_copyLand_273 : decode cX9_copyLand 273 = .ok (.iastore, 1) := adX9_copyLand_271.2.2.1
theorem dX9_copyLand_274 : decode cX9_copyLand 274 = .ok (.iinc 3 1, 3) := adX9_copyLand_271.2.2.2.1
theorem dX9_copyLand_277 : decode cX9_copyLand 277 = .ok (.goto (-31), 3) := adX9_copyLand_271.2.2.2.2.1
theorem dX9_copyLand_280 : decode cX9_copyLand 280 = .ok (.iconst 0, 1) := adX9_copyLand_271.2.2.2.2.2.1
theorem dX9_copyLand_281 : decode cX9_copyLand 281 = .ok (.istore_n 3, 1) := adX9_copyLand_271.2.2.2.2.2.2.1
theorem dX9_copyLand_282 : decode cX9_copyLand 282 = .ok (.iload_n 3, 1) := adX9_copyLand_271.2.2.2.2.2.2.2
theorem adX9_copyLand_283 : (decode cX9_copyLand 283 = .ok (.aload_n 0, 1)) ∧ (decode cX9_copyLand 284 = .ok (.getfield 77, 3)) ∧ (decode cX9_copyLand 287 = .ok (.iload_n 1, 1)) ∧ (decode cX9_copyLand 288 = .ok (.iaload, 1)) ∧ (decode cX9_copyLand 289 = .ok (.if_icmp .ge 33, 3)) ∧ (decode cX9_copyLand 292 = .ok (.aload_n 0, 1)) ∧ (decode cX9_copyLand 293 = .ok (.getfield 80, 3)) ∧ (decode cX9_copyLand 296 = .ok (.sipush 320, 3)) := by decide +kernel
theorem dX9_copyLand_283 : decode cX9_copyLand 283 = .ok (.aload_n 0, 1) := adX9_copyLand_283.1
theorem dX9_copyLand_284 : decode cX9_copyLand 284 = .ok (.getfield 77, 3) := adX9_copyLand_283.2.1
theorem dX9_copyLand_287 : decode cX9_copyLand 287 = .ok (.iload_n 1, 1) := adX9_copyLand_283.2.2.1
theorem dX9_copyLand_288 : decode cX9_copyLand 288 = .ok (.iaload, 1) := adX9_copyLand_283.2.2.2.1
theorem dX9_copyLand_289 : decode cX9_copyLand 289 = .ok (.if_icmp .ge 33, 3) := adX9_copyLand_283.2.2.2.2.1
theorem dX9_copyLand_292 : decode cX9_copyLand 292 = .ok (.aload_n 0, 1) := adX9_copyLand_283.2.2.2.2.2.1
theorem dX9_copyLand_293 : decode cX9_copyLand 293 = .ok (.getfield 80, 3) := adX9_copyLand_283.2.2.2.2.2.2.1
theorem dX9_copyLand_296 : decode cX9_copyLand 296 = .ok (.sipush 320, 3) := adX9_copyLand_283.2.2.2.2.2.2.2
theorem adX9_copyLand_299 : (decode cX9_copyLand 299 = .ok (.iload_n 2, 1)) ∧ (decode cX9_copyLand 300 = .ok (.imul, 1)) ∧ (decode cX9_copyLand 301 = .ok (.iload_n 3, 1)) ∧ (decode cX9_copyLand 302 = .ok (.iadd, 1)) ∧ (decode cX9_copyLand 303 = .ok (.aload_n 0, 1)) ∧ (decode cX9_copyLand 304 = .ok (.getfield 80, 3)) ∧ (decode cX9_copyLand 307 = .ok (.sipush 320, 3)) ∧ (decode cX9_copyLand 310 = .ok (.iload_n 1, 1)) := by decide +kernel
theorem dX9_copyLand_299 : decode cX9_copyLand 299 = .ok (.iload_n 2, 1) := adX9_copyLand_299.1
theorem dX9_copyLand_300 : decode cX9_copyLand 300 = .ok (.imul, 1) := adX9_copyLand_299.2.1
theorem dX9_copyLand_301 : decode cX9_copyLand 301 = .ok (.iload_n 3, 1) := adX9_copyLand_299.2.2.1
theorem dX9_copyLand_302 : decode cX9_copyLand 302 = .ok (.iadd, 1) := adX9_copyLand_299.2.2.2.1
theorem dX9_copyLand_303 : decode cX9_copyLand 303 = .ok (.aload_n 0, 1) := adX9_copyLand_299.2.2.2.2.1
theorem dX9_copyLand_304 : decode cX9_copyLand 304 = .ok (.getfield 80, 3) := adX9_copyLand_299.2.2.2.2.2.1
theorem dX9_copyLand_307 : decode cX9_copyLand 307 = .ok (.sipush 320, 3) := adX9_copyLand_299.2.2.2.2.2.2.1
theorem dX9_copyLand_310 : decode cX9_copyLand 310 = .ok (.iload_n 1, 1) := adX9_copyLand_299.2.2.2.2.2.2.2
theorem adX9_copyLand_311 : (decode cX9_copyLand 311 = .ok (.imul, 1)) ∧ (decode cX9_copyLand 312 = .ok (.iload_n 3, 1)) ∧ (decode cX9_copyLand 313 = .ok (.iadd, 1)) ∧ (decode cX9_copyLand 314 = .ok (.iaload, 1)) ∧ (decode cX9_copyLand 315 = .ok (.iastore, 1)) ∧ (decode cX9_copyLand 316 = .ok (.iinc 3 1, 3)) ∧ (decode cX9_copyLand 319 = .ok (.goto (-37), 3)) ∧ (decode cX9_copyLand 322 = .ok (.return_, 1)) := by decide +kernel
theorem dX9_copyLand_311 : decode cX9_copyLand 311 = .ok (.imul, 1) := adX9_copyLand_311.1
theorem dX9_copyLand_312 : decode cX9_copyLand 312 = .ok (.iload_n 3, 1) := adX9_copyLand_311.2.1
theorem dX9_copyLand_313 : decode cX9_copyLand 313 = .ok (.iadd, 1) := adX9_copyLand_311.2.2.1
theorem dX9_copyLand_314 : decode cX9_copyLand 314 = .ok (.iaload, 1) := adX9_copyLand_311.2.2.2.1
theorem dX9_copyLand_315 : decode cX9_copyLand 315 = .ok (.iastore, 1) := adX9_copyLand_311.2.2.2.2.1
theorem dX9_copyLand_316 : decode cX9_copyLand 316 = .ok (.iinc 3 1, 3) := adX9_copyLand_311.2.2.2.2.2.1
theorem dX9_copyLand_319 : decode cX9_copyLand 319 = .ok (.goto (-37), 3) := adX9_copyLand_311.2.2.2.2.2.2.1
theorem dX9_copyLand_322 : decode cX9_copyLand 322 = .ok (.return_, 1) := adX9_copyLand_311.2.2.2.2.2.2.2
set_option maxRecDepth 20000 in
theorem ggX9_isState_X9_in : GoodIn wsX9_isState wsX9_in := goodIn_r _ [5] (by decide +kernel) (by decide +kernel)
set_option maxRecDepth 20000 in
theorem gX9_isState_X9_in : GoodIn wsX9_isState (va_wsS RX9 130 yX9_in wsX9_in) := goodIn_app (goodIn_of _ (by decide +kernel)) ggX9_isState_X9_in
theorem adX9_isState_0 : (decode cX9_isState 0 = .ok (.iload_n 1, 1)) ∧ (decode cX9_isState 1 = .ok (.i2l, 1)) ∧ (decode cX9_isState 2 = .ok (.lconst 0, 1)) ∧ (decode cX9_isState 3 = .ok (.aload_n 0, 1)) ∧ (decode cX9_isState 4 = .ok (.getfield 34, 3)) ∧ (decode cX9_isState 7 = .ok (.iconst 0, 1)) ∧ (decode cX9_isState 8 = .ok (.iaload, 1)) ∧ (decode cX9_isState 9 = .ok (.iconst 1, 1)) := by decide +kernel
theorem dX9_isState_0 : decode cX9_isState 0 = .ok (.iload_n 1, 1) := adX9_isState_0.1
theorem dX9_isState_1 : decode cX9_isState 1 = .ok (.i2l, 1) := adX9_isState_0.2.1
theorem dX9_isState_2 : decode cX9_isState 2 = .ok (.lconst 0, 1) := adX9_isState_0.2.2.1
theorem dX9_isState_3 : decode cX9_isState 3 = .ok (.aload_n 0, 1) := adX9_isState_0.2.2.2.1
theorem dX9_isState_4 : decode cX9_isState 4 = .ok (.getfield 34, 3) := adX9_isState_0.2.2.2.2.1
theorem dX9_isState_7 : decode cX9_isState 7 = .ok (.iconst 0, 1) := adX9_isState_0.2.2.2.2.2.1
theorem dX9_isState_8 : decode cX9_isState 8 = .ok (.iaload, 1) := adX9_isState_0.2.2.2.2.2.2.1
theorem dX9_isState_9 : decode cX9_isState 9 = .ok (.iconst 1, 1) := adX9_isState_0.2.2.2.2.2.2.2
theorem adX9_isState_10 : (decode cX9_isState 10 = .ok (.isub, 1)) ∧ (decode cX9_isState 11 = .ok (.i2l, 1)) ∧ (decode cX9_isState 12 = .ok (.invokestatic 130, 3)) ∧ (decode cX9_isState 15 = .ok (.ireturn, 1)) := by decide +kernel
theorem dX9_isState_10 : decode cX9_isState 10 = .ok (.isub, 1) := adX9_isState_10.1
theorem dX9_isState_11 : decode cX9_isState 11 = .ok (.i2l, 1) := adX9_isState_10.2.1
theorem dX9_isState_12 : decode cX9_isState 12 = .ok (.invokestatic 130, 3) := adX9_isState_10.2.2.1
theorem dX9_isState_15 : decode cX9_isState 15 = .ok (.ireturn, 1) := adX9_isState_10.2.2.2
set_option maxRecDepth 20000 in
theorem ggX9_isMonth_X9_in : GoodIn wsX9_isMonth wsX9_in := goodIn_r _ [5] (by decide +kernel) (by decide +kernel)
set_option maxRecDepth 20000 in
theorem gX9_isMonth_X9_in : GoodIn wsX9_isMonth (va_wsS RX9 130 yX9_in wsX9_in) := goodIn_app (goodIn_of _ (by decide +kernel)) ggX9_isMonth_X9_in
theorem adX9_isMonth_0 : (decode cX9_isMonth 0 = .ok (.iload_n 0, 1)) ∧ (decode cX9_isMonth 1 = .ok (.i2l, 1)) ∧ (decode cX9_isMonth 2 = .ok (.lconst 1, 1)) ∧ (decode cX9_isMonth 3 = .ok (.ldc2_w 222, 3)) ∧ (decode cX9_isMonth 6 = .ok (.invokestatic 130, 3)) ∧ (decode cX9_isMonth 9 = .ok (.ireturn, 1)) := by decide +kernel
theorem dX9_isMonth_0 : decode cX9_isMonth 0 = .ok (.iload_n 0, 1) := adX9_isMonth_0.1
theorem dX9_isMonth_1 : decode cX9_isMonth 1 = .ok (.i2l, 1) := adX9_isMonth_0.2.1
theorem dX9_isMonth_2 : decode cX9_isMonth 2 = .ok (.lconst 1, 1) := adX9_isMonth_0.2.2.1
theorem dX9_isMonth_3 : decode cX9_isMonth 3 = .ok (.ldc2_w 222, 3) := adX9_isMonth_0.2.2.2.1
theorem dX9_isMonth_6 : decode cX9_isMonth 6 = .ok (.invokestatic 130, 3) := adX9_isMonth_0.2.2.2.2.1
theorem dX9_isMonth_9 : decode cX9_isMonth 9 = .ok (.ireturn, 1) := adX9_isMonth_0.2.2.2.2.2
theorem adX9_oldOf_0 : (decode cX9_oldOf 0 = .ok (.bipush 12, 2)) ∧ (decode cX9_oldOf 2 = .ok (.aload_n 0, 1)) ∧ (decode cX9_oldOf 3 = .ok (.getfield 37, 3)) ∧ (decode cX9_oldOf 6 = .ok (.iload_n 1, 1)) ∧ (decode cX9_oldOf 7 = .ok (.iaload, 1)) ∧ (decode cX9_oldOf 8 = .ok (.imul, 1)) ∧ (decode cX9_oldOf 9 = .ok (.bipush 9, 2)) ∧ (decode cX9_oldOf 11 = .ok (.iadd, 1)) := by decide +kernel
theorem dX9_oldOf_0 : decode cX9_oldOf 0 = .ok (.bipush 12, 2) := adX9_oldOf_0.1
theorem dX9_oldOf_2 : decode cX9_oldOf 2 = .ok (.aload_n 0, 1) := adX9_oldOf_0.2.1
theorem dX9_oldOf_3 : decode cX9_oldOf 3 = .ok (.getfield 37, 3) := adX9_oldOf_0.2.2.1
theorem dX9_oldOf_6 : decode cX9_oldOf 6 = .ok (.iload_n 1, 1) := adX9_oldOf_0.2.2.2.1
theorem dX9_oldOf_7 : decode cX9_oldOf 7 = .ok (.iaload, 1) := adX9_oldOf_0.2.2.2.2.1
theorem dX9_oldOf_8 : decode cX9_oldOf 8 = .ok (.imul, 1) := adX9_oldOf_0.2.2.2.2.2.1
theorem dX9_oldOf_9 : decode cX9_oldOf 9 = .ok (.bipush 9, 2) := adX9_oldOf_0.2.2.2.2.2.2.1
theorem dX9_oldOf_11 : decode cX9_oldOf 11 = .ok (.iadd, 1) := adX9_oldOf_0.2.2.2.2.2.2.2
theorem adX9_oldOf_12 : (decode cX9_oldOf 12 = .ok (.iload_n 2, 1)) ∧ (decode cX9_oldOf 13 = .ok (.isub, 1)) ∧ (decode cX9_oldOf 14 = .ok (.ireturn, 1)) := by decide +kernel
theorem dX9_oldOf_12 : decode cX9_oldOf 12 = .ok (.iload_n 2, 1) := adX9_oldOf_12.1
theorem dX9_oldOf_13 : decode cX9_oldOf 13 = .ok (.isub, 1) := adX9_oldOf_12.2.1
theorem dX9_oldOf_14 : decode cX9_oldOf 14 = .ok (.ireturn, 1) := adX9_oldOf_12.2.2
set_option maxRecDepth 20000 in
theorem ggX9_forcedOf_X9_oldOf : GoodIn wsX9_forcedOf wsX9_oldOf := goodIn_r _ [6, 7, 8, 9, 10, 11, 12, 13, 14, 15, 16, 17, 18, 19, 20, 21, 22, 23, 24, 25, 26, 27, 28, 29, 30, 31, 32, 33, 34, 35, 36, 37, 38, 39, 40, 41, 42, 43, 44, 45, 46, 47, 48, 49, 50, 51, 52, 53, 54, 55, 56, 57, 58, 59, 60, 61, 62, 63, 64, 65, 66, 67] (by decide +kernel) (by decide +kernel)
set_option maxRecDepth 20000 in
theorem gX9_forcedOf_X9_oldOf : GoodIn wsX9_forcedOf (wsV RX9 293 RX9 yX9_oldOf wsX9_oldOf) := goodIn_app (goodIn_of _ (by decide +kernel)) ggX9_forcedOf_X9_oldOf
theorem adX9_forcedOf_0 : (decode cX9_forcedOf 0 = .ok (.bipush 12, 2)) ∧ (decode cX9_forcedOf 2 = .ok (.aload_n 0, 1)) ∧ (decode cX9_forcedOf 3 = .ok (.getfield 40, 3)) ∧ (decode cX9_forcedOf 6 = .ok (.iload_n 1, 1)) ∧ (decode cX9_forcedOf 7 = .ok (.iaload, 1)) ∧ (decode cX9_forcedOf 8 = .ok (.imul, 1)) ∧ (decode cX9_forcedOf 9 = .ok (.aload_n 0, 1)) ∧ (decode cX9_forcedOf 10 = .ok (.iload_n 1, 1)) := by decide +kernel
theorem dX9_forcedOf_0 : decode cX9_forcedOf 0 = .ok (.bipush 12, 2) := adX9_forcedOf_0.1
theorem dX9_forcedOf_2 : decode cX9_forcedOf 2 = .ok (.aload_n 0, 1) := adX9_forcedOf_0.2.1
theorem dX9_forcedOf_3 : decode cX9_forcedOf 3 = .ok (.getfield 40, 3) := adX9_forcedOf_0.2.2.1
theorem dX9_forcedOf_6 : decode cX9_forcedOf 6 = .ok (.iload_n 1, 1) := adX9_forcedOf_0.2.2.2.1
theorem dX9_forcedOf_7 : decode cX9_forcedOf 7 = .ok (.iaload, 1) := adX9_forcedOf_0.2.2.2.2.1
theorem dX9_forcedOf_8 : decode cX9_forcedOf 8 = .ok (.imul, 1) := adX9_forcedOf_0.2.2.2.2.2.1
theorem dX9_forcedOf_9 : decode cX9_forcedOf 9 = .ok (.aload_n 0, 1) := adX9_forcedOf_0.2.2.2.2.2.2.1
theorem dX9_forcedOf_10 : decode cX9_forcedOf 10 = .ok (.iload_n 1, 1) := adX9_forcedOf_0.2.2.2.2.2.2.2
theorem adX9_forcedOf_11 : (decode cX9_forcedOf 11 = .ok (.iload_n 2, 1)) ∧ (decode cX9_forcedOf 12 = .ok (.invokevirtual 293, 3)) ∧ (decode cX9_forcedOf 15 = .ok (.isub, 1)) ∧ (decode cX9_forcedOf 16 = .ok (.ireturn, 1)) := by decide +kernel
theorem dX9_forcedOf_11 : decode cX9_forcedOf 11 = .ok (.iload_n 2, 1) := adX9_forcedOf_11.1
theorem dX9_forcedOf_12 : decode cX9_forcedOf 12 = .ok (.invokevirtual 293, 3) := adX9_forcedOf_11.2.1
theorem dX9_forcedOf_15 : decode cX9_forcedOf 15 = .ok (.isub, 1) := adX9_forcedOf_11.2.2.1
theorem dX9_forcedOf_16 : decode cX9_forcedOf 16 = .ok (.ireturn, 1) := adX9_forcedOf_11.2.2.2
set_option maxRecDepth 20000 in
theorem ggX9_forced_X9_isState : GoodIn wsX9_forced wsX9_isState := goodIn_r _ [6, 7, 8, 9, 5, 10, 25, 26, 27, 28, 29, 30, 31, 32, 33, 34, 35, 36, 37, 38, 39, 40, 41, 42, 43, 44, 45, 46, 47, 48, 49, 50, 51, 52, 53, 54, 55, 56, 57, 58, 59, 60, 61, 62, 63, 64, 65, 66, 67, 68, 69, 70, 71, 72, 73, 74, 75, 76, 77, 78, 79, 80, 81, 82, 83, 84] (by decide +kernel) (by decide +kernel)
set_option maxRecDepth 20000 in
theorem gX9_forced_X9_isState : GoodIn wsX9_forced (wsV RX9 296 RX9 yX9_isState wsX9_isState) := goodIn_app (goodIn_of _ (by decide +kernel)) ggX9_forced_X9_isState
set_option maxRecDepth 20000 in
theorem ggX9_forced_X9_isMonth : GoodIn wsX9_forced wsX9_isMonth := goodIn_r _ [13, 14, 8, 9, 5, 10] (by decide +kernel) (by decide +kernel)
set_option maxRecDepth 20000 in
theorem gX9_forced_X9_isMonth : GoodIn wsX9_forced (va_wsS RX9 299 yX9_isMonth wsX9_isMonth) := goodIn_app (goodIn_of _ (by decide +kernel)) ggX9_forced_X9_isMonth
set_option maxRecDepth 20000 in
theorem ggX9_forced_X9_forcedOf : GoodIn wsX9_forced wsX9_forcedOf := goodIn_r _ [18, 19, 20, 21, 22, 5, 23, 24, 25, 26, 27, 28, 29, 30, 31, 32, 33, 34, 35, 36, 37, 38, 39, 40, 41, 42, 43, 44, 45, 46, 47, 48, 49, 50, 51, 52, 53, 54, 55, 56, 57, 58, 59, 60, 61, 62, 63, 64, 65, 66, 67, 68, 69, 70, 71, 72, 73, 74, 75, 76, 77, 78, 79, 80, 81, 82, 83, 84] (by decide +kernel) (by decide +kernel)
set_option maxRecDepth 20000 in
theorem gX9_forced_X9_forcedOf : GoodIn wsX9_forced (wsV RX9 302 RX9 yX9_forcedOf wsX9_forcedOf) := goodIn_app (goodIn_of _ (by decide +kernel)) ggX9_forced_X9_forcedOf
theorem adX9_forced_0 : (decode cX9_forced 0 = .ok (.aload_n 0, 1)) ∧ (decode cX9_forced 1 = .ok (.iconst 0, 1)) ∧ (decode cX9_forced 2 = .ok (.putfield 125, 3)) ∧ (decode cX9_forced 5 = .ok (.aload_n 0, 1)) ∧ (decode cX9_forced 6 = .ok (.iload_n 1, 1)) ∧ (decode cX9_forced 7 = .ok (.invokevirtual 296, 3)) ∧ (decode cX9_forced 10 = .ok (.ifCond .eq 19, 3)) ∧ (decode cX9_forced 13 = .ok (.iload_n 2, 1)) := by decide +kernel
theorem dX9_forced_0 : decode cX9_forced 0 = .ok (.aload_n 0, 1) := adX9_forced_0.1
theorem dX9_forced_1 : decode cX9_forced 1 = .ok (.iconst 0, 1) := adX9_forced_0.2.1
theorem dX9_forced_2 : decode cX9_forced 2 = .ok (.putfield 125, 3) := adX9_forced_0.2.2.1
theorem dX9_forced_5 : decode cX9_forced 5 = .ok (.aload_n 0, 1) := adX9_forced_0.2.2.2.1
theorem dX9_forced_6 : decode cX9_forced 6 = .ok (.iload_n 1, 1) := adX9_forced_0.2.2.2.2.1
theorem dX9_forced_7 : decode cX9_forced 7 = .ok (.invokevirtual 296, 3) := adX9_forced_0.2.2.2.2.2.1
theorem dX9_forced_10 : decode cX9_forced 10 = .ok (.ifCond .eq 19, 3) := adX9_forced_0.2.2.2.2.2.2.1
theorem dX9_forced_13 : decode cX9_forced 13 = .ok (.iload_n 2, 1) := adX9_forced_0.2.2.2.2.2.2.2
theorem adX9_forced_14 : (decode cX9_forced 14 = .ok (.invokestatic 299, 3)) ∧ (decode cX9_forced 17 = .ok (.ifCond .eq 12, 3)) ∧ (decode cX9_forced 20 = .ok (.aload_n 0, 1)) ∧ (decode cX9_forced 21 = .ok (.iload_n 1, 1)) ∧ (decode cX9_forced 22 = .ok (.iload_n 2, 1)) ∧ (decode cX9_forced 23 = .ok (.invokevirtual 302, 3)) ∧ (decode cX9_forced 26 = .ok (.goto 5, 3)) ∧ (decode cX9_forced 29 = .ok (.bipush (-2), 2)) := by decide +kernel
theorem dX9_forced_14 : decode cX9_forced 14 = .ok (.invokestatic 299, 3) := adX9_forced_14.1
theorem dX9_forced_17 : decode cX9_forced 17 = .ok (.ifCond .eq 12, 3) := adX9_forced_14.2.1
theorem dX9_forced_20 : decode cX9_forced 20 = .ok (.aload_n 0, 1) := adX9_forced_14.2.2.1
theorem dX9_forced_21 : decode cX9_forced 21 = .ok (.iload_n 1, 1) := adX9_forced_14.2.2.2.1
theorem dX9_forced_22 : decode cX9_forced 22 = .ok (.iload_n 2, 1) := adX9_forced_14.2.2.2.2.1
theorem dX9_forced_23 : decode cX9_forced 23 = .ok (.invokevirtual 302, 3) := adX9_forced_14.2.2.2.2.2.1
theorem dX9_forced_26 : decode cX9_forced 26 = .ok (.goto 5, 3) := adX9_forced_14.2.2.2.2.2.2.1
theorem dX9_forced_29 : decode cX9_forced 29 = .ok (.bipush (-2), 2) := adX9_forced_14.2.2.2.2.2.2.2
theorem dX9_forced_31 : decode cX9_forced 31 = .ok (.ireturn, 1) := by decide +kernel
set_option maxRecDepth 20000 in
theorem ggX9_old_X9_isState : GoodIn wsX9_old wsX9_isState := goodIn_r _ [6, 7, 8, 9, 5, 10, 20, 21, 22, 23, 24, 25, 26, 27, 28, 29, 30, 31, 32, 33, 34, 35, 36, 37, 38, 39, 40, 41, 42, 43, 44, 45, 46, 47, 48, 49, 50, 51, 52, 53, 54, 55, 56, 57, 58, 59, 60, 61, 62, 63, 64, 65, 66, 67, 68, 69, 70, 71, 72, 73, 74, 75, 76, 77, 78, 79] (by decide +kernel) (by decide +kernel)
set_option maxRecDepth 20000 in
theorem gX9_old_X9_isState : GoodIn wsX9_old (wsV RX9 296 RX9 yX9_isState wsX9_isState) := goodIn_app (goodIn_of _ (by decide +kernel)) ggX9_old_X9_isState
set_option maxRecDepth 20000 in
theorem ggX9_old_X9_isMonth : GoodIn wsX9_old wsX9_isMonth := goodIn_r _ [13, 14, 8, 9, 5, 10] (by decide +kernel) (by decide +kernel)
set_option maxRecDepth 20000 in
theorem gX9_old_X9_isMonth : GoodIn wsX9_old (va_wsS RX9 299 yX9_isMonth wsX9_isMonth) := goodIn_app (goodIn_of _ (by decide +kernel)) ggX9_old_X9_isMonth
set_option maxRecDepth 20000 in
theorem ggX9_old_X9_oldOf : GoodIn wsX9_old wsX9_oldOf := goodIn_r _ [18, 19, 20, 21, 22, 23, 24, 25, 26, 27, 28, 29, 30, 31, 32, 33, 34, 35, 36, 37, 38, 39, 40, 41, 42, 43, 44, 45, 46, 47, 48, 49, 50, 51, 52, 53, 54, 55, 56, 57, 58, 59, 60, 61, 62, 63, 64, 65, 66, 67, 68, 69, 70, 71, 72, 73, 74, 75, 76, 77, 78, 79] (by decide +kernel) (by decide +kernel)
set_option maxRecDepth 20000 in
theorem gX9_old_X9_oldOf : GoodIn wsX9_old (wsV RX9 293 RX9 yX9_oldOf wsX9_oldOf) := goodIn_app (goodIn_of _ (by decide +kernel)) ggX9_old_X9_oldOf
theorem adX9_old_0 : (decode cX9_old 0 = .ok (.aload_n 0, 1)) ∧ (decode cX9_old 1 = .ok (.iconst 0, 1)) ∧ (decode cX9_old 2 = .ok (.putfield 125, 3)) ∧ (decode cX9_old 5 = .ok (.aload_n 0, 1)) ∧ (decode cX9_old 6 = .ok (.iload_n 1, 1)) ∧ (decode cX9_old 7 = .ok (.invokevirtual 296, 3)) ∧ (decode cX9_old 10 = .ok (.ifCond .eq 19, 3)) ∧ (decode cX9_old 13 = .ok (.iload_n 2, 1)) := by decide +kernel
theorem dX9_old_0 : decode cX9_old 0 = .ok (.aload_n 0, 1) := adX9_old_0.1
theorem dX9_old_1 : decode cX9_old 1 = .ok (.iconst 0, 1) := adX9_old_0.2.1
theorem dX9_old_2 : decode cX9_old 2 = .ok (.putfield 125, 3) := adX9_old_0.2.2.1
theorem dX9_old_5 : decode cX9_old 5 = .ok (.aload_n 0, 1) := adX9_old_0.2.2.2.1
theorem dX9_old_6 : decode cX9_old 6 = .ok (.iload_n 1, 1) := adX9_old_0.2.2.2.2.1
theorem dX9_old_7 : decode cX9_old 7 = .ok (.invokevirtual 296, 3) := adX9_old_0.2.2.2.2.2.1
theorem dX9_old_10 : decode cX9_old 10 = .ok (.ifCond .eq 19, 3) := adX9_old_0.2.2.2.2.2.2.1
theorem dX9_old_13 : decode cX9_old 13 = .ok (.iload_n 2, 1) := adX9_old_0.2.2.2.2.2.2.2
theorem adX9_old_14 : (decode cX9_old 14 = .ok (.invokestatic 299, 3)) ∧ (decode cX9_old 17 = .ok (.ifCond .eq 12, 3)) ∧ (decode cX9_old 20 = .ok (.aload_n 0, 1)) ∧ (decode cX9_old 21 = .ok (.iload_n 1, 1)) ∧ (decode cX9_old 22 = .ok (.iload_n 2, 1)) ∧ (decode cX9_old 23 = .ok (.invokevirtual 293, 3)) ∧ (decode cX9_old 26 = .ok (.goto 5, 3)) ∧ (decode cX9_old 29 = .ok (.bipush (-2), 2)) := by decide +kernel
theorem dX9_old_14 : decode cX9_old 14 = .ok (.invokestatic 299, 3) := adX9_old_14.1
theorem dX9_old_17 : decode cX9_old 17 = .ok (.ifCond .eq 12, 3) := adX9_old_14.2.1
theorem dX9_old_20 : decode cX9_old 20 = .ok (.aload_n 0, 1) := adX9_old_14.2.2.1
theorem dX9_old_21 : decode cX9_old 21 = .ok (.iload_n 1, 1) := adX9_old_14.2.2.2.1
theorem dX9_old_22 : decode cX9_old 22 = .ok (.iload_n 2, 1) := adX9_old_14.2.2.2.2.1
theorem dX9_old_23 : decode cX9_old 23 = .ok (.invokevirtual 293, 3) := adX9_old_14.2.2.2.2.2.1
theorem dX9_old_26 : decode cX9_old 26 = .ok (.goto 5, 3) := adX9_old_14.2.2.2.2.2.2.1
theorem dX9_old_29 : decode cX9_old 29 = .ok (.bipush (-2), 2) := adX9_old_14.2.2.2.2.2.2.2
theorem dX9_old_31 : decode cX9_old 31 = .ok (.ireturn, 1) := by decide +kernel
set_option maxRecDepth 20000 in
theorem ggX9_wageOf_X9_oldOf : GoodIn wsX9_wageOf wsX9_oldOf := goodIn_r _ [11, 12, 22, 23, 24, 25, 26, 27, 28, 29, 30, 31, 32, 33, 34, 35, 36, 37, 38, 39, 40, 41, 42, 43, 44, 45, 46, 47, 48, 49, 50, 51, 52, 53, 54, 55, 56, 57, 58, 59, 60, 61, 62, 63, 64, 65, 66, 67, 68, 69, 70, 71, 72, 73, 74, 75, 76, 77, 78, 79, 80, 81] (by decide +kernel) (by decide +kernel)
set_option maxRecDepth 20000 in
theorem gX9_wageOf_X9_oldOf : GoodIn wsX9_wageOf (wsV RX9 293 RX9 yX9_oldOf wsX9_oldOf) := goodIn_app (goodIn_of _ (by decide +kernel)) ggX9_wageOf_X9_oldOf
set_option maxRecDepth 20000 in
theorem ggX9_wageOf_X9_forcedOf : GoodIn wsX9_wageOf wsX9_forcedOf := goodIn_r _ [16, 17, 7, 8, 9, 10, 11, 12, 22, 23, 24, 25, 26, 27, 28, 29, 30, 31, 32, 33, 34, 35, 36, 37, 38, 39, 40, 41, 42, 43, 44, 45, 46, 47, 48, 49, 50, 51, 52, 53, 54, 55, 56, 57, 58, 59, 60, 61, 62, 63, 64, 65, 66, 67, 68, 69, 70, 71, 72, 73, 74, 75, 76, 77, 78, 79, 80, 81] (by decide +kernel) (by decide +kernel)
set_option maxRecDepth 20000 in
theorem gX9_wageOf_X9_forcedOf : GoodIn wsX9_wageOf (wsV RX9 302 RX9 yX9_forcedOf wsX9_forcedOf) := goodIn_app (goodIn_of _ (by decide +kernel)) ggX9_wageOf_X9_forcedOf
set_option maxRecDepth 20000 in
theorem ggX9_wageOf_X9_held : GoodIn wsX9_wageOf wsX9_held := goodIn_r _ [20, 21] (by decide +kernel) (by decide +kernel)
set_option maxRecDepth 20000 in
theorem gX9_wageOf_X9_held : GoodIn wsX9_wageOf (va_wsS RX9 309 yX9_held wsX9_held) := goodIn_app (goodIn_of _ (by decide +kernel)) ggX9_wageOf_X9_held
theorem adX9_wageOf_0 : (decode cX9_wageOf 0 = .ok (.aload_n 0, 1)) ∧ (decode cX9_wageOf 1 = .ok (.getfield 65, 3)) ∧ (decode cX9_wageOf 4 = .ok (.iconst 0, 1)) ∧ (decode cX9_wageOf 5 = .ok (.baload, 1)) ∧ (decode cX9_wageOf 6 = .ok (.ifCond .ne 5, 3)) ∧ (decode cX9_wageOf 9 = .ok (.iconst 0, 1)) ∧ (decode cX9_wageOf 10 = .ok (.ireturn, 1)) ∧ (decode cX9_wageOf 11 = .ok (.iconst 0, 1)) := by decide +kernel
theorem dX9_wageOf_0 : decode cX9_wageOf 0 = .ok (.aload_n 0, 1) := adX9_wageOf_0.1
theorem dX9_wageOf_1 : decode cX9_wageOf 1 = .ok (.getfield 65, 3) := adX9_wageOf_0.2.1
theorem dX9_wageOf_4 : decode cX9_wageOf 4 = .ok (.iconst 0, 1) := adX9_wageOf_0.2.2.1
theorem dX9_wageOf_5 : decode cX9_wageOf 5 = .ok (.baload, 1) := adX9_wageOf_0.2.2.2.1
theorem dX9_wageOf_6 : decode cX9_wageOf 6 = .ok (.ifCond .ne 5, 3) := adX9_wageOf_0.2.2.2.2.1
theorem dX9_wageOf_9 : decode cX9_wageOf 9 = .ok (.iconst 0, 1) := adX9_wageOf_0.2.2.2.2.2.1
theorem dX9_wageOf_10 : decode cX9_wageOf 10 = .ok (.ireturn, 1) := adX9_wageOf_0.2.2.2.2.2.2.1
theorem dX9_wageOf_11 : decode cX9_wageOf 11 = .ok (.iconst 0, 1) := adX9_wageOf_0.2.2.2.2.2.2.2
theorem adX9_wageOf_12 : (decode cX9_wageOf 12 = .ok (.istore 5, 2)) ∧ (decode cX9_wageOf 14 = .ok (.iconst 0, 1)) ∧ (decode cX9_wageOf 15 = .ok (.istore 6, 2)) ∧ (decode cX9_wageOf 17 = .ok (.iload 6, 2)) ∧ (decode cX9_wageOf 19 = .ok (.aload_n 0, 1)) ∧ (decode cX9_wageOf 20 = .ok (.getfield 77, 3)) ∧ (decode cX9_wageOf 23 = .ok (.iconst 0, 1)) ∧ (decode cX9_wageOf 24 = .ok (.iaload, 1)) := by decide +kernel
theorem dX9_wageOf_12 : decode cX9_wageOf 12 = .ok (.istore 5, 2) := adX9_wageOf_12.1
theorem dX9_wageOf_14 : decode cX9_wageOf 14 = .ok (.iconst 0, 1) := adX9_wageOf_12.2.1
theorem dX9_wageOf_15 : decode cX9_wageOf 15 = .ok (.istore 6, 2) := adX9_wageOf_12.2.2.1
theorem dX9_wageOf_17 : decode cX9_wageOf 17 = .ok (.iload 6, 2) := adX9_wageOf_12.2.2.2.1
theorem dX9_wageOf_19 : decode cX9_wageOf 19 = .ok (.aload_n 0, 1) := adX9_wageOf_12.2.2.2.2.1
theorem dX9_wageOf_20 : decode cX9_wageOf 20 = .ok (.getfield 77, 3) := adX9_wageOf_12.2.2.2.2.2.1
theorem dX9_wageOf_23 : decode cX9_wageOf 23 = .ok (.iconst 0, 1) := adX9_wageOf_12.2.2.2.2.2.2.1
theorem dX9_wageOf_24 : decode cX9_wageOf 24 = .ok (.iaload, 1) := adX9_wageOf_12.2.2.2.2.2.2.2
theorem adX9_wageOf_25 : (decode cX9_wageOf 25 = .ok (.if_icmp .ge 239, 3)) ∧ (decode cX9_wageOf 28 = .ok (.aload_n 0, 1)) ∧ (decode cX9_wageOf 29 = .ok (.getfield 80, 3)) ∧ (decode cX9_wageOf 32 = .ok (.iload 6, 2)) ∧ (decode cX9_wageOf 34 = .ok (.iaload, 1)) ∧ (decode cX9_wageOf 35 = .ok (.istore 7, 2)) ∧ (decode cX9_wageOf 37 = .ok (.iload 7, 2)) ∧ (decode cX9_wageOf 39 = .ok (.ifCond .lt 96, 3)) := by decide +kernel
theorem dX9_wageOf_25 : decode cX9_wageOf 25 = .ok (.if_icmp .ge 239, 3) := adX9_wageOf_25.1
theorem dX9_wageOf_28 : decode cX9_wageOf 28 = .ok (.aload_n 0, 1) := adX9_wageOf_25.2.1
theorem dX9_wageOf_29 : decode cX9_wageOf 29 = .ok (.getfield 80, 3) := adX9_wageOf_25.2.2.1
theorem dX9_wageOf_32 : decode cX9_wageOf 32 = .ok (.iload 6, 2) := adX9_wageOf_25.2.2.2.1
theorem dX9_wageOf_34 : decode cX9_wageOf 34 = .ok (.iaload, 1) := adX9_wageOf_25.2.2.2.2.1
theorem dX9_wageOf_35 : decode cX9_wageOf 35 = .ok (.istore 7, 2) := adX9_wageOf_25.2.2.2.2.2.1
theorem dX9_wageOf_37 : decode cX9_wageOf 37 = .ok (.iload 7, 2) := adX9_wageOf_25.2.2.2.2.2.2.1
theorem dX9_wageOf_39 : decode cX9_wageOf 39 = .ok (.ifCond .lt 96, 3) := adX9_wageOf_25.2.2.2.2.2.2.2
theorem adX9_wageOf_42 : (decode cX9_wageOf 42 = .ok (.aload_n 0, 1)) ∧ (decode cX9_wageOf 43 = .ok (.getfield 86, 3)) ∧ (decode cX9_wageOf 46 = .ok (.iload 5, 2)) ∧ (decode cX9_wageOf 48 = .ok (.iload 7, 2)) ∧ (decode cX9_wageOf 50 = .ok (.sipush 1000, 3)) ∧ (decode cX9_wageOf 53 = .ok (.if_icmp .ge 9, 3)) ∧ (decode cX9_wageOf 56 = .ok (.iload 7, 2)) ∧ (decode cX9_wageOf 58 = .ok (.i2l, 1)) := by decide +kernel
theorem dX9_wageOf_42 : decode cX9_wageOf 42 = .ok (.aload_n 0, 1) := adX9_wageOf_42.1
theorem dX9_wageOf_43 : decode cX9_wageOf 43 = .ok (.getfield 86, 3) := adX9_wageOf_42.2.1
theorem dX9_wageOf_46 : decode cX9_wageOf 46 = .ok (.iload 5, 2) := adX9_wageOf_42.2.2.1
theorem dX9_wageOf_48 : decode cX9_wageOf 48 = .ok (.iload 7, 2) := adX9_wageOf_42.2.2.2.1
theorem dX9_wageOf_50 : decode cX9_wageOf 50 = .ok (.sipush 1000, 3) := adX9_wageOf_42.2.2.2.2.1
theorem dX9_wageOf_53 : decode cX9_wageOf 53 = .ok (.if_icmp .ge 9, 3) := adX9_wageOf_42.2.2.2.2.2.1
theorem dX9_wageOf_56 : decode cX9_wageOf 56 = .ok (.iload 7, 2) := adX9_wageOf_42.2.2.2.2.2.2.1
theorem dX9_wageOf_58 : decode cX9_wageOf 58 = .ok (.i2l, 1) := adX9_wageOf_42.2.2.2.2.2.2.2
theorem adX9_wageOf_59 : (decode cX9_wageOf 59 = .ok (.goto 69, 3)) ∧ (decode cX9_wageOf 62 = .ok (.iload 7, 2)) ∧ (decode cX9_wageOf 64 = .ok (.sipush 1000, 3)) ∧ (decode cX9_wageOf 67 = .ok (.if_icmp .ne 8, 3)) ∧ (decode cX9_wageOf 70 = .ok (.iload_n 1, 1)) ∧ (decode cX9_wageOf 71 = .ok (.i2l, 1)) ∧ (decode cX9_wageOf 72 = .ok (.goto 56, 3)) ∧ (decode cX9_wageOf 75 = .ok (.iload 7, 2)) := by decide +kernel
theorem dX9_wageOf_59 : decode cX9_wageOf 59 = .ok (.goto 69, 3) := adX9_wageOf_59.1
theorem dX9_wageOf_62 : decode cX9_wageOf 62 = .ok (.iload 7, 2) := adX9_wageOf_59.2.1
theorem dX9_wageOf_64 : decode cX9_wageOf 64 = .ok (.sipush 1000, 3) := adX9_wageOf_59.2.2.1
theorem dX9_wageOf_67 : decode cX9_wageOf 67 = .ok (.if_icmp .ne 8, 3) := adX9_wageOf_59.2.2.2.1
theorem dX9_wageOf_70 : decode cX9_wageOf 70 = .ok (.iload_n 1, 1) := adX9_wageOf_59.2.2.2.2.1
theorem dX9_wageOf_71 : decode cX9_wageOf 71 = .ok (.i2l, 1) := adX9_wageOf_59.2.2.2.2.2.1
theorem dX9_wageOf_72 : decode cX9_wageOf 72 = .ok (.goto 56, 3) := adX9_wageOf_59.2.2.2.2.2.2.1
theorem dX9_wageOf_75 : decode cX9_wageOf 75 = .ok (.iload 7, 2) := adX9_wageOf_59.2.2.2.2.2.2.2
theorem adX9_wageOf_77 : (decode cX9_wageOf 77 = .ok (.sipush 1001, 3)) ∧ (decode cX9_wageOf 80 = .ok (.if_icmp .ne 8, 3)) ∧ (decode cX9_wageOf 83 = .ok (.iload_n 2, 1)) ∧ (decode cX9_wageOf 84 = .ok (.i2l, 1)) ∧ (decode cX9_wageOf 85 = .ok (.goto 43, 3)) ∧ (decode cX9_wageOf 88 = .ok (.iload 7, 2)) ∧ (decode cX9_wageOf 90 = .ok (.sipush 1002, 3)) ∧ (decode cX9_wageOf 93 = .ok (.if_icmp .ne 8, 3)) := by decide +kernel
theorem dX9_wageOf_77 : decode cX9_wageOf 77 = .ok (.sipush 1001, 3) := adX9_wageOf_77.1
theorem dX9_wageOf_80 : decode cX9_wageOf 80 = .ok (.if_icmp .ne 8, 3) := adX9_wageOf_77.2.1
theorem dX9_wageOf_83 : decode cX9_wageOf 83 = .ok (.iload_n 2, 1) := adX9_wageOf_77.2.2.1
theorem dX9_wageOf_84 : decode cX9_wageOf 84 = .ok (.i2l, 1) := adX9_wageOf_77.2.2.2.1
theorem dX9_wageOf_85 : decode cX9_wageOf 85 = .ok (.goto 43, 3) := adX9_wageOf_77.2.2.2.2.1
theorem dX9_wageOf_88 : decode cX9_wageOf 88 = .ok (.iload 7, 2) := adX9_wageOf_77.2.2.2.2.2.1
theorem dX9_wageOf_90 : decode cX9_wageOf 90 = .ok (.sipush 1002, 3) := adX9_wageOf_77.2.2.2.2.2.2.1
theorem dX9_wageOf_93 : decode cX9_wageOf 93 = .ok (.if_icmp .ne 8, 3) := adX9_wageOf_77.2.2.2.2.2.2.2
theorem adX9_wageOf_96 : (decode cX9_wageOf 96 = .ok (.iload_n 3, 1)) ∧ (decode cX9_wageOf 97 = .ok (.i2l, 1)) ∧ (decode cX9_wageOf 98 = .ok (.goto 30, 3)) ∧ (decode cX9_wageOf 101 = .ok (.iload 7, 2)) ∧ (decode cX9_wageOf 103 = .ok (.sipush 1003, 3)) ∧ (decode cX9_wageOf 106 = .ok (.if_icmp .ne 14, 3)) ∧ (decode cX9_wageOf 109 = .ok (.aload_n 0, 1)) ∧ (decode cX9_wageOf 110 = .ok (.iload 4, 2)) := by decide +kernel
theorem dX9_wageOf_96 : decode cX9_wageOf 96 = .ok (.iload_n 3, 1) := adX9_wageOf_96.1
theorem dX9_wageOf_97 : decode cX9_wageOf 97 = .ok (.i2l, 1) := adX9_wageOf_96.2.1
theorem dX9_wageOf_98 : decode cX9_wageOf 98 = .ok (.goto 30, 3) := adX9_wageOf_96.2.2.1
theorem dX9_wageOf_101 : decode cX9_wageOf 101 = .ok (.iload 7, 2) := adX9_wageOf_96.2.2.2.1
theorem dX9_wageOf_103 : decode cX9_wageOf 103 = .ok (.sipush 1003, 3) := adX9_wageOf_96.2.2.2.2.1
theorem dX9_wageOf_106 : decode cX9_wageOf 106 = .ok (.if_icmp .ne 14, 3) := adX9_wageOf_96.2.2.2.2.2.1
theorem dX9_wageOf_109 : decode cX9_wageOf 109 = .ok (.aload_n 0, 1) := adX9_wageOf_96.2.2.2.2.2.2.1
theorem dX9_wageOf_110 : decode cX9_wageOf 110 = .ok (.iload 4, 2) := adX9_wageOf_96.2.2.2.2.2.2.2
theorem adX9_wageOf_112 : (decode cX9_wageOf 112 = .ok (.iload_n 3, 1)) ∧ (decode cX9_wageOf 113 = .ok (.invokevirtual 293, 3)) ∧ (decode cX9_wageOf 116 = .ok (.i2l, 1)) ∧ (decode cX9_wageOf 117 = .ok (.goto 11, 3)) ∧ (decode cX9_wageOf 120 = .ok (.aload_n 0, 1)) ∧ (decode cX9_wageOf 121 = .ok (.iload 4, 2)) ∧ (decode cX9_wageOf 123 = .ok (.iload_n 3, 1)) ∧ (decode cX9_wageOf 124 = .ok (.invokevirtual 302, 3)) := by decide +kernel
theorem dX9_wageOf_112 : decode cX9_wageOf 112 = .ok (.iload_n 3, 1) := adX9_wageOf_112.1
theorem dX9_wageOf_113 : decode cX9_wageOf 113 = .ok (.invokevirtual 293, 3) := adX9_wageOf_112.2.1
theorem dX9_wageOf_116 : decode cX9_wageOf 116 = .ok (.i2l, 1) := adX9_wageOf_112.2.2.1
theorem dX9_wageOf_117 : decode cX9_wageOf 117 = .ok (.goto 11, 3) := adX9_wageOf_112.2.2.2.1
theorem dX9_wageOf_120 : decode cX9_wageOf 120 = .ok (.aload_n 0, 1) := adX9_wageOf_112.2.2.2.2.1
theorem dX9_wageOf_121 : decode cX9_wageOf 121 = .ok (.iload 4, 2) := adX9_wageOf_112.2.2.2.2.2.1
theorem dX9_wageOf_123 : decode cX9_wageOf 123 = .ok (.iload_n 3, 1) := adX9_wageOf_112.2.2.2.2.2.2.1
theorem dX9_wageOf_124 : decode cX9_wageOf 124 = .ok (.invokevirtual 302, 3) := adX9_wageOf_112.2.2.2.2.2.2.2
theorem adX9_wageOf_127 : (decode cX9_wageOf 127 = .ok (.i2l, 1)) ∧ (decode cX9_wageOf 128 = .ok (.lastore, 1)) ∧ (decode cX9_wageOf 129 = .ok (.iinc 5 1, 3)) ∧ (decode cX9_wageOf 132 = .ok (.goto 126, 3)) ∧ (decode cX9_wageOf 135 = .ok (.aload_n 0, 1)) ∧ (decode cX9_wageOf 136 = .ok (.getfield 86, 3)) ∧ (decode cX9_wageOf 139 = .ok (.iload 5, 2)) ∧ (decode cX9_wageOf 141 = .ok (.iconst 1, 1)) := by decide +kernel
theorem dX9_wageOf_127 : decode cX9_wageOf 127 = .ok (.i2l, 1) := adX9_wageOf_127.1
theorem dX9_wageOf_128 : decode cX9_wageOf 128 = .ok (.lastore, 1) := adX9_wageOf_127.2.1
theorem dX9_wageOf_129 : decode cX9_wageOf 129 = .ok (.iinc 5 1, 3) := adX9_wageOf_127.2.2.1
theorem dX9_wageOf_132 : decode cX9_wageOf 132 = .ok (.goto 126, 3) := adX9_wageOf_127.2.2.2.1
theorem dX9_wageOf_135 : decode cX9_wageOf 135 = .ok (.aload_n 0, 1) := adX9_wageOf_127.2.2.2.2.1
theorem dX9_wageOf_136 : decode cX9_wageOf 136 = .ok (.getfield 86, 3) := adX9_wageOf_127.2.2.2.2.2.1
theorem dX9_wageOf_139 : decode cX9_wageOf 139 = .ok (.iload 5, 2) := adX9_wageOf_127.2.2.2.2.2.2.1
theorem dX9_wageOf_141 : decode cX9_wageOf 141 = .ok (.iconst 1, 1) := adX9_wageOf_127.2.2.2.2.2.2.2
theorem adX9_wageOf_142 : (decode cX9_wageOf 142 = .ok (.isub, 1)) ∧ (decode cX9_wageOf 143 = .ok (.laload, 1)) ∧ (decode cX9_wageOf 144 = .ok (.lstore 8, 2)) ∧ (decode cX9_wageOf 146 = .ok (.aload_n 0, 1)) ∧ (decode cX9_wageOf 147 = .ok (.getfield 86, 3)) ∧ (decode cX9_wageOf 150 = .ok (.iload 5, 2)) ∧ (decode cX9_wageOf 152 = .ok (.iconst 2, 1)) ∧ (decode cX9_wageOf 153 = .ok (.isub, 1)) := by decide +kernel
theorem dX9_wageOf_142 : decode cX9_wageOf 142 = .ok (.isub, 1) := adX9_wageOf_142.1
theorem dX9_wageOf_143 : decode cX9_wageOf 143 = .ok (.laload, 1) := adX9_wageOf_142.2.1
theorem dX9_wageOf_144 : decode cX9_wageOf 144 = .ok (.lstore 8, 2) := adX9_wageOf_142.2.2.1
theorem dX9_wageOf_146 : decode cX9_wageOf 146 = .ok (.aload_n 0, 1) := adX9_wageOf_142.2.2.2.1
theorem dX9_wageOf_147 : decode cX9_wageOf 147 = .ok (.getfield 86, 3) := adX9_wageOf_142.2.2.2.2.1
theorem dX9_wageOf_150 : decode cX9_wageOf 150 = .ok (.iload 5, 2) := adX9_wageOf_142.2.2.2.2.2.1
theorem dX9_wageOf_152 : decode cX9_wageOf 152 = .ok (.iconst 2, 1) := adX9_wageOf_142.2.2.2.2.2.2.1
theorem dX9_wageOf_153 : decode cX9_wageOf 153 = .ok (.isub, 1) := adX9_wageOf_142.2.2.2.2.2.2.2
theorem adX9_wageOf_154 : (decode cX9_wageOf 154 = .ok (.laload, 1)) ∧ (decode cX9_wageOf 155 = .ok (.lstore 10, 2)) ∧ (decode cX9_wageOf 157 = .ok (.iinc 5 (-1), 3)) ∧ (decode cX9_wageOf 160 = .ok (.iload 7, 2)) ∧ (decode cX9_wageOf 162 = .ok (.bipush (-4), 2)) ∧ (decode cX9_wageOf 164 = .ok (.if_icmp .ne 12, 3)) ∧ (decode cX9_wageOf 167 = .ok (.lload 8, 2)) ∧ (decode cX9_wageOf 169 = .ok (.lconst 0, 1)) := by decide +kernel
theorem dX9_wageOf_154 : decode cX9_wageOf 154 = .ok (.laload, 1) := adX9_wageOf_154.1
theorem dX9_wageOf_155 : decode cX9_wageOf 155 = .ok (.lstore 10, 2) := adX9_wageOf_154.2.1
theorem dX9_wageOf_157 : decode cX9_wageOf 157 = .ok (.iinc 5 (-1), 3) := adX9_wageOf_154.2.2.1
theorem dX9_wageOf_160 : decode cX9_wageOf 160 = .ok (.iload 7, 2) := adX9_wageOf_154.2.2.2.1
theorem dX9_wageOf_162 : decode cX9_wageOf 162 = .ok (.bipush (-4), 2) := adX9_wageOf_154.2.2.2.2.1
theorem dX9_wageOf_164 : decode cX9_wageOf 164 = .ok (.if_icmp .ne 12, 3) := adX9_wageOf_154.2.2.2.2.2.1
theorem dX9_wageOf_167 : decode cX9_wageOf 167 = .ok (.lload 8, 2) := adX9_wageOf_154.2.2.2.2.2.2.1
theorem dX9_wageOf_169 : decode cX9_wageOf 169 = .ok (.lconst 0, 1) := adX9_wageOf_154.2.2.2.2.2.2.2
theorem adX9_wageOf_170 : (decode cX9_wageOf 170 = .ok (.lcmp, 1)) ∧ (decode cX9_wageOf 171 = .ok (.ifCond .ne 5, 3)) ∧ (decode cX9_wageOf 174 = .ok (.iconst 0, 1)) ∧ (decode cX9_wageOf 175 = .ok (.ireturn, 1)) ∧ (decode cX9_wageOf 176 = .ok (.iload 7, 2)) ∧ (decode cX9_wageOf 178 = .ok (.iconst (-1), 1)) ∧ (decode cX9_wageOf 179 = .ok (.if_icmp .ne 11, 3)) ∧ (decode cX9_wageOf 182 = .ok (.lload 10, 2)) := by decide +kernel
theorem dX9_wageOf_170 : decode cX9_wageOf 170 = .ok (.lcmp, 1) := adX9_wageOf_170.1
theorem dX9_wageOf_171 : decode cX9_wageOf 171 = .ok (.ifCond .ne 5, 3) := adX9_wageOf_170.2.1
theorem dX9_wageOf_174 : decode cX9_wageOf 174 = .ok (.iconst 0, 1) := adX9_wageOf_170.2.2.1
theorem dX9_wageOf_175 : decode cX9_wageOf 175 = .ok (.ireturn, 1) := adX9_wageOf_170.2.2.2.1
theorem dX9_wageOf_176 : decode cX9_wageOf 176 = .ok (.iload 7, 2) := adX9_wageOf_170.2.2.2.2.1
theorem dX9_wageOf_178 : decode cX9_wageOf 178 = .ok (.iconst (-1), 1) := adX9_wageOf_170.2.2.2.2.2.1
theorem dX9_wageOf_179 : decode cX9_wageOf 179 = .ok (.if_icmp .ne 11, 3) := adX9_wageOf_170.2.2.2.2.2.2.1
theorem dX9_wageOf_182 : decode cX9_wageOf 182 = .ok (.lload 10, 2) := adX9_wageOf_170.2.2.2.2.2.2.2
theorem adX9_wageOf_184 : (decode cX9_wageOf 184 = .ok (.lload 8, 2)) ∧ (decode cX9_wageOf 186 = .ok (.ladd, 1)) ∧ (decode cX9_wageOf 187 = .ok (.goto 38, 3)) ∧ (decode cX9_wageOf 190 = .ok (.iload 7, 2)) ∧ (decode cX9_wageOf 192 = .ok (.bipush (-2), 2)) ∧ (decode cX9_wageOf 194 = .ok (.if_icmp .ne 11, 3)) ∧ (decode cX9_wageOf 197 = .ok (.lload 10, 2)) ∧ (decode cX9_wageOf 199 = .ok (.lload 8, 2)) := by decide +kernel
theorem dX9_wageOf_184 : decode cX9_wageOf 184 = .ok (.lload 8, 2) := adX9_wageOf_184.1
theorem dX9_wageOf_186 : decode cX9_wageOf 186 = .ok (.ladd, 1) := adX9_wageOf_184.2.1
theorem dX9_wageOf_187 : decode cX9_wageOf 187 = .ok (.goto 38, 3) := adX9_wageOf_184.2.2.1
theorem dX9_wageOf_190 : decode cX9_wageOf 190 = .ok (.iload 7, 2) := adX9_wageOf_184.2.2.2.1
theorem dX9_wageOf_192 : decode cX9_wageOf 192 = .ok (.bipush (-2), 2) := adX9_wageOf_184.2.2.2.2.1
theorem dX9_wageOf_194 : decode cX9_wageOf 194 = .ok (.if_icmp .ne 11, 3) := adX9_wageOf_184.2.2.2.2.2.1
theorem dX9_wageOf_197 : decode cX9_wageOf 197 = .ok (.lload 10, 2) := adX9_wageOf_184.2.2.2.2.2.2.1
theorem dX9_wageOf_199 : decode cX9_wageOf 199 = .ok (.lload 8, 2) := adX9_wageOf_184.2.2.2.2.2.2.2
theorem adX9_wageOf_201 : (decode cX9_wageOf 201 = .ok (.lsub, 1)) ∧ (decode cX9_wageOf 202 = .ok (.goto 23, 3)) ∧ (decode cX9_wageOf 205 = .ok (.iload 7, 2)) ∧ (decode cX9_wageOf 207 = .ok (.bipush (-3), 2)) ∧ (decode cX9_wageOf 209 = .ok (.if_icmp .ne 11, 3)) ∧ (decode cX9_wageOf 212 = .ok (.lload 10, 2)) ∧ (decode cX9_wageOf 214 = .ok (.lload 8, 2)) ∧ (decode cX9_wageOf 216 = .ok (.lmul, 1)) := by decide +kernel
theorem dX9_wageOf_201 : decode cX9_wageOf 201 = .ok (.lsub, 1) := adX9_wageOf_201.1
theorem dX9_wageOf_202 : decode cX9_wageOf 202 = .ok (.goto 23, 3) := adX9_wageOf_201.2.1
theorem dX9_wageOf_205 : decode cX9_wageOf 205 = .ok (.iload 7, 2) := adX9_wageOf_201.2.2.1
theorem dX9_wageOf_207 : decode cX9_wageOf 207 = .ok (.bipush (-3), 2) := adX9_wageOf_201.2.2.2.1
theorem dX9_wageOf_209 : decode cX9_wageOf 209 = .ok (.if_icmp .ne 11, 3) := adX9_wageOf_201.2.2.2.2.1
theorem dX9_wageOf_212 : decode cX9_wageOf 212 = .ok (.lload 10, 2) := adX9_wageOf_201.2.2.2.2.2.1
theorem dX9_wageOf_214 : decode cX9_wageOf 214 = .ok (.lload 8, 2) := adX9_wageOf_201.2.2.2.2.2.2.1
theorem dX9_wageOf_216 : decode cX9_wageOf 216 = .ok (.lmul, 1) := adX9_wageOf_201.2.2.2.2.2.2.2
theorem adX9_wageOf_217 : (decode cX9_wageOf 217 = .ok (.goto 8, 3)) ∧ (decode cX9_wageOf 220 = .ok (.lload 10, 2)) ∧ (decode cX9_wageOf 222 = .ok (.lload 8, 2)) ∧ (decode cX9_wageOf 224 = .ok (.ldiv, 1)) ∧ (decode cX9_wageOf 225 = .ok (.lstore 12, 2)) ∧ (decode cX9_wageOf 227 = .ok (.lload 12, 2)) ∧ (decode cX9_wageOf 229 = .ok (.ldc2_w 305, 3)) ∧ (decode cX9_wageOf 232 = .ok (.lcmp, 1)) := by decide +kernel
theorem dX9_wageOf_217 : decode cX9_wageOf 217 = .ok (.goto 8, 3) := adX9_wageOf_217.1
theorem dX9_wageOf_220 : decode cX9_wageOf 220 = .ok (.lload 10, 2) := adX9_wageOf_217.2.1
theorem dX9_wageOf_222 : decode cX9_wageOf 222 = .ok (.lload 8, 2) := adX9_wageOf_217.2.2.1
theorem dX9_wageOf_224 : decode cX9_wageOf 224 = .ok (.ldiv, 1) := adX9_wageOf_217.2.2.2.1
theorem dX9_wageOf_225 : decode cX9_wageOf 225 = .ok (.lstore 12, 2) := adX9_wageOf_217.2.2.2.2.1
theorem dX9_wageOf_227 : decode cX9_wageOf 227 = .ok (.lload 12, 2) := adX9_wageOf_217.2.2.2.2.2.1
theorem dX9_wageOf_229 : decode cX9_wageOf 229 = .ok (.ldc2_w 305, 3) := adX9_wageOf_217.2.2.2.2.2.2.1
theorem dX9_wageOf_232 : decode cX9_wageOf 232 = .ok (.lcmp, 1) := adX9_wageOf_217.2.2.2.2.2.2.2
theorem adX9_wageOf_233 : (decode cX9_wageOf 233 = .ok (.ifCond .gt 12, 3)) ∧ (decode cX9_wageOf 236 = .ok (.lload 12, 2)) ∧ (decode cX9_wageOf 238 = .ok (.ldc2_w 307, 3)) ∧ (decode cX9_wageOf 241 = .ok (.lcmp, 1)) ∧ (decode cX9_wageOf 242 = .ok (.ifCond .ge 5, 3)) ∧ (decode cX9_wageOf 245 = .ok (.iconst 0, 1)) ∧ (decode cX9_wageOf 246 = .ok (.ireturn, 1)) ∧ (decode cX9_wageOf 247 = .ok (.aload_n 0, 1)) := by decide +kernel
theorem dX9_wageOf_233 : decode cX9_wageOf 233 = .ok (.ifCond .gt 12, 3) := adX9_wageOf_233.1
theorem dX9_wageOf_236 : decode cX9_wageOf 236 = .ok (.lload 12, 2) := adX9_wageOf_233.2.1
theorem dX9_wageOf_238 : decode cX9_wageOf 238 = .ok (.ldc2_w 307, 3) := adX9_wageOf_233.2.2.1
theorem dX9_wageOf_241 : decode cX9_wageOf 241 = .ok (.lcmp, 1) := adX9_wageOf_233.2.2.2.1
theorem dX9_wageOf_242 : decode cX9_wageOf 242 = .ok (.ifCond .ge 5, 3) := adX9_wageOf_233.2.2.2.2.1
theorem dX9_wageOf_245 : decode cX9_wageOf 245 = .ok (.iconst 0, 1) := adX9_wageOf_233.2.2.2.2.2.1
theorem dX9_wageOf_246 : decode cX9_wageOf 246 = .ok (.ireturn, 1) := adX9_wageOf_233.2.2.2.2.2.2.1
theorem dX9_wageOf_247 : decode cX9_wageOf 247 = .ok (.aload_n 0, 1) := adX9_wageOf_233.2.2.2.2.2.2.2
theorem adX9_wageOf_248 : (decode cX9_wageOf 248 = .ok (.getfield 86, 3)) ∧ (decode cX9_wageOf 251 = .ok (.iload 5, 2)) ∧ (decode cX9_wageOf 253 = .ok (.iconst 1, 1)) ∧ (decode cX9_wageOf 254 = .ok (.isub, 1)) ∧ (decode cX9_wageOf 255 = .ok (.lload 12, 2)) ∧ (decode cX9_wageOf 257 = .ok (.lastore, 1)) ∧ (decode cX9_wageOf 258 = .ok (.iinc 6 1, 3)) ∧ (decode cX9_wageOf 261 = .ok (.goto (-244), 3)) := by decide +kernel
theorem dX9_wageOf_248 : decode cX9_wageOf 248 = .ok (.getfield 86, 3) := adX9_wageOf_248.1
theorem dX9_wageOf_251 : decode cX9_wageOf 251 = .ok (.iload 5, 2) := adX9_wageOf_248.2.1
theorem dX9_wageOf_253 : decode cX9_wageOf 253 = .ok (.iconst 1, 1) := adX9_wageOf_248.2.2.1
theorem dX9_wageOf_254 : decode cX9_wageOf 254 = .ok (.isub, 1) := adX9_wageOf_248.2.2.2.1
theorem dX9_wageOf_255 : decode cX9_wageOf 255 = .ok (.lload 12, 2) := adX9_wageOf_248.2.2.2.2.1
theorem dX9_wageOf_257 : decode cX9_wageOf 257 = .ok (.lastore, 1) := adX9_wageOf_248.2.2.2.2.2.1
theorem dX9_wageOf_258 : decode cX9_wageOf 258 = .ok (.iinc 6 1, 3) := adX9_wageOf_248.2.2.2.2.2.2.1
theorem dX9_wageOf_261 : decode cX9_wageOf 261 = .ok (.goto (-244), 3) := adX9_wageOf_248.2.2.2.2.2.2.2
theorem adX9_wageOf_264 : (decode cX9_wageOf 264 = .ok (.aload_n 0, 1)) ∧ (decode cX9_wageOf 265 = .ok (.getfield 86, 3)) ∧ (decode cX9_wageOf 268 = .ok (.iconst 0, 1)) ∧ (decode cX9_wageOf 269 = .ok (.laload, 1)) ∧ (decode cX9_wageOf 270 = .ok (.invokestatic 309, 3)) ∧ (decode cX9_wageOf 273 = .ok (.ireturn, 1)) := by decide +kernel
theorem dX9_wageOf_264 : decode cX9_wageOf 264 = .ok (.aload_n 0, 1) := adX9_wageOf_264.1
theorem dX9_wageOf_265 : decode cX9_wageOf 265 = .ok (.getfield 86, 3) := adX9_wageOf_264.2.1
theorem dX9_wageOf_268 : decode cX9_wageOf 268 = .ok (.iconst 0, 1) := adX9_wageOf_264.2.2.1
theorem dX9_wageOf_269 : decode cX9_wageOf 269 = .ok (.laload, 1) := adX9_wageOf_264.2.2.2.1
theorem dX9_wageOf_270 : decode cX9_wageOf 270 = .ok (.invokestatic 309, 3) := adX9_wageOf_264.2.2.2.2.1
theorem dX9_wageOf_273 : decode cX9_wageOf 273 = .ok (.ireturn, 1) := adX9_wageOf_264.2.2.2.2.2
theorem adX9_held_0 : (decode cX9_held 0 = .ok (.lload_n 0, 1)) ∧ (decode cX9_held 1 = .ok (.lconst 0, 1)) ∧ (decode cX9_held 2 = .ok (.lcmp, 1)) ∧ (decode cX9_held 3 = .ok (.ifCond .ge 7, 3)) ∧ (decode cX9_held 6 = .ok (.lconst 0, 1)) ∧ (decode cX9_held 7 = .ok (.goto 18, 3)) ∧ (decode cX9_held 10 = .ok (.lload_n 0, 1)) ∧ (decode cX9_held 11 = .ok (.ldc2_w 313, 3)) := by decide +kernel
theorem dX9_held_0 : decode cX9_held 0 = .ok (.lload_n 0, 1) := adX9_held_0.1
theorem dX9_held_1 : decode cX9_held 1 = .ok (.lconst 0, 1) := adX9_held_0.2.1
theorem dX9_held_2 : decode cX9_held 2 = .ok (.lcmp, 1) := adX9_held_0.2.2.1
theorem dX9_held_3 : decode cX9_held 3 = .ok (.ifCond .ge 7, 3) := adX9_held_0.2.2.2.1
theorem dX9_held_6 : decode cX9_held 6 = .ok (.lconst 0, 1) := adX9_held_0.2.2.2.2.1
theorem dX9_held_7 : decode cX9_held 7 = .ok (.goto 18, 3) := adX9_held_0.2.2.2.2.2.1
theorem dX9_held_10 : decode cX9_held 10 = .ok (.lload_n 0, 1) := adX9_held_0.2.2.2.2.2.2.1
theorem dX9_held_11 : decode cX9_held 11 = .ok (.ldc2_w 313, 3) := adX9_held_0.2.2.2.2.2.2.2
theorem adX9_held_14 : (decode cX9_held 14 = .ok (.lcmp, 1)) ∧ (decode cX9_held 15 = .ok (.ifCond .le 9, 3)) ∧ (decode cX9_held 18 = .ok (.ldc2_w 313, 3)) ∧ (decode cX9_held 21 = .ok (.goto 4, 3)) ∧ (decode cX9_held 24 = .ok (.lload_n 0, 1)) ∧ (decode cX9_held 25 = .ok (.l2i, 1)) ∧ (decode cX9_held 26 = .ok (.ireturn, 1)) := by decide +kernel
theorem dX9_held_14 : decode cX9_held 14 = .ok (.lcmp, 1) := adX9_held_14.1
theorem dX9_held_15 : decode cX9_held 15 = .ok (.ifCond .le 9, 3) := adX9_held_14.2.1
theorem dX9_held_18 : decode cX9_held 18 = .ok (.ldc2_w 313, 3) := adX9_held_14.2.2.1
theorem dX9_held_21 : decode cX9_held 21 = .ok (.goto 4, 3) := adX9_held_14.2.2.2.1
theorem dX9_held_24 : decode cX9_held 24 = .ok (.lload_n 0, 1) := adX9_held_14.2.2.2.2.1
theorem dX9_held_25 : decode cX9_held 25 = .ok (.l2i, 1) := adX9_held_14.2.2.2.2.2.1
theorem dX9_held_26 : decode cX9_held 26 = .ok (.ireturn, 1) := adX9_held_14.2.2.2.2.2.2
set_option maxRecDepth 20000 in
theorem ggX9_wage_X9_in : GoodIn wsX9_wage wsX9_in := goodIn_r _ [7] (by decide +kernel) (by decide +kernel)
set_option maxRecDepth 20000 in
theorem gX9_wage_X9_in : GoodIn wsX9_wage (va_wsS RX9 130 yX9_in wsX9_in) := goodIn_app (goodIn_of _ (by decide +kernel)) ggX9_wage_X9_in
set_option maxRecDepth 20000 in
theorem ggX9_wage_X9_isMonth : GoodIn wsX9_wage wsX9_isMonth := goodIn_r _ [10, 11, 4, 5, 6, 7] (by decide +kernel) (by decide +kernel)
set_option maxRecDepth 20000 in
theorem gX9_wage_X9_isMonth : GoodIn wsX9_wage (va_wsS RX9 299 yX9_isMonth wsX9_isMonth) := goodIn_app (goodIn_of _ (by decide +kernel)) ggX9_wage_X9_isMonth
set_option maxRecDepth 20000 in
theorem ggX9_wage_X9_isState : GoodIn wsX9_wage wsX9_isState := goodIn_r _ [15, 16, 4, 5, 6, 7, 41, 42, 43, 44, 45, 46, 47, 48, 49, 50, 51, 52, 53, 54, 55, 56, 57, 58, 59, 60, 61, 62, 63, 64, 65, 66, 67, 68, 69, 70, 71, 72, 73, 74, 75, 76, 77, 78, 79, 80, 81, 82, 83, 84, 85, 86, 87, 88, 89, 90, 91, 92, 93, 94, 95, 96, 97, 98, 99, 100] (by decide +kernel) (by decide +kernel)
set_option maxRecDepth 20000 in
theorem gX9_wage_X9_isState : GoodIn wsX9_wage (wsV RX9 296 RX9 yX9_isState wsX9_isState) := goodIn_app (goodIn_of _ (by decide +kernel)) ggX9_wage_X9_isState
set_option maxRecDepth 20000 in
theorem ggX9_wage_X9_wageOf : GoodIn wsX9_wage wsX9_wageOf := goodIn_r _ [20, 21, 22, 23, 24, 25, 26, 27, 28, 29, 6, 30, 31, 32, 33, 34, 35, 36, 37, 38, 39, 40, 41, 42, 43, 44, 45, 46, 47, 48, 49, 50, 51, 52, 53, 54, 55, 56, 57, 58, 59, 60, 61, 62, 63, 64, 65, 66, 67, 68, 69, 70, 71, 72, 73, 74, 75, 76, 77, 78, 79, 80, 81, 82, 83, 84, 85, 86, 87, 88, 89, 90, 91, 92, 93, 94, 95, 96, 97, 98, 99, 100] (by decide +kernel) (by decide +kernel)
set_option maxRecDepth 20000 in
theorem gX9_wage_X9_wageOf : GoodIn wsX9_wage (wsV RX9 319 RX9 yX9_wageOf wsX9_wageOf) := goodIn_app (goodIn_of _ (by decide +kernel)) ggX9_wage_X9_wageOf
theorem adX9_wage_0 : (decode cX9_wage 0 = .ok (.aload_n 0, 1)) ∧ (decode cX9_wage 1 = .ok (.iconst 0, 1)) ∧ (decode cX9_wage 2 = .ok (.putfield 125, 3)) ∧ (decode cX9_wage 5 = .ok (.iload_n 1, 1)) ∧ (decode cX9_wage 6 = .ok (.i2l, 1)) ∧ (decode cX9_wage 7 = .ok (.lconst 0, 1)) ∧ (decode cX9_wage 8 = .ok (.ldc2_w 315, 3)) ∧ (decode cX9_wage 11 = .ok (.invokestatic 130, 3)) := by decide +kernel
theorem dX9_wage_0 : decode cX9_wage 0 = .ok (.aload_n 0, 1) := adX9_wage_0.1
theorem dX9_wage_1 : decode cX9_wage 1 = .ok (.iconst 0, 1) := adX9_wage_0.2.1
theorem dX9_wage_2 : decode cX9_wage 2 = .ok (.putfield 125, 3) := adX9_wage_0.2.2.1
theorem dX9_wage_5 : decode cX9_wage 5 = .ok (.iload_n 1, 1) := adX9_wage_0.2.2.2.1
theorem dX9_wage_6 : decode cX9_wage 6 = .ok (.i2l, 1) := adX9_wage_0.2.2.2.2.1
theorem dX9_wage_7 : decode cX9_wage 7 = .ok (.lconst 0, 1) := adX9_wage_0.2.2.2.2.2.1
theorem dX9_wage_8 : decode cX9_wage 8 = .ok (.ldc2_w 315, 3) := adX9_wage_0.2.2.2.2.2.2.1
theorem dX9_wage_11 : decode cX9_wage 11 = .ok (.invokestatic 130, 3) := adX9_wage_0.2.2.2.2.2.2.2
theorem adX9_wage_14 : (decode cX9_wage 14 = .ok (.ifCond .eq 31, 3)) ∧ (decode cX9_wage 17 = .ok (.iload_n 2, 1)) ∧ (decode cX9_wage 18 = .ok (.i2l, 1)) ∧ (decode cX9_wage 19 = .ok (.lconst 0, 1)) ∧ (decode cX9_wage 20 = .ok (.ldc2_w 317, 3)) ∧ (decode cX9_wage 23 = .ok (.invokestatic 130, 3)) ∧ (decode cX9_wage 26 = .ok (.ifCond .eq 19, 3)) ∧ (decode cX9_wage 29 = .ok (.iload_n 3, 1)) := by decide +kernel
theorem dX9_wage_14 : decode cX9_wage 14 = .ok (.ifCond .eq 31, 3) := adX9_wage_14.1
theorem dX9_wage_17 : decode cX9_wage 17 = .ok (.iload_n 2, 1) := adX9_wage_14.2.1
theorem dX9_wage_18 : decode cX9_wage 18 = .ok (.i2l, 1) := adX9_wage_14.2.2.1
theorem dX9_wage_19 : decode cX9_wage 19 = .ok (.lconst 0, 1) := adX9_wage_14.2.2.2.1
theorem dX9_wage_20 : decode cX9_wage 20 = .ok (.ldc2_w 317, 3) := adX9_wage_14.2.2.2.2.1
theorem dX9_wage_23 : decode cX9_wage 23 = .ok (.invokestatic 130, 3) := adX9_wage_14.2.2.2.2.2.1
theorem dX9_wage_26 : decode cX9_wage 26 = .ok (.ifCond .eq 19, 3) := adX9_wage_14.2.2.2.2.2.2.1
theorem dX9_wage_29 : decode cX9_wage 29 = .ok (.iload_n 3, 1) := adX9_wage_14.2.2.2.2.2.2.2
theorem adX9_wage_30 : (decode cX9_wage 30 = .ok (.invokestatic 299, 3)) ∧ (decode cX9_wage 33 = .ok (.ifCond .eq 12, 3)) ∧ (decode cX9_wage 36 = .ok (.aload_n 0, 1)) ∧ (decode cX9_wage 37 = .ok (.iload 4, 2)) ∧ (decode cX9_wage 39 = .ok (.invokevirtual 296, 3)) ∧ (decode cX9_wage 42 = .ok (.ifCond .ne 6, 3)) ∧ (decode cX9_wage 45 = .ok (.bipush (-2), 2)) ∧ (decode cX9_wage 47 = .ok (.ireturn, 1)) := by decide +kernel
theorem dX9_wage_30 : decode cX9_wage 30 = .ok (.invokestatic 299, 3) := adX9_wage_30.1
theorem dX9_wage_33 : decode cX9_wage 33 = .ok (.ifCond .eq 12, 3) := adX9_wage_30.2.1
theorem dX9_wage_36 : decode cX9_wage 36 = .ok (.aload_n 0, 1) := adX9_wage_30.2.2.1
theorem dX9_wage_37 : decode cX9_wage 37 = .ok (.iload 4, 2) := adX9_wage_30.2.2.2.1
theorem dX9_wage_39 : decode cX9_wage 39 = .ok (.invokevirtual 296, 3) := adX9_wage_30.2.2.2.2.1
theorem dX9_wage_42 : decode cX9_wage 42 = .ok (.ifCond .ne 6, 3) := adX9_wage_30.2.2.2.2.2.1
theorem dX9_wage_45 : decode cX9_wage 45 = .ok (.bipush (-2), 2) := adX9_wage_30.2.2.2.2.2.2.1
theorem dX9_wage_47 : decode cX9_wage 47 = .ok (.ireturn, 1) := adX9_wage_30.2.2.2.2.2.2.2
theorem adX9_wage_48 : (decode cX9_wage 48 = .ok (.aload_n 0, 1)) ∧ (decode cX9_wage 49 = .ok (.iload_n 1, 1)) ∧ (decode cX9_wage 50 = .ok (.iload_n 2, 1)) ∧ (decode cX9_wage 51 = .ok (.iload_n 3, 1)) ∧ (decode cX9_wage 52 = .ok (.iload 4, 2)) ∧ (decode cX9_wage 54 = .ok (.invokevirtual 319, 3)) ∧ (decode cX9_wage 57 = .ok (.ireturn, 1)) := by decide +kernel
theorem dX9_wage_48 : decode cX9_wage 48 = .ok (.aload_n 0, 1) := adX9_wage_48.1
theorem dX9_wage_49 : decode cX9_wage 49 = .ok (.iload_n 1, 1) := adX9_wage_48.2.1
theorem dX9_wage_50 : decode cX9_wage 50 = .ok (.iload_n 2, 1) := adX9_wage_48.2.2.1
theorem dX9_wage_51 : decode cX9_wage 51 = .ok (.iload_n 3, 1) := adX9_wage_48.2.2.2.1
theorem dX9_wage_52 : decode cX9_wage 52 = .ok (.iload 4, 2) := adX9_wage_48.2.2.2.2.1
theorem dX9_wage_54 : decode cX9_wage 54 = .ok (.invokevirtual 319, 3) := adX9_wage_48.2.2.2.2.2.1
theorem dX9_wage_57 : decode cX9_wage 57 = .ok (.ireturn, 1) := adX9_wage_48.2.2.2.2.2.2
theorem adX9_copySheet_0 : (decode cX9_copySheet 0 = .ok (.aload_n 0, 1)) ∧ (decode cX9_copySheet 1 = .ok (.getfield 92, 3)) ∧ (decode cX9_copySheet 4 = .ok (.iload_n 2, 1)) ∧ (decode cX9_copySheet 5 = .ok (.aload_n 0, 1)) ∧ (decode cX9_copySheet 6 = .ok (.getfield 92, 3)) ∧ (decode cX9_copySheet 9 = .ok (.iload_n 1, 1)) ∧ (decode cX9_copySheet 10 = .ok (.iaload, 1)) ∧ (decode cX9_copySheet 11 = .ok (.iastore, 1)) := by decide +kernel
theorem dX9_copySheet_0 : decode cX9_copySheet 0 = .ok (.aload_n 0, 1) := adX9_copySheet_0.1
theorem dX9_copySheet_1 : decode cX9_copySheet 1 = .ok (.getfield 92, 3) := adX9_copySheet_0.2.1
theorem dX9_copySheet_4 : decode cX9_copySheet 4 = .ok (.iload_n 2, 1) := adX9_copySheet_0.2.2.1
theorem dX9_copySheet_5 : decode cX9_copySheet 5 = .ok (.aload_n 0, 1) := adX9_copySheet_0.2.2.2.1
theorem dX9_copySheet_6 : decode cX9_copySheet 6 = .ok (.getfield 92, 3) := adX9_copySheet_0.2.2.2.2.1
theorem dX9_copySheet_9 : decode cX9_copySheet 9 = .ok (.iload_n 1, 1) := adX9_copySheet_0.2.2.2.2.2.1
theorem dX9_copySheet_10 : decode cX9_copySheet 10 = .ok (.iaload, 1) := adX9_copySheet_0.2.2.2.2.2.2.1
theorem dX9_copySheet_11 : decode cX9_copySheet 11 = .ok (.iastore, 1) := adX9_copySheet_0.2.2.2.2.2.2.2
theorem adX9_copySheet_12 : (decode cX9_copySheet 12 = .ok (.aload_n 0, 1)) ∧ (decode cX9_copySheet 13 = .ok (.getfield 95, 3)) ∧ (decode cX9_copySheet 16 = .ok (.iload_n 2, 1)) ∧ (decode cX9_copySheet 17 = .ok (.aload_n 0, 1)) ∧ (decode cX9_copySheet 18 = .ok (.getfield 95, 3)) ∧ (decode cX9_copySheet 21 = .ok (.iload_n 1, 1)) ∧ (decode cX9_copySheet 22 = .ok (.iaload, 1)) ∧ (decode cX9_copySheet 23 = .ok (.iastore, 1)) := by decide +kernel
theorem dX9_copySheet_12 : decode cX9_copySheet 12 = .ok (.aload_n 0, 1) := adX9_copySheet_12.1
theorem dX9_copySheet_13 : decode cX9_copySheet 13 = .ok (.getfield 95, 3) := adX9_copySheet_12.2.1
theorem dX9_copySheet_16 : decode cX9_copySheet 16 = .ok (.iload_n 2, 1) := adX9_copySheet_12.2.2.1
theorem dX9_copySheet_17 : decode cX9_copySheet 17 = .ok (.aload_n 0, 1) := adX9_copySheet_12.2.2.2.1
theorem dX9_copySheet_18 : decode cX9_copySheet 18 = .ok (.getfield 95, 3) := adX9_copySheet_12.2.2.2.2.1
theorem dX9_copySheet_21 : decode cX9_copySheet 21 = .ok (.iload_n 1, 1) := adX9_copySheet_12.2.2.2.2.2.1
theorem dX9_copySheet_22 : decode cX9_copySheet 22 = .ok (.iaload, 1) := adX9_copySheet_12.2.2.2.2.2.2.1
theorem dX9_copySheet_23 : decode cX9_copySheet 23 = .ok (.iastore, 1) := adX9_copySheet_12.2.2.2.2.2.2.2
theorem adX9_copySheet_24 : (decode cX9_copySheet 24 = .ok (.aload_n 0, 1)) ∧ (decode cX9_copySheet 25 = .ok (.getfield 98, 3)) ∧ (decode cX9_copySheet 28 = .ok (.iload_n 2, 1)) ∧ (decode cX9_copySheet 29 = .ok (.aload_n 0, 1)) ∧ (decode cX9_copySheet 30 = .ok (.getfield 98, 3)) ∧ (decode cX9_copySheet 33 = .ok (.iload_n 1, 1)) ∧ (decode cX9_copySheet 34 = .ok (.iaload, 1)) ∧ (decode cX9_copySheet 35 = .ok (.iastore, 1)) := by decide +kernel
theorem dX9_copySheet_24 : decode cX9_copySheet 24 = .ok (.aload_n 0, 1) := adX9_copySheet_24.1
theorem dX9_copySheet_25 : decode cX9_copySheet 25 = .ok (.getfield 98, 3) := adX9_copySheet_24.2.1
theorem dX9_copySheet_28 : decode cX9_copySheet 28 = .ok (.iload_n 2, 1) := adX9_copySheet_24.2.2.1
theorem dX9_copySheet_29 : decode cX9_copySheet 29 = .ok (.aload_n 0, 1) := adX9_copySheet_24.2.2.2.1
theorem dX9_copySheet_30 : decode cX9_copySheet 30 = .ok (.getfield 98, 3) := adX9_copySheet_24.2.2.2.2.1
theorem dX9_copySheet_33 : decode cX9_copySheet 33 = .ok (.iload_n 1, 1) := adX9_copySheet_24.2.2.2.2.2.1
theorem dX9_copySheet_34 : decode cX9_copySheet 34 = .ok (.iaload, 1) := adX9_copySheet_24.2.2.2.2.2.2.1
theorem dX9_copySheet_35 : decode cX9_copySheet 35 = .ok (.iastore, 1) := adX9_copySheet_24.2.2.2.2.2.2.2
theorem adX9_copySheet_36 : (decode cX9_copySheet 36 = .ok (.aload_n 0, 1)) ∧ (decode cX9_copySheet 37 = .ok (.getfield 101, 3)) ∧ (decode cX9_copySheet 40 = .ok (.iload_n 2, 1)) ∧ (decode cX9_copySheet 41 = .ok (.aload_n 0, 1)) ∧ (decode cX9_copySheet 42 = .ok (.getfield 101, 3)) ∧ (decode cX9_copySheet 45 = .ok (.iload_n 1, 1)) ∧ (decode cX9_copySheet 46 = .ok (.iaload, 1)) ∧ (decode cX9_copySheet 47 = .ok (.iastore, 1)) := by decide +kernel
theorem dX9_copySheet_36 : decode cX9_copySheet 36 = .ok (.aload_n 0, 1) := adX9_copySheet_36.1
theorem dX9_copySheet_37 : decode cX9_copySheet 37 = .ok (.getfield 101, 3) := adX9_copySheet_36.2.1
theorem dX9_copySheet_40 : decode cX9_copySheet 40 = .ok (.iload_n 2, 1) := adX9_copySheet_36.2.2.1
theorem dX9_copySheet_41 : decode cX9_copySheet 41 = .ok (.aload_n 0, 1) := adX9_copySheet_36.2.2.2.1
theorem dX9_copySheet_42 : decode cX9_copySheet 42 = .ok (.getfield 101, 3) := adX9_copySheet_36.2.2.2.2.1
theorem dX9_copySheet_45 : decode cX9_copySheet 45 = .ok (.iload_n 1, 1) := adX9_copySheet_36.2.2.2.2.2.1
theorem dX9_copySheet_46 : decode cX9_copySheet 46 = .ok (.iaload, 1) := adX9_copySheet_36.2.2.2.2.2.2.1
theorem dX9_copySheet_47 : decode cX9_copySheet 47 = .ok (.iastore, 1) := adX9_copySheet_36.2.2.2.2.2.2.2
theorem adX9_copySheet_48 : (decode cX9_copySheet 48 = .ok (.aload_n 0, 1)) ∧ (decode cX9_copySheet 49 = .ok (.getfield 104, 3)) ∧ (decode cX9_copySheet 52 = .ok (.iload_n 2, 1)) ∧ (decode cX9_copySheet 53 = .ok (.aload_n 0, 1)) ∧ (decode cX9_copySheet 54 = .ok (.getfield 104, 3)) ∧ (decode cX9_copySheet 57 = .ok (.iload_n 1, 1)) ∧ (decode cX9_copySheet 58 = .ok (.iaload, 1)) ∧ (decode cX9_copySheet 59 = .ok (.iastore, 1)) := by decide +kernel
theorem dX9_copySheet_48 : decode cX9_copySheet 48 = .ok (.aload_n 0, 1) := adX9_copySheet_48.1
theorem dX9_copySheet_49 : decode cX9_copySheet 49 = .ok (.getfield 104, 3) := adX9_copySheet_48.2.1
theorem dX9_copySheet_52 : decode cX9_copySheet 52 = .ok (.iload_n 2, 1) := adX9_copySheet_48.2.2.1
theorem dX9_copySheet_53 : decode cX9_copySheet 53 = .ok (.aload_n 0, 1) := adX9_copySheet_48.2.2.2.1
theorem dX9_copySheet_54 : decode cX9_copySheet 54 = .ok (.getfield 104, 3) := adX9_copySheet_48.2.2.2.2.1
theorem dX9_copySheet_57 : decode cX9_copySheet 57 = .ok (.iload_n 1, 1) := adX9_copySheet_48.2.2.2.2.2.1
theorem dX9_copySheet_58 : decode cX9_copySheet 58 = .ok (.iaload, 1) := adX9_copySheet_48.2.2.2.2.2.2.1
theorem dX9_copySheet_59 : decode cX9_copySheet 59 = .ok (.iastore, 1) := adX9_copySheet_48.2.2.2.2.2.2.2
theorem adX9_copySheet_60 : (decode cX9_copySheet 60 = .ok (.aload_n 0, 1)) ∧ (decode cX9_copySheet 61 = .ok (.getfield 107, 3)) ∧ (decode cX9_copySheet 64 = .ok (.iload_n 2, 1)) ∧ (decode cX9_copySheet 65 = .ok (.aload_n 0, 1)) ∧ (decode cX9_copySheet 66 = .ok (.getfield 107, 3)) ∧ (decode cX9_copySheet 69 = .ok (.iload_n 1, 1)) ∧ (decode cX9_copySheet 70 = .ok (.iaload, 1)) ∧ (decode cX9_copySheet 71 = .ok (.iastore, 1)) := by decide +kernel
theorem dX9_copySheet_60 : decode cX9_copySheet 60 = .ok (.aload_n 0, 1) := adX9_copySheet_60.1
theorem dX9_copySheet_61 : decode cX9_copySheet 61 = .ok (.getfield 107, 3) := adX9_copySheet_60.2.1
theorem dX9_copySheet_64 : decode cX9_copySheet 64 = .ok (.iload_n 2, 1) := adX9_copySheet_60.2.2.1
theorem dX9_copySheet_65 : decode cX9_copySheet 65 = .ok (.aload_n 0, 1) := adX9_copySheet_60.2.2.2.1
theorem dX9_copySheet_66 : decode cX9_copySheet 66 = .ok (.getfield 107, 3) := adX9_copySheet_60.2.2.2.2.1
theorem dX9_copySheet_69 : decode cX9_copySheet 69 = .ok (.iload_n 1, 1) := adX9_copySheet_60.2.2.2.2.2.1
theorem dX9_copySheet_70 : decode cX9_copySheet 70 = .ok (.iaload, 1) := adX9_copySheet_60.2.2.2.2.2.2.1
theorem dX9_copySheet_71 : decode cX9_copySheet 71 = .ok (.iastore, 1) := adX9_copySheet_60.2.2.2.2.2.2.2
theorem dX9_copySheet_72 : decode cX9_copySheet 72 = .ok (.return_, 1) := by decide +kernel
set_option maxRecDepth 20000 in
theorem ggX9_copySheets_X9_copySheet : GoodIn wsX9_copySheets wsX9_copySheet := goodIn_r _ [6, 7, 8, 9, 10, 11, 12, 13, 14, 15, 16, 17, 18, 19, 20, 21, 22, 23, 24, 25, 26, 27, 28, 29, 30, 31, 32, 33, 34, 35, 36, 37, 38, 39, 40, 41, 42, 43, 44, 45, 46, 47, 48, 49, 50, 51, 52, 53, 54, 55, 56, 57, 58, 59, 60, 61, 62, 63, 64, 65, 66, 67, 68, 69, 70, 71, 72] (by decide +kernel) (by decide +kernel)
set_option maxRecDepth 20000 in
theorem gX9_copySheets_X9_copySheet : GoodIn wsX9_copySheets (wsV RX9 323 RX9 yX9_copySheet wsX9_copySheet) := goodIn_app (goodIn_of _ (by decide +kernel)) ggX9_copySheets_X9_copySheet
theorem adX9_copySheets_0 : (decode cX9_copySheets 0 = .ok (.aload_n 0, 1)) ∧ (decode cX9_copySheets 1 = .ok (.getfield 89, 3)) ∧ (decode cX9_copySheets 4 = .ok (.iload_n 2, 1)) ∧ (decode cX9_copySheets 5 = .ok (.aload_n 0, 1)) ∧ (decode cX9_copySheets 6 = .ok (.getfield 89, 3)) ∧ (decode cX9_copySheets 9 = .ok (.iload_n 1, 1)) ∧ (decode cX9_copySheets 10 = .ok (.iaload, 1)) ∧ (decode cX9_copySheets 11 = .ok (.iastore, 1)) := by decide +kernel
theorem dX9_copySheets_0 : decode cX9_copySheets 0 = .ok (.aload_n 0, 1) := adX9_copySheets_0.1
theorem dX9_copySheets_1 : decode cX9_copySheets 1 = .ok (.getfield 89, 3) := adX9_copySheets_0.2.1
theorem dX9_copySheets_4 : decode cX9_copySheets 4 = .ok (.iload_n 2, 1) := adX9_copySheets_0.2.2.1
theorem dX9_copySheets_5 : decode cX9_copySheets 5 = .ok (.aload_n 0, 1) := adX9_copySheets_0.2.2.2.1
theorem dX9_copySheets_6 : decode cX9_copySheets 6 = .ok (.getfield 89, 3) := adX9_copySheets_0.2.2.2.2.1
theorem dX9_copySheets_9 : decode cX9_copySheets 9 = .ok (.iload_n 1, 1) := adX9_copySheets_0.2.2.2.2.2.1
theorem dX9_copySheets_10 : decode cX9_copySheets 10 = .ok (.iaload, 1) := adX9_copySheets_0.2.2.2.2.2.2.1
theorem dX9_copySheets_11 : decode cX9_copySheets 11 = .ok (.iastore, 1) := adX9_copySheets_0.2.2.2.2.2.2.2
theorem adX9_copySheets_12 : (decode cX9_copySheets 12 = .ok (.iconst 0, 1)) ∧ (decode cX9_copySheets 13 = .ok (.istore_n 3, 1)) ∧ (decode cX9_copySheets 14 = .ok (.iload_n 3, 1)) ∧ (decode cX9_copySheets 15 = .ok (.aload_n 0, 1)) ∧ (decode cX9_copySheets 16 = .ok (.getfield 89, 3)) ∧ (decode cX9_copySheets 19 = .ok (.iload_n 1, 1)) ∧ (decode cX9_copySheets 20 = .ok (.iaload, 1)) ∧ (decode cX9_copySheets 21 = .ok (.if_icmp .ge 27, 3)) := by decide +kernel
theorem dX9_copySheets_12 : decode cX9_copySheets 12 = .ok (.iconst 0, 1) := adX9_copySheets_12.1
theorem dX9_copySheets_13 : decode cX9_copySheets 13 = .ok (.istore_n 3, 1) := adX9_copySheets_12.2.1
theorem dX9_copySheets_14 : decode cX9_copySheets 14 = .ok (.iload_n 3, 1) := adX9_copySheets_12.2.2.1
theorem dX9_copySheets_15 : decode cX9_copySheets 15 = .ok (.aload_n 0, 1) := adX9_copySheets_12.2.2.2.1
theorem dX9_copySheets_16 : decode cX9_copySheets 16 = .ok (.getfield 89, 3) := adX9_copySheets_12.2.2.2.2.1
theorem dX9_copySheets_19 : decode cX9_copySheets 19 = .ok (.iload_n 1, 1) := adX9_copySheets_12.2.2.2.2.2.1
theorem dX9_copySheets_20 : decode cX9_copySheets 20 = .ok (.iaload, 1) := adX9_copySheets_12.2.2.2.2.2.2.1
theorem dX9_copySheets_21 : decode cX9_copySheets 21 = .ok (.if_icmp .ge 27, 3) := adX9_copySheets_12.2.2.2.2.2.2.2
theorem adX9_copySheets_24 : (decode cX9_copySheets 24 = .ok (.aload_n 0, 1)) ∧ (decode cX9_copySheets 25 = .ok (.sipush 200, 3)) ∧ (decode cX9_copySheets 28 = .ok (.iload_n 1, 1)) ∧ (decode cX9_copySheets 29 = .ok (.imul, 1)) ∧ (decode cX9_copySheets 30 = .ok (.iload_n 3, 1)) ∧ (decode cX9_copySheets 31 = .ok (.iadd, 1)) ∧ (decode cX9_copySheets 32 = .ok (.sipush 200, 3)) ∧ (decode cX9_copySheets 35 = .ok (.iload_n 2, 1)) := by decide +kernel
theorem dX9_copySheets_24 : decode cX9_copySheets 24 = .ok (.aload_n 0, 1) := adX9_copySheets_24.1
theorem dX9_copySheets_25 : decode cX9_copySheets 25 = .ok (.sipush 200, 3) := adX9_copySheets_24.2.1
theorem dX9_copySheets_28 : decode cX9_copySheets 28 = .ok (.iload_n 1, 1) := adX9_copySheets_24.2.2.1
theorem dX9_copySheets_29 : decode cX9_copySheets 29 = .ok (.imul, 1) := adX9_copySheets_24.2.2.2.1
theorem dX9_copySheets_30 : decode cX9_copySheets 30 = .ok (.iload_n 3, 1) := adX9_copySheets_24.2.2.2.2.1
theorem dX9_copySheets_31 : decode cX9_copySheets 31 = .ok (.iadd, 1) := adX9_copySheets_24.2.2.2.2.2.1
theorem dX9_copySheets_32 : decode cX9_copySheets 32 = .ok (.sipush 200, 3) := adX9_copySheets_24.2.2.2.2.2.2.1
theorem dX9_copySheets_35 : decode cX9_copySheets 35 = .ok (.iload_n 2, 1) := adX9_copySheets_24.2.2.2.2.2.2.2
theorem adX9_copySheets_36 : (decode cX9_copySheets 36 = .ok (.imul, 1)) ∧ (decode cX9_copySheets 37 = .ok (.iload_n 3, 1)) ∧ (decode cX9_copySheets 38 = .ok (.iadd, 1)) ∧ (decode cX9_copySheets 39 = .ok (.invokevirtual 323, 3)) ∧ (decode cX9_copySheets 42 = .ok (.iinc 3 1, 3)) ∧ (decode cX9_copySheets 45 = .ok (.goto (-31), 3)) ∧ (decode cX9_copySheets 48 = .ok (.return_, 1)) := by decide +kernel
theorem dX9_copySheets_36 : decode cX9_copySheets 36 = .ok (.imul, 1) := adX9_copySheets_36.1
theorem dX9_copySheets_37 : decode cX9_copySheets 37 = .ok (.iload_n 3, 1) := adX9_copySheets_36.2.1
theorem dX9_copySheets_38 : decode cX9_copySheets 38 = .ok (.iadd, 1) := adX9_copySheets_36.2.2.1
theorem dX9_copySheets_39 : decode cX9_copySheets 39 = .ok (.invokevirtual 323, 3) := adX9_copySheets_36.2.2.2.1
theorem dX9_copySheets_42 : decode cX9_copySheets 42 = .ok (.iinc 3 1, 3) := adX9_copySheets_36.2.2.2.2.1
theorem dX9_copySheets_45 : decode cX9_copySheets 45 = .ok (.goto (-31), 3) := adX9_copySheets_36.2.2.2.2.2.1
theorem dX9_copySheets_48 : decode cX9_copySheets 48 = .ok (.return_, 1) := adX9_copySheets_36.2.2.2.2.2.2
theorem adX9_drawn_0 : (decode cX9_drawn 0 = .ok (.aload_n 0, 1)) ∧ (decode cX9_drawn 1 = .ok (.ldc2_w 326, 3)) ∧ (decode cX9_drawn 4 = .ok (.aload_n 0, 1)) ∧ (decode cX9_drawn 5 = .ok (.getfield 328, 3)) ∧ (decode cX9_drawn 8 = .ok (.lmul, 1)) ∧ (decode cX9_drawn 9 = .ok (.ldc2_w 331, 3)) ∧ (decode cX9_drawn 12 = .ok (.ladd, 1)) ∧ (decode cX9_drawn 13 = .ok (.ldc2_w 333, 3)) := by decide +kernel
theorem dX9_drawn_0 : decode cX9_drawn 0 = .ok (.aload_n 0, 1) := adX9_drawn_0.1
theorem dX9_drawn_1 : decode cX9_drawn 1 = .ok (.ldc2_w 326, 3) := adX9_drawn_0.2.1
theorem dX9_drawn_4 : decode cX9_drawn 4 = .ok (.aload_n 0, 1) := adX9_drawn_0.2.2.1
theorem dX9_drawn_5 : decode cX9_drawn 5 = .ok (.getfield 328, 3) := adX9_drawn_0.2.2.2.1
theorem dX9_drawn_8 : decode cX9_drawn 8 = .ok (.lmul, 1) := adX9_drawn_0.2.2.2.2.1
theorem dX9_drawn_9 : decode cX9_drawn 9 = .ok (.ldc2_w 331, 3) := adX9_drawn_0.2.2.2.2.2.1
theorem dX9_drawn_12 : decode cX9_drawn 12 = .ok (.ladd, 1) := adX9_drawn_0.2.2.2.2.2.2.1
theorem dX9_drawn_13 : decode cX9_drawn 13 = .ok (.ldc2_w 333, 3) := adX9_drawn_0.2.2.2.2.2.2.2
theorem adX9_drawn_16 : (decode cX9_drawn 16 = .ok (.lrem, 1)) ∧ (decode cX9_drawn 17 = .ok (.putfield 328, 3)) ∧ (decode cX9_drawn 20 = .ok (.aload_n 0, 1)) ∧ (decode cX9_drawn 21 = .ok (.getfield 328, 3)) ∧ (decode cX9_drawn 24 = .ok (.ldc2_w 335, 3)) ∧ (decode cX9_drawn 27 = .ok (.ldiv, 1)) ∧ (decode cX9_drawn 28 = .ok (.iload_n 1, 1)) ∧ (decode cX9_drawn 29 = .ok (.i2l, 1)) := by decide +kernel
theorem dX9_drawn_16 : decode cX9_drawn 16 = .ok (.lrem, 1) := adX9_drawn_16.1
theorem dX9_drawn_17 : decode cX9_drawn 17 = .ok (.putfield 328, 3) := adX9_drawn_16.2.1
theorem dX9_drawn_20 : decode cX9_drawn 20 = .ok (.aload_n 0, 1) := adX9_drawn_16.2.2.1
theorem dX9_drawn_21 : decode cX9_drawn 21 = .ok (.getfield 328, 3) := adX9_drawn_16.2.2.2.1
theorem dX9_drawn_24 : decode cX9_drawn 24 = .ok (.ldc2_w 335, 3) := adX9_drawn_16.2.2.2.2.1
theorem dX9_drawn_27 : decode cX9_drawn 27 = .ok (.ldiv, 1) := adX9_drawn_16.2.2.2.2.2.1
theorem dX9_drawn_28 : decode cX9_drawn 28 = .ok (.iload_n 1, 1) := adX9_drawn_16.2.2.2.2.2.2.1
theorem dX9_drawn_29 : decode cX9_drawn 29 = .ok (.i2l, 1) := adX9_drawn_16.2.2.2.2.2.2.2
theorem adX9_drawn_30 : (decode cX9_drawn 30 = .ok (.lrem, 1)) ∧ (decode cX9_drawn 31 = .ok (.l2i, 1)) ∧ (decode cX9_drawn 32 = .ok (.ireturn, 1)) := by decide +kernel
theorem dX9_drawn_30 : decode cX9_drawn 30 = .ok (.lrem, 1) := adX9_drawn_30.1
theorem dX9_drawn_31 : decode cX9_drawn 31 = .ok (.l2i, 1) := adX9_drawn_30.2.1
theorem dX9_drawn_32 : decode cX9_drawn 32 = .ok (.ireturn, 1) := adX9_drawn_30.2.2
set_option maxRecDepth 20000 in
theorem ggX9_schoolOf_X9_forcedOf : GoodIn wsX9_schoolOf wsX9_forcedOf := goodIn_r _ [5, 6, 7, 8, 9, 4, 10, 11, 12, 13, 14, 15, 16, 17, 18, 19, 20, 21, 22, 23, 24, 25, 26, 27, 28, 29, 30, 31, 32, 33, 34, 35, 36, 37, 38, 39, 40, 41, 42, 43, 44, 45, 46, 47, 48, 49, 50, 51, 52, 53, 54, 55, 56, 57, 58, 59, 60, 61, 62, 63, 64, 65, 66, 67, 68, 69, 70, 71] (by decide +kernel) (by decide +kernel)
set_option maxRecDepth 20000 in
theorem gX9_schoolOf_X9_forcedOf : GoodIn wsX9_schoolOf (wsV RX9 302 RX9 yX9_forcedOf wsX9_forcedOf) := goodIn_app (goodIn_of _ (by decide +kernel)) ggX9_schoolOf_X9_forcedOf
theorem adX9_schoolOf_0 : (decode cX9_schoolOf 0 = .ok (.aload_n 0, 1)) ∧ (decode cX9_schoolOf 1 = .ok (.iload_n 1, 1)) ∧ (decode cX9_schoolOf 2 = .ok (.iload_n 2, 1)) ∧ (decode cX9_schoolOf 3 = .ok (.invokevirtual 302, 3)) ∧ (decode cX9_schoolOf 6 = .ok (.istore 4, 2)) ∧ (decode cX9_schoolOf 8 = .ok (.iload 4, 2)) ∧ (decode cX9_schoolOf 10 = .ok (.iload_n 3, 1)) ∧ (decode cX9_schoolOf 11 = .ok (.if_icmp .le 8, 3)) := by decide +kernel
theorem dX9_schoolOf_0 : decode cX9_schoolOf 0 = .ok (.aload_n 0, 1) := adX9_schoolOf_0.1
theorem dX9_schoolOf_1 : decode cX9_schoolOf 1 = .ok (.iload_n 1, 1) := adX9_schoolOf_0.2.1
theorem dX9_schoolOf_2 : decode cX9_schoolOf 2 = .ok (.iload_n 2, 1) := adX9_schoolOf_0.2.2.1
theorem dX9_schoolOf_3 : decode cX9_schoolOf 3 = .ok (.invokevirtual 302, 3) := adX9_schoolOf_0.2.2.2.1
theorem dX9_schoolOf_6 : decode cX9_schoolOf 6 = .ok (.istore 4, 2) := adX9_schoolOf_0.2.2.2.2.1
theorem dX9_schoolOf_8 : decode cX9_schoolOf 8 = .ok (.iload 4, 2) := adX9_schoolOf_0.2.2.2.2.2.1
theorem dX9_schoolOf_10 : decode cX9_schoolOf 10 = .ok (.iload_n 3, 1) := adX9_schoolOf_0.2.2.2.2.2.2.1
theorem dX9_schoolOf_11 : decode cX9_schoolOf 11 = .ok (.if_icmp .le 8, 3) := adX9_schoolOf_0.2.2.2.2.2.2.2
theorem adX9_schoolOf_14 : (decode cX9_schoolOf 14 = .ok (.iload 4, 2)) ∧ (decode cX9_schoolOf 16 = .ok (.goto 4, 3)) ∧ (decode cX9_schoolOf 19 = .ok (.iload_n 3, 1)) ∧ (decode cX9_schoolOf 20 = .ok (.istore 5, 2)) ∧ (decode cX9_schoolOf 22 = .ok (.iload 5, 2)) ∧ (decode cX9_schoolOf 24 = .ok (.sipush 300, 3)) ∧ (decode cX9_schoolOf 27 = .ok (.if_icmp .le 9, 3)) ∧ (decode cX9_schoolOf 30 = .ok (.sipush 300, 3)) := by decide +kernel
theorem dX9_schoolOf_14 : decode cX9_schoolOf 14 = .ok (.iload 4, 2) := adX9_schoolOf_14.1
theorem dX9_schoolOf_16 : decode cX9_schoolOf 16 = .ok (.goto 4, 3) := adX9_schoolOf_14.2.1
theorem dX9_schoolOf_19 : decode cX9_schoolOf 19 = .ok (.iload_n 3, 1) := adX9_schoolOf_14.2.2.1
theorem dX9_schoolOf_20 : decode cX9_schoolOf 20 = .ok (.istore 5, 2) := adX9_schoolOf_14.2.2.2.1
theorem dX9_schoolOf_22 : decode cX9_schoolOf 22 = .ok (.iload 5, 2) := adX9_schoolOf_14.2.2.2.2.1
theorem dX9_schoolOf_24 : decode cX9_schoolOf 24 = .ok (.sipush 300, 3) := adX9_schoolOf_14.2.2.2.2.2.1
theorem dX9_schoolOf_27 : decode cX9_schoolOf 27 = .ok (.if_icmp .le 9, 3) := adX9_schoolOf_14.2.2.2.2.2.2.1
theorem dX9_schoolOf_30 : decode cX9_schoolOf 30 = .ok (.sipush 300, 3) := adX9_schoolOf_14.2.2.2.2.2.2.2
theorem adX9_schoolOf_33 : (decode cX9_schoolOf 33 = .ok (.goto 5, 3)) ∧ (decode cX9_schoolOf 36 = .ok (.iload 5, 2)) ∧ (decode cX9_schoolOf 38 = .ok (.ireturn, 1)) := by decide +kernel
theorem dX9_schoolOf_33 : decode cX9_schoolOf 33 = .ok (.goto 5, 3) := adX9_schoolOf_33.1
theorem dX9_schoolOf_36 : decode cX9_schoolOf 36 = .ok (.iload 5, 2) := adX9_schoolOf_33.2.1
theorem dX9_schoolOf_38 : decode cX9_schoolOf 38 = .ok (.ireturn, 1) := adX9_schoolOf_33.2.2
set_option maxRecDepth 20000 in
theorem ggX9_draws_X9_drawn : GoodIn wsX9_draws wsX9_drawn := goodIn_r _ [21, 22, 1, 23, 24, 25, 54, 55, 56, 57, 58, 59, 60, 61, 62, 63, 64, 65, 66, 67, 68, 69, 70, 71, 72, 73, 74, 75, 76, 77, 78, 79, 80, 81, 82, 83, 84, 85, 86, 87, 88, 89, 90, 91, 92, 93, 94, 95, 96, 97, 98, 99, 100, 101, 102, 103, 104, 105, 106, 107, 108, 109, 110, 111, 112, 113] (by decide +kernel) (by decide +kernel)
set_option maxRecDepth 20000 in
theorem gX9_draws_X9_drawn : GoodIn wsX9_draws (wsV RX9 337 RX9 yX9_drawn wsX9_drawn) := goodIn_app (goodIn_of _ (by decide +kernel)) ggX9_draws_X9_drawn
set_option maxRecDepth 20000 in
theorem ggX9_draws_X9_schoolOf : GoodIn wsX9_draws wsX9_schoolOf := goodIn_r _ [29, 30, 31, 32, 20, 33, 34, 35, 36, 37, 38, 39, 54, 55, 56, 57, 58, 59, 60, 61, 62, 63, 64, 65, 66, 67, 68, 69, 70, 71, 72, 73, 74, 75, 76, 77, 78, 79, 80, 81, 82, 83, 84, 85, 86, 87, 88, 89, 90, 91, 92, 93, 94, 95, 96, 97, 98, 99, 100, 101, 102, 103, 104, 105, 106, 107, 108, 109, 110, 111, 112, 113] (by decide +kernel) (by decide +kernel)
set_option maxRecDepth 20000 in
theorem gX9_draws_X9_schoolOf : GoodIn wsX9_draws (wsV RX9 341 RX9 yX9_schoolOf wsX9_schoolOf) := goodIn_app (goodIn_of _ (by decide +kernel)) ggX9_draws_X9_schoolOf
set_option maxRecDepth 20000 in
theorem ggX9_draws_X9_wageOf : GoodIn wsX9_draws wsX9_wageOf := goodIn_r _ [43, 44, 45, 46, 47, 48, 49, 35, 36, 37, 20, 38, 39, 30, 31, 32, 33, 34, 50, 51, 52, 53, 54, 55, 56, 57, 58, 59, 60, 61, 62, 63, 64, 65, 66, 67, 68, 69, 70, 71, 72, 73, 74, 75, 76, 77, 78, 79, 80, 81, 82, 83, 84, 85, 86, 87, 88, 89, 90, 91, 92, 93, 94, 95, 96, 97, 98, 99, 100, 101, 102, 103, 104, 105, 106, 107, 108, 109, 110, 111, 112, 113] (by decide +kernel) (by decide +kernel)
set_option maxRecDepth 20000 in
theorem gX9_draws_X9_wageOf : GoodIn wsX9_draws (wsV RX9 319 RX9 yX9_wageOf wsX9_wageOf) := goodIn_app (goodIn_of _ (by decide +kernel)) ggX9_draws_X9_wageOf
set_option maxRecDepth 20000 in
theorem ggX9_draws_X9_held : GoodIn wsX9_draws wsX9_held := goodIn_r _ [52, 53] (by decide +kernel) (by decide +kernel)
set_option maxRecDepth 20000 in
theorem gX9_draws_X9_held : GoodIn wsX9_draws (va_wsS RX9 309 yX9_held wsX9_held) := goodIn_app (goodIn_of _ (by decide +kernel)) ggX9_draws_X9_held
theorem adX9_draws_0 : (decode cX9_draws 0 = .ok (.aload_n 0, 1)) ∧ (decode cX9_draws 1 = .ok (.lload_n 1, 1)) ∧ (decode cX9_draws 2 = .ok (.putfield 328, 3)) ∧ (decode cX9_draws 5 = .ok (.iconst 0, 1)) ∧ (decode cX9_draws 6 = .ok (.istore 4, 2)) ∧ (decode cX9_draws 8 = .ok (.iconst 0, 1)) ∧ (decode cX9_draws 9 = .ok (.istore 5, 2)) ∧ (decode cX9_draws 11 = .ok (.iload 5, 2)) := by decide +kernel
theorem dX9_draws_0 : decode cX9_draws 0 = .ok (.aload_n 0, 1) := adX9_draws_0.1
theorem dX9_draws_1 : decode cX9_draws 1 = .ok (.lload_n 1, 1) := adX9_draws_0.2.1
theorem dX9_draws_2 : decode cX9_draws 2 = .ok (.putfield 328, 3) := adX9_draws_0.2.2.1
theorem dX9_draws_5 : decode cX9_draws 5 = .ok (.iconst 0, 1) := adX9_draws_0.2.2.2.1
theorem dX9_draws_6 : decode cX9_draws 6 = .ok (.istore 4, 2) := adX9_draws_0.2.2.2.2.1
theorem dX9_draws_8 : decode cX9_draws 8 = .ok (.iconst 0, 1) := adX9_draws_0.2.2.2.2.2.1
theorem dX9_draws_9 : decode cX9_draws 9 = .ok (.istore 5, 2) := adX9_draws_0.2.2.2.2.2.2.1
theorem dX9_draws_11 : decode cX9_draws 11 = .ok (.iload 5, 2) := adX9_draws_0.2.2.2.2.2.2.2
theorem adX9_draws_13 : (decode cX9_draws 13 = .ok (.aload_n 0, 1)) ∧ (decode cX9_draws 14 = .ok (.getfield 43, 3)) ∧ (decode cX9_draws 17 = .ok (.iconst 0, 1)) ∧ (decode cX9_draws 18 = .ok (.iaload, 1)) ∧ (decode cX9_draws 19 = .ok (.if_icmp .ge 21, 3)) ∧ (decode cX9_draws 22 = .ok (.iload 4, 2)) ∧ (decode cX9_draws 24 = .ok (.aload_n 0, 1)) ∧ (decode cX9_draws 25 = .ok (.getfield 46, 3)) := by decide +kernel
theorem dX9_draws_13 : decode cX9_draws 13 = .ok (.aload_n 0, 1) := adX9_draws_13.1
theorem dX9_draws_14 : decode cX9_draws 14 = .ok (.getfield 43, 3) := adX9_draws_13.2.1
theorem dX9_draws_17 : decode cX9_draws 17 = .ok (.iconst 0, 1) := adX9_draws_13.2.2.1
theorem dX9_draws_18 : decode cX9_draws 18 = .ok (.iaload, 1) := adX9_draws_13.2.2.2.1
theorem dX9_draws_19 : decode cX9_draws 19 = .ok (.if_icmp .ge 21, 3) := adX9_draws_13.2.2.2.2.1
theorem dX9_draws_22 : decode cX9_draws 22 = .ok (.iload 4, 2) := adX9_draws_13.2.2.2.2.2.1
theorem dX9_draws_24 : decode cX9_draws 24 = .ok (.aload_n 0, 1) := adX9_draws_13.2.2.2.2.2.2.1
theorem dX9_draws_25 : decode cX9_draws 25 = .ok (.getfield 46, 3) := adX9_draws_13.2.2.2.2.2.2.2
theorem adX9_draws_28 : (decode cX9_draws 28 = .ok (.iload 5, 2)) ∧ (decode cX9_draws 30 = .ok (.iaload, 1)) ∧ (decode cX9_draws 31 = .ok (.iadd, 1)) ∧ (decode cX9_draws 32 = .ok (.istore 4, 2)) ∧ (decode cX9_draws 34 = .ok (.iinc 5 1, 3)) ∧ (decode cX9_draws 37 = .ok (.goto (-26), 3)) ∧ (decode cX9_draws 40 = .ok (.iconst 0, 1)) ∧ (decode cX9_draws 41 = .ok (.istore 5, 2)) := by decide +kernel
theorem dX9_draws_28 : decode cX9_draws 28 = .ok (.iload 5, 2) := adX9_draws_28.1
theorem dX9_draws_30 : decode cX9_draws 30 = .ok (.iaload, 1) := adX9_draws_28.2.1
theorem dX9_draws_31 : decode cX9_draws 31 = .ok (.iadd, 1) := adX9_draws_28.2.2.1
theorem dX9_draws_32 : decode cX9_draws 32 = .ok (.istore 4, 2) := adX9_draws_28.2.2.2.1
theorem dX9_draws_34 : decode cX9_draws 34 = .ok (.iinc 5 1, 3) := adX9_draws_28.2.2.2.2.1
theorem dX9_draws_37 : decode cX9_draws 37 = .ok (.goto (-26), 3) := adX9_draws_28.2.2.2.2.2.1
theorem dX9_draws_40 : decode cX9_draws 40 = .ok (.iconst 0, 1) := adX9_draws_28.2.2.2.2.2.2.1
theorem dX9_draws_41 : decode cX9_draws 41 = .ok (.istore 5, 2) := adX9_draws_28.2.2.2.2.2.2.2
theorem adX9_draws_43 : (decode cX9_draws 43 = .ok (.iload 5, 2)) ∧ (decode cX9_draws 45 = .ok (.iload_n 3, 1)) ∧ (decode cX9_draws 46 = .ok (.if_icmp .ge 224, 3)) ∧ (decode cX9_draws 49 = .ok (.aload_n 0, 1)) ∧ (decode cX9_draws 50 = .ok (.aload_n 0, 1)) ∧ (decode cX9_draws 51 = .ok (.getfield 34, 3)) ∧ (decode cX9_draws 54 = .ok (.iconst 0, 1)) ∧ (decode cX9_draws 55 = .ok (.iaload, 1)) := by decide +kernel
theorem dX9_draws_43 : decode cX9_draws 43 = .ok (.iload 5, 2) := adX9_draws_43.1
theorem dX9_draws_45 : decode cX9_draws 45 = .ok (.iload_n 3, 1) := adX9_draws_43.2.1
theorem dX9_draws_46 : decode cX9_draws 46 = .ok (.if_icmp .ge 224, 3) := adX9_draws_43.2.2.1
theorem dX9_draws_49 : decode cX9_draws 49 = .ok (.aload_n 0, 1) := adX9_draws_43.2.2.2.1
theorem dX9_draws_50 : decode cX9_draws 50 = .ok (.aload_n 0, 1) := adX9_draws_43.2.2.2.2.1
theorem dX9_draws_51 : decode cX9_draws 51 = .ok (.getfield 34, 3) := adX9_draws_43.2.2.2.2.2.1
theorem dX9_draws_54 : decode cX9_draws 54 = .ok (.iconst 0, 1) := adX9_draws_43.2.2.2.2.2.2.1
theorem dX9_draws_55 : decode cX9_draws 55 = .ok (.iaload, 1) := adX9_draws_43.2.2.2.2.2.2.2
theorem adX9_draws_56 : (decode cX9_draws 56 = .ok (.invokevirtual 337, 3)) ∧ (decode cX9_draws 59 = .ok (.istore 6, 2)) ∧ (decode cX9_draws 61 = .ok (.aload_n 0, 1)) ∧ (decode cX9_draws 62 = .ok (.bipush 12, 2)) ∧ (decode cX9_draws 64 = .ok (.invokevirtual 337, 3)) ∧ (decode cX9_draws 67 = .ok (.iconst 1, 1)) ∧ (decode cX9_draws 68 = .ok (.iadd, 1)) ∧ (decode cX9_draws 69 = .ok (.istore 7, 2)) := by decide +kernel
theorem dX9_draws_56 : decode cX9_draws 56 = .ok (.invokevirtual 337, 3) := adX9_draws_56.1
theorem dX9_draws_59 : decode cX9_draws 59 = .ok (.istore 6, 2) := adX9_draws_56.2.1
theorem dX9_draws_61 : decode cX9_draws 61 = .ok (.aload_n 0, 1) := adX9_draws_56.2.2.1
theorem dX9_draws_62 : decode cX9_draws 62 = .ok (.bipush 12, 2) := adX9_draws_56.2.2.2.1
theorem dX9_draws_64 : decode cX9_draws 64 = .ok (.invokevirtual 337, 3) := adX9_draws_56.2.2.2.2.1
theorem dX9_draws_67 : decode cX9_draws 67 = .ok (.iconst 1, 1) := adX9_draws_56.2.2.2.2.2.1
theorem dX9_draws_68 : decode cX9_draws 68 = .ok (.iadd, 1) := adX9_draws_56.2.2.2.2.2.2.1
theorem dX9_draws_69 : decode cX9_draws 69 = .ok (.istore 7, 2) := adX9_draws_56.2.2.2.2.2.2.2
theorem adX9_draws_71 : (decode cX9_draws 71 = .ok (.aload_n 0, 1)) ∧ (decode cX9_draws 72 = .ok (.iload 4, 2)) ∧ (decode cX9_draws 74 = .ok (.invokevirtual 337, 3)) ∧ (decode cX9_draws 77 = .ok (.istore 8, 2)) ∧ (decode cX9_draws 79 = .ok (.iconst 0, 1)) ∧ (decode cX9_draws 80 = .ok (.istore 9, 2)) ∧ (decode cX9_draws 82 = .ok (.aload_n 0, 1)) ∧ (decode cX9_draws 83 = .ok (.getfield 46, 3)) := by decide +kernel
theorem dX9_draws_71 : decode cX9_draws 71 = .ok (.aload_n 0, 1) := adX9_draws_71.1
theorem dX9_draws_72 : decode cX9_draws 72 = .ok (.iload 4, 2) := adX9_draws_71.2.1
theorem dX9_draws_74 : decode cX9_draws 74 = .ok (.invokevirtual 337, 3) := adX9_draws_71.2.2.1
theorem dX9_draws_77 : decode cX9_draws 77 = .ok (.istore 8, 2) := adX9_draws_71.2.2.2.1
theorem dX9_draws_79 : decode cX9_draws 79 = .ok (.iconst 0, 1) := adX9_draws_71.2.2.2.2.1
theorem dX9_draws_80 : decode cX9_draws 80 = .ok (.istore 9, 2) := adX9_draws_71.2.2.2.2.2.1
theorem dX9_draws_82 : decode cX9_draws 82 = .ok (.aload_n 0, 1) := adX9_draws_71.2.2.2.2.2.2.1
theorem dX9_draws_83 : decode cX9_draws 83 = .ok (.getfield 46, 3) := adX9_draws_71.2.2.2.2.2.2.2
theorem adX9_draws_86 : (decode cX9_draws 86 = .ok (.iconst 0, 1)) ∧ (decode cX9_draws 87 = .ok (.iaload, 1)) ∧ (decode cX9_draws 88 = .ok (.istore 10, 2)) ∧ (decode cX9_draws 90 = .ok (.iload 10, 2)) ∧ (decode cX9_draws 92 = .ok (.iload 8, 2)) ∧ (decode cX9_draws 94 = .ok (.if_icmp .gt 21, 3)) ∧ (decode cX9_draws 97 = .ok (.iinc 9 1, 3)) ∧ (decode cX9_draws 100 = .ok (.iload 10, 2)) := by decide +kernel
theorem dX9_draws_86 : decode cX9_draws 86 = .ok (.iconst 0, 1) := adX9_draws_86.1
theorem dX9_draws_87 : decode cX9_draws 87 = .ok (.iaload, 1) := adX9_draws_86.2.1
theorem dX9_draws_88 : decode cX9_draws 88 = .ok (.istore 10, 2) := adX9_draws_86.2.2.1
theorem dX9_draws_90 : decode cX9_draws 90 = .ok (.iload 10, 2) := adX9_draws_86.2.2.2.1
theorem dX9_draws_92 : decode cX9_draws 92 = .ok (.iload 8, 2) := adX9_draws_86.2.2.2.2.1
theorem dX9_draws_94 : decode cX9_draws 94 = .ok (.if_icmp .gt 21, 3) := adX9_draws_86.2.2.2.2.2.1
theorem dX9_draws_97 : decode cX9_draws 97 = .ok (.iinc 9 1, 3) := adX9_draws_86.2.2.2.2.2.2.1
theorem dX9_draws_100 : decode cX9_draws 100 = .ok (.iload 10, 2) := adX9_draws_86.2.2.2.2.2.2.2
theorem adX9_draws_102 : (decode cX9_draws 102 = .ok (.aload_n 0, 1)) ∧ (decode cX9_draws 103 = .ok (.getfield 46, 3)) ∧ (decode cX9_draws 106 = .ok (.iload 9, 2)) ∧ (decode cX9_draws 108 = .ok (.iaload, 1)) ∧ (decode cX9_draws 109 = .ok (.iadd, 1)) ∧ (decode cX9_draws 110 = .ok (.istore 10, 2)) ∧ (decode cX9_draws 112 = .ok (.goto (-22), 3)) ∧ (decode cX9_draws 115 = .ok (.aload_n 0, 1)) := by decide +kernel
theorem dX9_draws_102 : decode cX9_draws 102 = .ok (.aload_n 0, 1) := adX9_draws_102.1
theorem dX9_draws_103 : decode cX9_draws 103 = .ok (.getfield 46, 3) := adX9_draws_102.2.1
theorem dX9_draws_106 : decode cX9_draws 106 = .ok (.iload 9, 2) := adX9_draws_102.2.2.1
theorem dX9_draws_108 : decode cX9_draws 108 = .ok (.iaload, 1) := adX9_draws_102.2.2.2.1
theorem dX9_draws_109 : decode cX9_draws 109 = .ok (.iadd, 1) := adX9_draws_102.2.2.2.2.1
theorem dX9_draws_110 : decode cX9_draws 110 = .ok (.istore 10, 2) := adX9_draws_102.2.2.2.2.2.1
theorem dX9_draws_112 : decode cX9_draws 112 = .ok (.goto (-22), 3) := adX9_draws_102.2.2.2.2.2.2.1
theorem dX9_draws_115 : decode cX9_draws 115 = .ok (.aload_n 0, 1) := adX9_draws_102.2.2.2.2.2.2.2
theorem adX9_draws_116 : (decode cX9_draws 116 = .ok (.getfield 92, 3)) ∧ (decode cX9_draws 119 = .ok (.iload 5, 2)) ∧ (decode cX9_draws 121 = .ok (.iload 6, 2)) ∧ (decode cX9_draws 123 = .ok (.iastore, 1)) ∧ (decode cX9_draws 124 = .ok (.aload_n 0, 1)) ∧ (decode cX9_draws 125 = .ok (.getfield 95, 3)) ∧ (decode cX9_draws 128 = .ok (.iload 5, 2)) ∧ (decode cX9_draws 130 = .ok (.iload 7, 2)) := by decide +kernel
theorem dX9_draws_116 : decode cX9_draws 116 = .ok (.getfield 92, 3) := adX9_draws_116.1
theorem dX9_draws_119 : decode cX9_draws 119 = .ok (.iload 5, 2) := adX9_draws_116.2.1
theorem dX9_draws_121 : decode cX9_draws 121 = .ok (.iload 6, 2) := adX9_draws_116.2.2.1
theorem dX9_draws_123 : decode cX9_draws 123 = .ok (.iastore, 1) := adX9_draws_116.2.2.2.1
theorem dX9_draws_124 : decode cX9_draws 124 = .ok (.aload_n 0, 1) := adX9_draws_116.2.2.2.2.1
theorem dX9_draws_125 : decode cX9_draws 125 = .ok (.getfield 95, 3) := adX9_draws_116.2.2.2.2.2.1
theorem dX9_draws_128 : decode cX9_draws 128 = .ok (.iload 5, 2) := adX9_draws_116.2.2.2.2.2.2.1
theorem dX9_draws_130 : decode cX9_draws 130 = .ok (.iload 7, 2) := adX9_draws_116.2.2.2.2.2.2.2
theorem adX9_draws_132 : (decode cX9_draws 132 = .ok (.iastore, 1)) ∧ (decode cX9_draws 133 = .ok (.aload_n 0, 1)) ∧ (decode cX9_draws 134 = .ok (.getfield 107, 3)) ∧ (decode cX9_draws 137 = .ok (.iload 5, 2)) ∧ (decode cX9_draws 139 = .ok (.aload_n 0, 1)) ∧ (decode cX9_draws 140 = .ok (.getfield 52, 3)) ∧ (decode cX9_draws 143 = .ok (.iload 9, 2)) ∧ (decode cX9_draws 145 = .ok (.iaload, 1)) := by decide +kernel
theorem dX9_draws_132 : decode cX9_draws 132 = .ok (.iastore, 1) := adX9_draws_132.1
theorem dX9_draws_133 : decode cX9_draws 133 = .ok (.aload_n 0, 1) := adX9_draws_132.2.1
theorem dX9_draws_134 : decode cX9_draws 134 = .ok (.getfield 107, 3) := adX9_draws_132.2.2.1
theorem dX9_draws_137 : decode cX9_draws 137 = .ok (.iload 5, 2) := adX9_draws_132.2.2.2.1
theorem dX9_draws_139 : decode cX9_draws 139 = .ok (.aload_n 0, 1) := adX9_draws_132.2.2.2.2.1
theorem dX9_draws_140 : decode cX9_draws 140 = .ok (.getfield 52, 3) := adX9_draws_132.2.2.2.2.2.1
theorem dX9_draws_143 : decode cX9_draws 143 = .ok (.iload 9, 2) := adX9_draws_132.2.2.2.2.2.2.1
theorem dX9_draws_145 : decode cX9_draws 145 = .ok (.iaload, 1) := adX9_draws_132.2.2.2.2.2.2.2
theorem adX9_draws_146 : (decode cX9_draws 146 = .ok (.aload_n 0, 1)) ∧ (decode cX9_draws 147 = .ok (.aload_n 0, 1)) ∧ (decode cX9_draws 148 = .ok (.getfield 55, 3)) ∧ (decode cX9_draws 151 = .ok (.iload 9, 2)) ∧ (decode cX9_draws 153 = .ok (.iaload, 1)) ∧ (decode cX9_draws 154 = .ok (.iconst 1, 1)) ∧ (decode cX9_draws 155 = .ok (.iadd, 1)) ∧ (decode cX9_draws 156 = .ok (.invokevirtual 337, 3)) := by decide +kernel
theorem dX9_draws_146 : decode cX9_draws 146 = .ok (.aload_n 0, 1) := adX9_draws_146.1
theorem dX9_draws_147 : decode cX9_draws 147 = .ok (.aload_n 0, 1) := adX9_draws_146.2.1
theorem dX9_draws_148 : decode cX9_draws 148 = .ok (.getfield 55, 3) := adX9_draws_146.2.2.1
theorem dX9_draws_151 : decode cX9_draws 151 = .ok (.iload 9, 2) := adX9_draws_146.2.2.2.1
theorem dX9_draws_153 : decode cX9_draws 153 = .ok (.iaload, 1) := adX9_draws_146.2.2.2.2.1
theorem dX9_draws_154 : decode cX9_draws 154 = .ok (.iconst 1, 1) := adX9_draws_146.2.2.2.2.2.1
theorem dX9_draws_155 : decode cX9_draws 155 = .ok (.iadd, 1) := adX9_draws_146.2.2.2.2.2.2.1
theorem dX9_draws_156 : decode cX9_draws 156 = .ok (.invokevirtual 337, 3) := adX9_draws_146.2.2.2.2.2.2.2
theorem adX9_draws_159 : (decode cX9_draws 159 = .ok (.iadd, 1)) ∧ (decode cX9_draws 160 = .ok (.iastore, 1)) ∧ (decode cX9_draws 161 = .ok (.aload_n 0, 1)) ∧ (decode cX9_draws 162 = .ok (.getfield 104, 3)) ∧ (decode cX9_draws 165 = .ok (.iload 5, 2)) ∧ (decode cX9_draws 167 = .ok (.aload_n 0, 1)) ∧ (decode cX9_draws 168 = .ok (.getfield 49, 3)) ∧ (decode cX9_draws 171 = .ok (.iload 9, 2)) := by decide +kernel
theorem dX9_draws_159 : decode cX9_draws 159 = .ok (.iadd, 1) := adX9_draws_159.1
theorem dX9_draws_160 : decode cX9_draws 160 = .ok (.iastore, 1) := adX9_draws_159.2.1
theorem dX9_draws_161 : decode cX9_draws 161 = .ok (.aload_n 0, 1) := adX9_draws_159.2.2.1
theorem dX9_draws_162 : decode cX9_draws 162 = .ok (.getfield 104, 3) := adX9_draws_159.2.2.2.1
theorem dX9_draws_165 : decode cX9_draws 165 = .ok (.iload 5, 2) := adX9_draws_159.2.2.2.2.1
theorem dX9_draws_167 : decode cX9_draws 167 = .ok (.aload_n 0, 1) := adX9_draws_159.2.2.2.2.2.1
theorem dX9_draws_168 : decode cX9_draws 168 = .ok (.getfield 49, 3) := adX9_draws_159.2.2.2.2.2.2.1
theorem dX9_draws_171 : decode cX9_draws 171 = .ok (.iload 9, 2) := adX9_draws_159.2.2.2.2.2.2.2
theorem adX9_draws_173 : (decode cX9_draws 173 = .ok (.iaload, 1)) ∧ (decode cX9_draws 174 = .ok (.aload_n 0, 1)) ∧ (decode cX9_draws 175 = .ok (.getfield 62, 3)) ∧ (decode cX9_draws 178 = .ok (.iload 7, 2)) ∧ (decode cX9_draws 180 = .ok (.iconst 1, 1)) ∧ (decode cX9_draws 181 = .ok (.isub, 1)) ∧ (decode cX9_draws 182 = .ok (.iaload, 1)) ∧ (decode cX9_draws 183 = .ok (.iadd, 1)) := by decide +kernel
theorem dX9_draws_173 : decode cX9_draws 173 = .ok (.iaload, 1) := adX9_draws_173.1
theorem dX9_draws_174 : decode cX9_draws 174 = .ok (.aload_n 0, 1) := adX9_draws_173.2.1
theorem dX9_draws_175 : decode cX9_draws 175 = .ok (.getfield 62, 3) := adX9_draws_173.2.2.1
theorem dX9_draws_178 : decode cX9_draws 178 = .ok (.iload 7, 2) := adX9_draws_173.2.2.2.1
theorem dX9_draws_180 : decode cX9_draws 180 = .ok (.iconst 1, 1) := adX9_draws_173.2.2.2.2.1
theorem dX9_draws_181 : decode cX9_draws 181 = .ok (.isub, 1) := adX9_draws_173.2.2.2.2.2.1
theorem dX9_draws_182 : decode cX9_draws 182 = .ok (.iaload, 1) := adX9_draws_173.2.2.2.2.2.2.1
theorem dX9_draws_183 : decode cX9_draws 183 = .ok (.iadd, 1) := adX9_draws_173.2.2.2.2.2.2.2
theorem adX9_draws_184 : (decode cX9_draws 184 = .ok (.iastore, 1)) ∧ (decode cX9_draws 185 = .ok (.aload_n 0, 1)) ∧ (decode cX9_draws 186 = .ok (.getfield 98, 3)) ∧ (decode cX9_draws 189 = .ok (.iload 5, 2)) ∧ (decode cX9_draws 191 = .ok (.aload_n 0, 1)) ∧ (decode cX9_draws 192 = .ok (.iload 6, 2)) ∧ (decode cX9_draws 194 = .ok (.iload 7, 2)) ∧ (decode cX9_draws 196 = .ok (.aload_n 0, 1)) := by decide +kernel
theorem dX9_draws_184 : decode cX9_draws 184 = .ok (.iastore, 1) := adX9_draws_184.1
theorem dX9_draws_185 : decode cX9_draws 185 = .ok (.aload_n 0, 1) := adX9_draws_184.2.1
theorem dX9_draws_186 : decode cX9_draws 186 = .ok (.getfield 98, 3) := adX9_draws_184.2.2.1
theorem dX9_draws_189 : decode cX9_draws 189 = .ok (.iload 5, 2) := adX9_draws_184.2.2.2.1
theorem dX9_draws_191 : decode cX9_draws 191 = .ok (.aload_n 0, 1) := adX9_draws_184.2.2.2.2.1
theorem dX9_draws_192 : decode cX9_draws 192 = .ok (.iload 6, 2) := adX9_draws_184.2.2.2.2.2.1
theorem dX9_draws_194 : decode cX9_draws 194 = .ok (.iload 7, 2) := adX9_draws_184.2.2.2.2.2.2.1
theorem dX9_draws_196 : decode cX9_draws 196 = .ok (.aload_n 0, 1) := adX9_draws_184.2.2.2.2.2.2.2
theorem adX9_draws_197 : (decode cX9_draws 197 = .ok (.getfield 107, 3)) ∧ (decode cX9_draws 200 = .ok (.iload 5, 2)) ∧ (decode cX9_draws 202 = .ok (.iaload, 1)) ∧ (decode cX9_draws 203 = .ok (.invokevirtual 341, 3)) ∧ (decode cX9_draws 206 = .ok (.iastore, 1)) ∧ (decode cX9_draws 207 = .ok (.aload_n 0, 1)) ∧ (decode cX9_draws 208 = .ok (.getfield 101, 3)) ∧ (decode cX9_draws 211 = .ok (.iload 5, 2)) := by decide +kernel
theorem dX9_draws_197 : decode cX9_draws 197 = .ok (.getfield 107, 3) := adX9_draws_197.1
theorem dX9_draws_200 : decode cX9_draws 200 = .ok (.iload 5, 2) := adX9_draws_197.2.1
theorem dX9_draws_202 : decode cX9_draws 202 = .ok (.iaload, 1) := adX9_draws_197.2.2.1
theorem dX9_draws_203 : decode cX9_draws 203 = .ok (.invokevirtual 341, 3) := adX9_draws_197.2.2.2.1
theorem dX9_draws_206 : decode cX9_draws 206 = .ok (.iastore, 1) := adX9_draws_197.2.2.2.2.1
theorem dX9_draws_207 : decode cX9_draws 207 = .ok (.aload_n 0, 1) := adX9_draws_197.2.2.2.2.2.1
theorem dX9_draws_208 : decode cX9_draws 208 = .ok (.getfield 101, 3) := adX9_draws_197.2.2.2.2.2.2.1
theorem dX9_draws_211 : decode cX9_draws 211 = .ok (.iload 5, 2) := adX9_draws_197.2.2.2.2.2.2.2
theorem adX9_draws_213 : (decode cX9_draws 213 = .ok (.aload_n 0, 1)) ∧ (decode cX9_draws 214 = .ok (.aload_n 0, 1)) ∧ (decode cX9_draws 215 = .ok (.getfield 98, 3)) ∧ (decode cX9_draws 218 = .ok (.iload 5, 2)) ∧ (decode cX9_draws 220 = .ok (.iaload, 1)) ∧ (decode cX9_draws 221 = .ok (.aload_n 0, 1)) ∧ (decode cX9_draws 222 = .ok (.getfield 104, 3)) ∧ (decode cX9_draws 225 = .ok (.iload 5, 2)) := by decide +kernel
theorem dX9_draws_213 : decode cX9_draws 213 = .ok (.aload_n 0, 1) := adX9_draws_213.1
theorem dX9_draws_214 : decode cX9_draws 214 = .ok (.aload_n 0, 1) := adX9_draws_213.2.1
theorem dX9_draws_215 : decode cX9_draws 215 = .ok (.getfield 98, 3) := adX9_draws_213.2.2.1
theorem dX9_draws_218 : decode cX9_draws 218 = .ok (.iload 5, 2) := adX9_draws_213.2.2.2.1
theorem dX9_draws_220 : decode cX9_draws 220 = .ok (.iaload, 1) := adX9_draws_213.2.2.2.2.1
theorem dX9_draws_221 : decode cX9_draws 221 = .ok (.aload_n 0, 1) := adX9_draws_213.2.2.2.2.2.1
theorem dX9_draws_222 : decode cX9_draws 222 = .ok (.getfield 104, 3) := adX9_draws_213.2.2.2.2.2.2.1
theorem dX9_draws_225 : decode cX9_draws 225 = .ok (.iload 5, 2) := adX9_draws_213.2.2.2.2.2.2.2
theorem adX9_draws_227 : (decode cX9_draws 227 = .ok (.iaload, 1)) ∧ (decode cX9_draws 228 = .ok (.iload 7, 2)) ∧ (decode cX9_draws 230 = .ok (.iload 6, 2)) ∧ (decode cX9_draws 232 = .ok (.invokevirtual 319, 3)) ∧ (decode cX9_draws 235 = .ok (.i2l, 1)) ∧ (decode cX9_draws 236 = .ok (.aload_n 0, 1)) ∧ (decode cX9_draws 237 = .ok (.iconst 2, 1)) ∧ (decode cX9_draws 238 = .ok (.aload_n 0, 1)) := by decide +kernel
theorem dX9_draws_227 : decode cX9_draws 227 = .ok (.iaload, 1) := adX9_draws_227.1
theorem dX9_draws_228 : decode cX9_draws 228 = .ok (.iload 7, 2) := adX9_draws_227.2.1
theorem dX9_draws_230 : decode cX9_draws 230 = .ok (.iload 6, 2) := adX9_draws_227.2.2.1
theorem dX9_draws_232 : decode cX9_draws 232 = .ok (.invokevirtual 319, 3) := adX9_draws_227.2.2.2.1
theorem dX9_draws_235 : decode cX9_draws 235 = .ok (.i2l, 1) := adX9_draws_227.2.2.2.2.1
theorem dX9_draws_236 : decode cX9_draws 236 = .ok (.aload_n 0, 1) := adX9_draws_227.2.2.2.2.2.1
theorem dX9_draws_237 : decode cX9_draws 237 = .ok (.iconst 2, 1) := adX9_draws_227.2.2.2.2.2.2.1
theorem dX9_draws_238 : decode cX9_draws 238 = .ok (.aload_n 0, 1) := adX9_draws_227.2.2.2.2.2.2.2
theorem adX9_draws_239 : (decode cX9_draws 239 = .ok (.getfield 71, 3)) ∧ (decode cX9_draws 242 = .ok (.iconst 0, 1)) ∧ (decode cX9_draws 243 = .ok (.iaload, 1)) ∧ (decode cX9_draws 244 = .ok (.imul, 1)) ∧ (decode cX9_draws 245 = .ok (.iconst 1, 1)) ∧ (decode cX9_draws 246 = .ok (.iadd, 1)) ∧ (decode cX9_draws 247 = .ok (.invokevirtual 337, 3)) ∧ (decode cX9_draws 250 = .ok (.i2l, 1)) := by decide +kernel
theorem dX9_draws_239 : decode cX9_draws 239 = .ok (.getfield 71, 3) := adX9_draws_239.1
theorem dX9_draws_242 : decode cX9_draws 242 = .ok (.iconst 0, 1) := adX9_draws_239.2.1
theorem dX9_draws_243 : decode cX9_draws 243 = .ok (.iaload, 1) := adX9_draws_239.2.2.1
theorem dX9_draws_244 : decode cX9_draws 244 = .ok (.imul, 1) := adX9_draws_239.2.2.2.1
theorem dX9_draws_245 : decode cX9_draws 245 = .ok (.iconst 1, 1) := adX9_draws_239.2.2.2.2.1
theorem dX9_draws_246 : decode cX9_draws 246 = .ok (.iadd, 1) := adX9_draws_239.2.2.2.2.2.1
theorem dX9_draws_247 : decode cX9_draws 247 = .ok (.invokevirtual 337, 3) := adX9_draws_239.2.2.2.2.2.2.1
theorem dX9_draws_250 : decode cX9_draws 250 = .ok (.i2l, 1) := adX9_draws_239.2.2.2.2.2.2.2
theorem adX9_draws_251 : (decode cX9_draws 251 = .ok (.ladd, 1)) ∧ (decode cX9_draws 252 = .ok (.aload_n 0, 1)) ∧ (decode cX9_draws 253 = .ok (.getfield 71, 3)) ∧ (decode cX9_draws 256 = .ok (.iconst 0, 1)) ∧ (decode cX9_draws 257 = .ok (.iaload, 1)) ∧ (decode cX9_draws 258 = .ok (.i2l, 1)) ∧ (decode cX9_draws 259 = .ok (.lsub, 1)) ∧ (decode cX9_draws 260 = .ok (.invokestatic 309, 3)) := by decide +kernel
theorem dX9_draws_251 : decode cX9_draws 251 = .ok (.ladd, 1) := adX9_draws_251.1
theorem dX9_draws_252 : decode cX9_draws 252 = .ok (.aload_n 0, 1) := adX9_draws_251.2.1
theorem dX9_draws_253 : decode cX9_draws 253 = .ok (.getfield 71, 3) := adX9_draws_251.2.2.1
theorem dX9_draws_256 : decode cX9_draws 256 = .ok (.iconst 0, 1) := adX9_draws_251.2.2.2.1
theorem dX9_draws_257 : decode cX9_draws 257 = .ok (.iaload, 1) := adX9_draws_251.2.2.2.2.1
theorem dX9_draws_258 : decode cX9_draws 258 = .ok (.i2l, 1) := adX9_draws_251.2.2.2.2.2.1
theorem dX9_draws_259 : decode cX9_draws 259 = .ok (.lsub, 1) := adX9_draws_251.2.2.2.2.2.2.1
theorem dX9_draws_260 : decode cX9_draws 260 = .ok (.invokestatic 309, 3) := adX9_draws_251.2.2.2.2.2.2.2
theorem adX9_draws_263 : (decode cX9_draws 263 = .ok (.iastore, 1)) ∧ (decode cX9_draws 264 = .ok (.iinc 5 1, 3)) ∧ (decode cX9_draws 267 = .ok (.goto (-224), 3)) ∧ (decode cX9_draws 270 = .ok (.aload_n 0, 1)) ∧ (decode cX9_draws 271 = .ok (.getfield 89, 3)) ∧ (decode cX9_draws 274 = .ok (.iconst 0, 1)) ∧ (decode cX9_draws 275 = .ok (.iload_n 3, 1)) ∧ (decode cX9_draws 276 = .ok (.iastore, 1)) := by decide +kernel
theorem dX9_draws_263 : decode cX9_draws 263 = .ok (.iastore, 1) := adX9_draws_263.1
theorem dX9_draws_264 : decode cX9_draws 264 = .ok (.iinc 5 1, 3) := adX9_draws_263.2.1
theorem dX9_draws_267 : decode cX9_draws 267 = .ok (.goto (-224), 3) := adX9_draws_263.2.2.1
theorem dX9_draws_270 : decode cX9_draws 270 = .ok (.aload_n 0, 1) := adX9_draws_263.2.2.2.1
theorem dX9_draws_271 : decode cX9_draws 271 = .ok (.getfield 89, 3) := adX9_draws_263.2.2.2.2.1
theorem dX9_draws_274 : decode cX9_draws 274 = .ok (.iconst 0, 1) := adX9_draws_263.2.2.2.2.2.1
theorem dX9_draws_275 : decode cX9_draws 275 = .ok (.iload_n 3, 1) := adX9_draws_263.2.2.2.2.2.2.1
theorem dX9_draws_276 : decode cX9_draws 276 = .ok (.iastore, 1) := adX9_draws_263.2.2.2.2.2.2.2
theorem dX9_draws_277 : decode cX9_draws 277 = .ok (.return_, 1) := by decide +kernel
set_option maxRecDepth 20000 in
theorem ggX9_isSeed_X9_in : GoodIn wsX9_isSeed wsX9_in := goodIn_r _ [5] (by decide +kernel) (by decide +kernel)
set_option maxRecDepth 20000 in
theorem gX9_isSeed_X9_in : GoodIn wsX9_isSeed (va_wsS RX9 130 yX9_in wsX9_in) := goodIn_app (goodIn_of _ (by decide +kernel)) ggX9_isSeed_X9_in
theorem adX9_isSeed_0 : (decode cX9_isSeed 0 = .ok (.iload_n 0, 1)) ∧ (decode cX9_isSeed 1 = .ok (.i2l, 1)) ∧ (decode cX9_isSeed 2 = .ok (.lconst 0, 1)) ∧ (decode cX9_isSeed 3 = .ok (.ldc2_w 345, 3)) ∧ (decode cX9_isSeed 6 = .ok (.invokestatic 130, 3)) ∧ (decode cX9_isSeed 9 = .ok (.ireturn, 1)) := by decide +kernel
theorem dX9_isSeed_0 : decode cX9_isSeed 0 = .ok (.iload_n 0, 1) := adX9_isSeed_0.1
theorem dX9_isSeed_1 : decode cX9_isSeed 1 = .ok (.i2l, 1) := adX9_isSeed_0.2.1
theorem dX9_isSeed_2 : decode cX9_isSeed 2 = .ok (.lconst 0, 1) := adX9_isSeed_0.2.2.1
theorem dX9_isSeed_3 : decode cX9_isSeed 3 = .ok (.ldc2_w 345, 3) := adX9_isSeed_0.2.2.2.1
theorem dX9_isSeed_6 : decode cX9_isSeed 6 = .ok (.invokestatic 130, 3) := adX9_isSeed_0.2.2.2.2.1
theorem dX9_isSeed_9 : decode cX9_isSeed 9 = .ok (.ireturn, 1) := adX9_isSeed_0.2.2.2.2.2
set_option maxRecDepth 20000 in
theorem ggX9_draw_X9_isSeed : GoodIn wsX9_draw wsX9_isSeed := goodIn_r _ [8, 9, 10, 11, 7, 12] (by decide +kernel) (by decide +kernel)
set_option maxRecDepth 20000 in
theorem gX9_draw_X9_isSeed : GoodIn wsX9_draw (va_wsS RX9 347 yX9_isSeed wsX9_isSeed) := goodIn_app (goodIn_of _ (by decide +kernel)) ggX9_draw_X9_isSeed
set_option maxRecDepth 20000 in
theorem ggX9_draw_X9_in : GoodIn wsX9_draw wsX9_in := goodIn_r _ [12] (by decide +kernel) (by decide +kernel)
set_option maxRecDepth 20000 in
theorem gX9_draw_X9_in : GoodIn wsX9_draw (va_wsS RX9 130 yX9_in wsX9_in) := goodIn_app (goodIn_of _ (by decide +kernel)) ggX9_draw_X9_in
set_option maxRecDepth 20000 in
theorem ggX9_draw_X9_draws : GoodIn wsX9_draw wsX9_draws := goodIn_r _ [16, 17, 4, 18, 3, 19, 20, 21, 22, 23, 24, 25, 26, 27, 28, 29, 30, 31, 32, 33, 7, 34, 35, 36, 37, 38, 39, 40, 41, 42, 43, 44, 45, 46, 47, 48, 49, 50, 51, 52, 53, 54, 55, 56, 57, 58, 59, 60, 61, 62, 63, 64, 65, 66, 67, 68, 69, 70, 71, 72, 73, 74, 75, 76, 77, 78, 79, 80, 81, 82, 83, 84, 85, 86, 87, 88, 89, 90, 91, 92, 93, 94, 95, 96, 97, 98, 99, 100, 101, 102, 103, 104, 105, 106, 107, 108, 109, 110, 111, 112, 113, 114, 115, 116, 117, 118, 119, 120, 121, 122, 123, 124, 125, 126] (by decide +kernel) (by decide +kernel)
set_option maxRecDepth 20000 in
theorem gX9_draw_X9_draws : GoodIn wsX9_draw (wsV RX9 352 RX9 yX9_draws wsX9_draws) := goodIn_app (goodIn_of _ (by decide +kernel)) ggX9_draw_X9_draws
theorem adX9_draw_0 : (decode cX9_draw 0 = .ok (.aload_n 0, 1)) ∧ (decode cX9_draw 1 = .ok (.iconst 0, 1)) ∧ (decode cX9_draw 2 = .ok (.putfield 125, 3)) ∧ (decode cX9_draw 5 = .ok (.iload_n 1, 1)) ∧ (decode cX9_draw 6 = .ok (.invokestatic 347, 3)) ∧ (decode cX9_draw 9 = .ok (.ifCond .eq 15, 3)) ∧ (decode cX9_draw 12 = .ok (.iload_n 2, 1)) ∧ (decode cX9_draw 13 = .ok (.i2l, 1)) := by decide +kernel
theorem dX9_draw_0 : decode cX9_draw 0 = .ok (.aload_n 0, 1) := adX9_draw_0.1
theorem dX9_draw_1 : decode cX9_draw 1 = .ok (.iconst 0, 1) := adX9_draw_0.2.1
theorem dX9_draw_2 : decode cX9_draw 2 = .ok (.putfield 125, 3) := adX9_draw_0.2.2.1
theorem dX9_draw_5 : decode cX9_draw 5 = .ok (.iload_n 1, 1) := adX9_draw_0.2.2.2.1
theorem dX9_draw_6 : decode cX9_draw 6 = .ok (.invokestatic 347, 3) := adX9_draw_0.2.2.2.2.1
theorem dX9_draw_9 : decode cX9_draw 9 = .ok (.ifCond .eq 15, 3) := adX9_draw_0.2.2.2.2.2.1
theorem dX9_draw_12 : decode cX9_draw 12 = .ok (.iload_n 2, 1) := adX9_draw_0.2.2.2.2.2.2.1
theorem dX9_draw_13 : decode cX9_draw 13 = .ok (.i2l, 1) := adX9_draw_0.2.2.2.2.2.2.2
theorem adX9_draw_14 : (decode cX9_draw 14 = .ok (.lconst 1, 1)) ∧ (decode cX9_draw 15 = .ok (.ldc2_w 350, 3)) ∧ (decode cX9_draw 18 = .ok (.invokestatic 130, 3)) ∧ (decode cX9_draw 21 = .ok (.ifCond .ne 6, 3)) ∧ (decode cX9_draw 24 = .ok (.bipush (-2), 2)) ∧ (decode cX9_draw 26 = .ok (.ireturn, 1)) ∧ (decode cX9_draw 27 = .ok (.aload_n 0, 1)) ∧ (decode cX9_draw 28 = .ok (.getfield 34, 3)) := by decide +kernel
theorem dX9_draw_14 : decode cX9_draw 14 = .ok (.lconst 1, 1) := adX9_draw_14.1
theorem dX9_draw_15 : decode cX9_draw 15 = .ok (.ldc2_w 350, 3) := adX9_draw_14.2.1
theorem dX9_draw_18 : decode cX9_draw 18 = .ok (.invokestatic 130, 3) := adX9_draw_14.2.2.1
theorem dX9_draw_21 : decode cX9_draw 21 = .ok (.ifCond .ne 6, 3) := adX9_draw_14.2.2.2.1
theorem dX9_draw_24 : decode cX9_draw 24 = .ok (.bipush (-2), 2) := adX9_draw_14.2.2.2.2.1
theorem dX9_draw_26 : decode cX9_draw 26 = .ok (.ireturn, 1) := adX9_draw_14.2.2.2.2.2.1
theorem dX9_draw_27 : decode cX9_draw 27 = .ok (.aload_n 0, 1) := adX9_draw_14.2.2.2.2.2.2.1
theorem dX9_draw_28 : decode cX9_draw 28 = .ok (.getfield 34, 3) := adX9_draw_14.2.2.2.2.2.2.2
theorem adX9_draw_31 : (decode cX9_draw 31 = .ok (.iconst 0, 1)) ∧ (decode cX9_draw 32 = .ok (.iaload, 1)) ∧ (decode cX9_draw 33 = .ok (.ifCond .eq 12, 3)) ∧ (decode cX9_draw 36 = .ok (.aload_n 0, 1)) ∧ (decode cX9_draw 37 = .ok (.getfield 43, 3)) ∧ (decode cX9_draw 40 = .ok (.iconst 0, 1)) ∧ (decode cX9_draw 41 = .ok (.iaload, 1)) ∧ (decode cX9_draw 42 = .ok (.ifCond .ne 6, 3)) := by decide +kernel
theorem dX9_draw_31 : decode cX9_draw 31 = .ok (.iconst 0, 1) := adX9_draw_31.1
theorem dX9_draw_32 : decode cX9_draw 32 = .ok (.iaload, 1) := adX9_draw_31.2.1
theorem dX9_draw_33 : decode cX9_draw 33 = .ok (.ifCond .eq 12, 3) := adX9_draw_31.2.2.1
theorem dX9_draw_36 : decode cX9_draw 36 = .ok (.aload_n 0, 1) := adX9_draw_31.2.2.2.1
theorem dX9_draw_37 : decode cX9_draw 37 = .ok (.getfield 43, 3) := adX9_draw_31.2.2.2.2.1
theorem dX9_draw_40 : decode cX9_draw 40 = .ok (.iconst 0, 1) := adX9_draw_31.2.2.2.2.2.1
theorem dX9_draw_41 : decode cX9_draw 41 = .ok (.iaload, 1) := adX9_draw_31.2.2.2.2.2.2.1
theorem dX9_draw_42 : decode cX9_draw 42 = .ok (.ifCond .ne 6, 3) := adX9_draw_31.2.2.2.2.2.2.2
theorem adX9_draw_45 : (decode cX9_draw 45 = .ok (.bipush (-6), 2)) ∧ (decode cX9_draw 47 = .ok (.ireturn, 1)) ∧ (decode cX9_draw 48 = .ok (.aload_n 0, 1)) ∧ (decode cX9_draw 49 = .ok (.iload_n 1, 1)) ∧ (decode cX9_draw 50 = .ok (.i2l, 1)) ∧ (decode cX9_draw 51 = .ok (.iload_n 2, 1)) ∧ (decode cX9_draw 52 = .ok (.invokevirtual 352, 3)) ∧ (decode cX9_draw 55 = .ok (.iload_n 2, 1)) := by decide +kernel
theorem dX9_draw_45 : decode cX9_draw 45 = .ok (.bipush (-6), 2) := adX9_draw_45.1
theorem dX9_draw_47 : decode cX9_draw 47 = .ok (.ireturn, 1) := adX9_draw_45.2.1
theorem dX9_draw_48 : decode cX9_draw 48 = .ok (.aload_n 0, 1) := adX9_draw_45.2.2.1
theorem dX9_draw_49 : decode cX9_draw 49 = .ok (.iload_n 1, 1) := adX9_draw_45.2.2.2.1
theorem dX9_draw_50 : decode cX9_draw 50 = .ok (.i2l, 1) := adX9_draw_45.2.2.2.2.1
theorem dX9_draw_51 : decode cX9_draw 51 = .ok (.iload_n 2, 1) := adX9_draw_45.2.2.2.2.2.1
theorem dX9_draw_52 : decode cX9_draw 52 = .ok (.invokevirtual 352, 3) := adX9_draw_45.2.2.2.2.2.2.1
theorem dX9_draw_55 : decode cX9_draw 55 = .ok (.iload_n 2, 1) := adX9_draw_45.2.2.2.2.2.2.2
theorem dX9_draw_56 : decode cX9_draw 56 = .ok (.ireturn, 1) := by decide +kernel
set_option maxRecDepth 20000 in
theorem ggX9_tells_X9_in : GoodIn wsX9_tells wsX9_in := goodIn_r _ [15] (by decide +kernel) (by decide +kernel)
set_option maxRecDepth 20000 in
theorem gX9_tells_X9_in : GoodIn wsX9_tells (va_wsS RX9 130 yX9_in wsX9_in) := goodIn_app (goodIn_of _ (by decide +kernel)) ggX9_tells_X9_in
theorem adX9_tells_0 : (decode cX9_tells 0 = .ok (.lload_n 1, 1)) ∧ (decode cX9_tells 1 = .ok (.lconst 0, 1)) ∧ (decode cX9_tells 2 = .ok (.aload_n 0, 1)) ∧ (decode cX9_tells 3 = .ok (.getfield 34, 3)) ∧ (decode cX9_tells 6 = .ok (.iconst 0, 1)) ∧ (decode cX9_tells 7 = .ok (.iaload, 1)) ∧ (decode cX9_tells 8 = .ok (.iconst 1, 1)) ∧ (decode cX9_tells 9 = .ok (.isub, 1)) := by decide +kernel
theorem dX9_tells_0 : decode cX9_tells 0 = .ok (.lload_n 1, 1) := adX9_tells_0.1
theorem dX9_tells_1 : decode cX9_tells 1 = .ok (.lconst 0, 1) := adX9_tells_0.2.1
theorem dX9_tells_2 : decode cX9_tells 2 = .ok (.aload_n 0, 1) := adX9_tells_0.2.2.1
theorem dX9_tells_3 : decode cX9_tells 3 = .ok (.getfield 34, 3) := adX9_tells_0.2.2.2.1
theorem dX9_tells_6 : decode cX9_tells 6 = .ok (.iconst 0, 1) := adX9_tells_0.2.2.2.2.1
theorem dX9_tells_7 : decode cX9_tells 7 = .ok (.iaload, 1) := adX9_tells_0.2.2.2.2.2.1
theorem dX9_tells_8 : decode cX9_tells 8 = .ok (.iconst 1, 1) := adX9_tells_0.2.2.2.2.2.2.1
theorem dX9_tells_9 : decode cX9_tells 9 = .ok (.isub, 1) := adX9_tells_0.2.2.2.2.2.2.2
theorem adX9_tells_10 : (decode cX9_tells 10 = .ok (.i2l, 1)) ∧ (decode cX9_tells 11 = .ok (.invokestatic 130, 3)) ∧ (decode cX9_tells 14 = .ok (.ifCond .eq 38, 3)) ∧ (decode cX9_tells 17 = .ok (.lload_n 3, 1)) ∧ (decode cX9_tells 18 = .ok (.lconst 1, 1)) ∧ (decode cX9_tells 19 = .ok (.ldc2_w 222, 3)) ∧ (decode cX9_tells 22 = .ok (.invokestatic 130, 3)) ∧ (decode cX9_tells 25 = .ok (.ifCond .eq 27, 3)) := by decide +kernel
theorem dX9_tells_10 : decode cX9_tells 10 = .ok (.i2l, 1) := adX9_tells_10.1
theorem dX9_tells_11 : decode cX9_tells 11 = .ok (.invokestatic 130, 3) := adX9_tells_10.2.1
theorem dX9_tells_14 : decode cX9_tells 14 = .ok (.ifCond .eq 38, 3) := adX9_tells_10.2.2.1
theorem dX9_tells_17 : decode cX9_tells 17 = .ok (.lload_n 3, 1) := adX9_tells_10.2.2.2.1
theorem dX9_tells_18 : decode cX9_tells 18 = .ok (.lconst 1, 1) := adX9_tells_10.2.2.2.2.1
theorem dX9_tells_19 : decode cX9_tells 19 = .ok (.ldc2_w 222, 3) := adX9_tells_10.2.2.2.2.2.1
theorem dX9_tells_22 : decode cX9_tells 22 = .ok (.invokestatic 130, 3) := adX9_tells_10.2.2.2.2.2.2.1
theorem dX9_tells_25 : decode cX9_tells 25 = .ok (.ifCond .eq 27, 3) := adX9_tells_10.2.2.2.2.2.2.2
theorem adX9_tells_28 : (decode cX9_tells 28 = .ok (.lload 5, 2)) ∧ (decode cX9_tells 30 = .ok (.lconst 0, 1)) ∧ (decode cX9_tells 31 = .ok (.ldc2_w 315, 3)) ∧ (decode cX9_tells 34 = .ok (.invokestatic 130, 3)) ∧ (decode cX9_tells 37 = .ok (.ifCond .eq 15, 3)) ∧ (decode cX9_tells 40 = .ok (.lload 7, 2)) ∧ (decode cX9_tells 42 = .ok (.lconst 0, 1)) ∧ (decode cX9_tells 43 = .ok (.ldc2_w 313, 3)) := by decide +kernel
theorem dX9_tells_28 : decode cX9_tells 28 = .ok (.lload 5, 2) := adX9_tells_28.1
theorem dX9_tells_30 : decode cX9_tells 30 = .ok (.lconst 0, 1) := adX9_tells_28.2.1
theorem dX9_tells_31 : decode cX9_tells 31 = .ok (.ldc2_w 315, 3) := adX9_tells_28.2.2.1
theorem dX9_tells_34 : decode cX9_tells 34 = .ok (.invokestatic 130, 3) := adX9_tells_28.2.2.2.1
theorem dX9_tells_37 : decode cX9_tells 37 = .ok (.ifCond .eq 15, 3) := adX9_tells_28.2.2.2.2.1
theorem dX9_tells_40 : decode cX9_tells 40 = .ok (.lload 7, 2) := adX9_tells_28.2.2.2.2.2.1
theorem dX9_tells_42 : decode cX9_tells 42 = .ok (.lconst 0, 1) := adX9_tells_28.2.2.2.2.2.2.1
theorem dX9_tells_43 : decode cX9_tells 43 = .ok (.ldc2_w 313, 3) := adX9_tells_28.2.2.2.2.2.2.2
theorem adX9_tells_46 : (decode cX9_tells 46 = .ok (.invokestatic 130, 3)) ∧ (decode cX9_tells 49 = .ok (.ifCond .ne 6, 3)) ∧ (decode cX9_tells 52 = .ok (.bipush (-2), 2)) ∧ (decode cX9_tells 54 = .ok (.ireturn, 1)) ∧ (decode cX9_tells 55 = .ok (.aload_n 0, 1)) ∧ (decode cX9_tells 56 = .ok (.getfield 89, 3)) ∧ (decode cX9_tells 59 = .ok (.iconst 0, 1)) ∧ (decode cX9_tells 60 = .ok (.iaload, 1)) := by decide +kernel
theorem dX9_tells_46 : decode cX9_tells 46 = .ok (.invokestatic 130, 3) := adX9_tells_46.1
theorem dX9_tells_49 : decode cX9_tells 49 = .ok (.ifCond .ne 6, 3) := adX9_tells_46.2.1
theorem dX9_tells_52 : decode cX9_tells 52 = .ok (.bipush (-2), 2) := adX9_tells_46.2.2.1
theorem dX9_tells_54 : decode cX9_tells 54 = .ok (.ireturn, 1) := adX9_tells_46.2.2.2.1
theorem dX9_tells_55 : decode cX9_tells 55 = .ok (.aload_n 0, 1) := adX9_tells_46.2.2.2.2.1
theorem dX9_tells_56 : decode cX9_tells 56 = .ok (.getfield 89, 3) := adX9_tells_46.2.2.2.2.2.1
theorem dX9_tells_59 : decode cX9_tells 59 = .ok (.iconst 0, 1) := adX9_tells_46.2.2.2.2.2.2.1
theorem dX9_tells_60 : decode cX9_tells 60 = .ok (.iaload, 1) := adX9_tells_46.2.2.2.2.2.2.2
theorem adX9_tells_61 : (decode cX9_tells 61 = .ok (.sipush 200, 3)) ∧ (decode cX9_tells 64 = .ok (.if_icmp .ne 6, 3)) ∧ (decode cX9_tells 67 = .ok (.bipush (-3), 2)) ∧ (decode cX9_tells 69 = .ok (.ireturn, 1)) ∧ (decode cX9_tells 70 = .ok (.aload_n 0, 1)) ∧ (decode cX9_tells 71 = .ok (.getfield 89, 3)) ∧ (decode cX9_tells 74 = .ok (.iconst 0, 1)) ∧ (decode cX9_tells 75 = .ok (.iaload, 1)) := by decide +kernel
theorem dX9_tells_61 : decode cX9_tells 61 = .ok (.sipush 200, 3) := adX9_tells_61.1
theorem dX9_tells_64 : decode cX9_tells 64 = .ok (.if_icmp .ne 6, 3) := adX9_tells_61.2.1
theorem dX9_tells_67 : decode cX9_tells 67 = .ok (.bipush (-3), 2) := adX9_tells_61.2.2.1
theorem dX9_tells_69 : decode cX9_tells 69 = .ok (.ireturn, 1) := adX9_tells_61.2.2.2.1
theorem dX9_tells_70 : decode cX9_tells 70 = .ok (.aload_n 0, 1) := adX9_tells_61.2.2.2.2.1
theorem dX9_tells_71 : decode cX9_tells 71 = .ok (.getfield 89, 3) := adX9_tells_61.2.2.2.2.2.1
theorem dX9_tells_74 : decode cX9_tells 74 = .ok (.iconst 0, 1) := adX9_tells_61.2.2.2.2.2.2.1
theorem dX9_tells_75 : decode cX9_tells 75 = .ok (.iaload, 1) := adX9_tells_61.2.2.2.2.2.2.2
theorem adX9_tells_76 : (decode cX9_tells 76 = .ok (.istore 9, 2)) ∧ (decode cX9_tells 78 = .ok (.aload_n 0, 1)) ∧ (decode cX9_tells 79 = .ok (.getfield 92, 3)) ∧ (decode cX9_tells 82 = .ok (.iload 9, 2)) ∧ (decode cX9_tells 84 = .ok (.lload_n 1, 1)) ∧ (decode cX9_tells 85 = .ok (.l2i, 1)) ∧ (decode cX9_tells 86 = .ok (.iastore, 1)) ∧ (decode cX9_tells 87 = .ok (.aload_n 0, 1)) := by decide +kernel
theorem dX9_tells_76 : decode cX9_tells 76 = .ok (.istore 9, 2) := adX9_tells_76.1
theorem dX9_tells_78 : decode cX9_tells 78 = .ok (.aload_n 0, 1) := adX9_tells_76.2.1
theorem dX9_tells_79 : decode cX9_tells 79 = .ok (.getfield 92, 3) := adX9_tells_76.2.2.1
theorem dX9_tells_82 : decode cX9_tells 82 = .ok (.iload 9, 2) := adX9_tells_76.2.2.2.1
theorem dX9_tells_84 : decode cX9_tells 84 = .ok (.lload_n 1, 1) := adX9_tells_76.2.2.2.2.1
theorem dX9_tells_85 : decode cX9_tells 85 = .ok (.l2i, 1) := adX9_tells_76.2.2.2.2.2.1
theorem dX9_tells_86 : decode cX9_tells 86 = .ok (.iastore, 1) := adX9_tells_76.2.2.2.2.2.2.1
theorem dX9_tells_87 : decode cX9_tells 87 = .ok (.aload_n 0, 1) := adX9_tells_76.2.2.2.2.2.2.2
theorem adX9_tells_88 : (decode cX9_tells 88 = .ok (.getfield 95, 3)) ∧ (decode cX9_tells 91 = .ok (.iload 9, 2)) ∧ (decode cX9_tells 93 = .ok (.lload_n 3, 1)) ∧ (decode cX9_tells 94 = .ok (.l2i, 1)) ∧ (decode cX9_tells 95 = .ok (.iastore, 1)) ∧ (decode cX9_tells 96 = .ok (.aload_n 0, 1)) ∧ (decode cX9_tells 97 = .ok (.getfield 98, 3)) ∧ (decode cX9_tells 100 = .ok (.iload 9, 2)) := by decide +kernel
theorem dX9_tells_88 : decode cX9_tells 88 = .ok (.getfield 95, 3) := adX9_tells_88.1
theorem dX9_tells_91 : decode cX9_tells 91 = .ok (.iload 9, 2) := adX9_tells_88.2.1
theorem dX9_tells_93 : decode cX9_tells 93 = .ok (.lload_n 3, 1) := adX9_tells_88.2.2.1
theorem dX9_tells_94 : decode cX9_tells 94 = .ok (.l2i, 1) := adX9_tells_88.2.2.2.1
theorem dX9_tells_95 : decode cX9_tells 95 = .ok (.iastore, 1) := adX9_tells_88.2.2.2.2.1
theorem dX9_tells_96 : decode cX9_tells 96 = .ok (.aload_n 0, 1) := adX9_tells_88.2.2.2.2.2.1
theorem dX9_tells_97 : decode cX9_tells 97 = .ok (.getfield 98, 3) := adX9_tells_88.2.2.2.2.2.2.1
theorem dX9_tells_100 : decode cX9_tells 100 = .ok (.iload 9, 2) := adX9_tells_88.2.2.2.2.2.2.2
theorem adX9_tells_102 : (decode cX9_tells 102 = .ok (.lload 5, 2)) ∧ (decode cX9_tells 104 = .ok (.l2i, 1)) ∧ (decode cX9_tells 105 = .ok (.iastore, 1)) ∧ (decode cX9_tells 106 = .ok (.aload_n 0, 1)) ∧ (decode cX9_tells 107 = .ok (.getfield 101, 3)) ∧ (decode cX9_tells 110 = .ok (.iload 9, 2)) ∧ (decode cX9_tells 112 = .ok (.lload 7, 2)) ∧ (decode cX9_tells 114 = .ok (.l2i, 1)) := by decide +kernel
theorem dX9_tells_102 : decode cX9_tells 102 = .ok (.lload 5, 2) := adX9_tells_102.1
theorem dX9_tells_104 : decode cX9_tells 104 = .ok (.l2i, 1) := adX9_tells_102.2.1
theorem dX9_tells_105 : decode cX9_tells 105 = .ok (.iastore, 1) := adX9_tells_102.2.2.1
theorem dX9_tells_106 : decode cX9_tells 106 = .ok (.aload_n 0, 1) := adX9_tells_102.2.2.2.1
theorem dX9_tells_107 : decode cX9_tells 107 = .ok (.getfield 101, 3) := adX9_tells_102.2.2.2.2.1
theorem dX9_tells_110 : decode cX9_tells 110 = .ok (.iload 9, 2) := adX9_tells_102.2.2.2.2.2.1
theorem dX9_tells_112 : decode cX9_tells 112 = .ok (.lload 7, 2) := adX9_tells_102.2.2.2.2.2.2.1
theorem dX9_tells_114 : decode cX9_tells 114 = .ok (.l2i, 1) := adX9_tells_102.2.2.2.2.2.2.2
theorem adX9_tells_115 : (decode cX9_tells 115 = .ok (.iastore, 1)) ∧ (decode cX9_tells 116 = .ok (.aload_n 0, 1)) ∧ (decode cX9_tells 117 = .ok (.getfield 104, 3)) ∧ (decode cX9_tells 120 = .ok (.iload 9, 2)) ∧ (decode cX9_tells 122 = .ok (.iconst 0, 1)) ∧ (decode cX9_tells 123 = .ok (.iastore, 1)) ∧ (decode cX9_tells 124 = .ok (.aload_n 0, 1)) ∧ (decode cX9_tells 125 = .ok (.getfield 107, 3)) := by decide +kernel
theorem dX9_tells_115 : decode cX9_tells 115 = .ok (.iastore, 1) := adX9_tells_115.1
theorem dX9_tells_116 : decode cX9_tells 116 = .ok (.aload_n 0, 1) := adX9_tells_115.2.1
theorem dX9_tells_117 : decode cX9_tells 117 = .ok (.getfield 104, 3) := adX9_tells_115.2.2.1
theorem dX9_tells_120 : decode cX9_tells 120 = .ok (.iload 9, 2) := adX9_tells_115.2.2.2.1
theorem dX9_tells_122 : decode cX9_tells 122 = .ok (.iconst 0, 1) := adX9_tells_115.2.2.2.2.1
theorem dX9_tells_123 : decode cX9_tells 123 = .ok (.iastore, 1) := adX9_tells_115.2.2.2.2.2.1
theorem dX9_tells_124 : decode cX9_tells 124 = .ok (.aload_n 0, 1) := adX9_tells_115.2.2.2.2.2.2.1
theorem dX9_tells_125 : decode cX9_tells 125 = .ok (.getfield 107, 3) := adX9_tells_115.2.2.2.2.2.2.2
theorem adX9_tells_128 : (decode cX9_tells 128 = .ok (.iload 9, 2)) ∧ (decode cX9_tells 130 = .ok (.lload 5, 2)) ∧ (decode cX9_tells 132 = .ok (.l2i, 1)) ∧ (decode cX9_tells 133 = .ok (.iastore, 1)) ∧ (decode cX9_tells 134 = .ok (.aload_n 0, 1)) ∧ (decode cX9_tells 135 = .ok (.getfield 89, 3)) ∧ (decode cX9_tells 138 = .ok (.iconst 0, 1)) ∧ (decode cX9_tells 139 = .ok (.dup2, 1)) := by decide +kernel
theorem dX9_tells_128 : decode cX9_tells 128 = .ok (.iload 9, 2) := adX9_tells_128.1
theorem dX9_tells_130 : decode cX9_tells 130 = .ok (.lload 5, 2) := adX9_tells_128.2.1
theorem dX9_tells_132 : decode cX9_tells 132 = .ok (.l2i, 1) := adX9_tells_128.2.2.1
theorem dX9_tells_133 : decode cX9_tells 133 = .ok (.iastore, 1) := adX9_tells_128.2.2.2.1
theorem dX9_tells_134 : decode cX9_tells 134 = .ok (.aload_n 0, 1) := adX9_tells_128.2.2.2.2.1
theorem dX9_tells_135 : decode cX9_tells 135 = .ok (.getfield 89, 3) := adX9_tells_128.2.2.2.2.2.1
theorem dX9_tells_138 : decode cX9_tells 138 = .ok (.iconst 0, 1) := adX9_tells_128.2.2.2.2.2.2.1
theorem dX9_tells_139 : decode cX9_tells 139 = .ok (.dup2, 1) := adX9_tells_128.2.2.2.2.2.2.2
theorem adX9_tells_140 : (decode cX9_tells 140 = .ok (.iaload, 1)) ∧ (decode cX9_tells 141 = .ok (.iconst 1, 1)) ∧ (decode cX9_tells 142 = .ok (.iadd, 1)) ∧ (decode cX9_tells 143 = .ok (.iastore, 1)) ∧ (decode cX9_tells 144 = .ok (.iload 9, 2)) ∧ (decode cX9_tells 146 = .ok (.ireturn, 1)) := by decide +kernel
theorem dX9_tells_140 : decode cX9_tells 140 = .ok (.iaload, 1) := adX9_tells_140.1
theorem dX9_tells_141 : decode cX9_tells 141 = .ok (.iconst 1, 1) := adX9_tells_140.2.1
theorem dX9_tells_142 : decode cX9_tells 142 = .ok (.iadd, 1) := adX9_tells_140.2.2.1
theorem dX9_tells_143 : decode cX9_tells 143 = .ok (.iastore, 1) := adX9_tells_140.2.2.2.1
theorem dX9_tells_144 : decode cX9_tells 144 = .ok (.iload 9, 2) := adX9_tells_140.2.2.2.2.1
theorem dX9_tells_146 : decode cX9_tells 146 = .ok (.ireturn, 1) := adX9_tells_140.2.2.2.2.2
set_option maxRecDepth 20000 in
theorem ggX9_sheet_X9_tells : GoodIn wsX9_sheet wsX9_tells := goodIn_r _ [6, 7, 8, 9, 10, 11, 12, 13, 14, 15, 16, 17, 18, 19, 5, 20, 21, 22, 23, 24, 25, 26, 27, 28, 29, 30, 31, 32, 33, 34, 35, 36, 37, 38, 39, 40, 41, 42, 43, 44, 45, 46, 47, 48, 49, 50, 51, 52, 53, 54, 55, 56, 57, 58, 59, 60, 61, 62, 63, 64, 65, 66, 67, 68, 69, 70, 71, 72, 73, 74, 75, 76, 77, 78, 79, 80] (by decide +kernel) (by decide +kernel)
set_option maxRecDepth 20000 in
theorem gX9_sheet_X9_tells : GoodIn wsX9_sheet (wsV RX9 356 RX9 yX9_tells wsX9_tells) := goodIn_app (goodIn_of _ (by decide +kernel)) ggX9_sheet_X9_tells
theorem adX9_sheet_0 : (decode cX9_sheet 0 = .ok (.aload_n 0, 1)) ∧ (decode cX9_sheet 1 = .ok (.iconst 0, 1)) ∧ (decode cX9_sheet 2 = .ok (.putfield 125, 3)) ∧ (decode cX9_sheet 5 = .ok (.aload_n 0, 1)) ∧ (decode cX9_sheet 6 = .ok (.iload_n 1, 1)) ∧ (decode cX9_sheet 7 = .ok (.i2l, 1)) := by decide +kernel
theorem dX9_sheet_0 : decode cX9_sheet 0 = .ok (.aload_n 0, 1) := adX9_sheet_0.1
theorem dX9_sheet_1 : decode cX9_sheet 1 = .ok (.iconst 0, 1) := adX9_sheet_0.2.1
theorem dX9_sheet_2 : decode cX9_sheet 2 = .ok (.putfield 125, 3) := adX9_sheet_0.2.2.1
theorem dX9_sheet_5 : decode cX9_sheet 5 = .ok (.aload_n 0, 1) := adX9_sheet_0.2.2.2.1
theorem dX9_sheet_6 : decode cX9_sheet 6 = .ok (.iload_n 1, 1) := adX9_sheet_0.2.2.2.2.1
theorem dX9_sheet_7 : decode cX9_sheet 7 = .ok (.i2l, 1) := adX9_sheet_0.2.2.2.2.2
