theorem adX7_isWord_0 : (decode cX7_isWord 0 = .ok (.aload_n 0, 1)) ∧ (decode cX7_isWord 1 = .ok (.getfield 36, 3)) ∧ (decode cX7_isWord 4 = .ok (.iconst 1, 1)) ∧ (decode cX7_isWord 5 = .ok (.if_icmp .ne 19, 3)) ∧ (decode cX7_isWord 24 = .ok (.iconst 0, 1)) ∧ (decode cX7_isWord 25 = .ok (.ireturn, 1)) ∧ (decode cX7_isWord 8 = .ok (.aload_n 0, 1)) ∧ (decode cX7_isWord 9 = .ok (.getfield 25, 3)) := by decide +kernel
theorem dX7_isWord_0 : decode cX7_isWord 0 = .ok (.aload_n 0, 1) := adX7_isWord_0.1
theorem dX7_isWord_1 : decode cX7_isWord 1 = .ok (.getfield 36, 3) := adX7_isWord_0.2.1
theorem dX7_isWord_4 : decode cX7_isWord 4 = .ok (.iconst 1, 1) := adX7_isWord_0.2.2.1
theorem dX7_isWord_5 : decode cX7_isWord 5 = .ok (.if_icmp .ne 19, 3) := adX7_isWord_0.2.2.2.1
theorem dX7_isWord_24 : decode cX7_isWord 24 = .ok (.iconst 0, 1) := adX7_isWord_0.2.2.2.2.1
theorem dX7_isWord_25 : decode cX7_isWord 25 = .ok (.ireturn, 1) := adX7_isWord_0.2.2.2.2.2.1
theorem dX7_isWord_8 : decode cX7_isWord 8 = .ok (.aload_n 0, 1) := adX7_isWord_0.2.2.2.2.2.2.1
theorem dX7_isWord_9 : decode cX7_isWord 9 = .ok (.getfield 25, 3) := adX7_isWord_0.2.2.2.2.2.2.2
theorem adX7_isWord_12 : (decode cX7_isWord 12 = .ok (.aload_n 0, 1)) ∧ (decode cX7_isWord 13 = .ok (.getfield 170, 3)) ∧ (decode cX7_isWord 16 = .ok (.isub, 1)) ∧ (decode cX7_isWord 17 = .ok (.aload_n 1, 1)) := by decide +kernel
theorem dX7_isWord_12 : decode cX7_isWord 12 = .ok (.aload_n 0, 1) := adX7_isWord_12.1
theorem dX7_isWord_13 : decode cX7_isWord 13 = .ok (.getfield 170, 3) := adX7_isWord_12.2.1
theorem dX7_isWord_16 : decode cX7_isWord 16 = .ok (.isub, 1) := adX7_isWord_12.2.2.1
theorem dX7_isWord_17 : decode cX7_isWord 17 = .ok (.aload_n 1, 1) := adX7_isWord_12.2.2.2
set_option maxRecDepth 20000 in
theorem ggX7_isWord_J0_length_8abf5 : GoodIn wsX7_isWord wsJ0_length_8abf5 := goodIn_r _ [9, 10, 11, 12, 13, 8, 14, 15, 16] (by decide +kernel) (by decide +kernel)
set_option maxRecDepth 20000 in
theorem gX7_isWord_J0_length_8abf5 : GoodIn wsX7_isWord (wsV RX7 173 RJ0 yJ0_length_8abf5 wsJ0_length_8abf5) := goodIn_app (goodIn_of _ (by decide +kernel)) ggX7_isWord_J0_length_8abf5
theorem adX7_isWord_18 : (decode cX7_isWord 18 = .ok (.invokevirtual 173, 3)) ∧ (decode cX7_isWord 21 = .ok (.if_icmp .eq 5, 3)) ∧ (decode cX7_isWord 26 = .ok (.iconst 0, 1)) ∧ (decode cX7_isWord 27 = .ok (.istore_n 2, 1)) ∧ (decode cX7_isWord 28 = .ok (.iload_n 2, 1)) ∧ (decode cX7_isWord 29 = .ok (.aload_n 1, 1)) ∧ (decode cX7_isWord 30 = .ok (.invokevirtual 173, 3)) ∧ (decode cX7_isWord 33 = .ok (.if_icmp .ge 30, 3)) := by decide +kernel
theorem dX7_isWord_18 : decode cX7_isWord 18 = .ok (.invokevirtual 173, 3) := adX7_isWord_18.1
theorem dX7_isWord_21 : decode cX7_isWord 21 = .ok (.if_icmp .eq 5, 3) := adX7_isWord_18.2.1
theorem dX7_isWord_26 : decode cX7_isWord 26 = .ok (.iconst 0, 1) := adX7_isWord_18.2.2.1
theorem dX7_isWord_27 : decode cX7_isWord 27 = .ok (.istore_n 2, 1) := adX7_isWord_18.2.2.2.1
theorem dX7_isWord_28 : decode cX7_isWord 28 = .ok (.iload_n 2, 1) := adX7_isWord_18.2.2.2.2.1
theorem dX7_isWord_29 : decode cX7_isWord 29 = .ok (.aload_n 1, 1) := adX7_isWord_18.2.2.2.2.2.1
theorem dX7_isWord_30 : decode cX7_isWord 30 = .ok (.invokevirtual 173, 3) := adX7_isWord_18.2.2.2.2.2.2.1
theorem dX7_isWord_33 : decode cX7_isWord 33 = .ok (.if_icmp .ge 30, 3) := adX7_isWord_18.2.2.2.2.2.2.2
theorem adX7_isWord_63 : (decode cX7_isWord 63 = .ok (.iconst 1, 1)) ∧ (decode cX7_isWord 64 = .ok (.ireturn, 1)) ∧ (decode cX7_isWord 36 = .ok (.aload_n 0, 1)) ∧ (decode cX7_isWord 37 = .ok (.getfield 9, 3)) ∧ (decode cX7_isWord 40 = .ok (.aload_n 0, 1)) ∧ (decode cX7_isWord 41 = .ok (.getfield 170, 3)) ∧ (decode cX7_isWord 44 = .ok (.iload_n 2, 1)) ∧ (decode cX7_isWord 45 = .ok (.iadd, 1)) := by decide +kernel
theorem dX7_isWord_63 : decode cX7_isWord 63 = .ok (.iconst 1, 1) := adX7_isWord_63.1
theorem dX7_isWord_64 : decode cX7_isWord 64 = .ok (.ireturn, 1) := adX7_isWord_63.2.1
theorem dX7_isWord_36 : decode cX7_isWord 36 = .ok (.aload_n 0, 1) := adX7_isWord_63.2.2.1
theorem dX7_isWord_37 : decode cX7_isWord 37 = .ok (.getfield 9, 3) := adX7_isWord_63.2.2.2.1
theorem dX7_isWord_40 : decode cX7_isWord 40 = .ok (.aload_n 0, 1) := adX7_isWord_63.2.2.2.2.1
theorem dX7_isWord_41 : decode cX7_isWord 41 = .ok (.getfield 170, 3) := adX7_isWord_63.2.2.2.2.2.1
theorem dX7_isWord_44 : decode cX7_isWord 44 = .ok (.iload_n 2, 1) := adX7_isWord_63.2.2.2.2.2.2.1
theorem dX7_isWord_45 : decode cX7_isWord 45 = .ok (.iadd, 1) := adX7_isWord_63.2.2.2.2.2.2.2
theorem adX7_isWord_46 : (decode cX7_isWord 46 = .ok (.baload, 1)) ∧ (decode cX7_isWord 47 = .ok (.aload_n 1, 1)) ∧ (decode cX7_isWord 48 = .ok (.iload_n 2, 1)) := by decide +kernel
theorem dX7_isWord_46 : decode cX7_isWord 46 = .ok (.baload, 1) := adX7_isWord_46.1
theorem dX7_isWord_47 : decode cX7_isWord 47 = .ok (.aload_n 1, 1) := adX7_isWord_46.2.1
theorem dX7_isWord_48 : decode cX7_isWord 48 = .ok (.iload_n 2, 1) := adX7_isWord_46.2.2
set_option maxRecDepth 20000 in
theorem ggX7_isWord_J0_charAt_5068e : GoodIn wsX7_isWord wsJ0_charAt_5068e := goodIn_r _ [20, 10, 21, 22, 23, 8, 24, 15, 16, 25, 26, 27, 28, 29, 30, 31, 32, 33, 34, 35, 36, 37, 38, 39, 40, 41, 42, 43, 44, 45, 46, 47, 48, 49, 50, 51, 52, 53] (by decide +kernel) (by decide +kernel)
set_option maxRecDepth 20000 in
theorem gX7_isWord_J0_charAt_5068e : GoodIn wsX7_isWord (wsV RX7 177 RJ0 yJ0_charAt_5068e wsJ0_charAt_5068e) := goodIn_app (goodIn_of _ (by decide +kernel)) ggX7_isWord_J0_charAt_5068e
theorem adX7_isWord_49 : (decode cX7_isWord 49 = .ok (.invokevirtual 177, 3)) ∧ (decode cX7_isWord 52 = .ok (.if_icmp .eq 5, 3)) ∧ (decode cX7_isWord 57 = .ok (.iinc 2 1, 3)) ∧ (decode cX7_isWord 60 = .ok (.goto (-32), 3)) ∧ (decode cX7_isWord 55 = .ok (.iconst 0, 1)) ∧ (decode cX7_isWord 56 = .ok (.ireturn, 1)) := by decide +kernel
theorem dX7_isWord_49 : decode cX7_isWord 49 = .ok (.invokevirtual 177, 3) := adX7_isWord_49.1
theorem dX7_isWord_52 : decode cX7_isWord 52 = .ok (.if_icmp .eq 5, 3) := adX7_isWord_49.2.1
theorem dX7_isWord_57 : decode cX7_isWord 57 = .ok (.iinc 2 1, 3) := adX7_isWord_49.2.2.1
theorem dX7_isWord_60 : decode cX7_isWord 60 = .ok (.goto (-32), 3) := adX7_isWord_49.2.2.2.1
theorem dX7_isWord_55 : decode cX7_isWord 55 = .ok (.iconst 0, 1) := adX7_isWord_49.2.2.2.2.1
theorem dX7_isWord_56 : decode cX7_isWord 56 = .ok (.ireturn, 1) := adX7_isWord_49.2.2.2.2.2
theorem adX7_jointNamed_0 : (decode cX7_jointNamed 0 = .ok (.aload_n 0, 1)) ∧ (decode cX7_jointNamed 1 = .ok (.ldc 162, 2)) := by decide +kernel
theorem dX7_jointNamed_0 : decode cX7_jointNamed 0 = .ok (.aload_n 0, 1) := adX7_jointNamed_0.1
theorem dX7_jointNamed_1 : decode cX7_jointNamed 1 = .ok (.ldc 162, 2) := adX7_jointNamed_0.2
set_option maxRecDepth 20000 in
theorem ggX7_jointNamed_X7_isWord : GoodIn wsX7_jointNamed wsX7_isWord := goodIn_r _ [5, 6, 7, 8, 9, 10, 11, 12, 13, 14, 15, 16, 17, 18, 19, 20, 21, 22, 23, 24, 25, 26, 27, 28, 29, 30, 31, 32, 33, 34, 35, 36, 37, 38, 39, 40, 41, 42, 43, 44, 45, 46, 47, 48, 49, 50, 51, 52, 53, 54, 55, 56, 57, 58, 59, 60, 61, 62, 63, 64, 65, 66] (by decide +kernel) (by decide +kernel)
set_option maxRecDepth 20000 in
theorem gX7_jointNamed_X7_isWord : GoodIn wsX7_jointNamed (wsV RX7 48 RX7 yX7_isWord wsX7_isWord) := goodIn_app (goodIn_of _ (by decide +kernel)) ggX7_jointNamed_X7_isWord
theorem adX7_jointNamed_3 : (decode cX7_jointNamed 3 = .ok (.invokevirtual 48, 3)) ∧ (decode cX7_jointNamed 6 = .ok (.ifCond .eq 5, 3)) ∧ (decode cX7_jointNamed 11 = .ok (.aload_n 0, 1)) ∧ (decode cX7_jointNamed 12 = .ok (.ldc 164, 2)) ∧ (decode cX7_jointNamed 14 = .ok (.invokevirtual 48, 3)) ∧ (decode cX7_jointNamed 17 = .ok (.ifCond .eq 5, 3)) ∧ (decode cX7_jointNamed 22 = .ok (.aload_n 0, 1)) ∧ (decode cX7_jointNamed 23 = .ok (.ldc 166, 2)) := by decide +kernel
theorem dX7_jointNamed_3 : decode cX7_jointNamed 3 = .ok (.invokevirtual 48, 3) := adX7_jointNamed_3.1
theorem dX7_jointNamed_6 : decode cX7_jointNamed 6 = .ok (.ifCond .eq 5, 3) := adX7_jointNamed_3.2.1
theorem dX7_jointNamed_11 : decode cX7_jointNamed 11 = .ok (.aload_n 0, 1) := adX7_jointNamed_3.2.2.1
theorem dX7_jointNamed_12 : decode cX7_jointNamed 12 = .ok (.ldc 164, 2) := adX7_jointNamed_3.2.2.2.1
theorem dX7_jointNamed_14 : decode cX7_jointNamed 14 = .ok (.invokevirtual 48, 3) := adX7_jointNamed_3.2.2.2.2.1
theorem dX7_jointNamed_17 : decode cX7_jointNamed 17 = .ok (.ifCond .eq 5, 3) := adX7_jointNamed_3.2.2.2.2.2.1
theorem dX7_jointNamed_22 : decode cX7_jointNamed 22 = .ok (.aload_n 0, 1) := adX7_jointNamed_3.2.2.2.2.2.2.1
theorem dX7_jointNamed_23 : decode cX7_jointNamed 23 = .ok (.ldc 166, 2) := adX7_jointNamed_3.2.2.2.2.2.2.2
theorem adX7_jointNamed_25 : (decode cX7_jointNamed 25 = .ok (.invokevirtual 48, 3)) ∧ (decode cX7_jointNamed 28 = .ok (.ifCond .eq 5, 3)) ∧ (decode cX7_jointNamed 33 = .ok (.aload_n 0, 1)) ∧ (decode cX7_jointNamed 34 = .ok (.ldc 168, 2)) ∧ (decode cX7_jointNamed 36 = .ok (.invokevirtual 48, 3)) ∧ (decode cX7_jointNamed 39 = .ok (.ifCond .eq 7, 3)) ∧ (decode cX7_jointNamed 46 = .ok (.iconst (-1), 1)) ∧ (decode cX7_jointNamed 47 = .ok (.ireturn, 1)) := by decide +kernel
theorem dX7_jointNamed_25 : decode cX7_jointNamed 25 = .ok (.invokevirtual 48, 3) := adX7_jointNamed_25.1
theorem dX7_jointNamed_28 : decode cX7_jointNamed 28 = .ok (.ifCond .eq 5, 3) := adX7_jointNamed_25.2.1
theorem dX7_jointNamed_33 : decode cX7_jointNamed 33 = .ok (.aload_n 0, 1) := adX7_jointNamed_25.2.2.1
theorem dX7_jointNamed_34 : decode cX7_jointNamed 34 = .ok (.ldc 168, 2) := adX7_jointNamed_25.2.2.2.1
theorem dX7_jointNamed_36 : decode cX7_jointNamed 36 = .ok (.invokevirtual 48, 3) := adX7_jointNamed_25.2.2.2.2.1
theorem dX7_jointNamed_39 : decode cX7_jointNamed 39 = .ok (.ifCond .eq 7, 3) := adX7_jointNamed_25.2.2.2.2.2.1
theorem dX7_jointNamed_46 : decode cX7_jointNamed 46 = .ok (.iconst (-1), 1) := adX7_jointNamed_25.2.2.2.2.2.2.1
theorem dX7_jointNamed_47 : decode cX7_jointNamed 47 = .ok (.ireturn, 1) := adX7_jointNamed_25.2.2.2.2.2.2.2
theorem adX7_jointNamed_42 : (decode cX7_jointNamed 42 = .ok (.iconst 3, 1)) ∧ (decode cX7_jointNamed 43 = .ok (.goto 4, 3)) ∧ (decode cX7_jointNamed 31 = .ok (.iconst 2, 1)) ∧ (decode cX7_jointNamed 32 = .ok (.ireturn, 1)) ∧ (decode cX7_jointNamed 20 = .ok (.iconst 1, 1)) ∧ (decode cX7_jointNamed 21 = .ok (.ireturn, 1)) ∧ (decode cX7_jointNamed 9 = .ok (.iconst 0, 1)) ∧ (decode cX7_jointNamed 10 = .ok (.ireturn, 1)) := by decide +kernel
theorem dX7_jointNamed_42 : decode cX7_jointNamed 42 = .ok (.iconst 3, 1) := adX7_jointNamed_42.1
theorem dX7_jointNamed_43 : decode cX7_jointNamed 43 = .ok (.goto 4, 3) := adX7_jointNamed_42.2.1
theorem dX7_jointNamed_31 : decode cX7_jointNamed 31 = .ok (.iconst 2, 1) := adX7_jointNamed_42.2.2.1
theorem dX7_jointNamed_32 : decode cX7_jointNamed 32 = .ok (.ireturn, 1) := adX7_jointNamed_42.2.2.2.1
theorem dX7_jointNamed_20 : decode cX7_jointNamed 20 = .ok (.iconst 1, 1) := adX7_jointNamed_42.2.2.2.2.1
theorem dX7_jointNamed_21 : decode cX7_jointNamed 21 = .ok (.ireturn, 1) := adX7_jointNamed_42.2.2.2.2.2.1
theorem dX7_jointNamed_9 : decode cX7_jointNamed 9 = .ok (.iconst 0, 1) := adX7_jointNamed_42.2.2.2.2.2.2.1
theorem dX7_jointNamed_10 : decode cX7_jointNamed 10 = .ok (.ireturn, 1) := adX7_jointNamed_42.2.2.2.2.2.2.2
theorem adX7_partNamed_0 : (decode cX7_partNamed 0 = .ok (.aload_n 0, 1)) ∧ (decode cX7_partNamed 1 = .ok (.ldc 151, 2)) := by decide +kernel
theorem dX7_partNamed_0 : decode cX7_partNamed 0 = .ok (.aload_n 0, 1) := adX7_partNamed_0.1
theorem dX7_partNamed_1 : decode cX7_partNamed 1 = .ok (.ldc 151, 2) := adX7_partNamed_0.2
set_option maxRecDepth 20000 in
theorem ggX7_partNamed_X7_isWord : GoodIn wsX7_partNamed wsX7_isWord := goodIn_r _ [5, 6, 7, 8, 9, 10, 11, 12, 13, 14, 15, 16, 17, 18, 19, 20, 21, 22, 23, 24, 25, 26, 27, 28, 29, 30, 31, 32, 33, 34, 35, 36, 37, 38, 39, 40, 41, 42, 43, 44, 45, 46, 47, 48, 49, 50, 51, 52, 53, 54, 55, 56, 57, 58, 59, 60, 61, 62, 63, 64, 65, 66] (by decide +kernel) (by decide +kernel)
set_option maxRecDepth 20000 in
theorem gX7_partNamed_X7_isWord : GoodIn wsX7_partNamed (wsV RX7 48 RX7 yX7_isWord wsX7_isWord) := goodIn_app (goodIn_of _ (by decide +kernel)) ggX7_partNamed_X7_isWord
theorem adX7_partNamed_3 : (decode cX7_partNamed 3 = .ok (.invokevirtual 48, 3)) ∧ (decode cX7_partNamed 6 = .ok (.ifCond .eq 7, 3)) ∧ (decode cX7_partNamed 13 = .ok (.aload_n 0, 1)) ∧ (decode cX7_partNamed 14 = .ok (.ldc 106, 2)) ∧ (decode cX7_partNamed 16 = .ok (.invokevirtual 48, 3)) ∧ (decode cX7_partNamed 19 = .ok (.ifCond .eq 7, 3)) ∧ (decode cX7_partNamed 26 = .ok (.aload_n 0, 1)) ∧ (decode cX7_partNamed 27 = .ok (.ldc 153, 2)) := by decide +kernel
theorem dX7_partNamed_3 : decode cX7_partNamed 3 = .ok (.invokevirtual 48, 3) := adX7_partNamed_3.1
theorem dX7_partNamed_6 : decode cX7_partNamed 6 = .ok (.ifCond .eq 7, 3) := adX7_partNamed_3.2.1
theorem dX7_partNamed_13 : decode cX7_partNamed 13 = .ok (.aload_n 0, 1) := adX7_partNamed_3.2.2.1
theorem dX7_partNamed_14 : decode cX7_partNamed 14 = .ok (.ldc 106, 2) := adX7_partNamed_3.2.2.2.1
theorem dX7_partNamed_16 : decode cX7_partNamed 16 = .ok (.invokevirtual 48, 3) := adX7_partNamed_3.2.2.2.2.1
theorem dX7_partNamed_19 : decode cX7_partNamed 19 = .ok (.ifCond .eq 7, 3) := adX7_partNamed_3.2.2.2.2.2.1
theorem dX7_partNamed_26 : decode cX7_partNamed 26 = .ok (.aload_n 0, 1) := adX7_partNamed_3.2.2.2.2.2.2.1
theorem dX7_partNamed_27 : decode cX7_partNamed 27 = .ok (.ldc 153, 2) := adX7_partNamed_3.2.2.2.2.2.2.2
theorem adX7_partNamed_29 : (decode cX7_partNamed 29 = .ok (.invokevirtual 48, 3)) ∧ (decode cX7_partNamed 32 = .ok (.ifCond .eq 7, 3)) ∧ (decode cX7_partNamed 39 = .ok (.aload_n 0, 1)) ∧ (decode cX7_partNamed 40 = .ok (.ldc 155, 2)) ∧ (decode cX7_partNamed 42 = .ok (.invokevirtual 48, 3)) ∧ (decode cX7_partNamed 45 = .ok (.ifCond .eq 7, 3)) ∧ (decode cX7_partNamed 52 = .ok (.aload_n 0, 1)) ∧ (decode cX7_partNamed 53 = .ok (.ldc 157, 2)) := by decide +kernel
theorem dX7_partNamed_29 : decode cX7_partNamed 29 = .ok (.invokevirtual 48, 3) := adX7_partNamed_29.1
theorem dX7_partNamed_32 : decode cX7_partNamed 32 = .ok (.ifCond .eq 7, 3) := adX7_partNamed_29.2.1
theorem dX7_partNamed_39 : decode cX7_partNamed 39 = .ok (.aload_n 0, 1) := adX7_partNamed_29.2.2.1
theorem dX7_partNamed_40 : decode cX7_partNamed 40 = .ok (.ldc 155, 2) := adX7_partNamed_29.2.2.2.1
theorem dX7_partNamed_42 : decode cX7_partNamed 42 = .ok (.invokevirtual 48, 3) := adX7_partNamed_29.2.2.2.2.1
theorem dX7_partNamed_45 : decode cX7_partNamed 45 = .ok (.ifCond .eq 7, 3) := adX7_partNamed_29.2.2.2.2.2.1
theorem dX7_partNamed_52 : decode cX7_partNamed 52 = .ok (.aload_n 0, 1) := adX7_partNamed_29.2.2.2.2.2.2.1
theorem dX7_partNamed_53 : decode cX7_partNamed 53 = .ok (.ldc 157, 2) := adX7_partNamed_29.2.2.2.2.2.2.2
theorem adX7_partNamed_55 : (decode cX7_partNamed 55 = .ok (.invokevirtual 48, 3)) ∧ (decode cX7_partNamed 58 = .ok (.ifCond .eq 9, 3)) ∧ (decode cX7_partNamed 67 = .ok (.iconst (-1), 1)) ∧ (decode cX7_partNamed 68 = .ok (.ireturn, 1)) ∧ (decode cX7_partNamed 61 = .ok (.sipush 1004, 3)) ∧ (decode cX7_partNamed 64 = .ok (.goto 4, 3)) ∧ (decode cX7_partNamed 48 = .ok (.sipush 1003, 3)) ∧ (decode cX7_partNamed 51 = .ok (.ireturn, 1)) := by decide +kernel
theorem dX7_partNamed_55 : decode cX7_partNamed 55 = .ok (.invokevirtual 48, 3) := adX7_partNamed_55.1
theorem dX7_partNamed_58 : decode cX7_partNamed 58 = .ok (.ifCond .eq 9, 3) := adX7_partNamed_55.2.1
theorem dX7_partNamed_67 : decode cX7_partNamed 67 = .ok (.iconst (-1), 1) := adX7_partNamed_55.2.2.1
theorem dX7_partNamed_68 : decode cX7_partNamed 68 = .ok (.ireturn, 1) := adX7_partNamed_55.2.2.2.1
theorem dX7_partNamed_61 : decode cX7_partNamed 61 = .ok (.sipush 1004, 3) := adX7_partNamed_55.2.2.2.2.1
theorem dX7_partNamed_64 : decode cX7_partNamed 64 = .ok (.goto 4, 3) := adX7_partNamed_55.2.2.2.2.2.1
theorem dX7_partNamed_48 : decode cX7_partNamed 48 = .ok (.sipush 1003, 3) := adX7_partNamed_55.2.2.2.2.2.2.1
theorem dX7_partNamed_51 : decode cX7_partNamed 51 = .ok (.ireturn, 1) := adX7_partNamed_55.2.2.2.2.2.2.2
theorem adX7_partNamed_35 : (decode cX7_partNamed 35 = .ok (.sipush 1002, 3)) ∧ (decode cX7_partNamed 38 = .ok (.ireturn, 1)) ∧ (decode cX7_partNamed 22 = .ok (.sipush 1001, 3)) ∧ (decode cX7_partNamed 25 = .ok (.ireturn, 1)) ∧ (decode cX7_partNamed 9 = .ok (.sipush 1000, 3)) ∧ (decode cX7_partNamed 12 = .ok (.ireturn, 1)) := by decide +kernel
theorem dX7_partNamed_35 : decode cX7_partNamed 35 = .ok (.sipush 1002, 3) := adX7_partNamed_35.1
theorem dX7_partNamed_38 : decode cX7_partNamed 38 = .ok (.ireturn, 1) := adX7_partNamed_35.2.1
theorem dX7_partNamed_22 : decode cX7_partNamed 22 = .ok (.sipush 1001, 3) := adX7_partNamed_35.2.2.1
theorem dX7_partNamed_25 : decode cX7_partNamed 25 = .ok (.ireturn, 1) := adX7_partNamed_35.2.2.2.1
theorem dX7_partNamed_9 : decode cX7_partNamed 9 = .ok (.sipush 1000, 3) := adX7_partNamed_35.2.2.2.2.1
theorem dX7_partNamed_12 : decode cX7_partNamed 12 = .ok (.ireturn, 1) := adX7_partNamed_35.2.2.2.2.2
theorem dX7_passJoint_0 : decode cX7_passJoint 0 = .ok (.aload_n 0, 1) := by decide +kernel
set_option maxRecDepth 20000 in
theorem ggX7_passJoint_X7_jointNamed : GoodIn wsX7_passJoint wsX7_jointNamed := goodIn_r _ [5, 6, 7, 8, 4, 9, 10, 11, 12, 13, 14, 15, 16, 17, 18, 19, 20, 21, 22, 23, 24, 25, 26, 27, 28, 29, 30, 31, 32, 33, 34, 35, 36, 37, 38, 39, 40, 41, 42, 43, 44, 45, 46, 47, 48, 49, 50, 51, 52, 53, 54, 55, 56, 57, 58, 59, 60, 61, 62, 80, 81, 82, 83, 84, 85, 86, 87] (by decide +kernel) (by decide +kernel)
set_option maxRecDepth 20000 in
theorem gX7_passJoint_X7_jointNamed : GoodIn wsX7_passJoint (wsV RX7 159 RX7 yX7_jointNamed wsX7_jointNamed) := goodIn_app (goodIn_of _ (by decide +kernel)) ggX7_passJoint_X7_jointNamed
theorem adX7_passJoint_1 : (decode cX7_passJoint 1 = .ok (.invokevirtual 159, 3)) ∧ (decode cX7_passJoint 4 = .ok (.istore_n 1, 1)) ∧ (decode cX7_passJoint 5 = .ok (.iload_n 1, 1)) ∧ (decode cX7_passJoint 6 = .ok (.iconst (-1), 1)) ∧ (decode cX7_passJoint 7 = .ok (.if_icmp .eq 7, 3)) ∧ (decode cX7_passJoint 14 = .ok (.iload_n 1, 1)) ∧ (decode cX7_passJoint 15 = .ok (.ireturn, 1)) ∧ (decode cX7_passJoint 10 = .ok (.aload_n 0, 1)) := by decide +kernel
theorem dX7_passJoint_1 : decode cX7_passJoint 1 = .ok (.invokevirtual 159, 3) := adX7_passJoint_1.1
theorem dX7_passJoint_4 : decode cX7_passJoint 4 = .ok (.istore_n 1, 1) := adX7_passJoint_1.2.1
theorem dX7_passJoint_5 : decode cX7_passJoint 5 = .ok (.iload_n 1, 1) := adX7_passJoint_1.2.2.1
theorem dX7_passJoint_6 : decode cX7_passJoint 6 = .ok (.iconst (-1), 1) := adX7_passJoint_1.2.2.2.1
theorem dX7_passJoint_7 : decode cX7_passJoint 7 = .ok (.if_icmp .eq 7, 3) := adX7_passJoint_1.2.2.2.2.1
theorem dX7_passJoint_14 : decode cX7_passJoint 14 = .ok (.iload_n 1, 1) := adX7_passJoint_1.2.2.2.2.2.1
theorem dX7_passJoint_15 : decode cX7_passJoint 15 = .ok (.ireturn, 1) := adX7_passJoint_1.2.2.2.2.2.2.1
theorem dX7_passJoint_10 : decode cX7_passJoint 10 = .ok (.aload_n 0, 1) := adX7_passJoint_1.2.2.2.2.2.2.2
set_option maxRecDepth 20000 in
theorem ggX7_passJoint_X7_step : GoodIn wsX7_passJoint wsX7_step := goodIn_r _ [66, 11, 67, 13, 12, 68, 10, 69, 70, 71, 72, 73, 74, 75, 4, 76, 77, 78, 79, 80, 81, 82, 83, 84, 85, 86, 87] (by decide +kernel) (by decide +kernel)
set_option maxRecDepth 20000 in
theorem gX7_passJoint_X7_step : GoodIn wsX7_passJoint (wsV RX7 33 RX7 yX7_step wsX7_step) := goodIn_app (goodIn_of _ (by decide +kernel)) ggX7_passJoint_X7_step
theorem dX7_passJoint_11 : decode cX7_passJoint 11 = .ok (.invokevirtual 33, 3) := by decide +kernel
theorem dX7_passPart_0 : decode cX7_passPart 0 = .ok (.aload_n 0, 1) := by decide +kernel
set_option maxRecDepth 20000 in
theorem ggX7_passPart_X7_partNamed : GoodIn wsX7_passPart wsX7_partNamed := goodIn_r _ [5, 6, 7, 8, 4, 9, 10, 11, 12, 13, 14, 15, 16, 17, 18, 19, 20, 21, 22, 23, 24, 25, 26, 27, 28, 29, 30, 31, 32, 33, 34, 35, 36, 37, 38, 39, 40, 41, 42, 43, 44, 45, 46, 47, 48, 49, 50, 51, 52, 53, 54, 55, 56, 57, 58, 59, 60, 61, 62, 90, 91, 92, 93, 94, 95, 96, 97] (by decide +kernel) (by decide +kernel)
set_option maxRecDepth 20000 in
theorem gX7_passPart_X7_partNamed : GoodIn wsX7_passPart (wsV RX7 148 RX7 yX7_partNamed wsX7_partNamed) := goodIn_app (goodIn_of _ (by decide +kernel)) ggX7_passPart_X7_partNamed
theorem adX7_passPart_1 : (decode cX7_passPart 1 = .ok (.invokevirtual 148, 3)) ∧ (decode cX7_passPart 4 = .ok (.istore_n 1, 1)) ∧ (decode cX7_passPart 5 = .ok (.iload_n 1, 1)) ∧ (decode cX7_passPart 6 = .ok (.iconst (-1), 1)) ∧ (decode cX7_passPart 7 = .ok (.if_icmp .ne 12, 3)) ∧ (decode cX7_passPart 10 = .ok (.aload_n 0, 1)) ∧ (decode cX7_passPart 11 = .ok (.iconst 0, 1)) ∧ (decode cX7_passPart 12 = .ok (.sipush 999, 3)) := by decide +kernel
theorem dX7_passPart_1 : decode cX7_passPart 1 = .ok (.invokevirtual 148, 3) := adX7_passPart_1.1
theorem dX7_passPart_4 : decode cX7_passPart 4 = .ok (.istore_n 1, 1) := adX7_passPart_1.2.1
theorem dX7_passPart_5 : decode cX7_passPart 5 = .ok (.iload_n 1, 1) := adX7_passPart_1.2.2.1
theorem dX7_passPart_6 : decode cX7_passPart 6 = .ok (.iconst (-1), 1) := adX7_passPart_1.2.2.2.1
theorem dX7_passPart_7 : decode cX7_passPart 7 = .ok (.if_icmp .ne 12, 3) := adX7_passPart_1.2.2.2.2.1
theorem dX7_passPart_10 : decode cX7_passPart 10 = .ok (.aload_n 0, 1) := adX7_passPart_1.2.2.2.2.2.1
theorem dX7_passPart_11 : decode cX7_passPart 11 = .ok (.iconst 0, 1) := adX7_passPart_1.2.2.2.2.2.2.1
theorem dX7_passPart_12 : decode cX7_passPart 12 = .ok (.sipush 999, 3) := adX7_passPart_1.2.2.2.2.2.2.2
set_option maxRecDepth 20000 in
theorem ggX7_passPart_X7_passNumber : GoodIn wsX7_passPart wsX7_passNumber := goodIn_r _ [66, 10, 67, 68, 69, 70, 71, 4, 72, 12, 73, 74, 75, 76, 77, 11, 78, 13, 79, 80, 81, 82, 83, 84, 85, 86, 87, 88, 89, 90, 91, 92, 93, 94, 95, 96, 97] (by decide +kernel) (by decide +kernel)
set_option maxRecDepth 20000 in
theorem gX7_passPart_X7_passNumber : GoodIn wsX7_passPart (wsV RX7 88 RX7 yX7_passNumber wsX7_passNumber) := goodIn_app (goodIn_of _ (by decide +kernel)) ggX7_passPart_X7_passNumber
theorem adX7_passPart_15 : (decode cX7_passPart 15 = .ok (.invokevirtual 88, 3)) ∧ (decode cX7_passPart 18 = .ok (.ireturn, 1)) ∧ (decode cX7_passPart 19 = .ok (.aload_n 0, 1)) := by decide +kernel
theorem dX7_passPart_15 : decode cX7_passPart 15 = .ok (.invokevirtual 88, 3) := adX7_passPart_15.1
theorem dX7_passPart_18 : decode cX7_passPart 18 = .ok (.ireturn, 1) := adX7_passPart_15.2.1
theorem dX7_passPart_19 : decode cX7_passPart 19 = .ok (.aload_n 0, 1) := adX7_passPart_15.2.2
set_option maxRecDepth 20000 in
theorem ggX7_passPart_X7_step : GoodIn wsX7_passPart wsX7_step := goodIn_r _ [77, 11, 78, 13, 12, 67, 10, 79, 80, 81, 82, 83, 84, 85, 4, 86, 87, 88, 89, 90, 91, 92, 93, 94, 95, 96, 97] (by decide +kernel) (by decide +kernel)
set_option maxRecDepth 20000 in
theorem gX7_passPart_X7_step : GoodIn wsX7_passPart (wsV RX7 33 RX7 yX7_step wsX7_step) := goodIn_app (goodIn_of _ (by decide +kernel)) ggX7_passPart_X7_step
theorem adX7_passPart_20 : (decode cX7_passPart 20 = .ok (.invokevirtual 33, 3)) ∧ (decode cX7_passPart 23 = .ok (.iload_n 1, 1)) ∧ (decode cX7_passPart 24 = .ok (.ireturn, 1)) := by decide +kernel
theorem dX7_passPart_20 : decode cX7_passPart 20 = .ok (.invokevirtual 33, 3) := adX7_passPart_20.1
theorem dX7_passPart_23 : decode cX7_passPart 23 = .ok (.iload_n 1, 1) := adX7_passPart_20.2.1
theorem dX7_passPart_24 : decode cX7_passPart 24 = .ok (.ireturn, 1) := adX7_passPart_20.2.2
theorem adX7_passWord_0 : (decode cX7_passWord 0 = .ok (.aload_n 0, 1)) ∧ (decode cX7_passWord 1 = .ok (.aload_n 1, 1)) := by decide +kernel
theorem dX7_passWord_0 : decode cX7_passWord 0 = .ok (.aload_n 0, 1) := adX7_passWord_0.1
theorem dX7_passWord_1 : decode cX7_passWord 1 = .ok (.aload_n 1, 1) := adX7_passWord_0.2
set_option maxRecDepth 20000 in
theorem ggX7_passWord_X7_isWord : GoodIn wsX7_passWord wsX7_isWord := goodIn_r _ [6, 7, 8, 9, 10, 11, 12, 13, 14, 15, 16, 17, 18, 19, 20, 21, 22, 23, 24, 25, 26, 27, 28, 29, 30, 31, 32, 33, 34, 35, 36, 37, 38, 39, 40, 41, 42, 43, 44, 45, 46, 47, 48, 49, 50, 51, 52, 53, 54, 55, 56, 57, 58, 59, 82, 83, 84, 85, 86, 87, 88, 89] (by decide +kernel) (by decide +kernel)
set_option maxRecDepth 20000 in
theorem gX7_passWord_X7_isWord : GoodIn wsX7_passWord (wsV RX7 48 RX7 yX7_isWord wsX7_isWord) := goodIn_app (goodIn_of _ (by decide +kernel)) ggX7_passWord_X7_isWord
theorem adX7_passWord_2 : (decode cX7_passWord 2 = .ok (.invokevirtual 48, 3)) ∧ (decode cX7_passWord 5 = .ok (.ifCond .ne 8, 3)) ∧ (decode cX7_passWord 8 = .ok (.aload_n 0, 1)) ∧ (decode cX7_passWord 9 = .ok (.iconst 1, 1)) := by decide +kernel
theorem dX7_passWord_2 : decode cX7_passWord 2 = .ok (.invokevirtual 48, 3) := adX7_passWord_2.1
theorem dX7_passWord_5 : decode cX7_passWord 5 = .ok (.ifCond .ne 8, 3) := adX7_passWord_2.2.1
theorem dX7_passWord_8 : decode cX7_passWord 8 = .ok (.aload_n 0, 1) := adX7_passWord_2.2.2.1
theorem dX7_passWord_9 : decode cX7_passWord 9 = .ok (.iconst 1, 1) := adX7_passWord_2.2.2.2
set_option maxRecDepth 20000 in
theorem ggX7_passWord_X7_refuse : GoodIn wsX7_passWord wsX7_refuse := goodIn_r _ [63, 1, 9, 64, 82, 83, 84, 85, 86, 87, 88, 89] (by decide +kernel) (by decide +kernel)
set_option maxRecDepth 20000 in
theorem gX7_passWord_X7_refuse : GoodIn wsX7_passWord (wsV RX7 75 RX7 yX7_refuse wsX7_refuse) := goodIn_app (goodIn_of _ (by decide +kernel)) ggX7_passWord_X7_refuse
theorem adX7_passWord_10 : (decode cX7_passWord 10 = .ok (.invokevirtual 75, 3)) ∧ (decode cX7_passWord 13 = .ok (.aload_n 0, 1)) ∧ (decode cX7_passWord 14 = .ok (.getfield 22, 3)) ∧ (decode cX7_passWord 17 = .ok (.ifCond .ne 7, 3)) ∧ (decode cX7_passWord 24 = .ok (.return_, 1)) ∧ (decode cX7_passWord 20 = .ok (.aload_n 0, 1)) := by decide +kernel
theorem dX7_passWord_10 : decode cX7_passWord 10 = .ok (.invokevirtual 75, 3) := adX7_passWord_10.1
theorem dX7_passWord_13 : decode cX7_passWord 13 = .ok (.aload_n 0, 1) := adX7_passWord_10.2.1
theorem dX7_passWord_14 : decode cX7_passWord 14 = .ok (.getfield 22, 3) := adX7_passWord_10.2.2.1
theorem dX7_passWord_17 : decode cX7_passWord 17 = .ok (.ifCond .ne 7, 3) := adX7_passWord_10.2.2.2.1
theorem dX7_passWord_24 : decode cX7_passWord 24 = .ok (.return_, 1) := adX7_passWord_10.2.2.2.2.1
theorem dX7_passWord_20 : decode cX7_passWord 20 = .ok (.aload_n 0, 1) := adX7_passWord_10.2.2.2.2.2
set_option maxRecDepth 20000 in
theorem ggX7_passWord_X7_step : GoodIn wsX7_passWord wsX7_step := goodIn_r _ [68, 8, 69, 10, 9, 70, 7, 71, 72, 73, 74, 75, 76, 77, 5, 78, 79, 80, 81, 82, 83, 84, 85, 86, 87, 88, 89] (by decide +kernel) (by decide +kernel)
set_option maxRecDepth 20000 in
theorem gX7_passWord_X7_step : GoodIn wsX7_passWord (wsV RX7 33 RX7 yX7_step wsX7_step) := goodIn_app (goodIn_of _ (by decide +kernel)) ggX7_passWord_X7_step
theorem dX7_passWord_21 : decode cX7_passWord 21 = .ok (.invokevirtual 33, 3) := by decide +kernel
theorem adX7_readNoise_0 : (decode cX7_readNoise 0 = .ok (.aload_n 1, 1)) ∧ (decode cX7_readNoise 1 = .ok (.getfield 142, 3)) ∧ (decode cX7_readNoise 4 = .ok (.ifCond .eq 8, 3)) ∧ (decode cX7_readNoise 12 = .ok (.aload_n 0, 1)) ∧ (decode cX7_readNoise 13 = .ok (.ldc 70, 2)) := by decide +kernel
theorem dX7_readNoise_0 : decode cX7_readNoise 0 = .ok (.aload_n 1, 1) := adX7_readNoise_0.1
theorem dX7_readNoise_1 : decode cX7_readNoise 1 = .ok (.getfield 142, 3) := adX7_readNoise_0.2.1
theorem dX7_readNoise_4 : decode cX7_readNoise 4 = .ok (.ifCond .eq 8, 3) := adX7_readNoise_0.2.2.1
theorem dX7_readNoise_12 : decode cX7_readNoise 12 = .ok (.aload_n 0, 1) := adX7_readNoise_0.2.2.2.1
theorem dX7_readNoise_13 : decode cX7_readNoise 13 = .ok (.ldc 70, 2) := adX7_readNoise_0.2.2.2.2
set_option maxRecDepth 20000 in
theorem ggX7_readNoise_X7_passWord : GoodIn wsX7_readNoise wsX7_passWord := goodIn_r _ [14, 8, 15, 16, 17, 6, 18, 19, 20, 9, 21, 22, 23, 24, 25, 26, 27, 28, 29, 30, 31, 32, 33, 34, 35, 36, 37, 38, 39, 40, 41, 42, 43, 44, 45, 46, 47, 48, 49, 50, 51, 52, 53, 54, 55, 56, 57, 58, 59, 60, 61, 62, 63, 64, 65, 66, 67, 68, 69, 70, 3, 4, 5, 7, 10, 71, 72, 73, 74, 75, 76, 77, 78, 79, 80, 81, 82, 83, 84, 85, 86, 87, 112, 113, 114, 115, 116, 117, 118, 119] (by decide +kernel) (by decide +kernel)
set_option maxRecDepth 20000 in
theorem gX7_readNoise_X7_passWord : GoodIn wsX7_readNoise (wsV RX7 82 RX7 yX7_passWord wsX7_passWord) := goodIn_app (goodIn_of _ (by decide +kernel)) ggX7_readNoise_X7_passWord
theorem adX7_readNoise_15 : (decode cX7_readNoise 15 = .ok (.invokevirtual 82, 3)) ∧ (decode cX7_readNoise 18 = .ok (.aload_n 1, 1)) ∧ (decode cX7_readNoise 19 = .ok (.aload_n 0, 1)) ∧ (decode cX7_readNoise 20 = .ok (.iconst 0, 1)) ∧ (decode cX7_readNoise 21 = .ok (.sipush 999, 3)) := by decide +kernel
theorem dX7_readNoise_15 : decode cX7_readNoise 15 = .ok (.invokevirtual 82, 3) := adX7_readNoise_15.1
theorem dX7_readNoise_18 : decode cX7_readNoise 18 = .ok (.aload_n 1, 1) := adX7_readNoise_15.2.1
theorem dX7_readNoise_19 : decode cX7_readNoise 19 = .ok (.aload_n 0, 1) := adX7_readNoise_15.2.2.1
theorem dX7_readNoise_20 : decode cX7_readNoise 20 = .ok (.iconst 0, 1) := adX7_readNoise_15.2.2.2.1
theorem dX7_readNoise_21 : decode cX7_readNoise 21 = .ok (.sipush 999, 3) := adX7_readNoise_15.2.2.2.2
set_option maxRecDepth 20000 in
theorem ggX7_readNoise_X7_passNumber : GoodIn wsX7_readNoise wsX7_passNumber := goodIn_r _ [91, 19, 76, 8, 3, 4, 5, 6, 7, 9, 10, 71, 72, 73, 74, 20, 75, 21, 77, 78, 79, 80, 81, 82, 83, 84, 85, 86, 87, 112, 113, 114, 115, 116, 117, 118, 119] (by decide +kernel) (by decide +kernel)
set_option maxRecDepth 20000 in
theorem gX7_readNoise_X7_passNumber : GoodIn wsX7_readNoise (wsV RX7 88 RX7 yX7_passNumber wsX7_passNumber) := goodIn_app (goodIn_of _ (by decide +kernel)) ggX7_readNoise_X7_passNumber
theorem adX7_readNoise_24 : (decode cX7_readNoise 24 = .ok (.invokevirtual 88, 3)) ∧ (decode cX7_readNoise 27 = .ok (.putfield 146, 3)) ∧ (decode cX7_readNoise 30 = .ok (.aload_n 1, 1)) ∧ (decode cX7_readNoise 31 = .ok (.iconst 1, 1)) ∧ (decode cX7_readNoise 32 = .ok (.putfield 142, 3)) ∧ (decode cX7_readNoise 35 = .ok (.aload_n 0, 1)) := by decide +kernel
theorem dX7_readNoise_24 : decode cX7_readNoise 24 = .ok (.invokevirtual 88, 3) := adX7_readNoise_24.1
theorem dX7_readNoise_27 : decode cX7_readNoise 27 = .ok (.putfield 146, 3) := adX7_readNoise_24.2.1
theorem dX7_readNoise_30 : decode cX7_readNoise 30 = .ok (.aload_n 1, 1) := adX7_readNoise_24.2.2.1
theorem dX7_readNoise_31 : decode cX7_readNoise 31 = .ok (.iconst 1, 1) := adX7_readNoise_24.2.2.2.1
theorem dX7_readNoise_32 : decode cX7_readNoise 32 = .ok (.putfield 142, 3) := adX7_readNoise_24.2.2.2.2.1
theorem dX7_readNoise_35 : decode cX7_readNoise 35 = .ok (.aload_n 0, 1) := adX7_readNoise_24.2.2.2.2.2
set_option maxRecDepth 20000 in
theorem ggX7_readNoise_X7_passSemicolon : GoodIn wsX7_readNoise wsX7_passSemicolon := goodIn_r _ [95, 19, 8, 3, 4, 5, 6, 7, 9, 10, 71, 72, 73, 74, 20, 75, 21, 76, 77, 78, 79, 80, 81, 82, 83, 84, 85, 86, 87, 112, 113, 114, 115, 116, 117, 118, 119] (by decide +kernel) (by decide +kernel)
set_option maxRecDepth 20000 in
theorem gX7_readNoise_X7_passSemicolon : GoodIn wsX7_readNoise (wsV RX7 94 RX7 yX7_passSemicolon wsX7_passSemicolon) := goodIn_app (goodIn_of _ (by decide +kernel)) ggX7_readNoise_X7_passSemicolon
theorem adX7_readNoise_36 : (decode cX7_readNoise 36 = .ok (.invokevirtual 94, 3)) ∧ (decode cX7_readNoise 39 = .ok (.return_, 1)) ∧ (decode cX7_readNoise 7 = .ok (.aload_n 0, 1)) ∧ (decode cX7_readNoise 8 = .ok (.iconst 2, 1)) := by decide +kernel
theorem dX7_readNoise_36 : decode cX7_readNoise 36 = .ok (.invokevirtual 94, 3) := adX7_readNoise_36.1
theorem dX7_readNoise_39 : decode cX7_readNoise 39 = .ok (.return_, 1) := adX7_readNoise_36.2.1
theorem dX7_readNoise_7 : decode cX7_readNoise 7 = .ok (.aload_n 0, 1) := adX7_readNoise_36.2.2.1
theorem dX7_readNoise_8 : decode cX7_readNoise 8 = .ok (.iconst 2, 1) := adX7_readNoise_36.2.2.2
set_option maxRecDepth 20000 in
theorem ggX7_readNoise_X7_refuse : GoodIn wsX7_readNoise wsX7_refuse := goodIn_r _ [7, 8, 9, 10, 112, 113, 114, 115, 116, 117, 118, 119] (by decide +kernel) (by decide +kernel)
set_option maxRecDepth 20000 in
theorem gX7_readNoise_X7_refuse : GoodIn wsX7_readNoise (wsV RX7 75 RX7 yX7_refuse wsX7_refuse) := goodIn_app (goodIn_of _ (by decide +kernel)) ggX7_readNoise_X7_refuse
theorem dX7_readNoise_9 : decode cX7_readNoise 9 = .ok (.invokevirtual 75, 3) := by decide +kernel
theorem adX7_readSum_0 : (decode cX7_readSum 0 = .ok (.aload_n 1, 1)) ∧ (decode cX7_readSum 1 = .ok (.getfield 129, 3)) ∧ (decode cX7_readSum 4 = .ok (.ifCond .le 8, 3)) ∧ (decode cX7_readSum 12 = .ok (.aload_n 0, 1)) ∧ (decode cX7_readSum 13 = .ok (.ldc 65, 2)) := by decide +kernel
theorem dX7_readSum_0 : decode cX7_readSum 0 = .ok (.aload_n 1, 1) := adX7_readSum_0.1
theorem dX7_readSum_1 : decode cX7_readSum 1 = .ok (.getfield 129, 3) := adX7_readSum_0.2.1
theorem dX7_readSum_4 : decode cX7_readSum 4 = .ok (.ifCond .le 8, 3) := adX7_readSum_0.2.2.1
theorem dX7_readSum_12 : decode cX7_readSum 12 = .ok (.aload_n 0, 1) := adX7_readSum_0.2.2.2.1
theorem dX7_readSum_13 : decode cX7_readSum 13 = .ok (.ldc 65, 2) := adX7_readSum_0.2.2.2.2
set_option maxRecDepth 20000 in
theorem ggX7_readSum_X7_passWord : GoodIn wsX7_readSum wsX7_passWord := goodIn_r _ [13, 2, 14, 15, 16, 6, 17, 18, 19, 8, 20, 21, 22, 23, 24, 25, 26, 27, 28, 29, 30, 31, 32, 33, 34, 35, 36, 37, 38, 39, 40, 41, 42, 43, 44, 45, 46, 47, 48, 49, 50, 51, 52, 53, 54, 55, 56, 57, 58, 59, 60, 61, 62, 63, 64, 65, 66, 67, 68, 69, 3, 4, 5, 7, 9, 70, 71, 72, 73, 74, 75, 76, 77, 78, 79, 80, 81, 82, 83, 84, 85, 86, 135, 136, 137, 138, 139, 140, 141, 142] (by decide +kernel) (by decide +kernel)
set_option maxRecDepth 20000 in
theorem gX7_readSum_X7_passWord : GoodIn wsX7_readSum (wsV RX7 82 RX7 yX7_passWord wsX7_passWord) := goodIn_app (goodIn_of _ (by decide +kernel)) ggX7_readSum_X7_passWord
theorem adX7_readSum_15 : (decode cX7_readSum 15 = .ok (.invokevirtual 82, 3)) ∧ (decode cX7_readSum 18 = .ok (.iconst 0, 1)) ∧ (decode cX7_readSum 19 = .ok (.istore_n 2, 1)) ∧ (decode cX7_readSum 20 = .ok (.iconst 0, 1)) ∧ (decode cX7_readSum 21 = .ok (.istore_n 3, 1)) ∧ (decode cX7_readSum 22 = .ok (.iload_n 3, 1)) ∧ (decode cX7_readSum 23 = .ok (.sipush 600, 3)) ∧ (decode cX7_readSum 26 = .ok (.if_icmp .ge 35, 3)) := by decide +kernel
theorem dX7_readSum_15 : decode cX7_readSum 15 = .ok (.invokevirtual 82, 3) := adX7_readSum_15.1
theorem dX7_readSum_18 : decode cX7_readSum 18 = .ok (.iconst 0, 1) := adX7_readSum_15.2.1
theorem dX7_readSum_19 : decode cX7_readSum 19 = .ok (.istore_n 2, 1) := adX7_readSum_15.2.2.1
theorem dX7_readSum_20 : decode cX7_readSum 20 = .ok (.iconst 0, 1) := adX7_readSum_15.2.2.2.1
theorem dX7_readSum_21 : decode cX7_readSum 21 = .ok (.istore_n 3, 1) := adX7_readSum_15.2.2.2.2.1
theorem dX7_readSum_22 : decode cX7_readSum 22 = .ok (.iload_n 3, 1) := adX7_readSum_15.2.2.2.2.2.1
theorem dX7_readSum_23 : decode cX7_readSum 23 = .ok (.sipush 600, 3) := adX7_readSum_15.2.2.2.2.2.2.1
theorem dX7_readSum_26 : decode cX7_readSum 26 = .ok (.if_icmp .ge 35, 3) := adX7_readSum_15.2.2.2.2.2.2.2
theorem dX7_readSum_61 : decode cX7_readSum 61 = .ok (.aload_n 0, 1) := by decide +kernel
set_option maxRecDepth 20000 in
theorem ggX7_readSum_X7_passSemicolon : GoodIn wsX7_readSum wsX7_passSemicolon := goodIn_r _ [118, 18, 2, 3, 4, 5, 6, 7, 8, 9, 70, 71, 72, 73, 19, 74, 20, 75, 76, 77, 78, 79, 80, 81, 82, 83, 84, 85, 86, 135, 136, 137, 138, 139, 140, 141, 142] (by decide +kernel) (by decide +kernel)
set_option maxRecDepth 20000 in
theorem gX7_readSum_X7_passSemicolon : GoodIn wsX7_readSum (wsV RX7 94 RX7 yX7_passSemicolon wsX7_passSemicolon) := goodIn_app (goodIn_of _ (by decide +kernel)) ggX7_readSum_X7_passSemicolon
theorem adX7_readSum_62 : (decode cX7_readSum 62 = .ok (.invokevirtual 94, 3)) ∧ (decode cX7_readSum 65 = .ok (.return_, 1)) ∧ (decode cX7_readSum 29 = .ok (.iload_n 2, 1)) ∧ (decode cX7_readSum 30 = .ok (.iconst (-1), 1)) ∧ (decode cX7_readSum 31 = .ok (.if_icmp .eq 30, 3)) ∧ (decode cX7_readSum 34 = .ok (.aload_n 0, 1)) ∧ (decode cX7_readSum 35 = .ok (.getfield 22, 3)) ∧ (decode cX7_readSum 38 = .ok (.ifCond .ne 23, 3)) := by decide +kernel
theorem dX7_readSum_62 : decode cX7_readSum 62 = .ok (.invokevirtual 94, 3) := adX7_readSum_62.1
theorem dX7_readSum_65 : decode cX7_readSum 65 = .ok (.return_, 1) := adX7_readSum_62.2.1
theorem dX7_readSum_29 : decode cX7_readSum 29 = .ok (.iload_n 2, 1) := adX7_readSum_62.2.2.1
theorem dX7_readSum_30 : decode cX7_readSum 30 = .ok (.iconst (-1), 1) := adX7_readSum_62.2.2.2.1
theorem dX7_readSum_31 : decode cX7_readSum 31 = .ok (.if_icmp .eq 30, 3) := adX7_readSum_62.2.2.2.2.1
theorem dX7_readSum_34 : decode cX7_readSum 34 = .ok (.aload_n 0, 1) := adX7_readSum_62.2.2.2.2.2.1
theorem dX7_readSum_35 : decode cX7_readSum 35 = .ok (.getfield 22, 3) := adX7_readSum_62.2.2.2.2.2.2.1
theorem dX7_readSum_38 : decode cX7_readSum 38 = .ok (.ifCond .ne 23, 3) := adX7_readSum_62.2.2.2.2.2.2.2
theorem adX7_readSum_41 : (decode cX7_readSum 41 = .ok (.aload_n 1, 1)) ∧ (decode cX7_readSum 42 = .ok (.iload_n 2, 1)) ∧ (decode cX7_readSum 43 = .ok (.aload_n 0, 1)) := by decide +kernel
theorem dX7_readSum_41 : decode cX7_readSum 41 = .ok (.aload_n 1, 1) := adX7_readSum_41.1
theorem dX7_readSum_42 : decode cX7_readSum 42 = .ok (.iload_n 2, 1) := adX7_readSum_41.2.1
theorem dX7_readSum_43 : decode cX7_readSum 43 = .ok (.aload_n 0, 1) := adX7_readSum_41.2.2
set_option maxRecDepth 20000 in
theorem ggX7_readSum_X7_passPart : GoodIn wsX7_readSum wsX7_passPart := goodIn_r _ [90, 91, 92, 93, 6, 94, 14, 15, 16, 17, 18, 19, 8, 20, 21, 22, 23, 24, 25, 26, 27, 28, 29, 30, 31, 32, 33, 34, 35, 36, 37, 38, 39, 40, 41, 42, 43, 44, 45, 46, 47, 48, 49, 50, 51, 52, 53, 54, 55, 56, 57, 58, 59, 60, 61, 62, 63, 64, 65, 66, 67, 68, 69, 95, 96, 97, 98, 75, 2, 3, 4, 5, 7, 9, 70, 71, 72, 73, 74, 76, 77, 78, 79, 80, 81, 82, 83, 84, 85, 86, 135, 136, 137, 138, 139, 140, 141, 142] (by decide +kernel) (by decide +kernel)
set_option maxRecDepth 20000 in
theorem gX7_readSum_X7_passPart : GoodIn wsX7_readSum (wsV RX7 132 RX7 yX7_passPart wsX7_passPart) := goodIn_app (goodIn_of _ (by decide +kernel)) ggX7_readSum_X7_passPart
theorem dX7_readSum_44 : decode cX7_readSum 44 = .ok (.invokevirtual 132, 3) := by decide +kernel
set_option maxRecDepth 20000 in
theorem ggX7_readSum_X3_addPart : GoodIn wsX7_readSum wsX3_addPart := goodIn_r _ [103, 104, 105, 106, 119, 120, 121, 122, 123, 124, 125, 126, 127, 128, 129, 130, 131, 132, 133, 134] (by decide +kernel) (by decide +kernel)
set_option maxRecDepth 20000 in
theorem gX7_readSum_X3_addPart : GoodIn wsX7_readSum (wsV RX7 136 RX3 yX3_addPart wsX3_addPart) := goodIn_app (goodIn_of _ (by decide +kernel)) ggX7_readSum_X3_addPart
theorem adX7_readSum_47 : (decode cX7_readSum 47 = .ok (.invokevirtual 136, 3)) ∧ (decode cX7_readSum 50 = .ok (.aload_n 0, 1)) := by decide +kernel
theorem dX7_readSum_47 : decode cX7_readSum 47 = .ok (.invokevirtual 136, 3) := adX7_readSum_47.1
theorem dX7_readSum_50 : decode cX7_readSum 50 = .ok (.aload_n 0, 1) := adX7_readSum_47.2
set_option maxRecDepth 20000 in
theorem ggX7_readSum_X7_passJoint : GoodIn wsX7_readSum wsX7_passJoint := goodIn_r _ [110, 111, 112, 113, 6, 114, 14, 15, 16, 17, 18, 19, 8, 20, 21, 22, 23, 24, 25, 26, 27, 28, 29, 30, 31, 32, 33, 34, 35, 36, 37, 38, 39, 40, 41, 42, 43, 44, 45, 46, 47, 48, 49, 50, 51, 52, 53, 54, 55, 56, 57, 58, 59, 60, 61, 62, 63, 64, 65, 66, 67, 68, 69, 70, 71, 72, 73, 74, 75, 76, 77, 78, 79, 80, 81, 82, 83, 84, 85, 86, 135, 136, 137, 138, 139, 140, 141, 142] (by decide +kernel) (by decide +kernel)
set_option maxRecDepth 20000 in
theorem gX7_readSum_X7_passJoint : GoodIn wsX7_readSum (wsV RX7 139 RX7 yX7_passJoint wsX7_passJoint) := goodIn_app (goodIn_of _ (by decide +kernel)) ggX7_readSum_X7_passJoint
theorem adX7_readSum_51 : (decode cX7_readSum 51 = .ok (.invokevirtual 139, 3)) ∧ (decode cX7_readSum 54 = .ok (.istore_n 2, 1)) ∧ (decode cX7_readSum 55 = .ok (.iinc 3 1, 3)) ∧ (decode cX7_readSum 58 = .ok (.goto (-36), 3)) ∧ (decode cX7_readSum 7 = .ok (.aload_n 0, 1)) ∧ (decode cX7_readSum 8 = .ok (.iconst 2, 1)) := by decide +kernel
theorem dX7_readSum_51 : decode cX7_readSum 51 = .ok (.invokevirtual 139, 3) := adX7_readSum_51.1
theorem dX7_readSum_54 : decode cX7_readSum 54 = .ok (.istore_n 2, 1) := adX7_readSum_51.2.1
theorem dX7_readSum_55 : decode cX7_readSum 55 = .ok (.iinc 3 1, 3) := adX7_readSum_51.2.2.1
theorem dX7_readSum_58 : decode cX7_readSum 58 = .ok (.goto (-36), 3) := adX7_readSum_51.2.2.2.1
theorem dX7_readSum_7 : decode cX7_readSum 7 = .ok (.aload_n 0, 1) := adX7_readSum_51.2.2.2.2.1
theorem dX7_readSum_8 : decode cX7_readSum 8 = .ok (.iconst 2, 1) := adX7_readSum_51.2.2.2.2.2
set_option maxRecDepth 20000 in
theorem ggX7_readSum_X7_refuse : GoodIn wsX7_readSum wsX7_refuse := goodIn_r _ [7, 2, 8, 9, 135, 136, 137, 138, 139, 140, 141, 142] (by decide +kernel) (by decide +kernel)
set_option maxRecDepth 20000 in
theorem gX7_readSum_X7_refuse : GoodIn wsX7_readSum (wsV RX7 75 RX7 yX7_refuse wsX7_refuse) := goodIn_app (goodIn_of _ (by decide +kernel)) ggX7_readSum_X7_refuse
theorem dX7_readSum_9 : decode cX7_readSum 9 = .ok (.invokevirtual 75, 3) := by decide +kernel
theorem adX7_readLeak_0 : (decode cX7_readLeak 0 = .ok (.aload_n 0, 1)) ∧ (decode cX7_readLeak 1 = .ok (.ldc 60, 2)) := by decide +kernel
theorem dX7_readLeak_0 : decode cX7_readLeak 0 = .ok (.aload_n 0, 1) := adX7_readLeak_0.1
theorem dX7_readLeak_1 : decode cX7_readLeak 1 = .ok (.ldc 60, 2) := adX7_readLeak_0.2
set_option maxRecDepth 20000 in
theorem ggX7_readLeak_X7_passWord : GoodIn wsX7_readLeak wsX7_passWord := goodIn_r _ [8, 9, 10, 11, 12, 7, 13, 1, 14, 15, 16, 17, 18, 19, 20, 21, 22, 23, 24, 25, 26, 27, 28, 29, 30, 31, 32, 33, 34, 35, 36, 37, 38, 39, 40, 41, 42, 43, 44, 45, 46, 47, 48, 49, 50, 51, 52, 53, 54, 55, 56, 57, 58, 59, 60, 61, 62, 63, 64, 65, 66, 67, 68, 69, 70, 71, 72, 73, 74, 75, 2, 76, 77, 78, 79, 80, 81, 82, 83, 84, 85, 86, 107, 108, 109, 110, 111, 112, 113, 114] (by decide +kernel) (by decide +kernel)
set_option maxRecDepth 20000 in
theorem gX7_readLeak_X7_passWord : GoodIn wsX7_readLeak (wsV RX7 82 RX7 yX7_passWord wsX7_passWord) := goodIn_app (goodIn_of _ (by decide +kernel)) ggX7_readLeak_X7_passWord
theorem adX7_readLeak_3 : (decode cX7_readLeak 3 = .ok (.invokevirtual 82, 3)) ∧ (decode cX7_readLeak 6 = .ok (.aload_n 0, 1)) ∧ (decode cX7_readLeak 7 = .ok (.getfield 36, 3)) ∧ (decode cX7_readLeak 10 = .ok (.iconst 2, 1)) ∧ (decode cX7_readLeak 11 = .ok (.if_icmp .ne 19, 3)) ∧ (decode cX7_readLeak 30 = .ok (.aload_n 0, 1)) ∧ (decode cX7_readLeak 31 = .ok (.iconst 1, 1)) ∧ (decode cX7_readLeak 32 = .ok (.bipush 12, 2)) := by decide +kernel
theorem dX7_readLeak_3 : decode cX7_readLeak 3 = .ok (.invokevirtual 82, 3) := adX7_readLeak_3.1
theorem dX7_readLeak_6 : decode cX7_readLeak 6 = .ok (.aload_n 0, 1) := adX7_readLeak_3.2.1
theorem dX7_readLeak_7 : decode cX7_readLeak 7 = .ok (.getfield 36, 3) := adX7_readLeak_3.2.2.1
theorem dX7_readLeak_10 : decode cX7_readLeak 10 = .ok (.iconst 2, 1) := adX7_readLeak_3.2.2.2.1
theorem dX7_readLeak_11 : decode cX7_readLeak 11 = .ok (.if_icmp .ne 19, 3) := adX7_readLeak_3.2.2.2.2.1
theorem dX7_readLeak_30 : decode cX7_readLeak 30 = .ok (.aload_n 0, 1) := adX7_readLeak_3.2.2.2.2.2.1
theorem dX7_readLeak_31 : decode cX7_readLeak 31 = .ok (.iconst 1, 1) := adX7_readLeak_3.2.2.2.2.2.2.1
theorem dX7_readLeak_32 : decode cX7_readLeak 32 = .ok (.bipush 12, 2) := adX7_readLeak_3.2.2.2.2.2.2.2
set_option maxRecDepth 20000 in
theorem ggX7_readLeak_X7_passNumber : GoodIn wsX7_readLeak wsX7_passNumber := goodIn_r _ [102, 1, 2, 9, 66, 67, 68, 7, 69, 15, 70, 71, 72, 73, 74, 14, 75, 16, 76, 77, 78, 79, 80, 81, 82, 83, 84, 85, 86, 107, 108, 109, 110, 111, 112, 113, 114] (by decide +kernel) (by decide +kernel)
set_option maxRecDepth 20000 in
theorem gX7_readLeak_X7_passNumber : GoodIn wsX7_readLeak (wsV RX7 88 RX7 yX7_passNumber wsX7_passNumber) := goodIn_app (goodIn_of _ (by decide +kernel)) ggX7_readLeak_X7_passNumber
theorem adX7_readLeak_34 : (decode cX7_readLeak 34 = .ok (.invokevirtual 88, 3)) ∧ (decode cX7_readLeak 37 = .ok (.istore_n 2, 1)) ∧ (decode cX7_readLeak 38 = .ok (.aload_n 0, 1)) ∧ (decode cX7_readLeak 39 = .ok (.ldc 123, 2)) ∧ (decode cX7_readLeak 41 = .ok (.invokevirtual 82, 3)) ∧ (decode cX7_readLeak 44 = .ok (.aload_n 1, 1)) ∧ (decode cX7_readLeak 45 = .ok (.getfield 125, 3)) ∧ (decode cX7_readLeak 48 = .ok (.iload_n 2, 1)) := by decide +kernel
theorem dX7_readLeak_34 : decode cX7_readLeak 34 = .ok (.invokevirtual 88, 3) := adX7_readLeak_34.1
theorem dX7_readLeak_37 : decode cX7_readLeak 37 = .ok (.istore_n 2, 1) := adX7_readLeak_34.2.1
theorem dX7_readLeak_38 : decode cX7_readLeak 38 = .ok (.aload_n 0, 1) := adX7_readLeak_34.2.2.1
theorem dX7_readLeak_39 : decode cX7_readLeak 39 = .ok (.ldc 123, 2) := adX7_readLeak_34.2.2.2.1
theorem dX7_readLeak_41 : decode cX7_readLeak 41 = .ok (.invokevirtual 82, 3) := adX7_readLeak_34.2.2.2.2.1
theorem dX7_readLeak_44 : decode cX7_readLeak 44 = .ok (.aload_n 1, 1) := adX7_readLeak_34.2.2.2.2.2.1
theorem dX7_readLeak_45 : decode cX7_readLeak 45 = .ok (.getfield 125, 3) := adX7_readLeak_34.2.2.2.2.2.2.1
theorem dX7_readLeak_48 : decode cX7_readLeak 48 = .ok (.iload_n 2, 1) := adX7_readLeak_34.2.2.2.2.2.2.2
theorem adX7_readLeak_49 : (decode cX7_readLeak 49 = .ok (.aload_n 0, 1)) ∧ (decode cX7_readLeak 50 = .ok (.iconst 0, 1)) ∧ (decode cX7_readLeak 51 = .ok (.bipush 99, 2)) ∧ (decode cX7_readLeak 53 = .ok (.invokevirtual 88, 3)) ∧ (decode cX7_readLeak 56 = .ok (.iastore, 1)) ∧ (decode cX7_readLeak 57 = .ok (.aload_n 0, 1)) := by decide +kernel
theorem dX7_readLeak_49 : decode cX7_readLeak 49 = .ok (.aload_n 0, 1) := adX7_readLeak_49.1
theorem dX7_readLeak_50 : decode cX7_readLeak 50 = .ok (.iconst 0, 1) := adX7_readLeak_49.2.1
theorem dX7_readLeak_51 : decode cX7_readLeak 51 = .ok (.bipush 99, 2) := adX7_readLeak_49.2.2.1
theorem dX7_readLeak_53 : decode cX7_readLeak 53 = .ok (.invokevirtual 88, 3) := adX7_readLeak_49.2.2.2.1
theorem dX7_readLeak_56 : decode cX7_readLeak 56 = .ok (.iastore, 1) := adX7_readLeak_49.2.2.2.2.1
theorem dX7_readLeak_57 : decode cX7_readLeak 57 = .ok (.aload_n 0, 1) := adX7_readLeak_49.2.2.2.2.2
set_option maxRecDepth 20000 in
theorem ggX7_readLeak_X7_passSemicolon : GoodIn wsX7_readLeak wsX7_passSemicolon := goodIn_r _ [106, 1, 9, 66, 67, 68, 7, 69, 15, 70, 71, 72, 73, 74, 14, 75, 16, 2, 76, 77, 78, 79, 80, 81, 82, 83, 84, 85, 86, 107, 108, 109, 110, 111, 112, 113, 114] (by decide +kernel) (by decide +kernel)
set_option maxRecDepth 20000 in
theorem gX7_readLeak_X7_passSemicolon : GoodIn wsX7_readLeak (wsV RX7 94 RX7 yX7_passSemicolon wsX7_passSemicolon) := goodIn_app (goodIn_of _ (by decide +kernel)) ggX7_readLeak_X7_passSemicolon
theorem adX7_readLeak_58 : (decode cX7_readLeak 58 = .ok (.invokevirtual 94, 3)) ∧ (decode cX7_readLeak 61 = .ok (.return_, 1)) ∧ (decode cX7_readLeak 14 = .ok (.aload_n 1, 1)) ∧ (decode cX7_readLeak 15 = .ok (.aload_n 0, 1)) ∧ (decode cX7_readLeak 16 = .ok (.getfield 116, 3)) := by decide +kernel
theorem dX7_readLeak_58 : decode cX7_readLeak 58 = .ok (.invokevirtual 94, 3) := adX7_readLeak_58.1
theorem dX7_readLeak_61 : decode cX7_readLeak 61 = .ok (.return_, 1) := adX7_readLeak_58.2.1
theorem dX7_readLeak_14 : decode cX7_readLeak 14 = .ok (.aload_n 1, 1) := adX7_readLeak_58.2.2.1
theorem dX7_readLeak_15 : decode cX7_readLeak 15 = .ok (.aload_n 0, 1) := adX7_readLeak_58.2.2.2.1
theorem dX7_readLeak_16 : decode cX7_readLeak 16 = .ok (.getfield 116, 3) := adX7_readLeak_58.2.2.2.2
set_option maxRecDepth 20000 in
theorem ggX7_readLeak_X3_hasLeak : GoodIn wsX7_readLeak wsX3_hasLeak := goodIn_r _ [91, 92, 93, 94, 95, 96, 97, 98, 115, 116, 117, 118, 119, 120, 121, 122, 123, 124, 125, 126, 127, 128, 129, 130] (by decide +kernel) (by decide +kernel)
set_option maxRecDepth 20000 in
theorem gX7_readLeak_X3_hasLeak : GoodIn wsX7_readLeak (wsV RX7 119 RX3 yX3_hasLeak wsX3_hasLeak) := goodIn_app (goodIn_of _ (by decide +kernel)) ggX7_readLeak_X3_hasLeak
theorem adX7_readLeak_19 : (decode cX7_readLeak 19 = .ok (.invokevirtual 119, 3)) ∧ (decode cX7_readLeak 22 = .ok (.ifCond .eq 8, 3)) ∧ (decode cX7_readLeak 25 = .ok (.aload_n 0, 1)) ∧ (decode cX7_readLeak 26 = .ok (.iconst 2, 1)) := by decide +kernel
theorem dX7_readLeak_19 : decode cX7_readLeak 19 = .ok (.invokevirtual 119, 3) := adX7_readLeak_19.1
theorem dX7_readLeak_22 : decode cX7_readLeak 22 = .ok (.ifCond .eq 8, 3) := adX7_readLeak_19.2.1
theorem dX7_readLeak_25 : decode cX7_readLeak 25 = .ok (.aload_n 0, 1) := adX7_readLeak_19.2.2.1
theorem dX7_readLeak_26 : decode cX7_readLeak 26 = .ok (.iconst 2, 1) := adX7_readLeak_19.2.2.2
set_option maxRecDepth 20000 in
theorem ggX7_readLeak_X7_refuse : GoodIn wsX7_readLeak wsX7_refuse := goodIn_r _ [69, 9, 15, 70, 107, 108, 109, 110, 111, 112, 113, 114] (by decide +kernel) (by decide +kernel)
set_option maxRecDepth 20000 in
theorem gX7_readLeak_X7_refuse : GoodIn wsX7_readLeak (wsV RX7 75 RX7 yX7_refuse wsX7_refuse) := goodIn_app (goodIn_of _ (by decide +kernel)) ggX7_readLeak_X7_refuse
theorem dX7_readLeak_27 : decode cX7_readLeak 27 = .ok (.invokevirtual 75, 3) := by decide +kernel
theorem adX7_readSort_0 : (decode cX7_readSort 0 = .ok (.aload_n 1, 1)) ∧ (decode cX7_readSort 1 = .ok (.getfield 101, 3)) ∧ (decode cX7_readSort 4 = .ok (.bipush 8, 2)) ∧ (decode cX7_readSort 6 = .ok (.if_icmp .lt 8, 3)) ∧ (decode cX7_readSort 14 = .ok (.aload_n 0, 1)) ∧ (decode cX7_readSort 15 = .ok (.ldc 55, 2)) := by decide +kernel
theorem dX7_readSort_0 : decode cX7_readSort 0 = .ok (.aload_n 1, 1) := adX7_readSort_0.1
theorem dX7_readSort_1 : decode cX7_readSort 1 = .ok (.getfield 101, 3) := adX7_readSort_0.2.1
theorem dX7_readSort_4 : decode cX7_readSort 4 = .ok (.bipush 8, 2) := adX7_readSort_0.2.2.1
theorem dX7_readSort_6 : decode cX7_readSort 6 = .ok (.if_icmp .lt 8, 3) := adX7_readSort_0.2.2.2.1
theorem dX7_readSort_14 : decode cX7_readSort 14 = .ok (.aload_n 0, 1) := adX7_readSort_0.2.2.2.2.1
theorem dX7_readSort_15 : decode cX7_readSort 15 = .ok (.ldc 55, 2) := adX7_readSort_0.2.2.2.2.2
set_option maxRecDepth 20000 in
theorem ggX7_readSort_X7_passWord : GoodIn wsX7_readSort wsX7_passWord := goodIn_r _ [13, 7, 14, 15, 16, 5, 17, 18, 19, 8, 20, 21, 22, 23, 24, 25, 26, 27, 28, 29, 30, 31, 32, 33, 34, 35, 36, 37, 38, 39, 40, 41, 42, 43, 44, 45, 46, 47, 48, 49, 50, 51, 52, 53, 54, 55, 56, 57, 58, 59, 60, 61, 62, 63, 64, 65, 66, 67, 68, 69, 2, 3, 4, 6, 9, 70, 71, 72, 73, 74, 75, 76, 77, 78, 79, 80, 81, 82, 83, 84, 85, 86, 122, 123, 124, 125, 126, 127, 128, 129] (by decide +kernel) (by decide +kernel)
set_option maxRecDepth 20000 in
theorem gX7_readSort_X7_passWord : GoodIn wsX7_readSort (wsV RX7 82 RX7 yX7_passWord wsX7_passWord) := goodIn_app (goodIn_of _ (by decide +kernel)) ggX7_readSort_X7_passWord
theorem adX7_readSort_17 : (decode cX7_readSort 17 = .ok (.invokevirtual 82, 3)) ∧ (decode cX7_readSort 20 = .ok (.aload_n 0, 1)) ∧ (decode cX7_readSort 21 = .ok (.ldc 104, 2)) ∧ (decode cX7_readSort 23 = .ok (.invokevirtual 82, 3)) ∧ (decode cX7_readSort 26 = .ok (.aload_n 0, 1)) ∧ (decode cX7_readSort 27 = .ok (.iconst 1, 1)) ∧ (decode cX7_readSort 28 = .ok (.bipush 99, 2)) := by decide +kernel
theorem dX7_readSort_17 : decode cX7_readSort 17 = .ok (.invokevirtual 82, 3) := adX7_readSort_17.1
theorem dX7_readSort_20 : decode cX7_readSort 20 = .ok (.aload_n 0, 1) := adX7_readSort_17.2.1
theorem dX7_readSort_21 : decode cX7_readSort 21 = .ok (.ldc 104, 2) := adX7_readSort_17.2.2.1
theorem dX7_readSort_23 : decode cX7_readSort 23 = .ok (.invokevirtual 82, 3) := adX7_readSort_17.2.2.2.1
theorem dX7_readSort_26 : decode cX7_readSort 26 = .ok (.aload_n 0, 1) := adX7_readSort_17.2.2.2.2.1
theorem dX7_readSort_27 : decode cX7_readSort 27 = .ok (.iconst 1, 1) := adX7_readSort_17.2.2.2.2.2.1
theorem dX7_readSort_28 : decode cX7_readSort 28 = .ok (.bipush 99, 2) := adX7_readSort_17.2.2.2.2.2.2
set_option maxRecDepth 20000 in
theorem ggX7_readSort_X7_passNumber : GoodIn wsX7_readSort wsX7_passNumber := goodIn_r _ [90, 18, 75, 7, 2, 3, 4, 5, 6, 8, 9, 70, 71, 72, 73, 19, 74, 20, 76, 77, 78, 79, 80, 81, 82, 83, 84, 85, 86, 122, 123, 124, 125, 126, 127, 128, 129] (by decide +kernel) (by decide +kernel)
set_option maxRecDepth 20000 in
theorem gX7_readSort_X7_passNumber : GoodIn wsX7_readSort (wsV RX7 88 RX7 yX7_passNumber wsX7_passNumber) := goodIn_app (goodIn_of _ (by decide +kernel)) ggX7_readSort_X7_passNumber
theorem adX7_readSort_30 : (decode cX7_readSort 30 = .ok (.invokevirtual 88, 3)) ∧ (decode cX7_readSort 33 = .ok (.istore_n 2, 1)) ∧ (decode cX7_readSort 34 = .ok (.aload_n 0, 1)) ∧ (decode cX7_readSort 35 = .ok (.ldc 106, 2)) ∧ (decode cX7_readSort 37 = .ok (.invokevirtual 82, 3)) ∧ (decode cX7_readSort 40 = .ok (.aload_n 0, 1)) ∧ (decode cX7_readSort 41 = .ok (.iconst 0, 1)) ∧ (decode cX7_readSort 42 = .ok (.bipush 99, 2)) := by decide +kernel
theorem dX7_readSort_30 : decode cX7_readSort 30 = .ok (.invokevirtual 88, 3) := adX7_readSort_30.1
theorem dX7_readSort_33 : decode cX7_readSort 33 = .ok (.istore_n 2, 1) := adX7_readSort_30.2.1
theorem dX7_readSort_34 : decode cX7_readSort 34 = .ok (.aload_n 0, 1) := adX7_readSort_30.2.2.1
theorem dX7_readSort_35 : decode cX7_readSort 35 = .ok (.ldc 106, 2) := adX7_readSort_30.2.2.2.1
theorem dX7_readSort_37 : decode cX7_readSort 37 = .ok (.invokevirtual 82, 3) := adX7_readSort_30.2.2.2.2.1
theorem dX7_readSort_40 : decode cX7_readSort 40 = .ok (.aload_n 0, 1) := adX7_readSort_30.2.2.2.2.2.1
theorem dX7_readSort_41 : decode cX7_readSort 41 = .ok (.iconst 0, 1) := adX7_readSort_30.2.2.2.2.2.2.1
theorem dX7_readSort_42 : decode cX7_readSort 42 = .ok (.bipush 99, 2) := adX7_readSort_30.2.2.2.2.2.2.2
theorem adX7_readSort_44 : (decode cX7_readSort 44 = .ok (.invokevirtual 88, 3)) ∧ (decode cX7_readSort 47 = .ok (.istore_n 3, 1)) ∧ (decode cX7_readSort 48 = .ok (.aload_n 0, 1)) ∧ (decode cX7_readSort 49 = .ok (.ldc 108, 2)) ∧ (decode cX7_readSort 51 = .ok (.invokevirtual 82, 3)) ∧ (decode cX7_readSort 54 = .ok (.aload_n 0, 1)) ∧ (decode cX7_readSort 55 = .ok (.iconst 0, 1)) ∧ (decode cX7_readSort 56 = .ok (.sipush 240, 3)) := by decide +kernel
theorem dX7_readSort_44 : decode cX7_readSort 44 = .ok (.invokevirtual 88, 3) := adX7_readSort_44.1
theorem dX7_readSort_47 : decode cX7_readSort 47 = .ok (.istore_n 3, 1) := adX7_readSort_44.2.1
theorem dX7_readSort_48 : decode cX7_readSort 48 = .ok (.aload_n 0, 1) := adX7_readSort_44.2.2.1
theorem dX7_readSort_49 : decode cX7_readSort 49 = .ok (.ldc 108, 2) := adX7_readSort_44.2.2.2.1
theorem dX7_readSort_51 : decode cX7_readSort 51 = .ok (.invokevirtual 82, 3) := adX7_readSort_44.2.2.2.2.1
theorem dX7_readSort_54 : decode cX7_readSort 54 = .ok (.aload_n 0, 1) := adX7_readSort_44.2.2.2.2.2.1
theorem dX7_readSort_55 : decode cX7_readSort 55 = .ok (.iconst 0, 1) := adX7_readSort_44.2.2.2.2.2.2.1
theorem dX7_readSort_56 : decode cX7_readSort 56 = .ok (.sipush 240, 3) := adX7_readSort_44.2.2.2.2.2.2.2
theorem adX7_readSort_59 : (decode cX7_readSort 59 = .ok (.invokevirtual 88, 3)) ∧ (decode cX7_readSort 62 = .ok (.istore 4, 2)) ∧ (decode cX7_readSort 64 = .ok (.iconst 0, 1)) ∧ (decode cX7_readSort 65 = .ok (.istore 5, 2)) ∧ (decode cX7_readSort 67 = .ok (.aload_n 0, 1)) ∧ (decode cX7_readSort 68 = .ok (.ldc 110, 2)) := by decide +kernel
theorem dX7_readSort_59 : decode cX7_readSort 59 = .ok (.invokevirtual 88, 3) := adX7_readSort_59.1
theorem dX7_readSort_62 : decode cX7_readSort 62 = .ok (.istore 4, 2) := adX7_readSort_59.2.1
theorem dX7_readSort_64 : decode cX7_readSort 64 = .ok (.iconst 0, 1) := adX7_readSort_59.2.2.1
theorem dX7_readSort_65 : decode cX7_readSort 65 = .ok (.istore 5, 2) := adX7_readSort_59.2.2.2.1
theorem dX7_readSort_67 : decode cX7_readSort 67 = .ok (.aload_n 0, 1) := adX7_readSort_59.2.2.2.2.1
theorem dX7_readSort_68 : decode cX7_readSort 68 = .ok (.ldc 110, 2) := adX7_readSort_59.2.2.2.2.2
set_option maxRecDepth 20000 in
theorem ggX7_readSort_X7_isWord : GoodIn wsX7_readSort wsX7_isWord := goodIn_r _ [17, 18, 19, 8, 20, 21, 22, 23, 24, 25, 26, 27, 28, 29, 30, 31, 32, 33, 34, 35, 36, 37, 38, 39, 40, 41, 42, 43, 44, 45, 46, 47, 48, 49, 50, 51, 52, 53, 54, 55, 56, 57, 58, 59, 60, 61, 62, 63, 64, 65, 66, 67, 68, 69, 122, 123, 124, 125, 126, 127, 128, 129] (by decide +kernel) (by decide +kernel)
set_option maxRecDepth 20000 in
theorem gX7_readSort_X7_isWord : GoodIn wsX7_readSort (wsV RX7 48 RX7 yX7_isWord wsX7_isWord) := goodIn_app (goodIn_of _ (by decide +kernel)) ggX7_readSort_X7_isWord
theorem adX7_readSort_70 : (decode cX7_readSort 70 = .ok (.invokevirtual 48, 3)) ∧ (decode cX7_readSort 73 = .ok (.ifCond .eq 18, 3)) ∧ (decode cX7_readSort 91 = .ok (.aload_n 0, 1)) := by decide +kernel
theorem dX7_readSort_70 : decode cX7_readSort 70 = .ok (.invokevirtual 48, 3) := adX7_readSort_70.1
theorem dX7_readSort_73 : decode cX7_readSort 73 = .ok (.ifCond .eq 18, 3) := adX7_readSort_70.2.1
theorem dX7_readSort_91 : decode cX7_readSort 91 = .ok (.aload_n 0, 1) := adX7_readSort_70.2.2
set_option maxRecDepth 20000 in
theorem ggX7_readSort_X7_passSemicolon : GoodIn wsX7_readSort wsX7_passSemicolon := goodIn_r _ [94, 18, 7, 2, 3, 4, 5, 6, 8, 9, 70, 71, 72, 73, 19, 74, 20, 75, 76, 77, 78, 79, 80, 81, 82, 83, 84, 85, 86, 122, 123, 124, 125, 126, 127, 128, 129] (by decide +kernel) (by decide +kernel)
set_option maxRecDepth 20000 in
theorem gX7_readSort_X7_passSemicolon : GoodIn wsX7_readSort (wsV RX7 94 RX7 yX7_passSemicolon wsX7_passSemicolon) := goodIn_app (goodIn_of _ (by decide +kernel)) ggX7_readSort_X7_passSemicolon
theorem adX7_readSort_92 : (decode cX7_readSort 92 = .ok (.invokevirtual 94, 3)) ∧ (decode cX7_readSort 95 = .ok (.aload_n 1, 1)) ∧ (decode cX7_readSort 96 = .ok (.iload_n 2, 1)) ∧ (decode cX7_readSort 97 = .ok (.iload_n 3, 1)) ∧ (decode cX7_readSort 98 = .ok (.iload 4, 2)) ∧ (decode cX7_readSort 100 = .ok (.iload 5, 2)) := by decide +kernel
theorem dX7_readSort_92 : decode cX7_readSort 92 = .ok (.invokevirtual 94, 3) := adX7_readSort_92.1
theorem dX7_readSort_95 : decode cX7_readSort 95 = .ok (.aload_n 1, 1) := adX7_readSort_92.2.1
theorem dX7_readSort_96 : decode cX7_readSort 96 = .ok (.iload_n 2, 1) := adX7_readSort_92.2.2.1
theorem dX7_readSort_97 : decode cX7_readSort 97 = .ok (.iload_n 3, 1) := adX7_readSort_92.2.2.2.1
theorem dX7_readSort_98 : decode cX7_readSort 98 = .ok (.iload 4, 2) := adX7_readSort_92.2.2.2.2.1
theorem dX7_readSort_100 : decode cX7_readSort 100 = .ok (.iload 5, 2) := adX7_readSort_92.2.2.2.2.2
set_option maxRecDepth 20000 in
theorem ggX7_readSort_X3_addSort : GoodIn wsX7_readSort wsX3_addSort := goodIn_r _ [99, 100, 101, 102, 103, 104, 105, 106, 107, 108, 109, 110, 111, 112, 113, 114, 115, 116, 117, 118, 119, 120, 121] (by decide +kernel) (by decide +kernel)
set_option maxRecDepth 20000 in
theorem gX7_readSort_X3_addSort : GoodIn wsX7_readSort (wsV RX7 112 RX3 yX3_addSort wsX3_addSort) := goodIn_app (goodIn_of _ (by decide +kernel)) ggX7_readSort_X3_addSort
theorem adX7_readSort_102 : (decode cX7_readSort 102 = .ok (.invokevirtual 112, 3)) ∧ (decode cX7_readSort 105 = .ok (.return_, 1)) ∧ (decode cX7_readSort 76 = .ok (.aload_n 0, 1)) ∧ (decode cX7_readSort 77 = .ok (.ldc 110, 2)) ∧ (decode cX7_readSort 79 = .ok (.invokevirtual 82, 3)) ∧ (decode cX7_readSort 82 = .ok (.aload_n 0, 1)) ∧ (decode cX7_readSort 83 = .ok (.iconst 0, 1)) ∧ (decode cX7_readSort 84 = .ok (.bipush 60, 2)) := by decide +kernel
theorem dX7_readSort_102 : decode cX7_readSort 102 = .ok (.invokevirtual 112, 3) := adX7_readSort_102.1
theorem dX7_readSort_105 : decode cX7_readSort 105 = .ok (.return_, 1) := adX7_readSort_102.2.1
theorem dX7_readSort_76 : decode cX7_readSort 76 = .ok (.aload_n 0, 1) := adX7_readSort_102.2.2.1
theorem dX7_readSort_77 : decode cX7_readSort 77 = .ok (.ldc 110, 2) := adX7_readSort_102.2.2.2.1
theorem dX7_readSort_79 : decode cX7_readSort 79 = .ok (.invokevirtual 82, 3) := adX7_readSort_102.2.2.2.2.1
theorem dX7_readSort_82 : decode cX7_readSort 82 = .ok (.aload_n 0, 1) := adX7_readSort_102.2.2.2.2.2.1
theorem dX7_readSort_83 : decode cX7_readSort 83 = .ok (.iconst 0, 1) := adX7_readSort_102.2.2.2.2.2.2.1
theorem dX7_readSort_84 : decode cX7_readSort 84 = .ok (.bipush 60, 2) := adX7_readSort_102.2.2.2.2.2.2.2
theorem adX7_readSort_86 : (decode cX7_readSort 86 = .ok (.invokevirtual 88, 3)) ∧ (decode cX7_readSort 89 = .ok (.istore 5, 2)) ∧ (decode cX7_readSort 9 = .ok (.aload_n 0, 1)) ∧ (decode cX7_readSort 10 = .ok (.iconst 3, 1)) := by decide +kernel
theorem dX7_readSort_86 : decode cX7_readSort 86 = .ok (.invokevirtual 88, 3) := adX7_readSort_86.1
theorem dX7_readSort_89 : decode cX7_readSort 89 = .ok (.istore 5, 2) := adX7_readSort_86.2.1
theorem dX7_readSort_9 : decode cX7_readSort 9 = .ok (.aload_n 0, 1) := adX7_readSort_86.2.2.1
theorem dX7_readSort_10 : decode cX7_readSort 10 = .ok (.iconst 3, 1) := adX7_readSort_86.2.2.2
set_option maxRecDepth 20000 in
theorem ggX7_readSort_X7_refuse : GoodIn wsX7_readSort wsX7_refuse := goodIn_r _ [6, 7, 8, 9, 122, 123, 124, 125, 126, 127, 128, 129] (by decide +kernel) (by decide +kernel)
set_option maxRecDepth 20000 in
theorem gX7_readSort_X7_refuse : GoodIn wsX7_readSort (wsV RX7 75 RX7 yX7_refuse wsX7_refuse) := goodIn_app (goodIn_of _ (by decide +kernel)) ggX7_readSort_X7_refuse
theorem dX7_readSort_11 : decode cX7_readSort 11 = .ok (.invokevirtual 75, 3) := by decide +kernel
theorem adX7_readLaw_0 : (decode cX7_readLaw 0 = .ok (.aload_n 1, 1)) ∧ (decode cX7_readLaw 1 = .ok (.getfield 79, 3)) ∧ (decode cX7_readLaw 4 = .ok (.bipush 6, 2)) ∧ (decode cX7_readLaw 6 = .ok (.if_icmp .lt 8, 3)) ∧ (decode cX7_readLaw 14 = .ok (.aload_n 0, 1)) ∧ (decode cX7_readLaw 15 = .ok (.ldc 46, 2)) := by decide +kernel
theorem dX7_readLaw_0 : decode cX7_readLaw 0 = .ok (.aload_n 1, 1) := adX7_readLaw_0.1
theorem dX7_readLaw_1 : decode cX7_readLaw 1 = .ok (.getfield 79, 3) := adX7_readLaw_0.2.1
theorem dX7_readLaw_4 : decode cX7_readLaw 4 = .ok (.bipush 6, 2) := adX7_readLaw_0.2.2.1
theorem dX7_readLaw_6 : decode cX7_readLaw 6 = .ok (.if_icmp .lt 8, 3) := adX7_readLaw_0.2.2.2.1
theorem dX7_readLaw_14 : decode cX7_readLaw 14 = .ok (.aload_n 0, 1) := adX7_readLaw_0.2.2.2.2.1
theorem dX7_readLaw_15 : decode cX7_readLaw 15 = .ok (.ldc 46, 2) := adX7_readLaw_0.2.2.2.2.2
set_option maxRecDepth 20000 in
theorem ggX7_readLaw_X7_passWord : GoodIn wsX7_readLaw wsX7_passWord := goodIn_r _ [13, 7, 14, 15, 16, 5, 17, 18, 19, 8, 20, 21, 22, 23, 24, 25, 26, 27, 28, 29, 30, 31, 32, 33, 34, 35, 36, 37, 38, 39, 40, 41, 42, 43, 44, 45, 46, 47, 48, 49, 50, 51, 52, 53, 54, 55, 56, 57, 58, 59, 60, 61, 62, 63, 64, 65, 66, 67, 68, 69, 2, 3, 4, 6, 9, 70, 71, 72, 73, 74, 75, 76, 77, 78, 79, 80, 81, 82, 83, 84, 85, 86, 119, 120, 121, 122, 123, 124, 125, 126] (by decide +kernel) (by decide +kernel)
set_option maxRecDepth 20000 in
theorem gX7_readLaw_X7_passWord : GoodIn wsX7_readLaw (wsV RX7 82 RX7 yX7_passWord wsX7_passWord) := goodIn_app (goodIn_of _ (by decide +kernel)) ggX7_readLaw_X7_passWord
theorem adX7_readLaw_17 : (decode cX7_readLaw 17 = .ok (.invokevirtual 82, 3)) ∧ (decode cX7_readLaw 20 = .ok (.aload_n 0, 1)) ∧ (decode cX7_readLaw 21 = .ok (.ldc 86, 2)) ∧ (decode cX7_readLaw 23 = .ok (.invokevirtual 82, 3)) ∧ (decode cX7_readLaw 26 = .ok (.aload_n 0, 1)) ∧ (decode cX7_readLaw 27 = .ok (.iconst 4, 1)) ∧ (decode cX7_readLaw 28 = .ok (.bipush 9, 2)) := by decide +kernel
theorem dX7_readLaw_17 : decode cX7_readLaw 17 = .ok (.invokevirtual 82, 3) := adX7_readLaw_17.1
theorem dX7_readLaw_20 : decode cX7_readLaw 20 = .ok (.aload_n 0, 1) := adX7_readLaw_17.2.1
theorem dX7_readLaw_21 : decode cX7_readLaw 21 = .ok (.ldc 86, 2) := adX7_readLaw_17.2.2.1
theorem dX7_readLaw_23 : decode cX7_readLaw 23 = .ok (.invokevirtual 82, 3) := adX7_readLaw_17.2.2.2.1
theorem dX7_readLaw_26 : decode cX7_readLaw 26 = .ok (.aload_n 0, 1) := adX7_readLaw_17.2.2.2.2.1
theorem dX7_readLaw_27 : decode cX7_readLaw 27 = .ok (.iconst 4, 1) := adX7_readLaw_17.2.2.2.2.2.1
theorem dX7_readLaw_28 : decode cX7_readLaw 28 = .ok (.bipush 9, 2) := adX7_readLaw_17.2.2.2.2.2.2
set_option maxRecDepth 20000 in
theorem ggX7_readLaw_X7_passNumber : GoodIn wsX7_readLaw wsX7_passNumber := goodIn_r _ [90, 18, 75, 7, 2, 3, 4, 5, 6, 8, 9, 70, 71, 72, 73, 19, 74, 20, 76, 77, 78, 79, 80, 81, 82, 83, 84, 85, 86, 119, 120, 121, 122, 123, 124, 125, 126] (by decide +kernel) (by decide +kernel)
set_option maxRecDepth 20000 in
theorem gX7_readLaw_X7_passNumber : GoodIn wsX7_readLaw (wsV RX7 88 RX7 yX7_passNumber wsX7_passNumber) := goodIn_app (goodIn_of _ (by decide +kernel)) ggX7_readLaw_X7_passNumber
theorem adX7_readLaw_30 : (decode cX7_readLaw 30 = .ok (.invokevirtual 88, 3)) ∧ (decode cX7_readLaw 33 = .ok (.istore_n 2, 1)) ∧ (decode cX7_readLaw 34 = .ok (.aload_n 0, 1)) ∧ (decode cX7_readLaw 35 = .ok (.ldc 92, 2)) ∧ (decode cX7_readLaw 37 = .ok (.invokevirtual 82, 3)) ∧ (decode cX7_readLaw 40 = .ok (.aload_n 0, 1)) ∧ (decode cX7_readLaw 41 = .ok (.bipush 10, 2)) ∧ (decode cX7_readLaw 43 = .ok (.bipush 20, 2)) := by decide +kernel
theorem dX7_readLaw_30 : decode cX7_readLaw 30 = .ok (.invokevirtual 88, 3) := adX7_readLaw_30.1
theorem dX7_readLaw_33 : decode cX7_readLaw 33 = .ok (.istore_n 2, 1) := adX7_readLaw_30.2.1
theorem dX7_readLaw_34 : decode cX7_readLaw 34 = .ok (.aload_n 0, 1) := adX7_readLaw_30.2.2.1
theorem dX7_readLaw_35 : decode cX7_readLaw 35 = .ok (.ldc 92, 2) := adX7_readLaw_30.2.2.2.1
theorem dX7_readLaw_37 : decode cX7_readLaw 37 = .ok (.invokevirtual 82, 3) := adX7_readLaw_30.2.2.2.2.1
theorem dX7_readLaw_40 : decode cX7_readLaw 40 = .ok (.aload_n 0, 1) := adX7_readLaw_30.2.2.2.2.2.1
theorem dX7_readLaw_41 : decode cX7_readLaw 41 = .ok (.bipush 10, 2) := adX7_readLaw_30.2.2.2.2.2.2.1
theorem dX7_readLaw_43 : decode cX7_readLaw 43 = .ok (.bipush 20, 2) := adX7_readLaw_30.2.2.2.2.2.2.2
theorem adX7_readLaw_45 : (decode cX7_readLaw 45 = .ok (.invokevirtual 88, 3)) ∧ (decode cX7_readLaw 48 = .ok (.istore_n 3, 1)) ∧ (decode cX7_readLaw 49 = .ok (.aload_n 0, 1)) := by decide +kernel
theorem dX7_readLaw_45 : decode cX7_readLaw 45 = .ok (.invokevirtual 88, 3) := adX7_readLaw_45.1
theorem dX7_readLaw_48 : decode cX7_readLaw 48 = .ok (.istore_n 3, 1) := adX7_readLaw_45.2.1
theorem dX7_readLaw_49 : decode cX7_readLaw 49 = .ok (.aload_n 0, 1) := adX7_readLaw_45.2.2
set_option maxRecDepth 20000 in
theorem ggX7_readLaw_X7_passSemicolon : GoodIn wsX7_readLaw wsX7_passSemicolon := goodIn_r _ [94, 18, 7, 2, 3, 4, 5, 6, 8, 9, 70, 71, 72, 73, 19, 74, 20, 75, 76, 77, 78, 79, 80, 81, 82, 83, 84, 85, 86, 119, 120, 121, 122, 123, 124, 125, 126] (by decide +kernel) (by decide +kernel)
set_option maxRecDepth 20000 in
theorem gX7_readLaw_X7_passSemicolon : GoodIn wsX7_readLaw (wsV RX7 94 RX7 yX7_passSemicolon wsX7_passSemicolon) := goodIn_app (goodIn_of _ (by decide +kernel)) ggX7_readLaw_X7_passSemicolon
theorem adX7_readLaw_50 : (decode cX7_readLaw 50 = .ok (.invokevirtual 94, 3)) ∧ (decode cX7_readLaw 53 = .ok (.aload_n 1, 1)) ∧ (decode cX7_readLaw 54 = .ok (.iload_n 2, 1)) ∧ (decode cX7_readLaw 55 = .ok (.iload_n 3, 1)) := by decide +kernel
theorem dX7_readLaw_50 : decode cX7_readLaw 50 = .ok (.invokevirtual 94, 3) := adX7_readLaw_50.1
theorem dX7_readLaw_53 : decode cX7_readLaw 53 = .ok (.aload_n 1, 1) := adX7_readLaw_50.2.1
theorem dX7_readLaw_54 : decode cX7_readLaw 54 = .ok (.iload_n 2, 1) := adX7_readLaw_50.2.2.1
theorem dX7_readLaw_55 : decode cX7_readLaw 55 = .ok (.iload_n 3, 1) := adX7_readLaw_50.2.2.2
set_option maxRecDepth 20000 in
theorem ggX7_readLaw_X3_addLaw : GoodIn wsX7_readLaw wsX3_addLaw := goodIn_r _ [99, 100, 101, 102, 103, 104, 105, 106, 107, 108, 109, 110, 111, 112, 113, 114, 115, 116, 117, 118] (by decide +kernel) (by decide +kernel)
set_option maxRecDepth 20000 in
theorem gX7_readLaw_X3_addLaw : GoodIn wsX7_readLaw (wsV RX7 97 RX3 yX3_addLaw wsX3_addLaw) := goodIn_app (goodIn_of _ (by decide +kernel)) ggX7_readLaw_X3_addLaw
theorem adX7_readLaw_56 : (decode cX7_readLaw 56 = .ok (.invokevirtual 97, 3)) ∧ (decode cX7_readLaw 59 = .ok (.return_, 1)) ∧ (decode cX7_readLaw 9 = .ok (.aload_n 0, 1)) ∧ (decode cX7_readLaw 10 = .ok (.iconst 3, 1)) := by decide +kernel
theorem dX7_readLaw_56 : decode cX7_readLaw 56 = .ok (.invokevirtual 97, 3) := adX7_readLaw_56.1
theorem dX7_readLaw_59 : decode cX7_readLaw 59 = .ok (.return_, 1) := adX7_readLaw_56.2.1
theorem dX7_readLaw_9 : decode cX7_readLaw 9 = .ok (.aload_n 0, 1) := adX7_readLaw_56.2.2.1
theorem dX7_readLaw_10 : decode cX7_readLaw 10 = .ok (.iconst 3, 1) := adX7_readLaw_56.2.2.2
set_option maxRecDepth 20000 in
theorem ggX7_readLaw_X7_refuse : GoodIn wsX7_readLaw wsX7_refuse := goodIn_r _ [6, 7, 8, 9, 119, 120, 121, 122, 123, 124, 125, 126] (by decide +kernel) (by decide +kernel)
set_option maxRecDepth 20000 in
theorem gX7_readLaw_X7_refuse : GoodIn wsX7_readLaw (wsV RX7 75 RX7 yX7_refuse wsX7_refuse) := goodIn_app (goodIn_of _ (by decide +kernel)) ggX7_readLaw_X7_refuse
theorem dX7_readLaw_11 : decode cX7_readLaw 11 = .ok (.invokevirtual 75, 3) := by decide +kernel
theorem adX7_readLine_0 : (decode cX7_readLine 0 = .ok (.aload_n 0, 1)) ∧ (decode cX7_readLine 1 = .ok (.ldc 46, 2)) := by decide +kernel
theorem dX7_readLine_0 : decode cX7_readLine 0 = .ok (.aload_n 0, 1) := adX7_readLine_0.1
theorem dX7_readLine_1 : decode cX7_readLine 1 = .ok (.ldc 46, 2) := adX7_readLine_0.2
set_option maxRecDepth 20000 in
theorem ggX7_readLine_X7_isWord : GoodIn wsX7_readLine wsX7_isWord := goodIn_r _ [5, 6, 7, 8, 9, 10, 11, 12, 13, 14, 15, 16, 17, 18, 19, 20, 21, 22, 23, 24, 25, 26, 27, 28, 29, 30, 31, 32, 33, 34, 35, 36, 37, 38, 39, 40, 41, 42, 43, 44, 45, 46, 47, 48, 49, 50, 51, 52, 53, 54, 55, 56, 57, 58, 172, 173, 174, 175, 176, 177, 178, 179] (by decide +kernel) (by decide +kernel)
set_option maxRecDepth 20000 in
theorem gX7_readLine_X7_isWord : GoodIn wsX7_readLine (wsV RX7 48 RX7 yX7_isWord wsX7_isWord) := goodIn_app (goodIn_of _ (by decide +kernel)) ggX7_readLine_X7_isWord
theorem adX7_readLine_3 : (decode cX7_readLine 3 = .ok (.invokevirtual 48, 3)) ∧ (decode cX7_readLine 6 = .ok (.ifCond .eq 11, 3)) ∧ (decode cX7_readLine 17 = .ok (.aload_n 0, 1)) ∧ (decode cX7_readLine 18 = .ok (.ldc 55, 2)) ∧ (decode cX7_readLine 20 = .ok (.invokevirtual 48, 3)) ∧ (decode cX7_readLine 23 = .ok (.ifCond .eq 11, 3)) ∧ (decode cX7_readLine 34 = .ok (.aload_n 0, 1)) ∧ (decode cX7_readLine 35 = .ok (.ldc 60, 2)) := by decide +kernel
theorem dX7_readLine_3 : decode cX7_readLine 3 = .ok (.invokevirtual 48, 3) := adX7_readLine_3.1
theorem dX7_readLine_6 : decode cX7_readLine 6 = .ok (.ifCond .eq 11, 3) := adX7_readLine_3.2.1
theorem dX7_readLine_17 : decode cX7_readLine 17 = .ok (.aload_n 0, 1) := adX7_readLine_3.2.2.1
theorem dX7_readLine_18 : decode cX7_readLine 18 = .ok (.ldc 55, 2) := adX7_readLine_3.2.2.2.1
theorem dX7_readLine_20 : decode cX7_readLine 20 = .ok (.invokevirtual 48, 3) := adX7_readLine_3.2.2.2.2.1
theorem dX7_readLine_23 : decode cX7_readLine 23 = .ok (.ifCond .eq 11, 3) := adX7_readLine_3.2.2.2.2.2.1
theorem dX7_readLine_34 : decode cX7_readLine 34 = .ok (.aload_n 0, 1) := adX7_readLine_3.2.2.2.2.2.2.1
theorem dX7_readLine_35 : decode cX7_readLine 35 = .ok (.ldc 60, 2) := adX7_readLine_3.2.2.2.2.2.2.2
theorem adX7_readLine_37 : (decode cX7_readLine 37 = .ok (.invokevirtual 48, 3)) ∧ (decode cX7_readLine 40 = .ok (.ifCond .eq 11, 3)) ∧ (decode cX7_readLine 51 = .ok (.aload_n 0, 1)) ∧ (decode cX7_readLine 52 = .ok (.ldc 65, 2)) ∧ (decode cX7_readLine 54 = .ok (.invokevirtual 48, 3)) ∧ (decode cX7_readLine 57 = .ok (.ifCond .eq 11, 3)) ∧ (decode cX7_readLine 68 = .ok (.aload_n 0, 1)) ∧ (decode cX7_readLine 69 = .ok (.ldc 70, 2)) := by decide +kernel
theorem dX7_readLine_37 : decode cX7_readLine 37 = .ok (.invokevirtual 48, 3) := adX7_readLine_37.1
theorem dX7_readLine_40 : decode cX7_readLine 40 = .ok (.ifCond .eq 11, 3) := adX7_readLine_37.2.1
theorem dX7_readLine_51 : decode cX7_readLine 51 = .ok (.aload_n 0, 1) := adX7_readLine_37.2.2.1
theorem dX7_readLine_52 : decode cX7_readLine 52 = .ok (.ldc 65, 2) := adX7_readLine_37.2.2.2.1
theorem dX7_readLine_54 : decode cX7_readLine 54 = .ok (.invokevirtual 48, 3) := adX7_readLine_37.2.2.2.2.1
theorem dX7_readLine_57 : decode cX7_readLine 57 = .ok (.ifCond .eq 11, 3) := adX7_readLine_37.2.2.2.2.2.1
theorem dX7_readLine_68 : decode cX7_readLine 68 = .ok (.aload_n 0, 1) := adX7_readLine_37.2.2.2.2.2.2.1
theorem dX7_readLine_69 : decode cX7_readLine 69 = .ok (.ldc 70, 2) := adX7_readLine_37.2.2.2.2.2.2.2
theorem adX7_readLine_71 : (decode cX7_readLine 71 = .ok (.invokevirtual 48, 3)) ∧ (decode cX7_readLine 74 = .ok (.ifCond .eq 11, 3)) ∧ (decode cX7_readLine 85 = .ok (.aload_n 0, 1)) ∧ (decode cX7_readLine 86 = .ok (.iconst 1, 1)) := by decide +kernel
theorem dX7_readLine_71 : decode cX7_readLine 71 = .ok (.invokevirtual 48, 3) := adX7_readLine_71.1
theorem dX7_readLine_74 : decode cX7_readLine 74 = .ok (.ifCond .eq 11, 3) := adX7_readLine_71.2.1
theorem dX7_readLine_85 : decode cX7_readLine 85 = .ok (.aload_n 0, 1) := adX7_readLine_71.2.2.1
theorem dX7_readLine_86 : decode cX7_readLine 86 = .ok (.iconst 1, 1) := adX7_readLine_71.2.2.2
set_option maxRecDepth 20000 in
theorem ggX7_readLine_X7_refuse : GoodIn wsX7_readLine wsX7_refuse := goodIn_r _ [67, 68, 8, 69, 172, 173, 174, 175, 176, 177, 178, 179] (by decide +kernel) (by decide +kernel)
set_option maxRecDepth 20000 in
theorem gX7_readLine_X7_refuse : GoodIn wsX7_readLine (wsV RX7 75 RX7 yX7_refuse wsX7_refuse) := goodIn_app (goodIn_of _ (by decide +kernel)) ggX7_readLine_X7_refuse
theorem adX7_readLine_87 : (decode cX7_readLine 87 = .ok (.invokevirtual 75, 3)) ∧ (decode cX7_readLine 90 = .ok (.return_, 1)) ∧ (decode cX7_readLine 77 = .ok (.aload_n 0, 1)) ∧ (decode cX7_readLine 78 = .ok (.aload_n 1, 1)) := by decide +kernel
theorem dX7_readLine_87 : decode cX7_readLine 87 = .ok (.invokevirtual 75, 3) := adX7_readLine_87.1
theorem dX7_readLine_90 : decode cX7_readLine 90 = .ok (.return_, 1) := adX7_readLine_87.2.1
theorem dX7_readLine_77 : decode cX7_readLine 77 = .ok (.aload_n 0, 1) := adX7_readLine_87.2.2.1
theorem dX7_readLine_78 : decode cX7_readLine 78 = .ok (.aload_n 1, 1) := adX7_readLine_87.2.2.2
set_option maxRecDepth 20000 in
theorem ggX7_readLine_X7_readNoise : GoodIn wsX7_readLine wsX7_readNoise := goodIn_r _ [169, 170, 171, 64, 65, 66, 4, 67, 68, 8, 69, 70, 71, 72, 73, 1, 2, 3, 5, 6, 7, 9, 10, 11, 12, 13, 14, 15, 16, 17, 18, 19, 20, 21, 22, 23, 24, 25, 26, 27, 28, 29, 30, 31, 32, 33, 34, 35, 36, 37, 38, 39, 40, 41, 42, 43, 44, 45, 46, 47, 48, 49, 50, 51, 52, 53, 54, 55, 56, 57, 58, 74, 75, 76, 77, 78, 79, 80, 81, 82, 83, 84, 85, 86, 87, 88, 89, 90, 91, 92, 93, 94, 95, 96, 97, 98, 180, 181, 182, 183, 184, 185, 186, 187, 188, 189, 190, 191, 192, 193, 194, 195, 172, 173, 174, 175, 176, 177, 178, 179] (by decide +kernel) (by decide +kernel)
set_option maxRecDepth 20000 in
theorem gX7_readLine_X7_readNoise : GoodIn wsX7_readLine (wsV RX7 72 RX7 yX7_readNoise wsX7_readNoise) := goodIn_app (goodIn_of _ (by decide +kernel)) ggX7_readLine_X7_readNoise
theorem adX7_readLine_79 : (decode cX7_readLine 79 = .ok (.invokevirtual 72, 3)) ∧ (decode cX7_readLine 82 = .ok (.goto 8, 3)) ∧ (decode cX7_readLine 60 = .ok (.aload_n 0, 1)) ∧ (decode cX7_readLine 61 = .ok (.aload_n 1, 1)) := by decide +kernel
theorem dX7_readLine_79 : decode cX7_readLine 79 = .ok (.invokevirtual 72, 3) := adX7_readLine_79.1
theorem dX7_readLine_82 : decode cX7_readLine 82 = .ok (.goto 8, 3) := adX7_readLine_79.2.1
theorem dX7_readLine_60 : decode cX7_readLine 60 = .ok (.aload_n 0, 1) := adX7_readLine_79.2.2.1
theorem dX7_readLine_61 : decode cX7_readLine 61 = .ok (.aload_n 1, 1) := adX7_readLine_79.2.2.2
set_option maxRecDepth 20000 in
theorem ggX7_readLine_X7_readSum : GoodIn wsX7_readLine wsX7_readSum := goodIn_r _ [141, 142, 68, 64, 65, 66, 4, 67, 8, 69, 70, 71, 72, 73, 1, 2, 3, 5, 6, 7, 9, 10, 11, 12, 13, 14, 15, 16, 17, 18, 19, 20, 21, 22, 23, 24, 25, 26, 27, 28, 29, 30, 31, 32, 33, 34, 35, 36, 37, 38, 39, 40, 41, 42, 43, 44, 45, 46, 47, 48, 49, 50, 51, 52, 53, 54, 55, 56, 57, 58, 74, 75, 76, 77, 78, 79, 80, 81, 82, 83, 84, 85, 86, 87, 88, 89, 90, 143, 144, 145, 146, 147, 148, 149, 150, 91, 92, 93, 94, 151, 152, 153, 102, 154, 155, 156, 157, 158, 159, 160, 161, 162, 163, 164, 165, 95, 96, 97, 98, 180, 181, 182, 183, 184, 185, 186, 187, 188, 189, 190, 191, 192, 193, 194, 195, 172, 173, 174, 175, 176, 177, 178, 179] (by decide +kernel) (by decide +kernel)
set_option maxRecDepth 20000 in
theorem gX7_readLine_X7_readSum : GoodIn wsX7_readLine (wsV RX7 67 RX7 yX7_readSum wsX7_readSum) := goodIn_app (goodIn_of _ (by decide +kernel)) ggX7_readLine_X7_readSum
theorem adX7_readLine_62 : (decode cX7_readLine 62 = .ok (.invokevirtual 67, 3)) ∧ (decode cX7_readLine 65 = .ok (.goto 25, 3)) ∧ (decode cX7_readLine 43 = .ok (.aload_n 0, 1)) ∧ (decode cX7_readLine 44 = .ok (.aload_n 1, 1)) := by decide +kernel
theorem dX7_readLine_62 : decode cX7_readLine 62 = .ok (.invokevirtual 67, 3) := adX7_readLine_62.1
theorem dX7_readLine_65 : decode cX7_readLine 65 = .ok (.goto 25, 3) := adX7_readLine_62.2.1
theorem dX7_readLine_43 : decode cX7_readLine 43 = .ok (.aload_n 0, 1) := adX7_readLine_62.2.2.1
theorem dX7_readLine_44 : decode cX7_readLine 44 = .ok (.aload_n 1, 1) := adX7_readLine_62.2.2.2
set_option maxRecDepth 20000 in
theorem ggX7_readLine_X7_readLeak : GoodIn wsX7_readLine wsX7_readLeak := goodIn_r _ [125, 6, 79, 126, 70, 71, 72, 4, 73, 68, 1, 2, 3, 5, 7, 8, 9, 10, 11, 12, 13, 14, 15, 16, 17, 18, 19, 20, 21, 22, 23, 24, 25, 26, 27, 28, 29, 30, 31, 32, 33, 34, 35, 36, 37, 38, 39, 40, 41, 42, 43, 44, 45, 46, 47, 48, 49, 50, 51, 52, 53, 54, 55, 56, 57, 58, 64, 65, 66, 67, 69, 74, 75, 76, 77, 78, 80, 81, 82, 83, 84, 85, 86, 87, 88, 89, 90, 127, 128, 129, 102, 130, 131, 132, 133, 134, 135, 136, 137, 91, 92, 93, 94, 95, 96, 97, 98, 172, 173, 174, 175, 176, 177, 178, 179, 180, 181, 182, 183, 184, 185, 186, 187, 188, 189, 190, 191, 192, 193, 194, 195] (by decide +kernel) (by decide +kernel)
set_option maxRecDepth 20000 in
theorem gX7_readLine_X7_readLeak : GoodIn wsX7_readLine (wsV RX7 62 RX7 yX7_readLeak wsX7_readLeak) := goodIn_app (goodIn_of _ (by decide +kernel)) ggX7_readLine_X7_readLeak
theorem adX7_readLine_45 : (decode cX7_readLine 45 = .ok (.invokevirtual 62, 3)) ∧ (decode cX7_readLine 48 = .ok (.goto 42, 3)) ∧ (decode cX7_readLine 26 = .ok (.aload_n 0, 1)) ∧ (decode cX7_readLine 27 = .ok (.aload_n 1, 1)) := by decide +kernel
theorem dX7_readLine_45 : decode cX7_readLine 45 = .ok (.invokevirtual 62, 3) := adX7_readLine_45.1
theorem dX7_readLine_48 : decode cX7_readLine 48 = .ok (.goto 42, 3) := adX7_readLine_45.2.1
theorem dX7_readLine_26 : decode cX7_readLine 26 = .ok (.aload_n 0, 1) := adX7_readLine_45.2.2.1
theorem dX7_readLine_27 : decode cX7_readLine 27 = .ok (.aload_n 1, 1) := adX7_readLine_45.2.2.2
set_option maxRecDepth 20000 in
theorem ggX7_readLine_X7_readSort : GoodIn wsX7_readLine wsX7_readSort := goodIn_r _ [110, 111, 64, 65, 66, 4, 67, 68, 8, 69, 70, 71, 72, 73, 1, 2, 3, 5, 6, 7, 9, 10, 11, 12, 13, 14, 15, 16, 17, 18, 19, 20, 21, 22, 23, 24, 25, 26, 27, 28, 29, 30, 31, 32, 33, 34, 35, 36, 37, 38, 39, 40, 41, 42, 43, 44, 45, 46, 47, 48, 49, 50, 51, 52, 53, 54, 55, 56, 57, 58, 74, 75, 76, 77, 78, 79, 80, 81, 82, 83, 84, 85, 86, 87, 88, 89, 90, 91, 92, 93, 94, 95, 96, 97, 98, 112, 113, 114, 102, 115, 116, 117, 118, 119, 120, 121, 180, 181, 182, 183, 184, 185, 186, 187, 188, 189, 190, 191, 192, 193, 194, 195, 172, 173, 174, 175, 176, 177, 178, 179] (by decide +kernel) (by decide +kernel)
set_option maxRecDepth 20000 in
theorem gX7_readLine_X7_readSort : GoodIn wsX7_readLine (wsV RX7 57 RX7 yX7_readSort wsX7_readSort) := goodIn_app (goodIn_of _ (by decide +kernel)) ggX7_readLine_X7_readSort
theorem adX7_readLine_28 : (decode cX7_readLine 28 = .ok (.invokevirtual 57, 3)) ∧ (decode cX7_readLine 31 = .ok (.goto 59, 3)) ∧ (decode cX7_readLine 9 = .ok (.aload_n 0, 1)) ∧ (decode cX7_readLine 10 = .ok (.aload_n 1, 1)) := by decide +kernel
theorem dX7_readLine_28 : decode cX7_readLine 28 = .ok (.invokevirtual 57, 3) := adX7_readLine_28.1
theorem dX7_readLine_31 : decode cX7_readLine 31 = .ok (.goto 59, 3) := adX7_readLine_28.2.1
theorem dX7_readLine_9 : decode cX7_readLine 9 = .ok (.aload_n 0, 1) := adX7_readLine_28.2.2.1
theorem dX7_readLine_10 : decode cX7_readLine 10 = .ok (.aload_n 1, 1) := adX7_readLine_28.2.2.2
set_option maxRecDepth 20000 in
theorem ggX7_readLine_X7_readLaw : GoodIn wsX7_readLine wsX7_readLaw := goodIn_r _ [62, 63, 64, 65, 66, 4, 67, 68, 8, 69, 70, 71, 72, 73, 1, 2, 3, 5, 6, 7, 9, 10, 11, 12, 13, 14, 15, 16, 17, 18, 19, 20, 21, 22, 23, 24, 25, 26, 27, 28, 29, 30, 31, 32, 33, 34, 35, 36, 37, 38, 39, 40, 41, 42, 43, 44, 45, 46, 47, 48, 49, 50, 51, 52, 53, 54, 55, 56, 57, 58, 74, 75, 76, 77, 78, 79, 80, 81, 82, 83, 84, 85, 86, 87, 88, 89, 90, 91, 92, 93, 94, 95, 96, 97, 98, 99, 100, 101, 102, 103, 104, 105, 106, 180, 181, 182, 183, 184, 185, 186, 187, 188, 189, 190, 191, 192, 193, 194, 195, 172, 173, 174, 175, 176, 177, 178, 179] (by decide +kernel) (by decide +kernel)
set_option maxRecDepth 20000 in
theorem gX7_readLine_X7_readLaw : GoodIn wsX7_readLine (wsV RX7 52 RX7 yX7_readLaw wsX7_readLaw) := goodIn_app (goodIn_of _ (by decide +kernel)) ggX7_readLine_X7_readLaw
theorem adX7_readLine_11 : (decode cX7_readLine 11 = .ok (.invokevirtual 52, 3)) ∧ (decode cX7_readLine 14 = .ok (.goto 76, 3)) := by decide +kernel
theorem dX7_readLine_11 : decode cX7_readLine 11 = .ok (.invokevirtual 52, 3) := adX7_readLine_11.1
theorem dX7_readLine_14 : decode cX7_readLine 14 = .ok (.goto 76, 3) := adX7_readLine_11.2
theorem adX7_readInto_0 : (decode cX7_readInto 0 = .ok (.aload_n 0, 1)) ∧ (decode cX7_readInto 1 = .ok (.iconst 0, 1)) ∧ (decode cX7_readInto 2 = .ok (.putfield 22, 3)) ∧ (decode cX7_readInto 5 = .ok (.aload_n 0, 1)) ∧ (decode cX7_readInto 6 = .ok (.iconst (-1), 1)) ∧ (decode cX7_readInto 7 = .ok (.putfield 15, 3)) ∧ (decode cX7_readInto 10 = .ok (.aload_n 0, 1)) ∧ (decode cX7_readInto 11 = .ok (.iconst 0, 1)) := by decide +kernel
theorem dX7_readInto_0 : decode cX7_readInto 0 = .ok (.aload_n 0, 1) := adX7_readInto_0.1
theorem dX7_readInto_1 : decode cX7_readInto 1 = .ok (.iconst 0, 1) := adX7_readInto_0.2.1
theorem dX7_readInto_2 : decode cX7_readInto 2 = .ok (.putfield 22, 3) := adX7_readInto_0.2.2.1
theorem dX7_readInto_5 : decode cX7_readInto 5 = .ok (.aload_n 0, 1) := adX7_readInto_0.2.2.2.1
theorem dX7_readInto_6 : decode cX7_readInto 6 = .ok (.iconst (-1), 1) := adX7_readInto_0.2.2.2.2.1
theorem dX7_readInto_7 : decode cX7_readInto 7 = .ok (.putfield 15, 3) := adX7_readInto_0.2.2.2.2.2.1
theorem dX7_readInto_10 : decode cX7_readInto 10 = .ok (.aload_n 0, 1) := adX7_readInto_0.2.2.2.2.2.2.1
theorem dX7_readInto_11 : decode cX7_readInto 11 = .ok (.iconst 0, 1) := adX7_readInto_0.2.2.2.2.2.2.2
theorem adX7_readInto_12 : (decode cX7_readInto 12 = .ok (.putfield 25, 3)) ∧ (decode cX7_readInto 15 = .ok (.aload_n 1, 1)) := by decide +kernel
theorem dX7_readInto_12 : decode cX7_readInto 12 = .ok (.putfield 25, 3) := adX7_readInto_12.1
theorem dX7_readInto_15 : decode cX7_readInto 15 = .ok (.aload_n 1, 1) := adX7_readInto_12.2
set_option maxRecDepth 20000 in
theorem ggX7_readInto_X3_clear : GoodIn wsX7_readInto wsX3_clear := goodIn_r _ [10, 11, 12, 13, 14, 15, 16, 17, 18, 19, 20, 21, 22, 196, 197, 198, 199, 200, 201, 202, 203, 204, 205, 206, 207, 208, 209, 210, 211] (by decide +kernel) (by decide +kernel)
set_option maxRecDepth 20000 in
theorem gX7_readInto_X3_clear : GoodIn wsX7_readInto (wsV RX7 28 RX3 yX3_clear wsX3_clear) := goodIn_app (goodIn_of _ (by decide +kernel)) ggX7_readInto_X3_clear
theorem adX7_readInto_16 : (decode cX7_readInto 16 = .ok (.invokevirtual 28, 3)) ∧ (decode cX7_readInto 19 = .ok (.aload_n 0, 1)) := by decide +kernel
theorem dX7_readInto_16 : decode cX7_readInto 16 = .ok (.invokevirtual 28, 3) := adX7_readInto_16.1
theorem dX7_readInto_19 : decode cX7_readInto 19 = .ok (.aload_n 0, 1) := adX7_readInto_16.2
set_option maxRecDepth 20000 in
theorem ggX7_readInto_X7_step : GoodIn wsX7_readInto wsX7_step := goodIn_r _ [27, 3, 28, 29, 30, 31, 4, 32, 33, 34, 35, 36, 37, 38, 26, 39, 40, 41, 42, 188, 189, 190, 191, 192, 193, 194, 195] (by decide +kernel) (by decide +kernel)
set_option maxRecDepth 20000 in
theorem gX7_readInto_X7_step : GoodIn wsX7_readInto (wsV RX7 33 RX7 yX7_step wsX7_step) := goodIn_app (goodIn_of _ (by decide +kernel)) ggX7_readInto_X7_step
theorem adX7_readInto_20 : (decode cX7_readInto 20 = .ok (.invokevirtual 33, 3)) ∧ (decode cX7_readInto 23 = .ok (.iconst 0, 1)) ∧ (decode cX7_readInto 24 = .ok (.istore_n 2, 1)) ∧ (decode cX7_readInto 25 = .ok (.iload_n 2, 1)) ∧ (decode cX7_readInto 26 = .ok (.sipush 600, 3)) ∧ (decode cX7_readInto 29 = .ok (.if_icmp .ge 38, 3)) ∧ (decode cX7_readInto 67 = .ok (.return_, 1)) ∧ (decode cX7_readInto 32 = .ok (.aload_n 0, 1)) := by decide +kernel
theorem dX7_readInto_20 : decode cX7_readInto 20 = .ok (.invokevirtual 33, 3) := adX7_readInto_20.1
theorem dX7_readInto_23 : decode cX7_readInto 23 = .ok (.iconst 0, 1) := adX7_readInto_20.2.1
theorem dX7_readInto_24 : decode cX7_readInto 24 = .ok (.istore_n 2, 1) := adX7_readInto_20.2.2.1
theorem dX7_readInto_25 : decode cX7_readInto 25 = .ok (.iload_n 2, 1) := adX7_readInto_20.2.2.2.1
theorem dX7_readInto_26 : decode cX7_readInto 26 = .ok (.sipush 600, 3) := adX7_readInto_20.2.2.2.2.1
theorem dX7_readInto_29 : decode cX7_readInto 29 = .ok (.if_icmp .ge 38, 3) := adX7_readInto_20.2.2.2.2.2.1
theorem dX7_readInto_67 : decode cX7_readInto 67 = .ok (.return_, 1) := adX7_readInto_20.2.2.2.2.2.2.1
theorem dX7_readInto_32 : decode cX7_readInto 32 = .ok (.aload_n 0, 1) := adX7_readInto_20.2.2.2.2.2.2.2
theorem adX7_readInto_33 : (decode cX7_readInto 33 = .ok (.getfield 36, 3)) ∧ (decode cX7_readInto 36 = .ok (.ifCond .eq 31, 3)) ∧ (decode cX7_readInto 39 = .ok (.aload_n 0, 1)) ∧ (decode cX7_readInto 40 = .ok (.getfield 22, 3)) ∧ (decode cX7_readInto 43 = .ok (.ifCond .ne 24, 3)) ∧ (decode cX7_readInto 46 = .ok (.aload_n 0, 1)) ∧ (decode cX7_readInto 47 = .ok (.aload_n 1, 1)) := by decide +kernel
theorem dX7_readInto_33 : decode cX7_readInto 33 = .ok (.getfield 36, 3) := adX7_readInto_33.1
theorem dX7_readInto_36 : decode cX7_readInto 36 = .ok (.ifCond .eq 31, 3) := adX7_readInto_33.2.1
theorem dX7_readInto_39 : decode cX7_readInto 39 = .ok (.aload_n 0, 1) := adX7_readInto_33.2.2.1
theorem dX7_readInto_40 : decode cX7_readInto 40 = .ok (.getfield 22, 3) := adX7_readInto_33.2.2.2.1
theorem dX7_readInto_43 : decode cX7_readInto 43 = .ok (.ifCond .ne 24, 3) := adX7_readInto_33.2.2.2.2.1
theorem dX7_readInto_46 : decode cX7_readInto 46 = .ok (.aload_n 0, 1) := adX7_readInto_33.2.2.2.2.2.1
theorem dX7_readInto_47 : decode cX7_readInto 47 = .ok (.aload_n 1, 1) := adX7_readInto_33.2.2.2.2.2.2
set_option maxRecDepth 20000 in
theorem ggX7_readInto_X7_readLine : GoodIn wsX7_readInto wsX7_readLine := goodIn_r _ [46, 47, 48, 49, 26, 50, 4, 3, 30, 29, 51, 52, 53, 54, 55, 56, 57, 58, 59, 60, 61, 62, 63, 64, 65, 66, 67, 68, 69, 70, 71, 72, 73, 74, 75, 76, 77, 78, 79, 80, 81, 82, 83, 84, 85, 86, 87, 88, 89, 90, 91, 92, 93, 94, 95, 96, 97, 98, 99, 100, 101, 102, 103, 104, 105, 106, 107, 108, 1, 2, 109, 110, 111, 112, 23, 24, 25, 27, 28, 31, 32, 33, 34, 35, 36, 37, 38, 39, 40, 41, 42, 113, 114, 115, 116, 117, 118, 119, 120, 121, 122, 123, 9, 124, 12, 125, 126, 127, 128, 129, 130, 131, 132, 133, 134, 135, 13, 136, 137, 138, 139, 14, 140, 141, 142, 143, 144, 145, 146, 147, 148, 18, 149, 150, 151, 152, 153, 154, 155, 156, 157, 158, 159, 160, 161, 162, 163, 164, 165, 166, 167, 168, 169, 170, 171, 15, 172, 173, 174, 175, 176, 177, 178, 179, 180, 181, 182, 183, 184, 185, 186, 187, 188, 189, 190, 191, 192, 193, 194, 195, 196, 197, 198, 199, 200, 201, 202, 203, 204, 205, 206, 207, 208, 209, 210, 211] (by decide +kernel) (by decide +kernel)
set_option maxRecDepth 20000 in
theorem gX7_readInto_X7_readLine : GoodIn wsX7_readInto (wsV RX7 39 RX7 yX7_readLine wsX7_readLine) := goodIn_app (goodIn_of _ (by decide +kernel)) ggX7_readInto_X7_readLine
theorem adX7_readInto_48 : (decode cX7_readInto 48 = .ok (.invokevirtual 39, 3)) ∧ (decode cX7_readInto 51 = .ok (.aload_n 1, 1)) ∧ (decode cX7_readInto 52 = .ok (.dup, 1)) ∧ (decode cX7_readInto 53 = .ok (.getfield 43, 3)) ∧ (decode cX7_readInto 56 = .ok (.iconst 1, 1)) ∧ (decode cX7_readInto 57 = .ok (.iadd, 1)) ∧ (decode cX7_readInto 58 = .ok (.putfield 43, 3)) ∧ (decode cX7_readInto 61 = .ok (.iinc 2 1, 3)) := by decide +kernel
theorem dX7_readInto_48 : decode cX7_readInto 48 = .ok (.invokevirtual 39, 3) := adX7_readInto_48.1
theorem dX7_readInto_51 : decode cX7_readInto 51 = .ok (.aload_n 1, 1) := adX7_readInto_48.2.1
theorem dX7_readInto_52 : decode cX7_readInto 52 = .ok (.dup, 1) := adX7_readInto_48.2.2.1
theorem dX7_readInto_53 : decode cX7_readInto 53 = .ok (.getfield 43, 3) := adX7_readInto_48.2.2.2.1
theorem dX7_readInto_56 : decode cX7_readInto 56 = .ok (.iconst 1, 1) := adX7_readInto_48.2.2.2.2.1
theorem dX7_readInto_57 : decode cX7_readInto 57 = .ok (.iadd, 1) := adX7_readInto_48.2.2.2.2.2.1
theorem dX7_readInto_58 : decode cX7_readInto 58 = .ok (.putfield 43, 3) := adX7_readInto_48.2.2.2.2.2.2.1
theorem dX7_readInto_61 : decode cX7_readInto 61 = .ok (.iinc 2 1, 3) := adX7_readInto_48.2.2.2.2.2.2.2
theorem dX7_readInto_64 : decode cX7_readInto 64 = .ok (.goto (-39), 3) := by decide +kernel
theorem adX8_land_0 : (decode cX8_land 0 = .ok (.aload_n 0, 1)) ∧ (decode cX8_land 1 = .ok (.getfield 10, 3)) ∧ (decode cX8_land 4 = .ok (.aload_n 0, 1)) ∧ (decode cX8_land 5 = .ok (.getfield 23, 3)) := by decide +kernel
theorem dX8_land_0 : decode cX8_land 0 = .ok (.aload_n 0, 1) := adX8_land_0.1
theorem dX8_land_1 : decode cX8_land 1 = .ok (.getfield 10, 3) := adX8_land_0.2.1
theorem dX8_land_4 : decode cX8_land 4 = .ok (.aload_n 0, 1) := adX8_land_0.2.2.1
theorem dX8_land_5 : decode cX8_land 5 = .ok (.getfield 23, 3) := adX8_land_0.2.2.2
set_option maxRecDepth 20000 in
theorem ggX8_land_X7_readInto : GoodIn wsX8_land wsX7_readInto := goodIn_r _ [11, 12, 13, 14, 15, 16, 17, 18, 19, 20, 21, 22, 23, 24, 25, 26, 27, 28, 29, 30, 31, 32, 33, 34, 35, 36, 10, 37, 38, 39, 40, 41, 42, 43, 44, 45, 46, 47, 48, 49, 50, 51, 52, 53, 54, 55, 56, 57, 58, 59, 60, 61, 62, 63, 64, 65, 66, 67, 68, 69, 70, 71, 72, 73, 74, 75, 76, 77, 78, 79, 80, 81, 82, 83, 84, 85, 86, 87, 88, 89, 90, 91, 92, 93, 94, 95, 96, 97, 98, 99, 100, 101, 102, 103, 104, 105, 106, 107, 108, 109, 110, 111, 112, 113, 114, 115, 116, 117, 118, 119, 120, 121, 122, 123, 124, 125, 126, 127, 128, 129, 130, 131, 132, 133, 134, 135, 136, 137, 138, 139, 140, 141, 142, 143, 144, 145, 146, 147, 148, 149, 150, 151, 152, 153, 154, 155, 156, 157, 158, 159, 160, 161, 162, 163, 164, 165, 166, 167, 168, 169, 170, 171, 172, 173, 174, 175, 176, 177, 178, 179, 180, 181, 182, 183, 184, 185, 186, 187, 188, 189, 190, 191, 192, 193, 194, 195, 196, 197, 208, 209, 210, 211, 212, 213, 214, 215, 216, 217, 218, 219, 220, 221, 222, 223, 224, 225, 226, 227, 228, 229, 230, 231] (by decide +kernel) (by decide +kernel)
set_option maxRecDepth 20000 in
theorem gX8_land_X7_readInto : GoodIn wsX8_land (wsV RX8 78 RX7 yX7_readInto wsX7_readInto) := goodIn_app (goodIn_of _ (by decide +kernel)) ggX8_land_X7_readInto
theorem adX8_land_8 : (decode cX8_land 8 = .ok (.invokevirtual 78, 3)) ∧ (decode cX8_land 11 = .ok (.aload_n 0, 1)) ∧ (decode cX8_land 12 = .ok (.getfield 10, 3)) ∧ (decode cX8_land 15 = .ok (.getfield 82, 3)) ∧ (decode cX8_land 18 = .ok (.ifCond .eq 6, 3)) ∧ (decode cX8_land 24 = .ok (.aload_n 0, 1)) ∧ (decode cX8_land 25 = .ok (.getfield 10, 3)) ∧ (decode cX8_land 28 = .ok (.iconst 0, 1)) := by decide +kernel
theorem dX8_land_8 : decode cX8_land 8 = .ok (.invokevirtual 78, 3) := adX8_land_8.1
theorem dX8_land_11 : decode cX8_land 11 = .ok (.aload_n 0, 1) := adX8_land_8.2.1
theorem dX8_land_12 : decode cX8_land 12 = .ok (.getfield 10, 3) := adX8_land_8.2.2.1
theorem dX8_land_15 : decode cX8_land 15 = .ok (.getfield 82, 3) := adX8_land_8.2.2.2.1
theorem dX8_land_18 : decode cX8_land 18 = .ok (.ifCond .eq 6, 3) := adX8_land_8.2.2.2.2.1
theorem dX8_land_24 : decode cX8_land 24 = .ok (.aload_n 0, 1) := adX8_land_8.2.2.2.2.2.1
theorem dX8_land_25 : decode cX8_land 25 = .ok (.getfield 10, 3) := adX8_land_8.2.2.2.2.2.2.1
theorem dX8_land_28 : decode cX8_land 28 = .ok (.iconst 0, 1) := adX8_land_8.2.2.2.2.2.2.2
theorem adX8_land_29 : (decode cX8_land 29 = .ok (.putfield 70, 3)) ∧ (decode cX8_land 32 = .ok (.aload_n 0, 1)) ∧ (decode cX8_land 33 = .ok (.getfield 19, 3)) ∧ (decode cX8_land 36 = .ok (.astore_n 1, 1)) ∧ (decode cX8_land 37 = .ok (.aload_n 0, 1)) ∧ (decode cX8_land 38 = .ok (.aload_n 0, 1)) ∧ (decode cX8_land 39 = .ok (.getfield 23, 3)) ∧ (decode cX8_land 42 = .ok (.putfield 19, 3)) := by decide +kernel
theorem dX8_land_29 : decode cX8_land 29 = .ok (.putfield 70, 3) := adX8_land_29.1
theorem dX8_land_32 : decode cX8_land 32 = .ok (.aload_n 0, 1) := adX8_land_29.2.1
theorem dX8_land_33 : decode cX8_land 33 = .ok (.getfield 19, 3) := adX8_land_29.2.2.1
theorem dX8_land_36 : decode cX8_land 36 = .ok (.astore_n 1, 1) := adX8_land_29.2.2.2.1
theorem dX8_land_37 : decode cX8_land 37 = .ok (.aload_n 0, 1) := adX8_land_29.2.2.2.2.1
theorem dX8_land_38 : decode cX8_land 38 = .ok (.aload_n 0, 1) := adX8_land_29.2.2.2.2.2.1
theorem dX8_land_39 : decode cX8_land 39 = .ok (.getfield 23, 3) := adX8_land_29.2.2.2.2.2.2.1
theorem dX8_land_42 : decode cX8_land 42 = .ok (.putfield 19, 3) := adX8_land_29.2.2.2.2.2.2.2
theorem adX8_land_45 : (decode cX8_land 45 = .ok (.aload_n 0, 1)) ∧ (decode cX8_land 46 = .ok (.aload_n 1, 1)) ∧ (decode cX8_land 47 = .ok (.putfield 23, 3)) ∧ (decode cX8_land 50 = .ok (.aload_n 0, 1)) ∧ (decode cX8_land 51 = .ok (.getfield 19, 3)) ∧ (decode cX8_land 54 = .ok (.getfield 85, 3)) ∧ (decode cX8_land 57 = .ok (.ireturn, 1)) ∧ (decode cX8_land 21 = .ok (.bipush (-4), 2)) := by decide +kernel
theorem dX8_land_45 : decode cX8_land 45 = .ok (.aload_n 0, 1) := adX8_land_45.1
theorem dX8_land_46 : decode cX8_land 46 = .ok (.aload_n 1, 1) := adX8_land_45.2.1
theorem dX8_land_47 : decode cX8_land 47 = .ok (.putfield 23, 3) := adX8_land_45.2.2.1
theorem dX8_land_50 : decode cX8_land 50 = .ok (.aload_n 0, 1) := adX8_land_45.2.2.2.1
theorem dX8_land_51 : decode cX8_land 51 = .ok (.getfield 19, 3) := adX8_land_45.2.2.2.2.1
theorem dX8_land_54 : decode cX8_land 54 = .ok (.getfield 85, 3) := adX8_land_45.2.2.2.2.2.1
theorem dX8_land_57 : decode cX8_land 57 = .ok (.ireturn, 1) := adX8_land_45.2.2.2.2.2.2.1
theorem dX8_land_21 : decode cX8_land 21 = .ok (.bipush (-4), 2) := adX8_land_45.2.2.2.2.2.2.2
theorem dX8_land_23 : decode cX8_land 23 = .ok (.ireturn, 1) := by decide +kernel
theorem adJ0_coder_7d493_0 : (decode cJ0_coder_7d493 0 = .ok (.getstatic 38, 3)) ∧ (decode cJ0_coder_7d493 3 = .ok (.ifCond .eq 10, 3)) ∧ (decode cJ0_coder_7d493 6 = .ok (.aload_n 0, 1)) ∧ (decode cJ0_coder_7d493 7 = .ok (.getfield 15, 3)) ∧ (decode cJ0_coder_7d493 10 = .ok (.goto 4, 3)) ∧ (decode cJ0_coder_7d493 14 = .ok (.ireturn, 1)) := by decide +kernel
theorem dJ0_coder_7d493_0 : decode cJ0_coder_7d493 0 = .ok (.getstatic 38, 3) := adJ0_coder_7d493_0.1
theorem dJ0_coder_7d493_3 : decode cJ0_coder_7d493 3 = .ok (.ifCond .eq 10, 3) := adJ0_coder_7d493_0.2.1
theorem dJ0_coder_7d493_6 : decode cJ0_coder_7d493 6 = .ok (.aload_n 0, 1) := adJ0_coder_7d493_0.2.2.1
theorem dJ0_coder_7d493_7 : decode cJ0_coder_7d493 7 = .ok (.getfield 15, 3) := adJ0_coder_7d493_0.2.2.2.1
theorem dJ0_coder_7d493_10 : decode cJ0_coder_7d493 10 = .ok (.goto 4, 3) := adJ0_coder_7d493_0.2.2.2.2.1
theorem dJ0_coder_7d493_14 : decode cJ0_coder_7d493 14 = .ok (.ireturn, 1) := adJ0_coder_7d493_0.2.2.2.2.2
theorem adJ0_isLatin1_aae02_0 : (decode cJ0_isLatin1_aae02 0 = .ok (.getstatic 38, 3)) ∧ (decode cJ0_isLatin1_aae02 3 = .ok (.ifCond .eq 14, 3)) ∧ (decode cJ0_isLatin1_aae02 6 = .ok (.aload_n 0, 1)) ∧ (decode cJ0_isLatin1_aae02 7 = .ok (.getfield 15, 3)) ∧ (decode cJ0_isLatin1_aae02 10 = .ok (.ifCond .ne 7, 3)) ∧ (decode cJ0_isLatin1_aae02 13 = .ok (.iconst 1, 1)) ∧ (decode cJ0_isLatin1_aae02 14 = .ok (.goto 4, 3)) ∧ (decode cJ0_isLatin1_aae02 18 = .ok (.ireturn, 1)) := by decide +kernel
theorem dJ0_isLatin1_aae02_0 : decode cJ0_isLatin1_aae02 0 = .ok (.getstatic 38, 3) := adJ0_isLatin1_aae02_0.1
theorem dJ0_isLatin1_aae02_3 : decode cJ0_isLatin1_aae02 3 = .ok (.ifCond .eq 14, 3) := adJ0_isLatin1_aae02_0.2.1
theorem dJ0_isLatin1_aae02_6 : decode cJ0_isLatin1_aae02 6 = .ok (.aload_n 0, 1) := adJ0_isLatin1_aae02_0.2.2.1
theorem dJ0_isLatin1_aae02_7 : decode cJ0_isLatin1_aae02 7 = .ok (.getfield 15, 3) := adJ0_isLatin1_aae02_0.2.2.2.1
theorem dJ0_isLatin1_aae02_10 : decode cJ0_isLatin1_aae02 10 = .ok (.ifCond .ne 7, 3) := adJ0_isLatin1_aae02_0.2.2.2.2.1
theorem dJ0_isLatin1_aae02_13 : decode cJ0_isLatin1_aae02 13 = .ok (.iconst 1, 1) := adJ0_isLatin1_aae02_0.2.2.2.2.2.1
theorem dJ0_isLatin1_aae02_14 : decode cJ0_isLatin1_aae02 14 = .ok (.goto 4, 3) := adJ0_isLatin1_aae02_0.2.2.2.2.2.2.1
theorem dJ0_isLatin1_aae02_18 : decode cJ0_isLatin1_aae02 18 = .ok (.ireturn, 1) := adJ0_isLatin1_aae02_0.2.2.2.2.2.2.2
theorem adJ0_length_8abf5_0 : (decode cJ0_length_8abf5 0 = .ok (.aload_n 0, 1)) ∧ (decode cJ0_length_8abf5 1 = .ok (.getfield 9, 3)) ∧ (decode cJ0_length_8abf5 4 = .ok (.arraylength, 1)) ∧ (decode cJ0_length_8abf5 5 = .ok (.aload_n 0, 1)) := by decide +kernel
theorem dJ0_length_8abf5_0 : decode cJ0_length_8abf5 0 = .ok (.aload_n 0, 1) := adJ0_length_8abf5_0.1
theorem dJ0_length_8abf5_1 : decode cJ0_length_8abf5 1 = .ok (.getfield 9, 3) := adJ0_length_8abf5_0.2.1
theorem dJ0_length_8abf5_4 : decode cJ0_length_8abf5 4 = .ok (.arraylength, 1) := adJ0_length_8abf5_0.2.2.1
theorem dJ0_length_8abf5_5 : decode cJ0_length_8abf5 5 = .ok (.aload_n 0, 1) := adJ0_length_8abf5_0.2.2.2
set_option maxRecDepth 20000 in
theorem ggJ0_length_8abf5_J0_coder_7d493 : GoodIn wsJ0_length_8abf5 wsJ0_coder_7d493 := goodIn_r _ [6, 7, 8] (by decide +kernel) (by decide +kernel)
set_option maxRecDepth 20000 in
theorem gJ0_length_8abf5_J0_coder_7d493 : GoodIn wsJ0_length_8abf5 (wsV RJ0 335 RJ0 yJ0_coder_7d493 wsJ0_coder_7d493) := goodIn_app (goodIn_of _ (by decide +kernel)) ggJ0_length_8abf5_J0_coder_7d493
theorem adJ0_length_8abf5_6 : (decode cJ0_length_8abf5 6 = .ok (.invokevirtual 335, 3)) ∧ (decode cJ0_length_8abf5 9 = .ok (.ishr, 1)) ∧ (decode cJ0_length_8abf5 10 = .ok (.ireturn, 1)) := by decide +kernel
theorem dJ0_length_8abf5_6 : decode cJ0_length_8abf5 6 = .ok (.invokevirtual 335, 3) := adJ0_length_8abf5_6.1
theorem dJ0_length_8abf5_9 : decode cJ0_length_8abf5 9 = .ok (.ishr, 1) := adJ0_length_8abf5_6.2.1
theorem dJ0_length_8abf5_10 : decode cJ0_length_8abf5 10 = .ok (.ireturn, 1) := adJ0_length_8abf5_6.2.2
theorem adJ3_checkIndex_8e157_0 : (decode cJ3_checkIndex_8e157 0 = .ok (.iload_n 0, 1)) ∧ (decode cJ3_checkIndex_8e157 1 = .ok (.ifCond .lt 8, 3)) ∧ (decode cJ3_checkIndex_8e157 4 = .ok (.iload_n 0, 1)) ∧ (decode cJ3_checkIndex_8e157 5 = .ok (.iload_n 1, 1)) ∧ (decode cJ3_checkIndex_8e157 6 = .ok (.if_icmp .lt 10, 3)) ∧ (decode cJ3_checkIndex_8e157 16 = .ok (.iload_n 0, 1)) ∧ (decode cJ3_checkIndex_8e157 17 = .ok (.ireturn, 1)) := by decide +kernel
theorem dJ3_checkIndex_8e157_0 : decode cJ3_checkIndex_8e157 0 = .ok (.iload_n 0, 1) := adJ3_checkIndex_8e157_0.1
theorem dJ3_checkIndex_8e157_1 : decode cJ3_checkIndex_8e157 1 = .ok (.ifCond .lt 8, 3) := adJ3_checkIndex_8e157_0.2.1
theorem dJ3_checkIndex_8e157_4 : decode cJ3_checkIndex_8e157 4 = .ok (.iload_n 0, 1) := adJ3_checkIndex_8e157_0.2.2.1
theorem dJ3_checkIndex_8e157_5 : decode cJ3_checkIndex_8e157 5 = .ok (.iload_n 1, 1) := adJ3_checkIndex_8e157_0.2.2.2.1
theorem dJ3_checkIndex_8e157_6 : decode cJ3_checkIndex_8e157 6 = .ok (.if_icmp .lt 10, 3) := adJ3_checkIndex_8e157_0.2.2.2.2.1
theorem dJ3_checkIndex_8e157_16 : decode cJ3_checkIndex_8e157 16 = .ok (.iload_n 0, 1) := adJ3_checkIndex_8e157_0.2.2.2.2.2.1
theorem dJ3_checkIndex_8e157_17 : decode cJ3_checkIndex_8e157 17 = .ok (.ireturn, 1) := adJ3_checkIndex_8e157_0.2.2.2.2.2.2
theorem adJ0_checkIndex_df160_0 : (decode cJ0_checkIndex_df160 0 = .ok (.iload_n 0, 1)) ∧ (decode cJ0_checkIndex_df160 1 = .ok (.iload_n 1, 1)) ∧ (decode cJ0_checkIndex_df160 2 = .ok (.getstatic 1053, 3)) := by decide +kernel
theorem dJ0_checkIndex_df160_0 : decode cJ0_checkIndex_df160 0 = .ok (.iload_n 0, 1) := adJ0_checkIndex_df160_0.1
theorem dJ0_checkIndex_df160_1 : decode cJ0_checkIndex_df160 1 = .ok (.iload_n 1, 1) := adJ0_checkIndex_df160_0.2.1
theorem dJ0_checkIndex_df160_2 : decode cJ0_checkIndex_df160 2 = .ok (.getstatic 1053, 3) := adJ0_checkIndex_df160_0.2.2
set_option maxRecDepth 20000 in
theorem ggJ0_checkIndex_df160_J3_checkIndex_8e157 : GoodIn wsJ0_checkIndex_df160 wsJ3_checkIndex_8e157 := goodIn_r _ [5] (by decide +kernel) (by decide +kernel)
set_option maxRecDepth 20000 in
theorem gJ0_checkIndex_df160_J3_checkIndex_8e157 : GoodIn wsJ0_checkIndex_df160 (va_wsS RJ0 1059 yJ3_checkIndex_8e157 wsJ3_checkIndex_8e157) := goodIn_app (goodIn_of _ (by decide +kernel)) ggJ0_checkIndex_df160_J3_checkIndex_8e157
theorem adJ0_checkIndex_df160_5 : (decode cJ0_checkIndex_df160 5 = .ok (.invokestatic 1059, 3)) ∧ (decode cJ0_checkIndex_df160 8 = .ok (.pop, 1)) ∧ (decode cJ0_checkIndex_df160 9 = .ok (.return_, 1)) := by decide +kernel
theorem dJ0_checkIndex_df160_5 : decode cJ0_checkIndex_df160 5 = .ok (.invokestatic 1059, 3) := adJ0_checkIndex_df160_5.1
theorem dJ0_checkIndex_df160_8 : decode cJ0_checkIndex_df160 8 = .ok (.pop, 1) := adJ0_checkIndex_df160_5.2.1
theorem dJ0_checkIndex_df160_9 : decode cJ0_checkIndex_df160 9 = .ok (.return_, 1) := adJ0_checkIndex_df160_5.2.2
theorem adJ1_charAt_3b067_0 : (decode cJ1_charAt_3b067 0 = .ok (.iload_n 1, 1)) ∧ (decode cJ1_charAt_3b067 1 = .ok (.aload_n 0, 1)) ∧ (decode cJ1_charAt_3b067 2 = .ok (.arraylength, 1)) := by decide +kernel
theorem dJ1_charAt_3b067_0 : decode cJ1_charAt_3b067 0 = .ok (.iload_n 1, 1) := adJ1_charAt_3b067_0.1
theorem dJ1_charAt_3b067_1 : decode cJ1_charAt_3b067 1 = .ok (.aload_n 0, 1) := adJ1_charAt_3b067_0.2.1
theorem dJ1_charAt_3b067_2 : decode cJ1_charAt_3b067 2 = .ok (.arraylength, 1) := adJ1_charAt_3b067_0.2.2
set_option maxRecDepth 20000 in
theorem ggJ1_charAt_3b067_J0_checkIndex_df160 : GoodIn wsJ1_charAt_3b067 wsJ0_checkIndex_df160 := goodIn_r _ [4, 5, 6, 7, 8, 9] (by decide +kernel) (by decide +kernel)
set_option maxRecDepth 20000 in
theorem gJ1_charAt_3b067_J0_checkIndex_df160 : GoodIn wsJ1_charAt_3b067 (va_wsS RJ1 9 yJ0_checkIndex_df160 wsJ0_checkIndex_df160) := goodIn_app (goodIn_of _ (by decide +kernel)) ggJ1_charAt_3b067_J0_checkIndex_df160
theorem adJ1_charAt_3b067_3 : (decode cJ1_charAt_3b067 3 = .ok (.invokestatic 9, 3)) ∧ (decode cJ1_charAt_3b067 6 = .ok (.aload_n 0, 1)) ∧ (decode cJ1_charAt_3b067 7 = .ok (.iload_n 1, 1)) ∧ (decode cJ1_charAt_3b067 8 = .ok (.baload, 1)) ∧ (decode cJ1_charAt_3b067 9 = .ok (.sipush 255, 3)) ∧ (decode cJ1_charAt_3b067 12 = .ok (.iand, 1)) ∧ (decode cJ1_charAt_3b067 13 = .ok (.i2c, 1)) ∧ (decode cJ1_charAt_3b067 14 = .ok (.ireturn, 1)) := by decide +kernel
theorem dJ1_charAt_3b067_3 : decode cJ1_charAt_3b067 3 = .ok (.invokestatic 9, 3) := adJ1_charAt_3b067_3.1
theorem dJ1_charAt_3b067_6 : decode cJ1_charAt_3b067 6 = .ok (.aload_n 0, 1) := adJ1_charAt_3b067_3.2.1
theorem dJ1_charAt_3b067_7 : decode cJ1_charAt_3b067 7 = .ok (.iload_n 1, 1) := adJ1_charAt_3b067_3.2.2.1
theorem dJ1_charAt_3b067_8 : decode cJ1_charAt_3b067 8 = .ok (.baload, 1) := adJ1_charAt_3b067_3.2.2.2.1
theorem dJ1_charAt_3b067_9 : decode cJ1_charAt_3b067 9 = .ok (.sipush 255, 3) := adJ1_charAt_3b067_3.2.2.2.2.1
theorem dJ1_charAt_3b067_12 : decode cJ1_charAt_3b067 12 = .ok (.iand, 1) := adJ1_charAt_3b067_3.2.2.2.2.2.1
theorem dJ1_charAt_3b067_13 : decode cJ1_charAt_3b067 13 = .ok (.i2c, 1) := adJ1_charAt_3b067_3.2.2.2.2.2.2.1
theorem dJ1_charAt_3b067_14 : decode cJ1_charAt_3b067 14 = .ok (.ireturn, 1) := adJ1_charAt_3b067_3.2.2.2.2.2.2.2
theorem dJ0_charAt_5068e_0 : decode cJ0_charAt_5068e 0 = .ok (.aload_n 0, 1) := by decide +kernel
set_option maxRecDepth 20000 in
theorem ggJ0_charAt_5068e_J0_isLatin1_aae02 : GoodIn wsJ0_charAt_5068e wsJ0_isLatin1_aae02 := goodIn_r _ [6, 7, 8] (by decide +kernel) (by decide +kernel)
set_option maxRecDepth 20000 in
theorem gJ0_charAt_5068e_J0_isLatin1_aae02 : GoodIn wsJ0_charAt_5068e (wsV RJ0 492 RJ0 yJ0_isLatin1_aae02 wsJ0_isLatin1_aae02) := goodIn_app (goodIn_of _ (by decide +kernel)) ggJ0_charAt_5068e_J0_isLatin1_aae02
theorem adJ0_charAt_5068e_1 : (decode cJ0_charAt_5068e 1 = .ok (.invokevirtual 492, 3)) ∧ (decode cJ0_charAt_5068e 4 = .ok (.ifCond .eq 12, 3)) ∧ (decode cJ0_charAt_5068e 7 = .ok (.aload_n 0, 1)) ∧ (decode cJ0_charAt_5068e 8 = .ok (.getfield 9, 3)) ∧ (decode cJ0_charAt_5068e 11 = .ok (.iload_n 1, 1)) := by decide +kernel
theorem dJ0_charAt_5068e_1 : decode cJ0_charAt_5068e 1 = .ok (.invokevirtual 492, 3) := adJ0_charAt_5068e_1.1
theorem dJ0_charAt_5068e_4 : decode cJ0_charAt_5068e 4 = .ok (.ifCond .eq 12, 3) := adJ0_charAt_5068e_1.2.1
theorem dJ0_charAt_5068e_7 : decode cJ0_charAt_5068e 7 = .ok (.aload_n 0, 1) := adJ0_charAt_5068e_1.2.2.1
theorem dJ0_charAt_5068e_8 : decode cJ0_charAt_5068e 8 = .ok (.getfield 9, 3) := adJ0_charAt_5068e_1.2.2.2.1
theorem dJ0_charAt_5068e_11 : decode cJ0_charAt_5068e 11 = .ok (.iload_n 1, 1) := adJ0_charAt_5068e_1.2.2.2.2
set_option maxRecDepth 20000 in
theorem ggJ0_charAt_5068e_J1_charAt_3b067 : GoodIn wsJ0_charAt_5068e wsJ1_charAt_3b067 := goodIn_r _ [12, 13, 14, 5, 15, 16, 17, 18, 19, 20] (by decide +kernel) (by decide +kernel)
set_option maxRecDepth 20000 in
theorem gJ0_charAt_5068e_J1_charAt_3b067 : GoodIn wsJ0_charAt_5068e (va_wsS RJ0 495 yJ1_charAt_3b067 wsJ1_charAt_3b067) := goodIn_app (goodIn_of _ (by decide +kernel)) ggJ0_charAt_5068e_J1_charAt_3b067
theorem adJ0_charAt_5068e_12 : (decode cJ0_charAt_5068e 12 = .ok (.invokestatic 495, 3)) ∧ (decode cJ0_charAt_5068e 15 = .ok (.ireturn, 1)) := by decide +kernel
theorem dJ0_charAt_5068e_12 : decode cJ0_charAt_5068e 12 = .ok (.invokestatic 495, 3) := adJ0_charAt_5068e_12.1
theorem dJ0_charAt_5068e_15 : decode cJ0_charAt_5068e 15 = .ok (.ireturn, 1) := adJ0_charAt_5068e_12.2
theorem adX7_init_0 : (decode cX7_init 0 = .ok (.aload_n 0, 1)) ∧ (decode cX7_init 1 = .ok (.invokespecial 3, 3)) ∧ (decode cX7_init 4 = .ok (.aload_n 0, 1)) ∧ (decode cX7_init 5 = .ok (.sipush 600, 3)) ∧ (decode cX7_init 8 = .ok (.newarray .byte, 2)) ∧ (decode cX7_init 10 = .ok (.putfield 9, 3)) ∧ (decode cX7_init 13 = .ok (.aload_n 0, 1)) ∧ (decode cX7_init 14 = .ok (.iconst (-1), 1)) := by decide +kernel
theorem dX7_init_0 : decode cX7_init 0 = .ok (.aload_n 0, 1) := adX7_init_0.1
theorem dX7_init_1 : decode cX7_init 1 = .ok (.invokespecial 3, 3) := adX7_init_0.2.1
theorem dX7_init_4 : decode cX7_init 4 = .ok (.aload_n 0, 1) := adX7_init_0.2.2.1
theorem dX7_init_5 : decode cX7_init 5 = .ok (.sipush 600, 3) := adX7_init_0.2.2.2.1
theorem dX7_init_8 : decode cX7_init 8 = .ok (.newarray .byte, 2) := adX7_init_0.2.2.2.2.1
theorem dX7_init_10 : decode cX7_init 10 = .ok (.putfield 9, 3) := adX7_init_0.2.2.2.2.2.1
theorem dX7_init_13 : decode cX7_init 13 = .ok (.aload_n 0, 1) := adX7_init_0.2.2.2.2.2.2.1
theorem dX7_init_14 : decode cX7_init 14 = .ok (.iconst (-1), 1) := adX7_init_0.2.2.2.2.2.2.2
theorem adX7_init_15 : (decode cX7_init 15 = .ok (.putfield 15, 3)) ∧ (decode cX7_init 18 = .ok (.return_, 1)) := by decide +kernel
theorem dX7_init_15 : decode cX7_init 15 = .ok (.putfield 15, 3) := adX7_init_15.1
theorem dX7_init_18 : decode cX7_init 18 = .ok (.return_, 1) := adX7_init_15.2
theorem adX3_init_0 : (decode cX3_init 0 = .ok (.aload_n 0, 1)) ∧ (decode cX3_init 1 = .ok (.invokespecial 3, 3)) ∧ (decode cX3_init 4 = .ok (.aload_n 0, 1)) ∧ (decode cX3_init 5 = .ok (.bipush 6, 2)) ∧ (decode cX3_init 7 = .ok (.newarray .int, 2)) ∧ (decode cX3_init 9 = .ok (.putfield 9, 3)) ∧ (decode cX3_init 12 = .ok (.aload_n 0, 1)) ∧ (decode cX3_init 13 = .ok (.bipush 6, 2)) := by decide +kernel
theorem dX3_init_0 : decode cX3_init 0 = .ok (.aload_n 0, 1) := adX3_init_0.1
theorem dX3_init_1 : decode cX3_init 1 = .ok (.invokespecial 3, 3) := adX3_init_0.2.1
theorem dX3_init_4 : decode cX3_init 4 = .ok (.aload_n 0, 1) := adX3_init_0.2.2.1
theorem dX3_init_5 : decode cX3_init 5 = .ok (.bipush 6, 2) := adX3_init_0.2.2.2.1
theorem dX3_init_7 : decode cX3_init 7 = .ok (.newarray .int, 2) := adX3_init_0.2.2.2.2.1
theorem dX3_init_9 : decode cX3_init 9 = .ok (.putfield 9, 3) := adX3_init_0.2.2.2.2.2.1
theorem dX3_init_12 : decode cX3_init 12 = .ok (.aload_n 0, 1) := adX3_init_0.2.2.2.2.2.2.1
theorem dX3_init_13 : decode cX3_init 13 = .ok (.bipush 6, 2) := adX3_init_0.2.2.2.2.2.2.2
theorem adX3_init_15 : (decode cX3_init 15 = .ok (.newarray .int, 2)) ∧ (decode cX3_init 17 = .ok (.putfield 15, 3)) ∧ (decode cX3_init 20 = .ok (.aload_n 0, 1)) ∧ (decode cX3_init 21 = .ok (.bipush 8, 2)) ∧ (decode cX3_init 23 = .ok (.newarray .int, 2)) ∧ (decode cX3_init 25 = .ok (.putfield 18, 3)) ∧ (decode cX3_init 28 = .ok (.aload_n 0, 1)) ∧ (decode cX3_init 29 = .ok (.bipush 8, 2)) := by decide +kernel
theorem dX3_init_15 : decode cX3_init 15 = .ok (.newarray .int, 2) := adX3_init_15.1
theorem dX3_init_17 : decode cX3_init 17 = .ok (.putfield 15, 3) := adX3_init_15.2.1
theorem dX3_init_20 : decode cX3_init 20 = .ok (.aload_n 0, 1) := adX3_init_15.2.2.1
theorem dX3_init_21 : decode cX3_init 21 = .ok (.bipush 8, 2) := adX3_init_15.2.2.2.1
theorem dX3_init_23 : decode cX3_init 23 = .ok (.newarray .int, 2) := adX3_init_15.2.2.2.2.1
theorem dX3_init_25 : decode cX3_init 25 = .ok (.putfield 18, 3) := adX3_init_15.2.2.2.2.2.1
theorem dX3_init_28 : decode cX3_init 28 = .ok (.aload_n 0, 1) := adX3_init_15.2.2.2.2.2.2.1
theorem dX3_init_29 : decode cX3_init 29 = .ok (.bipush 8, 2) := adX3_init_15.2.2.2.2.2.2.2
theorem adX3_init_31 : (decode cX3_init 31 = .ok (.newarray .int, 2)) ∧ (decode cX3_init 33 = .ok (.putfield 21, 3)) ∧ (decode cX3_init 36 = .ok (.aload_n 0, 1)) ∧ (decode cX3_init 37 = .ok (.bipush 8, 2)) ∧ (decode cX3_init 39 = .ok (.newarray .int, 2)) ∧ (decode cX3_init 41 = .ok (.putfield 24, 3)) ∧ (decode cX3_init 44 = .ok (.aload_n 0, 1)) ∧ (decode cX3_init 45 = .ok (.bipush 8, 2)) := by decide +kernel
theorem dX3_init_31 : decode cX3_init 31 = .ok (.newarray .int, 2) := adX3_init_31.1
theorem dX3_init_33 : decode cX3_init 33 = .ok (.putfield 21, 3) := adX3_init_31.2.1
theorem dX3_init_36 : decode cX3_init 36 = .ok (.aload_n 0, 1) := adX3_init_31.2.2.1
theorem dX3_init_37 : decode cX3_init 37 = .ok (.bipush 8, 2) := adX3_init_31.2.2.2.1
theorem dX3_init_39 : decode cX3_init 39 = .ok (.newarray .int, 2) := adX3_init_31.2.2.2.2.1
theorem dX3_init_41 : decode cX3_init 41 = .ok (.putfield 24, 3) := adX3_init_31.2.2.2.2.2.1
theorem dX3_init_44 : decode cX3_init 44 = .ok (.aload_n 0, 1) := adX3_init_31.2.2.2.2.2.2.1
theorem dX3_init_45 : decode cX3_init 45 = .ok (.bipush 8, 2) := adX3_init_31.2.2.2.2.2.2.2
theorem adX3_init_47 : (decode cX3_init 47 = .ok (.newarray .int, 2)) ∧ (decode cX3_init 49 = .ok (.putfield 27, 3)) ∧ (decode cX3_init 52 = .ok (.aload_n 0, 1)) ∧ (decode cX3_init 53 = .ok (.bipush 13, 2)) ∧ (decode cX3_init 55 = .ok (.newarray .int, 2)) ∧ (decode cX3_init 57 = .ok (.putfield 30, 3)) ∧ (decode cX3_init 60 = .ok (.aload_n 0, 1)) ∧ (decode cX3_init 61 = .ok (.bipush 120, 2)) := by decide +kernel
theorem dX3_init_47 : decode cX3_init 47 = .ok (.newarray .int, 2) := adX3_init_47.1
theorem dX3_init_49 : decode cX3_init 49 = .ok (.putfield 27, 3) := adX3_init_47.2.1
theorem dX3_init_52 : decode cX3_init 52 = .ok (.aload_n 0, 1) := adX3_init_47.2.2.1
theorem dX3_init_53 : decode cX3_init 53 = .ok (.bipush 13, 2) := adX3_init_47.2.2.2.1
theorem dX3_init_55 : decode cX3_init 55 = .ok (.newarray .int, 2) := adX3_init_47.2.2.2.2.1
theorem dX3_init_57 : decode cX3_init 57 = .ok (.putfield 30, 3) := adX3_init_47.2.2.2.2.2.1
theorem dX3_init_60 : decode cX3_init 60 = .ok (.aload_n 0, 1) := adX3_init_47.2.2.2.2.2.2.1
theorem dX3_init_61 : decode cX3_init 61 = .ok (.bipush 120, 2) := adX3_init_47.2.2.2.2.2.2.2
theorem adX3_init_63 : (decode cX3_init 63 = .ok (.newarray .int, 2)) ∧ (decode cX3_init 65 = .ok (.putfield 33, 3)) ∧ (decode cX3_init 68 = .ok (.aload_n 0, 1)) ∧ (decode cX3_init 69 = .ok (.bipush 120, 2)) ∧ (decode cX3_init 71 = .ok (.newarray .int, 2)) ∧ (decode cX3_init 73 = .ok (.putfield 36, 3)) ∧ (decode cX3_init 76 = .ok (.aload_n 0, 1)) ∧ (decode cX3_init 77 = .ok (.getfield 30, 3)) := by decide +kernel
theorem dX3_init_63 : decode cX3_init 63 = .ok (.newarray .int, 2) := adX3_init_63.1
theorem dX3_init_65 : decode cX3_init 65 = .ok (.putfield 33, 3) := adX3_init_63.2.1
theorem dX3_init_68 : decode cX3_init 68 = .ok (.aload_n 0, 1) := adX3_init_63.2.2.1
theorem dX3_init_69 : decode cX3_init 69 = .ok (.bipush 120, 2) := adX3_init_63.2.2.2.1
theorem dX3_init_71 : decode cX3_init 71 = .ok (.newarray .int, 2) := adX3_init_63.2.2.2.2.1
theorem dX3_init_73 : decode cX3_init 73 = .ok (.putfield 36, 3) := adX3_init_63.2.2.2.2.2.1
theorem dX3_init_76 : decode cX3_init 76 = .ok (.aload_n 0, 1) := adX3_init_63.2.2.2.2.2.2.1
theorem dX3_init_77 : decode cX3_init 77 = .ok (.getfield 30, 3) := adX3_init_63.2.2.2.2.2.2.2
theorem dX3_init_80 : decode cX3_init 80 = .ok (.iconst (-1), 1) := by decide +kernel
set_option maxRecDepth 20000 in
theorem ggX3_init_J7_fill_53178 : GoodIn wsX3_init wsJ7_fill_53178 := goodIn_r _ [17] (by decide +kernel) (by decide +kernel)
set_option maxRecDepth 20000 in
theorem gX3_init_J7_fill_53178 : GoodIn wsX3_init (va_wsS RX3 39 yJ7_fill_53178 wsJ7_fill_53178) := goodIn_app (goodIn_of _ (by decide +kernel)) ggX3_init_J7_fill_53178
theorem adX3_init_81 : (decode cX3_init 81 = .ok (.invokestatic 39, 3)) ∧ (decode cX3_init 84 = .ok (.return_, 1)) := by decide +kernel
theorem dX3_init_81 : decode cX3_init 81 = .ok (.invokestatic 39, 3) := adX3_init_81.1
theorem dX3_init_84 : decode cX3_init 84 = .ok (.return_, 1) := adX3_init_81.2
theorem adX5_init_0 : (decode cX5_init 0 = .ok (.aload_n 0, 1)) ∧ (decode cX5_init 1 = .ok (.invokespecial 3, 3)) ∧ (decode cX5_init 4 = .ok (.aload_n 0, 1)) ∧ (decode cX5_init 5 = .ok (.sipush 200, 3)) ∧ (decode cX5_init 8 = .ok (.newarray .int, 2)) ∧ (decode cX5_init 10 = .ok (.putfield 9, 3)) ∧ (decode cX5_init 13 = .ok (.aload_n 0, 1)) ∧ (decode cX5_init 14 = .ok (.sipush 200, 3)) := by decide +kernel
theorem dX5_init_0 : decode cX5_init 0 = .ok (.aload_n 0, 1) := adX5_init_0.1
theorem dX5_init_1 : decode cX5_init 1 = .ok (.invokespecial 3, 3) := adX5_init_0.2.1
theorem dX5_init_4 : decode cX5_init 4 = .ok (.aload_n 0, 1) := adX5_init_0.2.2.1
theorem dX5_init_5 : decode cX5_init 5 = .ok (.sipush 200, 3) := adX5_init_0.2.2.2.1
theorem dX5_init_8 : decode cX5_init 8 = .ok (.newarray .int, 2) := adX5_init_0.2.2.2.2.1
theorem dX5_init_10 : decode cX5_init 10 = .ok (.putfield 9, 3) := adX5_init_0.2.2.2.2.2.1
theorem dX5_init_13 : decode cX5_init 13 = .ok (.aload_n 0, 1) := adX5_init_0.2.2.2.2.2.2.1
theorem dX5_init_14 : decode cX5_init 14 = .ok (.sipush 200, 3) := adX5_init_0.2.2.2.2.2.2.2
theorem adX5_init_17 : (decode cX5_init 17 = .ok (.newarray .int, 2)) ∧ (decode cX5_init 19 = .ok (.putfield 15, 3)) ∧ (decode cX5_init 22 = .ok (.aload_n 0, 1)) ∧ (decode cX5_init 23 = .ok (.sipush 200, 3)) ∧ (decode cX5_init 26 = .ok (.newarray .int, 2)) ∧ (decode cX5_init 28 = .ok (.putfield 18, 3)) ∧ (decode cX5_init 31 = .ok (.aload_n 0, 1)) ∧ (decode cX5_init 32 = .ok (.sipush 200, 3)) := by decide +kernel
theorem dX5_init_17 : decode cX5_init 17 = .ok (.newarray .int, 2) := adX5_init_17.1
theorem dX5_init_19 : decode cX5_init 19 = .ok (.putfield 15, 3) := adX5_init_17.2.1
theorem dX5_init_22 : decode cX5_init 22 = .ok (.aload_n 0, 1) := adX5_init_17.2.2.1
theorem dX5_init_23 : decode cX5_init 23 = .ok (.sipush 200, 3) := adX5_init_17.2.2.2.1
theorem dX5_init_26 : decode cX5_init 26 = .ok (.newarray .int, 2) := adX5_init_17.2.2.2.2.1
theorem dX5_init_28 : decode cX5_init 28 = .ok (.putfield 18, 3) := adX5_init_17.2.2.2.2.2.1
theorem dX5_init_31 : decode cX5_init 31 = .ok (.aload_n 0, 1) := adX5_init_17.2.2.2.2.2.2.1
theorem dX5_init_32 : decode cX5_init 32 = .ok (.sipush 200, 3) := adX5_init_17.2.2.2.2.2.2.2
theorem adX5_init_35 : (decode cX5_init 35 = .ok (.newarray .int, 2)) ∧ (decode cX5_init 37 = .ok (.putfield 21, 3)) ∧ (decode cX5_init 40 = .ok (.aload_n 0, 1)) ∧ (decode cX5_init 41 = .ok (.sipush 200, 3)) ∧ (decode cX5_init 44 = .ok (.newarray .int, 2)) ∧ (decode cX5_init 46 = .ok (.putfield 24, 3)) ∧ (decode cX5_init 49 = .ok (.aload_n 0, 1)) ∧ (decode cX5_init 50 = .ok (.sipush 200, 3)) := by decide +kernel
theorem dX5_init_35 : decode cX5_init 35 = .ok (.newarray .int, 2) := adX5_init_35.1
theorem dX5_init_37 : decode cX5_init 37 = .ok (.putfield 21, 3) := adX5_init_35.2.1
theorem dX5_init_40 : decode cX5_init 40 = .ok (.aload_n 0, 1) := adX5_init_35.2.2.1
theorem dX5_init_41 : decode cX5_init 41 = .ok (.sipush 200, 3) := adX5_init_35.2.2.2.1
theorem dX5_init_44 : decode cX5_init 44 = .ok (.newarray .int, 2) := adX5_init_35.2.2.2.2.1
theorem dX5_init_46 : decode cX5_init 46 = .ok (.putfield 24, 3) := adX5_init_35.2.2.2.2.2.1
theorem dX5_init_49 : decode cX5_init 49 = .ok (.aload_n 0, 1) := adX5_init_35.2.2.2.2.2.2.1
theorem dX5_init_50 : decode cX5_init 50 = .ok (.sipush 200, 3) := adX5_init_35.2.2.2.2.2.2.2
theorem adX5_init_53 : (decode cX5_init 53 = .ok (.newarray .int, 2)) ∧ (decode cX5_init 55 = .ok (.putfield 27, 3)) ∧ (decode cX5_init 58 = .ok (.return_, 1)) := by decide +kernel
theorem dX5_init_53 : decode cX5_init 53 = .ok (.newarray .int, 2) := adX5_init_53.1
theorem dX5_init_55 : decode cX5_init 55 = .ok (.putfield 27, 3) := adX5_init_53.2.1
theorem dX5_init_58 : decode cX5_init 58 = .ok (.return_, 1) := adX5_init_53.2.2
theorem adX0_init_0 : (decode cX0_init 0 = .ok (.aload_n 0, 1)) ∧ (decode cX0_init 1 = .ok (.invokespecial 1, 3)) ∧ (decode cX0_init 4 = .ok (.return_, 1)) := by decide +kernel
theorem dX0_init_0 : decode cX0_init 0 = .ok (.aload_n 0, 1) := adX0_init_0.1
theorem dX0_init_1 : decode cX0_init 1 = .ok (.invokespecial 1, 3) := adX0_init_0.2.1
theorem dX0_init_4 : decode cX0_init 4 = .ok (.return_, 1) := adX0_init_0.2.2
theorem adX6_init_0 : (decode cX6_init 0 = .ok (.aload_n 0, 1)) ∧ (decode cX6_init 1 = .ok (.invokespecial 3, 3)) ∧ (decode cX6_init 4 = .ok (.return_, 1)) := by decide +kernel
theorem dX6_init_0 : decode cX6_init 0 = .ok (.aload_n 0, 1) := adX6_init_0.1
theorem dX6_init_1 : decode cX6_init 1 = .ok (.invokespecial 3, 3) := adX6_init_0.2.1
theorem dX6_init_4 : decode cX6_init 4 = .ok (.return_, 1) := adX6_init_0.2.2
theorem adX1_init_0 : (decode cX1_init 0 = .ok (.aload_n 0, 1)) ∧ (decode cX1_init 1 = .ok (.invokespecial 3, 3)) ∧ (decode cX1_init 4 = .ok (.aload_n 0, 1)) ∧ (decode cX1_init 5 = .ok (.bipush 72, 2)) ∧ (decode cX1_init 7 = .ok (.newarray .long, 2)) ∧ (decode cX1_init 9 = .ok (.putfield 11, 3)) ∧ (decode cX1_init 12 = .ok (.aload_n 0, 1)) ∧ (decode cX1_init 13 = .ok (.bipush 72, 2)) := by decide +kernel
theorem dX1_init_0 : decode cX1_init 0 = .ok (.aload_n 0, 1) := adX1_init_0.1
theorem dX1_init_1 : decode cX1_init 1 = .ok (.invokespecial 3, 3) := adX1_init_0.2.1
theorem dX1_init_4 : decode cX1_init 4 = .ok (.aload_n 0, 1) := adX1_init_0.2.2.1
theorem dX1_init_5 : decode cX1_init 5 = .ok (.bipush 72, 2) := adX1_init_0.2.2.2.1
theorem dX1_init_7 : decode cX1_init 7 = .ok (.newarray .long, 2) := adX1_init_0.2.2.2.2.1
theorem dX1_init_9 : decode cX1_init 9 = .ok (.putfield 11, 3) := adX1_init_0.2.2.2.2.2.1
theorem dX1_init_12 : decode cX1_init 12 = .ok (.aload_n 0, 1) := adX1_init_0.2.2.2.2.2.2.1
theorem dX1_init_13 : decode cX1_init 13 = .ok (.bipush 72, 2) := adX1_init_0.2.2.2.2.2.2.2
theorem adX1_init_15 : (decode cX1_init 15 = .ok (.newarray .long, 2)) ∧ (decode cX1_init 17 = .ok (.putfield 15, 3)) ∧ (decode cX1_init 20 = .ok (.aload_n 0, 1)) ∧ (decode cX1_init 21 = .ok (.bipush 72, 2)) ∧ (decode cX1_init 23 = .ok (.newarray .long, 2)) ∧ (decode cX1_init 25 = .ok (.putfield 18, 3)) ∧ (decode cX1_init 28 = .ok (.return_, 1)) := by decide +kernel
theorem dX1_init_15 : decode cX1_init 15 = .ok (.newarray .long, 2) := adX1_init_15.1
theorem dX1_init_17 : decode cX1_init 17 = .ok (.putfield 15, 3) := adX1_init_15.2.1
theorem dX1_init_20 : decode cX1_init 20 = .ok (.aload_n 0, 1) := adX1_init_15.2.2.1
theorem dX1_init_21 : decode cX1_init 21 = .ok (.bipush 72, 2) := adX1_init_15.2.2.2.1
theorem dX1_init_23 : decode cX1_init 23 = .ok (.newarray .long, 2) := adX1_init_15.2.2.2.2.1
theorem dX1_init_25 : decode cX1_init 25 = .ok (.putfield 18, 3) := adX1_init_15.2.2.2.2.2.1
theorem dX1_init_28 : decode cX1_init 28 = .ok (.return_, 1) := adX1_init_15.2.2.2.2.2.2
theorem adX4_init_0 : (decode cX4_init 0 = .ok (.aload_n 0, 1)) ∧ (decode cX4_init 1 = .ok (.invokespecial 3, 3)) ∧ (decode cX4_init 4 = .ok (.aload_n 0, 1)) ∧ (decode cX4_init 5 = .ok (.iconst (-1), 1)) ∧ (decode cX4_init 6 = .ok (.putfield 9, 3)) ∧ (decode cX4_init 9 = .ok (.aload_n 0, 1)) ∧ (decode cX4_init 10 = .ok (.bipush 60, 2)) ∧ (decode cX4_init 12 = .ok (.newarray .long, 2)) := by decide +kernel
theorem dX4_init_0 : decode cX4_init 0 = .ok (.aload_n 0, 1) := adX4_init_0.1
theorem dX4_init_1 : decode cX4_init 1 = .ok (.invokespecial 3, 3) := adX4_init_0.2.1
theorem dX4_init_4 : decode cX4_init 4 = .ok (.aload_n 0, 1) := adX4_init_0.2.2.1
theorem dX4_init_5 : decode cX4_init 5 = .ok (.iconst (-1), 1) := adX4_init_0.2.2.2.1
theorem dX4_init_6 : decode cX4_init 6 = .ok (.putfield 9, 3) := adX4_init_0.2.2.2.2.1
theorem dX4_init_9 : decode cX4_init 9 = .ok (.aload_n 0, 1) := adX4_init_0.2.2.2.2.2.1
theorem dX4_init_10 : decode cX4_init 10 = .ok (.bipush 60, 2) := adX4_init_0.2.2.2.2.2.2.1
theorem dX4_init_12 : decode cX4_init 12 = .ok (.newarray .long, 2) := adX4_init_0.2.2.2.2.2.2.2
theorem adX4_init_14 : (decode cX4_init 14 = .ok (.putfield 15, 3)) ∧ (decode cX4_init 17 = .ok (.return_, 1)) := by decide +kernel
theorem dX4_init_14 : decode cX4_init 14 = .ok (.putfield 15, 3) := adX4_init_14.1
theorem dX4_init_17 : decode cX4_init 17 = .ok (.return_, 1) := adX4_init_14.2
theorem adX8_init_0 : (decode cX8_init 0 = .ok (.aload_n 0, 1)) ∧ (decode cX8_init 1 = .ok (.invokespecial 1, 3)) ∧ (decode cX8_init 4 = .ok (.aload_n 0, 1)) ∧ (decode cX8_init 5 = .ok (.new 7, 3)) ∧ (decode cX8_init 8 = .ok (.dup, 1)) := by decide +kernel
theorem dX8_init_0 : decode cX8_init 0 = .ok (.aload_n 0, 1) := adX8_init_0.1
theorem dX8_init_1 : decode cX8_init 1 = .ok (.invokespecial 1, 3) := adX8_init_0.2.1
theorem dX8_init_4 : decode cX8_init 4 = .ok (.aload_n 0, 1) := adX8_init_0.2.2.1
theorem dX8_init_5 : decode cX8_init 5 = .ok (.new 7, 3) := adX8_init_0.2.2.2.1
theorem dX8_init_8 : decode cX8_init 8 = .ok (.dup, 1) := adX8_init_0.2.2.2.2
set_option maxRecDepth 20000 in
theorem ggX8_init_X7_init : GoodIn wsX8_init wsX7_init := goodIn_r _ [37, 38, 2, 3, 39, 40, 41, 87, 88, 89, 90, 91, 92, 93, 94] (by decide +kernel) (by decide +kernel)
set_option maxRecDepth 20000 in
theorem gX8_init_X7_init_n9 : GoodIn wsX8_init (wsX7_init) := ggX8_init_X7_init
theorem adX8_init_9 : (decode cX8_init 9 = .ok (.invokespecial 9, 3)) ∧ (decode cX8_init 12 = .ok (.putfield 10, 3)) ∧ (decode cX8_init 15 = .ok (.aload_n 0, 1)) ∧ (decode cX8_init 16 = .ok (.new 16, 3)) ∧ (decode cX8_init 19 = .ok (.dup, 1)) := by decide +kernel
theorem dX8_init_9 : decode cX8_init 9 = .ok (.invokespecial 9, 3) := adX8_init_9.1
theorem dX8_init_12 : decode cX8_init 12 = .ok (.putfield 10, 3) := adX8_init_9.2.1
theorem dX8_init_15 : decode cX8_init 15 = .ok (.aload_n 0, 1) := adX8_init_9.2.2.1
theorem dX8_init_16 : decode cX8_init 16 = .ok (.new 16, 3) := adX8_init_9.2.2.2.1
theorem dX8_init_19 : decode cX8_init 19 = .ok (.dup, 1) := adX8_init_9.2.2.2.2
set_option maxRecDepth 20000 in
theorem ggX8_init_X3_init : GoodIn wsX8_init wsX3_init := goodIn_r _ [44, 45, 2, 3, 46, 47, 48, 49, 50, 51, 52, 53, 54, 55, 56, 57, 58, 59, 105, 106, 107, 108, 109, 110, 111, 112, 113, 114, 115, 116, 117, 118, 119, 120] (by decide +kernel) (by decide +kernel)
set_option maxRecDepth 20000 in
theorem gX8_init_X3_init : GoodIn wsX8_init (wsX3_init) := ggX8_init_X3_init
theorem adX8_init_20 : (decode cX8_init 20 = .ok (.invokespecial 18, 3)) ∧ (decode cX8_init 23 = .ok (.putfield 19, 3)) ∧ (decode cX8_init 26 = .ok (.aload_n 0, 1)) ∧ (decode cX8_init 27 = .ok (.new 16, 3)) ∧ (decode cX8_init 30 = .ok (.dup, 1)) ∧ (decode cX8_init 31 = .ok (.invokespecial 18, 3)) ∧ (decode cX8_init 34 = .ok (.putfield 23, 3)) ∧ (decode cX8_init 37 = .ok (.aload_n 0, 1)) := by decide +kernel
theorem dX8_init_20 : decode cX8_init 20 = .ok (.invokespecial 18, 3) := adX8_init_20.1
theorem dX8_init_23 : decode cX8_init 23 = .ok (.putfield 19, 3) := adX8_init_20.2.1
theorem dX8_init_26 : decode cX8_init 26 = .ok (.aload_n 0, 1) := adX8_init_20.2.2.1
theorem dX8_init_27 : decode cX8_init 27 = .ok (.new 16, 3) := adX8_init_20.2.2.2.1
theorem dX8_init_30 : decode cX8_init 30 = .ok (.dup, 1) := adX8_init_20.2.2.2.2.1
theorem dX8_init_31 : decode cX8_init 31 = .ok (.invokespecial 18, 3) := adX8_init_20.2.2.2.2.2.1
theorem dX8_init_34 : decode cX8_init 34 = .ok (.putfield 23, 3) := adX8_init_20.2.2.2.2.2.2.1
theorem dX8_init_37 : decode cX8_init 37 = .ok (.aload_n 0, 1) := adX8_init_20.2.2.2.2.2.2.2
theorem adX8_init_38 : (decode cX8_init 38 = .ok (.new 26, 3)) ∧ (decode cX8_init 41 = .ok (.dup, 1)) := by decide +kernel
theorem dX8_init_38 : decode cX8_init 38 = .ok (.new 26, 3) := adX8_init_38.1
theorem dX8_init_41 : decode cX8_init 41 = .ok (.dup, 1) := adX8_init_38.2
set_option maxRecDepth 20000 in
theorem ggX8_init_X5_init : GoodIn wsX8_init wsX5_init := goodIn_r _ [61, 62, 2, 3, 46, 63, 64, 65, 66, 67, 68, 121, 122, 123, 124, 125, 126, 127] (by decide +kernel) (by decide +kernel)
set_option maxRecDepth 20000 in
theorem gX8_init_X5_init_n28 : GoodIn wsX8_init (wsX5_init) := ggX8_init_X5_init
theorem adX8_init_42 : (decode cX8_init 42 = .ok (.invokespecial 28, 3)) ∧ (decode cX8_init 45 = .ok (.putfield 29, 3)) ∧ (decode cX8_init 48 = .ok (.aload_n 0, 1)) ∧ (decode cX8_init 49 = .ok (.new 26, 3)) ∧ (decode cX8_init 52 = .ok (.dup, 1)) ∧ (decode cX8_init 53 = .ok (.invokespecial 28, 3)) ∧ (decode cX8_init 56 = .ok (.putfield 33, 3)) ∧ (decode cX8_init 59 = .ok (.aload_n 0, 1)) := by decide +kernel
theorem dX8_init_42 : decode cX8_init 42 = .ok (.invokespecial 28, 3) := adX8_init_42.1
theorem dX8_init_45 : decode cX8_init 45 = .ok (.putfield 29, 3) := adX8_init_42.2.1
theorem dX8_init_48 : decode cX8_init 48 = .ok (.aload_n 0, 1) := adX8_init_42.2.2.1
theorem dX8_init_49 : decode cX8_init 49 = .ok (.new 26, 3) := adX8_init_42.2.2.2.1
theorem dX8_init_52 : decode cX8_init 52 = .ok (.dup, 1) := adX8_init_42.2.2.2.2.1
theorem dX8_init_53 : decode cX8_init 53 = .ok (.invokespecial 28, 3) := adX8_init_42.2.2.2.2.2.1
theorem dX8_init_56 : decode cX8_init 56 = .ok (.putfield 33, 3) := adX8_init_42.2.2.2.2.2.2.1
theorem dX8_init_59 : decode cX8_init 59 = .ok (.aload_n 0, 1) := adX8_init_42.2.2.2.2.2.2.2
theorem adX8_init_60 : (decode cX8_init 60 = .ok (.new 36, 3)) ∧ (decode cX8_init 63 = .ok (.dup, 1)) := by decide +kernel
theorem dX8_init_60 : decode cX8_init 60 = .ok (.new 36, 3) := adX8_init_60.1
theorem dX8_init_63 : decode cX8_init 63 = .ok (.dup, 1) := adX8_init_60.2
set_option maxRecDepth 20000 in
theorem ggX8_init_X0_init : GoodIn wsX8_init wsX0_init := goodIn_r _ [70, 71, 2, 3] (by decide +kernel) (by decide +kernel)
set_option maxRecDepth 20000 in
theorem gX8_init_X0_init_n38 : GoodIn wsX8_init (wsX0_init) := ggX8_init_X0_init
theorem adX8_init_64 : (decode cX8_init 64 = .ok (.invokespecial 38, 3)) ∧ (decode cX8_init 67 = .ok (.putfield 39, 3)) ∧ (decode cX8_init 70 = .ok (.aload_n 0, 1)) ∧ (decode cX8_init 71 = .ok (.new 43, 3)) ∧ (decode cX8_init 74 = .ok (.dup, 1)) := by decide +kernel
theorem dX8_init_64 : decode cX8_init 64 = .ok (.invokespecial 38, 3) := adX8_init_64.1
theorem dX8_init_67 : decode cX8_init 67 = .ok (.putfield 39, 3) := adX8_init_64.2.1
theorem dX8_init_70 : decode cX8_init 70 = .ok (.aload_n 0, 1) := adX8_init_64.2.2.1
theorem dX8_init_71 : decode cX8_init 71 = .ok (.new 43, 3) := adX8_init_64.2.2.2.1
theorem dX8_init_74 : decode cX8_init 74 = .ok (.dup, 1) := adX8_init_64.2.2.2.2
set_option maxRecDepth 20000 in
theorem ggX8_init_X6_init : GoodIn wsX8_init wsX6_init := goodIn_r _ [73, 74, 2, 3] (by decide +kernel) (by decide +kernel)
set_option maxRecDepth 20000 in
theorem gX8_init_X6_init_n45 : GoodIn wsX8_init (wsX6_init) := ggX8_init_X6_init
theorem adX8_init_75 : (decode cX8_init 75 = .ok (.invokespecial 45, 3)) ∧ (decode cX8_init 78 = .ok (.putfield 46, 3)) ∧ (decode cX8_init 81 = .ok (.aload_n 0, 1)) ∧ (decode cX8_init 82 = .ok (.new 50, 3)) ∧ (decode cX8_init 85 = .ok (.dup, 1)) := by decide +kernel
theorem dX8_init_75 : decode cX8_init 75 = .ok (.invokespecial 45, 3) := adX8_init_75.1
theorem dX8_init_78 : decode cX8_init 78 = .ok (.putfield 46, 3) := adX8_init_75.2.1
theorem dX8_init_81 : decode cX8_init 81 = .ok (.aload_n 0, 1) := adX8_init_75.2.2.1
theorem dX8_init_82 : decode cX8_init 82 = .ok (.new 50, 3) := adX8_init_75.2.2.2.1
theorem dX8_init_85 : decode cX8_init 85 = .ok (.dup, 1) := adX8_init_75.2.2.2.2
set_option maxRecDepth 20000 in
theorem ggX8_init_X1_init : GoodIn wsX8_init wsX1_init := goodIn_r _ [76, 77, 2, 3, 78, 79, 80, 81, 140, 141, 142] (by decide +kernel) (by decide +kernel)
set_option maxRecDepth 20000 in
theorem gX8_init_X1_init_n52 : GoodIn wsX8_init (wsX1_init) := ggX8_init_X1_init
theorem adX8_init_86 : (decode cX8_init 86 = .ok (.invokespecial 52, 3)) ∧ (decode cX8_init 89 = .ok (.putfield 53, 3)) ∧ (decode cX8_init 92 = .ok (.aload_n 0, 1)) ∧ (decode cX8_init 93 = .ok (.iconst 3, 1)) ∧ (decode cX8_init 94 = .ok (.anewarray 57, 3)) ∧ (decode cX8_init 97 = .ok (.putfield 59, 3)) ∧ (decode cX8_init 100 = .ok (.aload_n 0, 1)) ∧ (decode cX8_init 101 = .ok (.iconst 4, 1)) := by decide +kernel
theorem dX8_init_86 : decode cX8_init 86 = .ok (.invokespecial 52, 3) := adX8_init_86.1
theorem dX8_init_89 : decode cX8_init 89 = .ok (.putfield 53, 3) := adX8_init_86.2.1
theorem dX8_init_92 : decode cX8_init 92 = .ok (.aload_n 0, 1) := adX8_init_86.2.2.1
theorem dX8_init_93 : decode cX8_init 93 = .ok (.iconst 3, 1) := adX8_init_86.2.2.2.1
theorem dX8_init_94 : decode cX8_init 94 = .ok (.anewarray 57, 3) := adX8_init_86.2.2.2.2.1
theorem dX8_init_97 : decode cX8_init 97 = .ok (.putfield 59, 3) := adX8_init_86.2.2.2.2.2.1
theorem dX8_init_100 : decode cX8_init 100 = .ok (.aload_n 0, 1) := adX8_init_86.2.2.2.2.2.2.1
theorem dX8_init_101 : decode cX8_init 101 = .ok (.iconst 4, 1) := adX8_init_86.2.2.2.2.2.2.2
theorem adX8_init_102 : (decode cX8_init 102 = .ok (.anewarray 63, 3)) ∧ (decode cX8_init 105 = .ok (.putfield 65, 3)) ∧ (decode cX8_init 108 = .ok (.iconst 0, 1)) ∧ (decode cX8_init 109 = .ok (.istore_n 1, 1)) ∧ (decode cX8_init 110 = .ok (.iload_n 1, 1)) ∧ (decode cX8_init 111 = .ok (.iconst 4, 1)) ∧ (decode cX8_init 112 = .ok (.if_icmp .ge 22, 3)) ∧ (decode cX8_init 115 = .ok (.aload_n 0, 1)) := by decide +kernel
theorem dX8_init_102 : decode cX8_init 102 = .ok (.anewarray 63, 3) := adX8_init_102.1
theorem dX8_init_105 : decode cX8_init 105 = .ok (.putfield 65, 3) := adX8_init_102.2.1
theorem dX8_init_108 : decode cX8_init 108 = .ok (.iconst 0, 1) := adX8_init_102.2.2.1
theorem dX8_init_109 : decode cX8_init 109 = .ok (.istore_n 1, 1) := adX8_init_102.2.2.2.1
theorem dX8_init_110 : decode cX8_init 110 = .ok (.iload_n 1, 1) := adX8_init_102.2.2.2.2.1
theorem dX8_init_111 : decode cX8_init 111 = .ok (.iconst 4, 1) := adX8_init_102.2.2.2.2.2.1
theorem dX8_init_112 : decode cX8_init 112 = .ok (.if_icmp .ge 22, 3) := adX8_init_102.2.2.2.2.2.2.1
theorem dX8_init_115 : decode cX8_init 115 = .ok (.aload_n 0, 1) := adX8_init_102.2.2.2.2.2.2.2
theorem adX8_init_116 : (decode cX8_init 116 = .ok (.getfield 65, 3)) ∧ (decode cX8_init 119 = .ok (.iload_n 1, 1)) ∧ (decode cX8_init 120 = .ok (.new 63, 3)) ∧ (decode cX8_init 123 = .ok (.dup, 1)) := by decide +kernel
theorem dX8_init_116 : decode cX8_init 116 = .ok (.getfield 65, 3) := adX8_init_116.1
theorem dX8_init_119 : decode cX8_init 119 = .ok (.iload_n 1, 1) := adX8_init_116.2.1
theorem dX8_init_120 : decode cX8_init 120 = .ok (.new 63, 3) := adX8_init_116.2.2.1
theorem dX8_init_123 : decode cX8_init 123 = .ok (.dup, 1) := adX8_init_116.2.2.2
set_option maxRecDepth 20000 in
theorem ggX8_init_X4_init : GoodIn wsX8_init wsX4_init := goodIn_r _ [83, 84, 2, 3, 85, 78, 86, 143, 144, 145] (by decide +kernel) (by decide +kernel)
set_option maxRecDepth 20000 in
theorem gX8_init_X4_init_n69 : GoodIn wsX8_init (wsX4_init) := ggX8_init_X4_init
theorem adX8_init_124 : (decode cX8_init 124 = .ok (.invokespecial 69, 3)) ∧ (decode cX8_init 127 = .ok (.aastore, 1)) ∧ (decode cX8_init 128 = .ok (.iinc 1 1, 3)) ∧ (decode cX8_init 131 = .ok (.goto (-21), 3)) ∧ (decode cX8_init 134 = .ok (.return_, 1)) := by decide +kernel
theorem dX8_init_124 : decode cX8_init 124 = .ok (.invokespecial 69, 3) := adX8_init_124.1
theorem dX8_init_127 : decode cX8_init 127 = .ok (.aastore, 1) := adX8_init_124.2.1
theorem dX8_init_128 : decode cX8_init 128 = .ok (.iinc 1 1, 3) := adX8_init_124.2.2.1
theorem dX8_init_131 : decode cX8_init 131 = .ok (.goto (-21), 3) := adX8_init_124.2.2.2.1
theorem dX8_init_134 : decode cX8_init 134 = .ok (.return_, 1) := adX8_init_124.2.2.2.2
theorem adX9_init_0 : (decode cX9_init 0 = .ok (.aload_n 0, 1)) ∧ (decode cX9_init 1 = .ok (.invokespecial 1, 3)) ∧ (decode cX9_init 4 = .ok (.aload_n 0, 1)) ∧ (decode cX9_init 5 = .ok (.iconst 4, 1)) ∧ (decode cX9_init 6 = .ok (.newarray .int, 2)) ∧ (decode cX9_init 8 = .ok (.putfield 7, 3)) ∧ (decode cX9_init 11 = .ok (.aload_n 0, 1)) ∧ (decode cX9_init 12 = .ok (.iconst 4, 1)) := by decide +kernel
theorem dX9_init_0 : decode cX9_init 0 = .ok (.aload_n 0, 1) := adX9_init_0.1
theorem dX9_init_1 : decode cX9_init 1 = .ok (.invokespecial 1, 3) := adX9_init_0.2.1
theorem dX9_init_4 : decode cX9_init 4 = .ok (.aload_n 0, 1) := adX9_init_0.2.2.1
theorem dX9_init_5 : decode cX9_init 5 = .ok (.iconst 4, 1) := adX9_init_0.2.2.2.1
theorem dX9_init_6 : decode cX9_init 6 = .ok (.newarray .int, 2) := adX9_init_0.2.2.2.2.1
theorem dX9_init_8 : decode cX9_init 8 = .ok (.putfield 7, 3) := adX9_init_0.2.2.2.2.2.1
theorem dX9_init_11 : decode cX9_init 11 = .ok (.aload_n 0, 1) := adX9_init_0.2.2.2.2.2.2.1
theorem dX9_init_12 : decode cX9_init 12 = .ok (.iconst 4, 1) := adX9_init_0.2.2.2.2.2.2.2
theorem adX9_init_13 : (decode cX9_init 13 = .ok (.newarray .int, 2)) ∧ (decode cX9_init 15 = .ok (.putfield 13, 3)) ∧ (decode cX9_init 18 = .ok (.aload_n 0, 1)) ∧ (decode cX9_init 19 = .ok (.sipush 240, 3)) ∧ (decode cX9_init 22 = .ok (.newarray .long, 2)) ∧ (decode cX9_init 24 = .ok (.putfield 16, 3)) ∧ (decode cX9_init 27 = .ok (.aload_n 0, 1)) ∧ (decode cX9_init 28 = .ok (.bipush 60, 2)) := by decide +kernel
theorem dX9_init_13 : decode cX9_init 13 = .ok (.newarray .int, 2) := adX9_init_13.1
theorem dX9_init_15 : decode cX9_init 15 = .ok (.putfield 13, 3) := adX9_init_13.2.1
theorem dX9_init_18 : decode cX9_init 18 = .ok (.aload_n 0, 1) := adX9_init_13.2.2.1
theorem dX9_init_19 : decode cX9_init 19 = .ok (.sipush 240, 3) := adX9_init_13.2.2.2.1
theorem dX9_init_22 : decode cX9_init 22 = .ok (.newarray .long, 2) := adX9_init_13.2.2.2.2.1
theorem dX9_init_24 : decode cX9_init 24 = .ok (.putfield 16, 3) := adX9_init_13.2.2.2.2.2.1
theorem dX9_init_27 : decode cX9_init 27 = .ok (.aload_n 0, 1) := adX9_init_13.2.2.2.2.2.2.1
theorem dX9_init_28 : decode cX9_init 28 = .ok (.bipush 60, 2) := adX9_init_13.2.2.2.2.2.2.2
theorem adX9_init_30 : (decode cX9_init 30 = .ok (.newarray .long, 2)) ∧ (decode cX9_init 32 = .ok (.putfield 20, 3)) ∧ (decode cX9_init 35 = .ok (.aload_n 0, 1)) ∧ (decode cX9_init 36 = .ok (.sipush 600, 3)) ∧ (decode cX9_init 39 = .ok (.newarray .byte, 2)) ∧ (decode cX9_init 41 = .ok (.putfield 23, 3)) ∧ (decode cX9_init 44 = .ok (.aload_n 0, 1)) ∧ (decode cX9_init 45 = .ok (.iconst (-1), 1)) := by decide +kernel
theorem dX9_init_30 : decode cX9_init 30 = .ok (.newarray .long, 2) := adX9_init_30.1
theorem dX9_init_32 : decode cX9_init 32 = .ok (.putfield 20, 3) := adX9_init_30.2.1
theorem dX9_init_35 : decode cX9_init 35 = .ok (.aload_n 0, 1) := adX9_init_30.2.2.1
theorem dX9_init_36 : decode cX9_init 36 = .ok (.sipush 600, 3) := adX9_init_30.2.2.2.1
theorem dX9_init_39 : decode cX9_init 39 = .ok (.newarray .byte, 2) := adX9_init_30.2.2.2.2.1
theorem dX9_init_41 : decode cX9_init 41 = .ok (.putfield 23, 3) := adX9_init_30.2.2.2.2.2.1
theorem dX9_init_44 : decode cX9_init 44 = .ok (.aload_n 0, 1) := adX9_init_30.2.2.2.2.2.2.1
theorem dX9_init_45 : decode cX9_init 45 = .ok (.iconst (-1), 1) := adX9_init_30.2.2.2.2.2.2.2
theorem adX9_init_46 : (decode cX9_init 46 = .ok (.putfield 27, 3)) ∧ (decode cX9_init 49 = .ok (.aload_n 0, 1)) ∧ (decode cX9_init 50 = .ok (.iconst 5, 1)) ∧ (decode cX9_init 51 = .ok (.newarray .int, 2)) ∧ (decode cX9_init 53 = .ok (.putfield 31, 3)) ∧ (decode cX9_init 56 = .ok (.aload_n 0, 1)) ∧ (decode cX9_init 57 = .ok (.iconst 5, 1)) ∧ (decode cX9_init 58 = .ok (.newarray .int, 2)) := by decide +kernel
theorem dX9_init_46 : decode cX9_init 46 = .ok (.putfield 27, 3) := adX9_init_46.1
theorem dX9_init_49 : decode cX9_init 49 = .ok (.aload_n 0, 1) := adX9_init_46.2.1
theorem dX9_init_50 : decode cX9_init 50 = .ok (.iconst 5, 1) := adX9_init_46.2.2.1
theorem dX9_init_51 : decode cX9_init 51 = .ok (.newarray .int, 2) := adX9_init_46.2.2.2.1
theorem dX9_init_53 : decode cX9_init 53 = .ok (.putfield 31, 3) := adX9_init_46.2.2.2.2.1
theorem dX9_init_56 : decode cX9_init 56 = .ok (.aload_n 0, 1) := adX9_init_46.2.2.2.2.2.1
theorem dX9_init_57 : decode cX9_init 57 = .ok (.iconst 5, 1) := adX9_init_46.2.2.2.2.2.2.1
theorem dX9_init_58 : decode cX9_init 58 = .ok (.newarray .int, 2) := adX9_init_46.2.2.2.2.2.2.2
theorem adX9_init_60 : (decode cX9_init 60 = .ok (.putfield 34, 3)) ∧ (decode cX9_init 63 = .ok (.aload_n 0, 1)) ∧ (decode cX9_init 64 = .ok (.bipush 30, 2)) ∧ (decode cX9_init 66 = .ok (.newarray .int, 2)) ∧ (decode cX9_init 68 = .ok (.putfield 37, 3)) ∧ (decode cX9_init 71 = .ok (.aload_n 0, 1)) ∧ (decode cX9_init 72 = .ok (.bipush 30, 2)) ∧ (decode cX9_init 74 = .ok (.newarray .int, 2)) := by decide +kernel
theorem dX9_init_60 : decode cX9_init 60 = .ok (.putfield 34, 3) := adX9_init_60.1
theorem dX9_init_63 : decode cX9_init 63 = .ok (.aload_n 0, 1) := adX9_init_60.2.1
theorem dX9_init_64 : decode cX9_init 64 = .ok (.bipush 30, 2) := adX9_init_60.2.2.1
theorem dX9_init_66 : decode cX9_init 66 = .ok (.newarray .int, 2) := adX9_init_60.2.2.2.1
theorem dX9_init_68 : decode cX9_init 68 = .ok (.putfield 37, 3) := adX9_init_60.2.2.2.2.1
theorem dX9_init_71 : decode cX9_init 71 = .ok (.aload_n 0, 1) := adX9_init_60.2.2.2.2.2.1
theorem dX9_init_72 : decode cX9_init 72 = .ok (.bipush 30, 2) := adX9_init_60.2.2.2.2.2.2.1
theorem dX9_init_74 : decode cX9_init 74 = .ok (.newarray .int, 2) := adX9_init_60.2.2.2.2.2.2.2
theorem adX9_init_76 : (decode cX9_init 76 = .ok (.putfield 40, 3)) ∧ (decode cX9_init 79 = .ok (.aload_n 0, 1)) ∧ (decode cX9_init 80 = .ok (.iconst 5, 1)) ∧ (decode cX9_init 81 = .ok (.newarray .int, 2)) ∧ (decode cX9_init 83 = .ok (.putfield 43, 3)) ∧ (decode cX9_init 86 = .ok (.aload_n 0, 1)) ∧ (decode cX9_init 87 = .ok (.bipush 40, 2)) ∧ (decode cX9_init 89 = .ok (.newarray .int, 2)) := by decide +kernel
theorem dX9_init_76 : decode cX9_init 76 = .ok (.putfield 40, 3) := adX9_init_76.1
theorem dX9_init_79 : decode cX9_init 79 = .ok (.aload_n 0, 1) := adX9_init_76.2.1
theorem dX9_init_80 : decode cX9_init 80 = .ok (.iconst 5, 1) := adX9_init_76.2.2.1
theorem dX9_init_81 : decode cX9_init 81 = .ok (.newarray .int, 2) := adX9_init_76.2.2.2.1
theorem dX9_init_83 : decode cX9_init 83 = .ok (.putfield 43, 3) := adX9_init_76.2.2.2.2.1
theorem dX9_init_86 : decode cX9_init 86 = .ok (.aload_n 0, 1) := adX9_init_76.2.2.2.2.2.1
theorem dX9_init_87 : decode cX9_init 87 = .ok (.bipush 40, 2) := adX9_init_76.2.2.2.2.2.2.1
theorem dX9_init_89 : decode cX9_init 89 = .ok (.newarray .int, 2) := adX9_init_76.2.2.2.2.2.2.2
theorem adX9_init_91 : (decode cX9_init 91 = .ok (.putfield 46, 3)) ∧ (decode cX9_init 94 = .ok (.aload_n 0, 1)) ∧ (decode cX9_init 95 = .ok (.bipush 40, 2)) ∧ (decode cX9_init 97 = .ok (.newarray .int, 2)) ∧ (decode cX9_init 99 = .ok (.putfield 49, 3)) ∧ (decode cX9_init 102 = .ok (.aload_n 0, 1)) ∧ (decode cX9_init 103 = .ok (.bipush 40, 2)) ∧ (decode cX9_init 105 = .ok (.newarray .int, 2)) := by decide +kernel
theorem dX9_init_91 : decode cX9_init 91 = .ok (.putfield 46, 3) := adX9_init_91.1
theorem dX9_init_94 : decode cX9_init 94 = .ok (.aload_n 0, 1) := adX9_init_91.2.1
theorem dX9_init_95 : decode cX9_init 95 = .ok (.bipush 40, 2) := adX9_init_91.2.2.1
theorem dX9_init_97 : decode cX9_init 97 = .ok (.newarray .int, 2) := adX9_init_91.2.2.2.1
theorem dX9_init_99 : decode cX9_init 99 = .ok (.putfield 49, 3) := adX9_init_91.2.2.2.2.1
theorem dX9_init_102 : decode cX9_init 102 = .ok (.aload_n 0, 1) := adX9_init_91.2.2.2.2.2.1
theorem dX9_init_103 : decode cX9_init 103 = .ok (.bipush 40, 2) := adX9_init_91.2.2.2.2.2.2.1
theorem dX9_init_105 : decode cX9_init 105 = .ok (.newarray .int, 2) := adX9_init_91.2.2.2.2.2.2.2
theorem adX9_init_107 : (decode cX9_init 107 = .ok (.putfield 52, 3)) ∧ (decode cX9_init 110 = .ok (.aload_n 0, 1)) ∧ (decode cX9_init 111 = .ok (.bipush 40, 2)) ∧ (decode cX9_init 113 = .ok (.newarray .int, 2)) ∧ (decode cX9_init 115 = .ok (.putfield 55, 3)) ∧ (decode cX9_init 118 = .ok (.aload_n 0, 1)) ∧ (decode cX9_init 119 = .ok (.bipush 60, 2)) ∧ (decode cX9_init 121 = .ok (.newarray .boolean, 2)) := by decide +kernel
theorem dX9_init_107 : decode cX9_init 107 = .ok (.putfield 52, 3) := adX9_init_107.1
theorem dX9_init_110 : decode cX9_init 110 = .ok (.aload_n 0, 1) := adX9_init_107.2.1
theorem dX9_init_111 : decode cX9_init 111 = .ok (.bipush 40, 2) := adX9_init_107.2.2.1
theorem dX9_init_113 : decode cX9_init 113 = .ok (.newarray .int, 2) := adX9_init_107.2.2.2.1
theorem dX9_init_115 : decode cX9_init 115 = .ok (.putfield 55, 3) := adX9_init_107.2.2.2.2.1
theorem dX9_init_118 : decode cX9_init 118 = .ok (.aload_n 0, 1) := adX9_init_107.2.2.2.2.2.1
theorem dX9_init_119 : decode cX9_init 119 = .ok (.bipush 60, 2) := adX9_init_107.2.2.2.2.2.2.1
theorem dX9_init_121 : decode cX9_init 121 = .ok (.newarray .boolean, 2) := adX9_init_107.2.2.2.2.2.2.2
theorem adX9_init_123 : (decode cX9_init 123 = .ok (.putfield 58, 3)) ∧ (decode cX9_init 126 = .ok (.aload_n 0, 1)) ∧ (decode cX9_init 127 = .ok (.bipush 60, 2)) ∧ (decode cX9_init 129 = .ok (.newarray .int, 2)) ∧ (decode cX9_init 131 = .ok (.putfield 62, 3)) ∧ (decode cX9_init 134 = .ok (.aload_n 0, 1)) ∧ (decode cX9_init 135 = .ok (.iconst 5, 1)) ∧ (decode cX9_init 136 = .ok (.newarray .boolean, 2)) := by decide +kernel
theorem dX9_init_123 : decode cX9_init 123 = .ok (.putfield 58, 3) := adX9_init_123.1
theorem dX9_init_126 : decode cX9_init 126 = .ok (.aload_n 0, 1) := adX9_init_123.2.1
theorem dX9_init_127 : decode cX9_init 127 = .ok (.bipush 60, 2) := adX9_init_123.2.2.1
theorem dX9_init_129 : decode cX9_init 129 = .ok (.newarray .int, 2) := adX9_init_123.2.2.2.1
theorem dX9_init_131 : decode cX9_init 131 = .ok (.putfield 62, 3) := adX9_init_123.2.2.2.2.1
theorem dX9_init_134 : decode cX9_init 134 = .ok (.aload_n 0, 1) := adX9_init_123.2.2.2.2.2.1
theorem dX9_init_135 : decode cX9_init 135 = .ok (.iconst 5, 1) := adX9_init_123.2.2.2.2.2.2.1
theorem dX9_init_136 : decode cX9_init 136 = .ok (.newarray .boolean, 2) := adX9_init_123.2.2.2.2.2.2.2
theorem adX9_init_138 : (decode cX9_init 138 = .ok (.putfield 65, 3)) ∧ (decode cX9_init 141 = .ok (.aload_n 0, 1)) ∧ (decode cX9_init 142 = .ok (.iconst 5, 1)) ∧ (decode cX9_init 143 = .ok (.newarray .boolean, 2)) ∧ (decode cX9_init 145 = .ok (.putfield 68, 3)) ∧ (decode cX9_init 148 = .ok (.aload_n 0, 1)) ∧ (decode cX9_init 149 = .ok (.iconst 5, 1)) ∧ (decode cX9_init 150 = .ok (.newarray .int, 2)) := by decide +kernel
theorem dX9_init_138 : decode cX9_init 138 = .ok (.putfield 65, 3) := adX9_init_138.1
theorem dX9_init_141 : decode cX9_init 141 = .ok (.aload_n 0, 1) := adX9_init_138.2.1
theorem dX9_init_142 : decode cX9_init 142 = .ok (.iconst 5, 1) := adX9_init_138.2.2.1
theorem dX9_init_143 : decode cX9_init 143 = .ok (.newarray .boolean, 2) := adX9_init_138.2.2.2.1
theorem dX9_init_145 : decode cX9_init 145 = .ok (.putfield 68, 3) := adX9_init_138.2.2.2.2.1
theorem dX9_init_148 : decode cX9_init 148 = .ok (.aload_n 0, 1) := adX9_init_138.2.2.2.2.2.1
theorem dX9_init_149 : decode cX9_init 149 = .ok (.iconst 5, 1) := adX9_init_138.2.2.2.2.2.2.1
theorem dX9_init_150 : decode cX9_init 150 = .ok (.newarray .int, 2) := adX9_init_138.2.2.2.2.2.2.2
theorem adX9_init_152 : (decode cX9_init 152 = .ok (.putfield 71, 3)) ∧ (decode cX9_init 155 = .ok (.aload_n 0, 1)) ∧ (decode cX9_init 156 = .ok (.iconst 5, 1)) ∧ (decode cX9_init 157 = .ok (.newarray .int, 2)) ∧ (decode cX9_init 159 = .ok (.putfield 74, 3)) ∧ (decode cX9_init 162 = .ok (.aload_n 0, 1)) ∧ (decode cX9_init 163 = .ok (.iconst 5, 1)) ∧ (decode cX9_init 164 = .ok (.newarray .int, 2)) := by decide +kernel
theorem dX9_init_152 : decode cX9_init 152 = .ok (.putfield 71, 3) := adX9_init_152.1
theorem dX9_init_155 : decode cX9_init 155 = .ok (.aload_n 0, 1) := adX9_init_152.2.1
theorem dX9_init_156 : decode cX9_init 156 = .ok (.iconst 5, 1) := adX9_init_152.2.2.1
theorem dX9_init_157 : decode cX9_init 157 = .ok (.newarray .int, 2) := adX9_init_152.2.2.2.1
theorem dX9_init_159 : decode cX9_init 159 = .ok (.putfield 74, 3) := adX9_init_152.2.2.2.2.1
theorem dX9_init_162 : decode cX9_init 162 = .ok (.aload_n 0, 1) := adX9_init_152.2.2.2.2.2.1
theorem dX9_init_163 : decode cX9_init 163 = .ok (.iconst 5, 1) := adX9_init_152.2.2.2.2.2.2.1
theorem dX9_init_164 : decode cX9_init 164 = .ok (.newarray .int, 2) := adX9_init_152.2.2.2.2.2.2.2
theorem adX9_init_166 : (decode cX9_init 166 = .ok (.putfield 77, 3)) ∧ (decode cX9_init 169 = .ok (.aload_n 0, 1)) ∧ (decode cX9_init 170 = .ok (.sipush 1600, 3)) ∧ (decode cX9_init 173 = .ok (.newarray .int, 2)) ∧ (decode cX9_init 175 = .ok (.putfield 80, 3)) ∧ (decode cX9_init 178 = .ok (.aload_n 0, 1)) ∧ (decode cX9_init 179 = .ok (.iconst 3, 1)) ∧ (decode cX9_init 180 = .ok (.newarray .boolean, 2)) := by decide +kernel
theorem dX9_init_166 : decode cX9_init 166 = .ok (.putfield 77, 3) := adX9_init_166.1
theorem dX9_init_169 : decode cX9_init 169 = .ok (.aload_n 0, 1) := adX9_init_166.2.1
theorem dX9_init_170 : decode cX9_init 170 = .ok (.sipush 1600, 3) := adX9_init_166.2.2.1
theorem dX9_init_173 : decode cX9_init 173 = .ok (.newarray .int, 2) := adX9_init_166.2.2.2.1
theorem dX9_init_175 : decode cX9_init 175 = .ok (.putfield 80, 3) := adX9_init_166.2.2.2.2.1
theorem dX9_init_178 : decode cX9_init 178 = .ok (.aload_n 0, 1) := adX9_init_166.2.2.2.2.2.1
theorem dX9_init_179 : decode cX9_init 179 = .ok (.iconst 3, 1) := adX9_init_166.2.2.2.2.2.2.1
theorem dX9_init_180 : decode cX9_init 180 = .ok (.newarray .boolean, 2) := adX9_init_166.2.2.2.2.2.2.2
theorem adX9_init_182 : (decode cX9_init 182 = .ok (.putfield 83, 3)) ∧ (decode cX9_init 185 = .ok (.aload_n 0, 1)) ∧ (decode cX9_init 186 = .ok (.sipush 320, 3)) ∧ (decode cX9_init 189 = .ok (.newarray .long, 2)) ∧ (decode cX9_init 191 = .ok (.putfield 86, 3)) ∧ (decode cX9_init 194 = .ok (.aload_n 0, 1)) ∧ (decode cX9_init 195 = .ok (.iconst 5, 1)) ∧ (decode cX9_init 196 = .ok (.newarray .int, 2)) := by decide +kernel
theorem dX9_init_182 : decode cX9_init 182 = .ok (.putfield 83, 3) := adX9_init_182.1
theorem dX9_init_185 : decode cX9_init 185 = .ok (.aload_n 0, 1) := adX9_init_182.2.1
theorem dX9_init_186 : decode cX9_init 186 = .ok (.sipush 320, 3) := adX9_init_182.2.2.1
theorem dX9_init_189 : decode cX9_init 189 = .ok (.newarray .long, 2) := adX9_init_182.2.2.2.1
theorem dX9_init_191 : decode cX9_init 191 = .ok (.putfield 86, 3) := adX9_init_182.2.2.2.2.1
theorem dX9_init_194 : decode cX9_init 194 = .ok (.aload_n 0, 1) := adX9_init_182.2.2.2.2.2.1
theorem dX9_init_195 : decode cX9_init 195 = .ok (.iconst 5, 1) := adX9_init_182.2.2.2.2.2.2.1
theorem dX9_init_196 : decode cX9_init 196 = .ok (.newarray .int, 2) := adX9_init_182.2.2.2.2.2.2.2
theorem adX9_init_198 : (decode cX9_init 198 = .ok (.putfield 89, 3)) ∧ (decode cX9_init 201 = .ok (.aload_n 0, 1)) ∧ (decode cX9_init 202 = .ok (.sipush 1000, 3)) ∧ (decode cX9_init 205 = .ok (.newarray .int, 2)) ∧ (decode cX9_init 207 = .ok (.putfield 92, 3)) ∧ (decode cX9_init 210 = .ok (.aload_n 0, 1)) ∧ (decode cX9_init 211 = .ok (.sipush 1000, 3)) ∧ (decode cX9_init 214 = .ok (.newarray .int, 2)) := by decide +kernel
theorem dX9_init_198 : decode cX9_init 198 = .ok (.putfield 89, 3) := adX9_init_198.1
theorem dX9_init_201 : decode cX9_init 201 = .ok (.aload_n 0, 1) := adX9_init_198.2.1
theorem dX9_init_202 : decode cX9_init 202 = .ok (.sipush 1000, 3) := adX9_init_198.2.2.1
theorem dX9_init_205 : decode cX9_init 205 = .ok (.newarray .int, 2) := adX9_init_198.2.2.2.1
theorem dX9_init_207 : decode cX9_init 207 = .ok (.putfield 92, 3) := adX9_init_198.2.2.2.2.1
theorem dX9_init_210 : decode cX9_init 210 = .ok (.aload_n 0, 1) := adX9_init_198.2.2.2.2.2.1
theorem dX9_init_211 : decode cX9_init 211 = .ok (.sipush 1000, 3) := adX9_init_198.2.2.2.2.2.2.1
theorem dX9_init_214 : decode cX9_init 214 = .ok (.newarray .int, 2) := adX9_init_198.2.2.2.2.2.2.2
theorem adX9_init_216 : (decode cX9_init 216 = .ok (.putfield 95, 3)) ∧ (decode cX9_init 219 = .ok (.aload_n 0, 1)) ∧ (decode cX9_init 220 = .ok (.sipush 1000, 3)) ∧ (decode cX9_init 223 = .ok (.newarray .int, 2)) ∧ (decode cX9_init 225 = .ok (.putfield 98, 3)) ∧ (decode cX9_init 228 = .ok (.aload_n 0, 1)) ∧ (decode cX9_init 229 = .ok (.sipush 1000, 3)) ∧ (decode cX9_init 232 = .ok (.newarray .int, 2)) := by decide +kernel
theorem dX9_init_216 : decode cX9_init 216 = .ok (.putfield 95, 3) := adX9_init_216.1
theorem dX9_init_219 : decode cX9_init 219 = .ok (.aload_n 0, 1) := adX9_init_216.2.1
theorem dX9_init_220 : decode cX9_init 220 = .ok (.sipush 1000, 3) := adX9_init_216.2.2.1
theorem dX9_init_223 : decode cX9_init 223 = .ok (.newarray .int, 2) := adX9_init_216.2.2.2.1
theorem dX9_init_225 : decode cX9_init 225 = .ok (.putfield 98, 3) := adX9_init_216.2.2.2.2.1
theorem dX9_init_228 : decode cX9_init 228 = .ok (.aload_n 0, 1) := adX9_init_216.2.2.2.2.2.1
theorem dX9_init_229 : decode cX9_init 229 = .ok (.sipush 1000, 3) := adX9_init_216.2.2.2.2.2.2.1
theorem dX9_init_232 : decode cX9_init 232 = .ok (.newarray .int, 2) := adX9_init_216.2.2.2.2.2.2.2
theorem adX9_init_234 : (decode cX9_init 234 = .ok (.putfield 101, 3)) ∧ (decode cX9_init 237 = .ok (.aload_n 0, 1)) ∧ (decode cX9_init 238 = .ok (.sipush 1000, 3)) ∧ (decode cX9_init 241 = .ok (.newarray .int, 2)) ∧ (decode cX9_init 243 = .ok (.putfield 104, 3)) ∧ (decode cX9_init 246 = .ok (.aload_n 0, 1)) ∧ (decode cX9_init 247 = .ok (.sipush 1000, 3)) ∧ (decode cX9_init 250 = .ok (.newarray .int, 2)) := by decide +kernel
theorem dX9_init_234 : decode cX9_init 234 = .ok (.putfield 101, 3) := adX9_init_234.1
theorem dX9_init_237 : decode cX9_init 237 = .ok (.aload_n 0, 1) := adX9_init_234.2.1
theorem dX9_init_238 : decode cX9_init 238 = .ok (.sipush 1000, 3) := adX9_init_234.2.2.1
theorem dX9_init_241 : decode cX9_init 241 = .ok (.newarray .int, 2) := adX9_init_234.2.2.2.1
theorem dX9_init_243 : decode cX9_init 243 = .ok (.putfield 104, 3) := adX9_init_234.2.2.2.2.1
theorem dX9_init_246 : decode cX9_init 246 = .ok (.aload_n 0, 1) := adX9_init_234.2.2.2.2.2.1
theorem dX9_init_247 : decode cX9_init 247 = .ok (.sipush 1000, 3) := adX9_init_234.2.2.2.2.2.2.1
theorem dX9_init_250 : decode cX9_init 250 = .ok (.newarray .int, 2) := adX9_init_234.2.2.2.2.2.2.2
theorem adX9_init_252 : (decode cX9_init 252 = .ok (.putfield 107, 3)) ∧ (decode cX9_init 255 = .ok (.aload_n 0, 1)) ∧ (decode cX9_init 256 = .ok (.sipush 200, 3)) ∧ (decode cX9_init 259 = .ok (.newarray .boolean, 2)) ∧ (decode cX9_init 261 = .ok (.putfield 110, 3)) ∧ (decode cX9_init 264 = .ok (.aload_n 0, 1)) ∧ (decode cX9_init 265 = .ok (.bipush 72, 2)) ∧ (decode cX9_init 267 = .ok (.newarray .long, 2)) := by decide +kernel
theorem dX9_init_252 : decode cX9_init 252 = .ok (.putfield 107, 3) := adX9_init_252.1
theorem dX9_init_255 : decode cX9_init 255 = .ok (.aload_n 0, 1) := adX9_init_252.2.1
theorem dX9_init_256 : decode cX9_init 256 = .ok (.sipush 200, 3) := adX9_init_252.2.2.1
theorem dX9_init_259 : decode cX9_init 259 = .ok (.newarray .boolean, 2) := adX9_init_252.2.2.2.1
theorem dX9_init_261 : decode cX9_init 261 = .ok (.putfield 110, 3) := adX9_init_252.2.2.2.2.1
theorem dX9_init_264 : decode cX9_init 264 = .ok (.aload_n 0, 1) := adX9_init_252.2.2.2.2.2.1
theorem dX9_init_265 : decode cX9_init 265 = .ok (.bipush 72, 2) := adX9_init_252.2.2.2.2.2.2.1
theorem dX9_init_267 : decode cX9_init 267 = .ok (.newarray .long, 2) := adX9_init_252.2.2.2.2.2.2.2
theorem adX9_init_269 : (decode cX9_init 269 = .ok (.putfield 113, 3)) ∧ (decode cX9_init 272 = .ok (.aload_n 0, 1)) ∧ (decode cX9_init 273 = .ok (.bipush 72, 2)) ∧ (decode cX9_init 275 = .ok (.newarray .long, 2)) ∧ (decode cX9_init 277 = .ok (.putfield 116, 3)) ∧ (decode cX9_init 280 = .ok (.aload_n 0, 1)) ∧ (decode cX9_init 281 = .ok (.bipush 72, 2)) ∧ (decode cX9_init 283 = .ok (.newarray .long, 2)) := by decide +kernel
theorem dX9_init_269 : decode cX9_init 269 = .ok (.putfield 113, 3) := adX9_init_269.1
theorem dX9_init_272 : decode cX9_init 272 = .ok (.aload_n 0, 1) := adX9_init_269.2.1
theorem dX9_init_273 : decode cX9_init 273 = .ok (.bipush 72, 2) := adX9_init_269.2.2.1
theorem dX9_init_275 : decode cX9_init 275 = .ok (.newarray .long, 2) := adX9_init_269.2.2.2.1
theorem dX9_init_277 : decode cX9_init 277 = .ok (.putfield 116, 3) := adX9_init_269.2.2.2.2.1
theorem dX9_init_280 : decode cX9_init 280 = .ok (.aload_n 0, 1) := adX9_init_269.2.2.2.2.2.1
theorem dX9_init_281 : decode cX9_init 281 = .ok (.bipush 72, 2) := adX9_init_269.2.2.2.2.2.2.1
theorem dX9_init_283 : decode cX9_init 283 = .ok (.newarray .long, 2) := adX9_init_269.2.2.2.2.2.2.2
theorem adX9_init_285 : (decode cX9_init 285 = .ok (.putfield 119, 3)) ∧ (decode cX9_init 288 = .ok (.aload_n 0, 1)) ∧ (decode cX9_init 289 = .ok (.sipush 199, 3)) ∧ (decode cX9_init 292 = .ok (.newarray .boolean, 2)) ∧ (decode cX9_init 294 = .ok (.putfield 122, 3)) ∧ (decode cX9_init 297 = .ok (.iconst 0, 1)) ∧ (decode cX9_init 298 = .ok (.istore_n 1, 1)) ∧ (decode cX9_init 299 = .ok (.iload_n 1, 1)) := by decide +kernel
theorem dX9_init_285 : decode cX9_init 285 = .ok (.putfield 119, 3) := adX9_init_285.1
theorem dX9_init_288 : decode cX9_init 288 = .ok (.aload_n 0, 1) := adX9_init_285.2.1
theorem dX9_init_289 : decode cX9_init 289 = .ok (.sipush 199, 3) := adX9_init_285.2.2.1
theorem dX9_init_292 : decode cX9_init 292 = .ok (.newarray .boolean, 2) := adX9_init_285.2.2.2.1
theorem dX9_init_294 : decode cX9_init 294 = .ok (.putfield 122, 3) := adX9_init_285.2.2.2.2.1
theorem dX9_init_297 : decode cX9_init 297 = .ok (.iconst 0, 1) := adX9_init_285.2.2.2.2.2.1
theorem dX9_init_298 : decode cX9_init 298 = .ok (.istore_n 1, 1) := adX9_init_285.2.2.2.2.2.2.1
theorem dX9_init_299 : decode cX9_init 299 = .ok (.iload_n 1, 1) := adX9_init_285.2.2.2.2.2.2.2
theorem adX9_init_300 : (decode cX9_init 300 = .ok (.iconst 4, 1)) ∧ (decode cX9_init 301 = .ok (.if_icmp .ge 16, 3)) ∧ (decode cX9_init 304 = .ok (.aload_n 0, 1)) ∧ (decode cX9_init 305 = .ok (.getfield 7, 3)) ∧ (decode cX9_init 308 = .ok (.iload_n 1, 1)) ∧ (decode cX9_init 309 = .ok (.iconst (-1), 1)) ∧ (decode cX9_init 310 = .ok (.iastore, 1)) ∧ (decode cX9_init 311 = .ok (.iinc 1 1, 3)) := by decide +kernel
theorem dX9_init_300 : decode cX9_init 300 = .ok (.iconst 4, 1) := adX9_init_300.1
theorem dX9_init_301 : decode cX9_init 301 = .ok (.if_icmp .ge 16, 3) := adX9_init_300.2.1
theorem dX9_init_304 : decode cX9_init 304 = .ok (.aload_n 0, 1) := adX9_init_300.2.2.1
theorem dX9_init_305 : decode cX9_init 305 = .ok (.getfield 7, 3) := adX9_init_300.2.2.2.1
theorem dX9_init_308 : decode cX9_init 308 = .ok (.iload_n 1, 1) := adX9_init_300.2.2.2.2.1
theorem dX9_init_309 : decode cX9_init 309 = .ok (.iconst (-1), 1) := adX9_init_300.2.2.2.2.2.1
theorem dX9_init_310 : decode cX9_init 310 = .ok (.iastore, 1) := adX9_init_300.2.2.2.2.2.2.1
theorem dX9_init_311 : decode cX9_init 311 = .ok (.iinc 1 1, 3) := adX9_init_300.2.2.2.2.2.2.2
theorem adX9_init_314 : (decode cX9_init 314 = .ok (.goto (-15), 3)) ∧ (decode cX9_init 317 = .ok (.return_, 1)) := by decide +kernel
theorem dX9_init_314 : decode cX9_init 314 = .ok (.goto (-15), 3) := adX9_init_314.1
theorem dX9_init_317 : decode cX9_init 317 = .ok (.return_, 1) := adX9_init_314.2
theorem adX2_init_0 : (decode cX2_init 0 = .ok (.aload_n 0, 1)) ∧ (decode cX2_init 1 = .ok (.invokespecial 1, 3)) ∧ (decode cX2_init 4 = .ok (.aload_n 0, 1)) ∧ (decode cX2_init 5 = .ok (.new 7, 3)) ∧ (decode cX2_init 8 = .ok (.dup, 1)) := by decide +kernel
theorem dX2_init_0 : decode cX2_init 0 = .ok (.aload_n 0, 1) := adX2_init_0.1
theorem dX2_init_1 : decode cX2_init 1 = .ok (.invokespecial 1, 3) := adX2_init_0.2.1
theorem dX2_init_4 : decode cX2_init 4 = .ok (.aload_n 0, 1) := adX2_init_0.2.2.1
theorem dX2_init_5 : decode cX2_init 5 = .ok (.new 7, 3) := adX2_init_0.2.2.2.1
theorem dX2_init_8 : decode cX2_init 8 = .ok (.dup, 1) := adX2_init_0.2.2.2.2
set_option maxRecDepth 20000 in
theorem ggX2_init_X3_init : GoodIn wsX2_init wsX3_init := goodIn_r _ [14, 15, 2, 3, 16, 17, 18, 19, 20, 21, 22, 23, 24, 25, 26, 27, 28, 29, 39, 40, 41, 42, 43, 44, 45, 46, 47, 48, 49, 50, 51, 52, 53, 54] (by decide +kernel) (by decide +kernel)
set_option maxRecDepth 20000 in
theorem gX2_init_X3_init : GoodIn wsX2_init (wsX3_init) := ggX2_init_X3_init
theorem adX2_init_9 : (decode cX2_init 9 = .ok (.invokespecial 9, 3)) ∧ (decode cX2_init 12 = .ok (.putfield 10, 3)) ∧ (decode cX2_init 15 = .ok (.aload_n 0, 1)) ∧ (decode cX2_init 16 = .ok (.new 16, 3)) ∧ (decode cX2_init 19 = .ok (.dup, 1)) := by decide +kernel
theorem dX2_init_9 : decode cX2_init 9 = .ok (.invokespecial 9, 3) := adX2_init_9.1
theorem dX2_init_12 : decode cX2_init 12 = .ok (.putfield 10, 3) := adX2_init_9.2.1
theorem dX2_init_15 : decode cX2_init 15 = .ok (.aload_n 0, 1) := adX2_init_9.2.2.1
theorem dX2_init_16 : decode cX2_init 16 = .ok (.new 16, 3) := adX2_init_9.2.2.2.1
theorem dX2_init_19 : decode cX2_init 19 = .ok (.dup, 1) := adX2_init_9.2.2.2.2
set_option maxRecDepth 20000 in
theorem ggX2_init_X5_init : GoodIn wsX2_init wsX5_init := goodIn_r _ [31, 32, 2, 3, 16, 33, 34, 35, 36, 37, 38, 57, 58, 59, 60, 61, 62, 63] (by decide +kernel) (by decide +kernel)
set_option maxRecDepth 20000 in
theorem gX2_init_X5_init_n18 : GoodIn wsX2_init (wsX5_init) := ggX2_init_X5_init
theorem adX2_init_20 : (decode cX2_init 20 = .ok (.invokespecial 18, 3)) ∧ (decode cX2_init 23 = .ok (.putfield 19, 3)) ∧ (decode cX2_init 26 = .ok (.return_, 1)) := by decide +kernel
theorem dX2_init_20 : decode cX2_init 20 = .ok (.invokespecial 18, 3) := adX2_init_20.1
theorem dX2_init_23 : decode cX2_init 23 = .ok (.putfield 19, 3) := adX2_init_20.2.1
theorem dX2_init_26 : decode cX2_init 26 = .ok (.return_, 1) := adX2_init_20.2.2
set_option maxRecDepth 20000 in
theorem ggX8_keep_X8_within : GoodIn wsX8_keep wsX8_within := goodIn_r _ [12] (by decide +kernel) (by decide +kernel)
set_option maxRecDepth 20000 in
theorem gX8_keep_X8_within : GoodIn wsX8_keep (va_wsS RX8 105 yX8_within wsX8_within) := goodIn_app (goodIn_of _ (by decide +kernel)) ggX8_keep_X8_within
set_option maxRecDepth 20000 in
theorem ggX8_keep_X2_init : GoodIn wsX8_keep wsX2_init := goodIn_r _ [14, 15, 16, 17, 18, 19, 20, 21, 22, 23, 24, 25, 26, 27, 28, 29, 30, 31, 32, 33, 34, 35, 36, 37, 38, 39, 40, 41, 42, 43, 44, 45, 46, 47, 48, 49, 50, 51, 52, 86, 87, 88, 89, 90, 91, 92, 93, 94, 95, 96, 97, 98, 99, 100, 101, 84, 85, 102, 103, 104, 105, 106, 107, 108] (by decide +kernel) (by decide +kernel)
set_option maxRecDepth 20000 in
theorem gX8_keep_X2_init_n380 : GoodIn wsX8_keep (wsX2_init) := ggX8_keep_X2_init
set_option maxRecDepth 20000 in
theorem ggX8_keep_X3_copyOf : GoodIn wsX8_keep wsX3_copyOf := goodIn_r _ [56, 57, 58, 59, 60, 61, 62, 63, 31, 64, 65, 66, 67, 32, 33, 34, 35, 36, 37, 38, 39, 86, 87, 88, 89, 90, 91, 92, 93, 94, 95, 96, 97, 98, 99, 100, 101] (by decide +kernel) (by decide +kernel)
set_option maxRecDepth 20000 in
theorem gX8_keep_X3_copyOf : GoodIn wsX8_keep (wsV RX8 384 RX3 yX3_copyOf wsX3_copyOf) := goodIn_app (goodIn_of _ (by decide +kernel)) ggX8_keep_X3_copyOf
set_option maxRecDepth 20000 in
theorem ggX8_keep_X5_copyOf : GoodIn wsX8_keep wsX5_copyOf := goodIn_r _ [71, 72, 47, 73, 65, 66, 67, 48, 49, 50, 51, 52, 102, 103, 104, 105, 106, 107, 108] (by decide +kernel) (by decide +kernel)
set_option maxRecDepth 20000 in
theorem gX8_keep_X5_copyOf : GoodIn wsX8_keep (wsV RX8 390 RX5 yX5_copyOf wsX5_copyOf) := goodIn_app (goodIn_of _ (by decide +kernel)) ggX8_keep_X5_copyOf
theorem adX8_keep_0 : (decode cX8_keep 0 = .ok (.iload_n 1, 1)) ∧ (decode cX8_keep 1 = .ok (.iconst 0, 1)) ∧ (decode cX8_keep 2 = .ok (.iconst 2, 1)) ∧ (decode cX8_keep 3 = .ok (.invokestatic 105, 3)) ∧ (decode cX8_keep 6 = .ok (.ifCond .ne 6, 3)) ∧ (decode cX8_keep 9 = .ok (.bipush (-2), 2)) ∧ (decode cX8_keep 11 = .ok (.ireturn, 1)) ∧ (decode cX8_keep 12 = .ok (.aload_n 0, 1)) := by decide +kernel
theorem dX8_keep_0 : decode cX8_keep 0 = .ok (.iload_n 1, 1) := adX8_keep_0.1
theorem dX8_keep_1 : decode cX8_keep 1 = .ok (.iconst 0, 1) := adX8_keep_0.2.1
theorem dX8_keep_2 : decode cX8_keep 2 = .ok (.iconst 2, 1) := adX8_keep_0.2.2.1
theorem dX8_keep_3 : decode cX8_keep 3 = .ok (.invokestatic 105, 3) := adX8_keep_0.2.2.2.1
theorem dX8_keep_6 : decode cX8_keep 6 = .ok (.ifCond .ne 6, 3) := adX8_keep_0.2.2.2.2.1
theorem dX8_keep_9 : decode cX8_keep 9 = .ok (.bipush (-2), 2) := adX8_keep_0.2.2.2.2.2.1
theorem dX8_keep_11 : decode cX8_keep 11 = .ok (.ireturn, 1) := adX8_keep_0.2.2.2.2.2.2.1
theorem dX8_keep_12 : decode cX8_keep 12 = .ok (.aload_n 0, 1) := adX8_keep_0.2.2.2.2.2.2.2
theorem adX8_keep_13 : (decode cX8_keep 13 = .ok (.getfield 59, 3)) ∧ (decode cX8_keep 16 = .ok (.iload_n 1, 1)) ∧ (decode cX8_keep 17 = .ok (.aaload, 1)) ∧ (decode cX8_keep 18 = .ok (.ifnonnull 16, 3)) ∧ (decode cX8_keep 21 = .ok (.aload_n 0, 1)) ∧ (decode cX8_keep 22 = .ok (.getfield 59, 3)) ∧ (decode cX8_keep 25 = .ok (.iload_n 1, 1)) ∧ (decode cX8_keep 26 = .ok (.new 57, 3)) := by decide +kernel
theorem dX8_keep_13 : decode cX8_keep 13 = .ok (.getfield 59, 3) := adX8_keep_13.1
theorem dX8_keep_16 : decode cX8_keep 16 = .ok (.iload_n 1, 1) := adX8_keep_13.2.1
theorem dX8_keep_17 : decode cX8_keep 17 = .ok (.aaload, 1) := adX8_keep_13.2.2.1
theorem dX8_keep_18 : decode cX8_keep 18 = .ok (.ifnonnull 16, 3) := adX8_keep_13.2.2.2.1
theorem dX8_keep_21 : decode cX8_keep 21 = .ok (.aload_n 0, 1) := adX8_keep_13.2.2.2.2.1
theorem dX8_keep_22 : decode cX8_keep 22 = .ok (.getfield 59, 3) := adX8_keep_13.2.2.2.2.2.1
theorem dX8_keep_25 : decode cX8_keep 25 = .ok (.iload_n 1, 1) := adX8_keep_13.2.2.2.2.2.2.1
theorem dX8_keep_26 : decode cX8_keep 26 = .ok (.new 57, 3) := adX8_keep_13.2.2.2.2.2.2.2
theorem adX8_keep_29 : (decode cX8_keep 29 = .ok (.dup, 1)) ∧ (decode cX8_keep 30 = .ok (.invokespecial 380, 3)) ∧ (decode cX8_keep 33 = .ok (.aastore, 1)) ∧ (decode cX8_keep 34 = .ok (.aload_n 0, 1)) ∧ (decode cX8_keep 35 = .ok (.getfield 59, 3)) ∧ (decode cX8_keep 38 = .ok (.iload_n 1, 1)) ∧ (decode cX8_keep 39 = .ok (.aaload, 1)) ∧ (decode cX8_keep 40 = .ok (.getfield 381, 3)) := by decide +kernel
theorem dX8_keep_29 : decode cX8_keep 29 = .ok (.dup, 1) := adX8_keep_29.1
theorem dX8_keep_30 : decode cX8_keep 30 = .ok (.invokespecial 380, 3) := adX8_keep_29.2.1
theorem dX8_keep_33 : decode cX8_keep 33 = .ok (.aastore, 1) := adX8_keep_29.2.2.1
theorem dX8_keep_34 : decode cX8_keep 34 = .ok (.aload_n 0, 1) := adX8_keep_29.2.2.2.1
theorem dX8_keep_35 : decode cX8_keep 35 = .ok (.getfield 59, 3) := adX8_keep_29.2.2.2.2.1
theorem dX8_keep_38 : decode cX8_keep 38 = .ok (.iload_n 1, 1) := adX8_keep_29.2.2.2.2.2.1
theorem dX8_keep_39 : decode cX8_keep 39 = .ok (.aaload, 1) := adX8_keep_29.2.2.2.2.2.2.1
theorem dX8_keep_40 : decode cX8_keep 40 = .ok (.getfield 381, 3) := adX8_keep_29.2.2.2.2.2.2.2
theorem adX8_keep_43 : (decode cX8_keep 43 = .ok (.aload_n 0, 1)) ∧ (decode cX8_keep 44 = .ok (.getfield 19, 3)) ∧ (decode cX8_keep 47 = .ok (.invokevirtual 384, 3)) ∧ (decode cX8_keep 50 = .ok (.aload_n 0, 1)) ∧ (decode cX8_keep 51 = .ok (.getfield 59, 3)) ∧ (decode cX8_keep 54 = .ok (.iload_n 1, 1)) ∧ (decode cX8_keep 55 = .ok (.aaload, 1)) ∧ (decode cX8_keep 56 = .ok (.getfield 387, 3)) := by decide +kernel
theorem dX8_keep_43 : decode cX8_keep 43 = .ok (.aload_n 0, 1) := adX8_keep_43.1
theorem dX8_keep_44 : decode cX8_keep 44 = .ok (.getfield 19, 3) := adX8_keep_43.2.1
theorem dX8_keep_47 : decode cX8_keep 47 = .ok (.invokevirtual 384, 3) := adX8_keep_43.2.2.1
theorem dX8_keep_50 : decode cX8_keep 50 = .ok (.aload_n 0, 1) := adX8_keep_43.2.2.2.1
theorem dX8_keep_51 : decode cX8_keep 51 = .ok (.getfield 59, 3) := adX8_keep_43.2.2.2.2.1
theorem dX8_keep_54 : decode cX8_keep 54 = .ok (.iload_n 1, 1) := adX8_keep_43.2.2.2.2.2.1
theorem dX8_keep_55 : decode cX8_keep 55 = .ok (.aaload, 1) := adX8_keep_43.2.2.2.2.2.2.1
theorem dX8_keep_56 : decode cX8_keep 56 = .ok (.getfield 387, 3) := adX8_keep_43.2.2.2.2.2.2.2
theorem adX8_keep_59 : (decode cX8_keep 59 = .ok (.aload_n 0, 1)) ∧ (decode cX8_keep 60 = .ok (.getfield 29, 3)) ∧ (decode cX8_keep 63 = .ok (.invokevirtual 390, 3)) ∧ (decode cX8_keep 66 = .ok (.iconst 0, 1)) ∧ (decode cX8_keep 67 = .ok (.ireturn, 1)) := by decide +kernel
theorem dX8_keep_59 : decode cX8_keep 59 = .ok (.aload_n 0, 1) := adX8_keep_59.1
theorem dX8_keep_60 : decode cX8_keep 60 = .ok (.getfield 29, 3) := adX8_keep_59.2.1
theorem dX8_keep_63 : decode cX8_keep 63 = .ok (.invokevirtual 390, 3) := adX8_keep_59.2.2.1
theorem dX8_keep_66 : decode cX8_keep 66 = .ok (.iconst 0, 1) := adX8_keep_59.2.2.2.1
theorem dX8_keep_67 : decode cX8_keep 67 = .ok (.ireturn, 1) := adX8_keep_59.2.2.2.2
set_option maxRecDepth 20000 in
theorem ggX8_back_X8_within : GoodIn wsX8_back wsX8_within := goodIn_r _ [9] (by decide +kernel) (by decide +kernel)
set_option maxRecDepth 20000 in
theorem gX8_back_X8_within : GoodIn wsX8_back (va_wsS RX8 105 yX8_within wsX8_within) := goodIn_app (goodIn_of _ (by decide +kernel)) ggX8_back_X8_within
set_option maxRecDepth 20000 in
theorem ggX8_back_X3_copyOf : GoodIn wsX8_back wsX3_copyOf := goodIn_r _ [14, 15, 16, 17, 18, 19, 20, 21, 22, 23, 24, 25, 26, 27, 28, 29, 30, 31, 32, 33, 34, 60, 61, 62, 63, 64, 65, 66, 67, 68, 69, 70, 71, 72, 73, 74, 75] (by decide +kernel) (by decide +kernel)
set_option maxRecDepth 20000 in
theorem gX8_back_X3_copyOf : GoodIn wsX8_back (wsV RX8 384 RX3 yX3_copyOf wsX3_copyOf) := goodIn_app (goodIn_of _ (by decide +kernel)) ggX8_back_X3_copyOf
set_option maxRecDepth 20000 in
theorem ggX8_back_X5_copyOf : GoodIn wsX8_back wsX5_copyOf := goodIn_r _ [39, 40, 41, 42, 24, 25, 26, 43, 44, 45, 46, 47, 76, 77, 78, 79, 80, 81, 82] (by decide +kernel) (by decide +kernel)
set_option maxRecDepth 20000 in
theorem gX8_back_X5_copyOf : GoodIn wsX8_back (wsV RX8 390 RX5 yX5_copyOf wsX5_copyOf) := goodIn_app (goodIn_of _ (by decide +kernel)) ggX8_back_X5_copyOf
theorem adX8_back_0 : (decode cX8_back 0 = .ok (.iload_n 1, 1)) ∧ (decode cX8_back 1 = .ok (.iconst 0, 1)) ∧ (decode cX8_back 2 = .ok (.iconst 2, 1)) ∧ (decode cX8_back 3 = .ok (.invokestatic 105, 3)) ∧ (decode cX8_back 6 = .ok (.ifCond .ne 6, 3)) ∧ (decode cX8_back 9 = .ok (.bipush (-2), 2)) ∧ (decode cX8_back 11 = .ok (.ireturn, 1)) ∧ (decode cX8_back 12 = .ok (.aload_n 0, 1)) := by decide +kernel
theorem dX8_back_0 : decode cX8_back 0 = .ok (.iload_n 1, 1) := adX8_back_0.1
theorem dX8_back_1 : decode cX8_back 1 = .ok (.iconst 0, 1) := adX8_back_0.2.1
theorem dX8_back_2 : decode cX8_back 2 = .ok (.iconst 2, 1) := adX8_back_0.2.2.1
theorem dX8_back_3 : decode cX8_back 3 = .ok (.invokestatic 105, 3) := adX8_back_0.2.2.2.1
theorem dX8_back_6 : decode cX8_back 6 = .ok (.ifCond .ne 6, 3) := adX8_back_0.2.2.2.2.1
theorem dX8_back_9 : decode cX8_back 9 = .ok (.bipush (-2), 2) := adX8_back_0.2.2.2.2.2.1
theorem dX8_back_11 : decode cX8_back 11 = .ok (.ireturn, 1) := adX8_back_0.2.2.2.2.2.2.1
theorem dX8_back_12 : decode cX8_back 12 = .ok (.aload_n 0, 1) := adX8_back_0.2.2.2.2.2.2.2
theorem adX8_back_13 : (decode cX8_back 13 = .ok (.getfield 59, 3)) ∧ (decode cX8_back 16 = .ok (.iload_n 1, 1)) ∧ (decode cX8_back 17 = .ok (.aaload, 1)) ∧ (decode cX8_back 18 = .ok (.ifnonnull 6, 3)) ∧ (decode cX8_back 21 = .ok (.bipush (-6), 2)) ∧ (decode cX8_back 23 = .ok (.ireturn, 1)) ∧ (decode cX8_back 24 = .ok (.aload_n 0, 1)) ∧ (decode cX8_back 25 = .ok (.getfield 19, 3)) := by decide +kernel
theorem dX8_back_13 : decode cX8_back 13 = .ok (.getfield 59, 3) := adX8_back_13.1
theorem dX8_back_16 : decode cX8_back 16 = .ok (.iload_n 1, 1) := adX8_back_13.2.1
theorem dX8_back_17 : decode cX8_back 17 = .ok (.aaload, 1) := adX8_back_13.2.2.1
theorem dX8_back_18 : decode cX8_back 18 = .ok (.ifnonnull 6, 3) := adX8_back_13.2.2.2.1
theorem dX8_back_21 : decode cX8_back 21 = .ok (.bipush (-6), 2) := adX8_back_13.2.2.2.2.1
theorem dX8_back_23 : decode cX8_back 23 = .ok (.ireturn, 1) := adX8_back_13.2.2.2.2.2.1
theorem dX8_back_24 : decode cX8_back 24 = .ok (.aload_n 0, 1) := adX8_back_13.2.2.2.2.2.2.1
theorem dX8_back_25 : decode cX8_back 25 = .ok (.getfield 19, 3) := adX8_back_13.2.2.2.2.2.2.2
theorem adX8_back_28 : (decode cX8_back 28 = .ok (.aload_n 0, 1)) ∧ (decode cX8_back 29 = .ok (.getfield 59, 3)) ∧ (decode cX8_back 32 = .ok (.iload_n 1, 1)) ∧ (decode cX8_back 33 = .ok (.aaload, 1)) ∧ (decode cX8_back 34 = .ok (.getfield 381, 3)) ∧ (decode cX8_back 37 = .ok (.invokevirtual 384, 3)) ∧ (decode cX8_back 40 = .ok (.aload_n 0, 1)) ∧ (decode cX8_back 41 = .ok (.getfield 29, 3)) := by decide +kernel
theorem dX8_back_28 : decode cX8_back 28 = .ok (.aload_n 0, 1) := adX8_back_28.1
theorem dX8_back_29 : decode cX8_back 29 = .ok (.getfield 59, 3) := adX8_back_28.2.1
theorem dX8_back_32 : decode cX8_back 32 = .ok (.iload_n 1, 1) := adX8_back_28.2.2.1
theorem dX8_back_33 : decode cX8_back 33 = .ok (.aaload, 1) := adX8_back_28.2.2.2.1
theorem dX8_back_34 : decode cX8_back 34 = .ok (.getfield 381, 3) := adX8_back_28.2.2.2.2.1
theorem dX8_back_37 : decode cX8_back 37 = .ok (.invokevirtual 384, 3) := adX8_back_28.2.2.2.2.2.1
theorem dX8_back_40 : decode cX8_back 40 = .ok (.aload_n 0, 1) := adX8_back_28.2.2.2.2.2.2.1
theorem dX8_back_41 : decode cX8_back 41 = .ok (.getfield 29, 3) := adX8_back_28.2.2.2.2.2.2.2
theorem adX8_back_44 : (decode cX8_back 44 = .ok (.aload_n 0, 1)) ∧ (decode cX8_back 45 = .ok (.getfield 59, 3)) ∧ (decode cX8_back 48 = .ok (.iload_n 1, 1)) ∧ (decode cX8_back 49 = .ok (.aaload, 1)) ∧ (decode cX8_back 50 = .ok (.getfield 387, 3)) ∧ (decode cX8_back 53 = .ok (.invokevirtual 390, 3)) ∧ (decode cX8_back 56 = .ok (.iconst 0, 1)) ∧ (decode cX8_back 57 = .ok (.ireturn, 1)) := by decide +kernel
theorem dX8_back_44 : decode cX8_back 44 = .ok (.aload_n 0, 1) := adX8_back_44.1
theorem dX8_back_45 : decode cX8_back 45 = .ok (.getfield 59, 3) := adX8_back_44.2.1
theorem dX8_back_48 : decode cX8_back 48 = .ok (.iload_n 1, 1) := adX8_back_44.2.2.1
theorem dX8_back_49 : decode cX8_back 49 = .ok (.aaload, 1) := adX8_back_44.2.2.2.1
theorem dX8_back_50 : decode cX8_back 50 = .ok (.getfield 387, 3) := adX8_back_44.2.2.2.2.1
theorem dX8_back_53 : decode cX8_back 53 = .ok (.invokevirtual 390, 3) := adX8_back_44.2.2.2.2.2.1
theorem dX8_back_56 : decode cX8_back 56 = .ok (.iconst 0, 1) := adX8_back_44.2.2.2.2.2.2.1
theorem dX8_back_57 : decode cX8_back 57 = .ok (.ireturn, 1) := adX8_back_44.2.2.2.2.2.2.2
