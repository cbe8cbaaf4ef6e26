theorem dX8_beside_9 : decode cX8_beside 9 = .ok (.ifCond .eq 10, 3) := by decide +kernel
theorem dX8_beside_19 : decode cX8_beside 19 = .ok (.ldc 214, 2) := by decide +kernel
theorem dX8_beside_21 : decode cX8_beside 21 = .ok (.ireturn, 1) := by decide +kernel
set_option maxRecDepth 20000 in
theorem ggX8_needs_X8_isPush : GoodIn wsX8_needs wsX8_isPush := goodIn_r _ [9, 10, 11, 8, 12] (by decide +kernel) (by decide +kernel)
set_option maxRecDepth 20000 in
theorem gX8_needs_X8_isPush : GoodIn wsX8_needs (va_wsS RX8 341 yX8_isPush wsX8_isPush) := goodIn_app (goodIn_of _ (by decide +kernel)) ggX8_needs_X8_isPush
set_option maxRecDepth 20000 in
theorem ggX8_needs_X8_within : GoodIn wsX8_needs wsX8_within := goodIn_r _ [12] (by decide +kernel) (by decide +kernel)
set_option maxRecDepth 20000 in
theorem gX8_needs_X8_within : GoodIn wsX8_needs (va_wsS RX8 105 yX8_within wsX8_within) := goodIn_app (goodIn_of _ (by decide +kernel)) ggX8_needs_X8_within
set_option maxRecDepth 20000 in
theorem ggX8_needs_X6_clear : GoodIn wsX8_needs wsX6_clear := goodIn_r _ [17, 18, 19, 20, 21, 22, 23, 24, 25, 26, 27, 28, 81, 82, 83, 84, 85, 86, 87, 88, 89, 90, 91] (by decide +kernel) (by decide +kernel)
set_option maxRecDepth 20000 in
theorem gX8_needs_X6_clear : GoodIn wsX8_needs (wsV RX8 229 RX6 yX6_clear wsX6_clear) := goodIn_app (goodIn_of _ (by decide +kernel)) ggX8_needs_X6_clear
theorem dX8_needs_0 : decode cX8_needs 0 = .ok (.iload_n 1, 1) := by decide +kernel
theorem dX8_needs_1 : decode cX8_needs 1 = .ok (.invokestatic 341, 3) := by decide +kernel
theorem dX8_needs_4 : decode cX8_needs 4 = .ok (.ifCond .eq 14, 3) := by decide +kernel
theorem dX8_needs_7 : decode cX8_needs 7 = .ok (.iload_n 2, 1) := by decide +kernel
theorem dX8_needs_8 : decode cX8_needs 8 = .ok (.iconst 0, 1) := by decide +kernel
theorem dX8_needs_9 : decode cX8_needs 9 = .ok (.ldc_w 344, 3) := by decide +kernel
theorem dX8_needs_12 : decode cX8_needs 12 = .ok (.invokestatic 105, 3) := by decide +kernel
theorem dX8_needs_15 : decode cX8_needs 15 = .ok (.ifCond .ne 6, 3) := by decide +kernel
theorem dX8_needs_18 : decode cX8_needs 18 = .ok (.bipush (-2), 2) := by decide +kernel
theorem dX8_needs_20 : decode cX8_needs 20 = .ok (.ireturn, 1) := by decide +kernel
theorem dX8_needs_21 : decode cX8_needs 21 = .ok (.aload_n 0, 1) := by decide +kernel
theorem dX8_needs_22 : decode cX8_needs 22 = .ok (.getfield 46, 3) := by decide +kernel
theorem dX8_needs_25 : decode cX8_needs 25 = .ok (.invokevirtual 229, 3) := by decide +kernel
theorem dX8_needs_28 : decode cX8_needs 28 = .ok (.iconst 0, 1) := by decide +kernel
theorem dX8_needs_29 : decode cX8_needs 29 = .ok (.istore_n 3, 1) := by decide +kernel
theorem dX8_needs_30 : decode cX8_needs 30 = .ok (.iload_n 3, 1) := by decide +kernel
theorem dX8_needs_31 : decode cX8_needs 31 = .ok (.aload_n 0, 1) := by decide +kernel
theorem dX8_needs_32 : decode cX8_needs 32 = .ok (.getfield 29, 3) := by decide +kernel
theorem dX8_needs_35 : decode cX8_needs 35 = .ok (.getfield 127, 3) := by decide +kernel
theorem dX8_needs_38 : decode cX8_needs 38 = .ok (.if_icmp .ge 51, 3) := by decide +kernel
theorem dX8_needs_89 : decode cX8_needs 89 = .ok (.iconst (-1), 1) := by decide +kernel
theorem dX8_needs_90 : decode cX8_needs 90 = .ok (.ireturn, 1) := by decide +kernel
set_option maxRecDepth 20000 in
theorem ggX8_worlds_X8_isPush : GoodIn wsX8_worlds wsX8_isPush := goodIn_r _ [8, 9, 10, 7, 11] (by decide +kernel) (by decide +kernel)
set_option maxRecDepth 20000 in
theorem gX8_worlds_X8_isPush : GoodIn wsX8_worlds (va_wsS RX8 341 yX8_isPush wsX8_isPush) := goodIn_app (goodIn_of _ (by decide +kernel)) ggX8_worlds_X8_isPush
set_option maxRecDepth 20000 in
theorem ggX8_worlds_X8_isSeed : GoodIn wsX8_worlds wsX8_isSeed := goodIn_r _ [14, 15, 9, 10, 7, 11] (by decide +kernel) (by decide +kernel)
set_option maxRecDepth 20000 in
theorem gX8_worlds_X8_isSeed : GoodIn wsX8_worlds (va_wsS RX8 113 yX8_isSeed wsX8_isSeed) := goodIn_app (goodIn_of _ (by decide +kernel)) ggX8_worlds_X8_isSeed
set_option maxRecDepth 20000 in
theorem ggX8_worlds_X8_within : GoodIn wsX8_worlds wsX8_within := goodIn_r _ [11] (by decide +kernel) (by decide +kernel)
set_option maxRecDepth 20000 in
theorem gX8_worlds_X8_within : GoodIn wsX8_worlds (va_wsS RX8 105 yX8_within wsX8_within) := goodIn_app (goodIn_of _ (by decide +kernel)) ggX8_worlds_X8_within
set_option maxRecDepth 20000 in
theorem ggX8_worlds_X3_canBeDrawnFrom : GoodIn wsX8_worlds wsX3_canBeDrawnFrom := goodIn_r _ [20, 21, 22, 273, 274, 275, 276, 277, 278, 279, 280, 281, 282, 283, 284, 285, 286, 287, 288] (by decide +kernel) (by decide +kernel)
set_option maxRecDepth 20000 in
theorem gX8_worlds_X3_canBeDrawnFrom : GoodIn wsX8_worlds (wsV RX8 116 RX3 yX3_canBeDrawnFrom wsX3_canBeDrawnFrom) := goodIn_app (goodIn_of _ (by decide +kernel)) ggX8_worlds_X3_canBeDrawnFrom
theorem dX8_worlds_0 : decode cX8_worlds 0 = .ok (.iload_n 1, 1) := by decide +kernel
theorem dX8_worlds_1 : decode cX8_worlds 1 = .ok (.invokestatic 341, 3) := by decide +kernel
theorem dX8_worlds_4 : decode cX8_worlds 4 = .ok (.ifCond .eq 20, 3) := by decide +kernel
theorem dX8_worlds_7 : decode cX8_worlds 7 = .ok (.iload_n 2, 1) := by decide +kernel
theorem dX8_worlds_8 : decode cX8_worlds 8 = .ok (.invokestatic 113, 3) := by decide +kernel
theorem dX8_worlds_11 : decode cX8_worlds 11 = .ok (.ifCond .eq 13, 3) := by decide +kernel
theorem dX8_worlds_14 : decode cX8_worlds 14 = .ok (.iload_n 3, 1) := by decide +kernel
theorem dX8_worlds_15 : decode cX8_worlds 15 = .ok (.iconst 1, 1) := by decide +kernel
theorem dX8_worlds_16 : decode cX8_worlds 16 = .ok (.bipush 20, 2) := by decide +kernel
theorem dX8_worlds_18 : decode cX8_worlds 18 = .ok (.invokestatic 105, 3) := by decide +kernel
theorem dX8_worlds_21 : decode cX8_worlds 21 = .ok (.ifCond .ne 6, 3) := by decide +kernel
theorem dX8_worlds_24 : decode cX8_worlds 24 = .ok (.bipush (-2), 2) := by decide +kernel
theorem dX8_worlds_26 : decode cX8_worlds 26 = .ok (.ireturn, 1) := by decide +kernel
theorem dX8_worlds_27 : decode cX8_worlds 27 = .ok (.iload 4, 2) := by decide +kernel
theorem dX8_worlds_29 : decode cX8_worlds 29 = .ok (.iconst 1, 1) := by decide +kernel
theorem dX8_worlds_30 : decode cX8_worlds 30 = .ok (.bipush 10, 2) := by decide +kernel
theorem dX8_worlds_32 : decode cX8_worlds 32 = .ok (.invokestatic 105, 3) := by decide +kernel
theorem dX8_worlds_35 : decode cX8_worlds 35 = .ok (.ifCond .eq 13, 3) := by decide +kernel
theorem dX8_worlds_38 : decode cX8_worlds 38 = .ok (.iload 5, 2) := by decide +kernel
theorem dX8_worlds_40 : decode cX8_worlds 40 = .ok (.iconst 0, 1) := by decide +kernel
theorem dX8_worlds_41 : decode cX8_worlds 41 = .ok (.iconst 2, 1) := by decide +kernel
theorem dX8_worlds_42 : decode cX8_worlds 42 = .ok (.invokestatic 105, 3) := by decide +kernel
theorem dX8_worlds_45 : decode cX8_worlds 45 = .ok (.ifCond .ne 6, 3) := by decide +kernel
theorem dX8_worlds_48 : decode cX8_worlds 48 = .ok (.bipush (-2), 2) := by decide +kernel
theorem dX8_worlds_50 : decode cX8_worlds 50 = .ok (.ireturn, 1) := by decide +kernel
theorem dX8_worlds_51 : decode cX8_worlds 51 = .ok (.aload_n 0, 1) := by decide +kernel
theorem dX8_worlds_52 : decode cX8_worlds 52 = .ok (.getfield 19, 3) := by decide +kernel
theorem dX8_worlds_55 : decode cX8_worlds 55 = .ok (.invokevirtual 116, 3) := by decide +kernel
theorem dX8_worlds_58 : decode cX8_worlds 58 = .ok (.ifCond .eq 13, 3) := by decide +kernel
theorem dX8_worlds_71 : decode cX8_worlds 71 = .ok (.bipush (-6), 2) := by decide +kernel
theorem dX8_worlds_73 : decode cX8_worlds 73 = .ok (.ireturn, 1) := by decide +kernel
set_option maxRecDepth 20000 in
theorem ggX8_only_X3_hasState : GoodIn wsX8_only wsX3_hasState := goodIn_r _ [8, 9, 43, 44, 45, 46, 47, 48, 49, 50, 51, 52, 53, 54, 55, 56, 57, 58] (by decide +kernel) (by decide +kernel)
set_option maxRecDepth 20000 in
theorem gX8_only_X3_hasState : GoodIn wsX8_only (wsV RX8 91 RX3 yX3_hasState wsX3_hasState) := goodIn_app (goodIn_of _ (by decide +kernel)) ggX8_only_X3_hasState
theorem dX8_only_0 : decode cX8_only 0 = .ok (.aload_n 0, 1) := by decide +kernel
theorem dX8_only_1 : decode cX8_only 1 = .ok (.getfield 19, 3) := by decide +kernel
theorem dX8_only_4 : decode cX8_only 4 = .ok (.iload_n 1, 1) := by decide +kernel
theorem dX8_only_5 : decode cX8_only 5 = .ok (.invokevirtual 91, 3) := by decide +kernel
theorem dX8_only_8 : decode cX8_only 8 = .ok (.ifCond .ne 6, 3) := by decide +kernel
theorem dX8_only_11 : decode cX8_only 11 = .ok (.bipush (-2), 2) := by decide +kernel
theorem dX8_only_13 : decode cX8_only 13 = .ok (.ireturn, 1) := by decide +kernel
set_option maxRecDepth 20000 in
theorem ggX8_judge_X8_isSlot : GoodIn wsX8_judge wsX8_isSlot := goodIn_r _ [10, 11, 12, 9, 13] (by decide +kernel) (by decide +kernel)
set_option maxRecDepth 20000 in
theorem gX8_judge_X8_isSlot : GoodIn wsX8_judge (va_wsS RX8 360 yX8_isSlot wsX8_isSlot) := goodIn_app (goodIn_of _ (by decide +kernel)) ggX8_judge_X8_isSlot
set_option maxRecDepth 20000 in
theorem ggX8_judge_X4_stands : GoodIn wsX8_judge wsX4_stands := goodIn_r _ [18, 19, 30, 31, 32] (by decide +kernel) (by decide +kernel)
set_option maxRecDepth 20000 in
theorem gX8_judge_X4_stands : GoodIn wsX8_judge (wsV RX8 363 RX4 yX4_stands wsX4_stands) := goodIn_app (goodIn_of _ (by decide +kernel)) ggX8_judge_X4_stands
theorem dX8_judge_0 : decode cX8_judge 0 = .ok (.iload_n 1, 1) := by decide +kernel
theorem dX8_judge_1 : decode cX8_judge 1 = .ok (.invokestatic 360, 3) := by decide +kernel
theorem dX8_judge_4 : decode cX8_judge 4 = .ok (.ifCond .ne 6, 3) := by decide +kernel
theorem dX8_judge_7 : decode cX8_judge 7 = .ok (.bipush (-2), 2) := by decide +kernel
theorem dX8_judge_9 : decode cX8_judge 9 = .ok (.ireturn, 1) := by decide +kernel
theorem dX8_judge_10 : decode cX8_judge 10 = .ok (.aload_n 0, 1) := by decide +kernel
theorem dX8_judge_11 : decode cX8_judge 11 = .ok (.getfield 65, 3) := by decide +kernel
theorem dX8_judge_14 : decode cX8_judge 14 = .ok (.iload_n 1, 1) := by decide +kernel
theorem dX8_judge_15 : decode cX8_judge 15 = .ok (.aaload, 1) := by decide +kernel
theorem dX8_judge_16 : decode cX8_judge 16 = .ok (.astore_n 2, 1) := by decide +kernel
theorem dX8_judge_17 : decode cX8_judge 17 = .ok (.aload_n 2, 1) := by decide +kernel
theorem dX8_judge_18 : decode cX8_judge 18 = .ok (.invokevirtual 363, 3) := by decide +kernel
theorem dX8_judge_21 : decode cX8_judge 21 = .ok (.ifCond .ne 6, 3) := by decide +kernel
theorem dX8_judge_24 : decode cX8_judge 24 = .ok (.bipush (-6), 2) := by decide +kernel
theorem dX8_judge_26 : decode cX8_judge 26 = .ok (.ireturn, 1) := by decide +kernel
set_option maxRecDepth 20000 in
theorem ggX8_sheets_X8_isSlot : GoodIn wsX8_sheets wsX8_isSlot := goodIn_r _ [7, 8, 9, 6, 10] (by decide +kernel) (by decide +kernel)
set_option maxRecDepth 20000 in
theorem gX8_sheets_X8_isSlot : GoodIn wsX8_sheets (va_wsS RX8 360 yX8_isSlot wsX8_isSlot) := goodIn_app (goodIn_of _ (by decide +kernel)) ggX8_sheets_X8_isSlot
set_option maxRecDepth 20000 in
theorem ggX8_sheets_X4_stands : GoodIn wsX8_sheets wsX4_stands := goodIn_r _ [15, 16, 50, 51, 52] (by decide +kernel) (by decide +kernel)
set_option maxRecDepth 20000 in
theorem gX8_sheets_X4_stands : GoodIn wsX8_sheets (wsV RX8 363 RX4 yX4_stands wsX4_stands) := goodIn_app (goodIn_of _ (by decide +kernel)) ggX8_sheets_X4_stands
theorem dX8_sheets_0 : decode cX8_sheets 0 = .ok (.iload_n 1, 1) := by decide +kernel
theorem dX8_sheets_1 : decode cX8_sheets 1 = .ok (.invokestatic 360, 3) := by decide +kernel
theorem dX8_sheets_4 : decode cX8_sheets 4 = .ok (.ifCond .ne 6, 3) := by decide +kernel
theorem dX8_sheets_7 : decode cX8_sheets 7 = .ok (.bipush (-2), 2) := by decide +kernel
theorem dX8_sheets_9 : decode cX8_sheets 9 = .ok (.ireturn, 1) := by decide +kernel
theorem dX8_sheets_10 : decode cX8_sheets 10 = .ok (.aload_n 0, 1) := by decide +kernel
theorem dX8_sheets_11 : decode cX8_sheets 11 = .ok (.getfield 65, 3) := by decide +kernel
theorem dX8_sheets_14 : decode cX8_sheets 14 = .ok (.iload_n 1, 1) := by decide +kernel
theorem dX8_sheets_15 : decode cX8_sheets 15 = .ok (.aaload, 1) := by decide +kernel
theorem dX8_sheets_16 : decode cX8_sheets 16 = .ok (.astore_n 2, 1) := by decide +kernel
theorem dX8_sheets_17 : decode cX8_sheets 17 = .ok (.aload_n 2, 1) := by decide +kernel
theorem dX8_sheets_18 : decode cX8_sheets 18 = .ok (.invokevirtual 363, 3) := by decide +kernel
theorem dX8_sheets_21 : decode cX8_sheets 21 = .ok (.ifCond .ne 6, 3) := by decide +kernel
theorem dX8_sheets_24 : decode cX8_sheets 24 = .ok (.bipush (-6), 2) := by decide +kernel
theorem dX8_sheets_26 : decode cX8_sheets 26 = .ok (.ireturn, 1) := by decide +kernel
set_option maxRecDepth 20000 in
theorem ggX8_count_X8_slotsThatStand : GoodIn wsX8_count wsX8_slotsThatStand := goodIn_r _ [15, 16, 17, 18, 19, 20, 21, 22, 23, 24, 25, 26, 27, 28, 29, 30, 31, 32, 64, 65, 66] (by decide +kernel) (by decide +kernel)
set_option maxRecDepth 20000 in
theorem gX8_count_X8_slotsThatStand : GoodIn wsX8_count (wsV RX8 377 RX8 yX8_slotsThatStand wsX8_slotsThatStand) := goodIn_app (goodIn_of _ (by decide +kernel)) ggX8_count_X8_slotsThatStand
theorem dX8_count_0 : decode cX8_count 0 = .ok (.iload_n 1, 1) := by decide +kernel
theorem dX8_count_1 : decode cX8_count 1 = .ok (.tableswitch 108 0 7 #[47, 55, 63, 71, 79, 87, 95, 103], 47) := by decide +kernel
theorem dX8_count_48 : decode cX8_count 48 = .ok (.aload_n 0, 1) := by decide +kernel
theorem dX8_count_49 : decode cX8_count 49 = .ok (.getfield 19, 3) := by decide +kernel
theorem dX8_count_52 : decode cX8_count 52 = .ok (.getfield 134, 3) := by decide +kernel
theorem dX8_count_55 : decode cX8_count 55 = .ok (.ireturn, 1) := by decide +kernel
theorem dX8_count_56 : decode cX8_count 56 = .ok (.aload_n 0, 1) := by decide +kernel
theorem dX8_count_57 : decode cX8_count 57 = .ok (.getfield 19, 3) := by decide +kernel
theorem dX8_count_60 : decode cX8_count 60 = .ok (.getfield 371, 3) := by decide +kernel
theorem dX8_count_63 : decode cX8_count 63 = .ok (.ireturn, 1) := by decide +kernel
theorem dX8_count_64 : decode cX8_count 64 = .ok (.aload_n 0, 1) := by decide +kernel
theorem dX8_count_65 : decode cX8_count 65 = .ok (.getfield 29, 3) := by decide +kernel
theorem dX8_count_68 : decode cX8_count 68 = .ok (.getfield 127, 3) := by decide +kernel
theorem dX8_count_71 : decode cX8_count 71 = .ok (.ireturn, 1) := by decide +kernel
theorem dX8_count_72 : decode cX8_count 72 = .ok (.aload_n 0, 1) := by decide +kernel
theorem dX8_count_73 : decode cX8_count 73 = .ok (.getfield 19, 3) := by decide +kernel
theorem dX8_count_76 : decode cX8_count 76 = .ok (.getfield 85, 3) := by decide +kernel
theorem dX8_count_79 : decode cX8_count 79 = .ok (.ireturn, 1) := by decide +kernel
theorem dX8_count_80 : decode cX8_count 80 = .ok (.aload_n 0, 1) := by decide +kernel
theorem dX8_count_81 : decode cX8_count 81 = .ok (.getfield 19, 3) := by decide +kernel
theorem dX8_count_84 : decode cX8_count 84 = .ok (.getfield 374, 3) := by decide +kernel
theorem dX8_count_87 : decode cX8_count 87 = .ok (.ireturn, 1) := by decide +kernel
theorem dX8_count_88 : decode cX8_count 88 = .ok (.aload_n 0, 1) := by decide +kernel
theorem dX8_count_89 : decode cX8_count 89 = .ok (.getfield 19, 3) := by decide +kernel
theorem dX8_count_92 : decode cX8_count 92 = .ok (.getfield 154, 3) := by decide +kernel
theorem dX8_count_95 : decode cX8_count 95 = .ok (.ireturn, 1) := by decide +kernel
theorem dX8_count_96 : decode cX8_count 96 = .ok (.aload_n 0, 1) := by decide +kernel
theorem dX8_count_97 : decode cX8_count 97 = .ok (.getfield 10, 3) := by decide +kernel
theorem dX8_count_100 : decode cX8_count 100 = .ok (.getfield 70, 3) := by decide +kernel
theorem dX8_count_103 : decode cX8_count 103 = .ok (.ireturn, 1) := by decide +kernel
theorem dX8_count_104 : decode cX8_count 104 = .ok (.aload_n 0, 1) := by decide +kernel
theorem dX8_count_105 : decode cX8_count 105 = .ok (.invokevirtual 377, 3) := by decide +kernel
theorem dX8_count_108 : decode cX8_count 108 = .ok (.ireturn, 1) := by decide +kernel
theorem dX8_count_109 : decode cX8_count 109 = .ok (.iconst (-1), 1) := by decide +kernel
theorem dX8_count_110 : decode cX8_count 110 = .ok (.ireturn, 1) := by decide +kernel
set_option maxRecDepth 20000 in
theorem ggX8_slotsThatStand_X4_stands : GoodIn wsX8_slotsThatStand wsX4_stands := goodIn_r _ [6, 7, 18, 19, 20] (by decide +kernel) (by decide +kernel)
set_option maxRecDepth 20000 in
theorem gX8_slotsThatStand_X4_stands : GoodIn wsX8_slotsThatStand (wsV RX8 363 RX4 yX4_stands wsX4_stands) := goodIn_app (goodIn_of _ (by decide +kernel)) ggX8_slotsThatStand_X4_stands
theorem dX8_slotsThatStand_0 : decode cX8_slotsThatStand 0 = .ok (.iconst 0, 1) := by decide +kernel
theorem dX8_slotsThatStand_1 : decode cX8_slotsThatStand 1 = .ok (.istore_n 1, 1) := by decide +kernel
theorem dX8_slotsThatStand_2 : decode cX8_slotsThatStand 2 = .ok (.iconst 0, 1) := by decide +kernel
theorem dX8_slotsThatStand_3 : decode cX8_slotsThatStand 3 = .ok (.istore_n 2, 1) := by decide +kernel
theorem dX8_slotsThatStand_4 : decode cX8_slotsThatStand 4 = .ok (.iload_n 2, 1) := by decide +kernel
theorem dX8_slotsThatStand_5 : decode cX8_slotsThatStand 5 = .ok (.iconst 4, 1) := by decide +kernel
theorem dX8_slotsThatStand_6 : decode cX8_slotsThatStand 6 = .ok (.if_icmp .ge 24, 3) := by decide +kernel
theorem dX8_slotsThatStand_9 : decode cX8_slotsThatStand 9 = .ok (.aload_n 0, 1) := by decide +kernel
theorem dX8_slotsThatStand_10 : decode cX8_slotsThatStand 10 = .ok (.getfield 65, 3) := by decide +kernel
theorem dX8_slotsThatStand_13 : decode cX8_slotsThatStand 13 = .ok (.iload_n 2, 1) := by decide +kernel
theorem dX8_slotsThatStand_14 : decode cX8_slotsThatStand 14 = .ok (.aaload, 1) := by decide +kernel
theorem dX8_slotsThatStand_15 : decode cX8_slotsThatStand 15 = .ok (.invokevirtual 363, 3) := by decide +kernel
theorem dX8_slotsThatStand_18 : decode cX8_slotsThatStand 18 = .ok (.ifCond .eq 6, 3) := by decide +kernel
theorem dX8_slotsThatStand_24 : decode cX8_slotsThatStand 24 = .ok (.iinc 2 1, 3) := by decide +kernel
theorem dX8_slotsThatStand_27 : decode cX8_slotsThatStand 27 = .ok (.goto (-23), 3) := by decide +kernel
theorem dX8_slotsThatStand_30 : decode cX8_slotsThatStand 30 = .ok (.iload_n 1, 1) := by decide +kernel
theorem dX8_slotsThatStand_31 : decode cX8_slotsThatStand 31 = .ok (.ireturn, 1) := by decide +kernel
set_option maxRecDepth 20000 in
theorem ggX8_keep_X8_within : GoodIn wsX8_keep wsX8_within := goodIn_r _ [12] (by decide +kernel) (by decide +kernel)
set_option maxRecDepth 20000 in
theorem gX8_keep_X8_within : GoodIn wsX8_keep (va_wsS RX8 105 yX8_within wsX8_within) := goodIn_app (goodIn_of _ (by decide +kernel)) ggX8_keep_X8_within
set_option maxRecDepth 20000 in
theorem ggX8_keep_X2_init : GoodIn wsX8_keep wsX2_init := goodIn_r _ [14, 15, 16, 17, 18, 19, 20, 21, 22, 23, 24, 25, 26, 27, 28, 29, 30, 31, 32, 33, 34, 35, 36, 37, 38, 39, 40, 41, 42, 43, 44, 45, 46, 47, 48, 49, 50, 51, 52, 86, 87, 88, 89, 90, 91, 92, 93, 94, 95, 96, 97, 98, 99, 100, 101, 84, 85, 102, 103, 104, 105, 106, 107, 108] (by decide +kernel) (by decide +kernel)
set_option maxRecDepth 20000 in
theorem gX8_keep_X2_init_n380 : GoodIn wsX8_keep (wsX2_init) := ggX8_keep_X2_init
set_option maxRecDepth 20000 in
theorem ggX8_keep_X3_copyOf : GoodIn wsX8_keep wsX3_copyOf := goodIn_r _ [56, 57, 58, 59, 60, 61, 62, 63, 31, 64, 65, 66, 67, 32, 33, 34, 35, 36, 37, 38, 39, 86, 87, 88, 89, 90, 91, 92, 93, 94, 95, 96, 97, 98, 99, 100, 101] (by decide +kernel) (by decide +kernel)
set_option maxRecDepth 20000 in
theorem gX8_keep_X3_copyOf : GoodIn wsX8_keep (wsV RX8 384 RX3 yX3_copyOf wsX3_copyOf) := goodIn_app (goodIn_of _ (by decide +kernel)) ggX8_keep_X3_copyOf
set_option maxRecDepth 20000 in
theorem ggX8_keep_X5_copyOf : GoodIn wsX8_keep wsX5_copyOf := goodIn_r _ [71, 72, 47, 73, 65, 66, 67, 48, 49, 50, 51, 52, 102, 103, 104, 105, 106, 107, 108] (by decide +kernel) (by decide +kernel)
set_option maxRecDepth 20000 in
theorem gX8_keep_X5_copyOf : GoodIn wsX8_keep (wsV RX8 390 RX5 yX5_copyOf wsX5_copyOf) := goodIn_app (goodIn_of _ (by decide +kernel)) ggX8_keep_X5_copyOf
theorem dX8_keep_0 : decode cX8_keep 0 = .ok (.iload_n 1, 1) := by decide +kernel
theorem dX8_keep_1 : decode cX8_keep 1 = .ok (.iconst 0, 1) := by decide +kernel
theorem dX8_keep_2 : decode cX8_keep 2 = .ok (.iconst 2, 1) := by decide +kernel
theorem dX8_keep_3 : decode cX8_keep 3 = .ok (.invokestatic 105, 3) := by decide +kernel
theorem dX8_keep_6 : decode cX8_keep 6 = .ok (.ifCond .ne 6, 3) := by decide +kernel
theorem dX8_keep_9 : decode cX8_keep 9 = .ok (.bipush (-2), 2) := by decide +kernel
theorem dX8_keep_11 : decode cX8_keep 11 = .ok (.ireturn, 1) := by decide +kernel
theorem dX8_keep_12 : decode cX8_keep 12 = .ok (.aload_n 0, 1) := by decide +kernel
theorem dX8_keep_13 : decode cX8_keep 13 = .ok (.getfield 59, 3) := by decide +kernel
theorem dX8_keep_16 : decode cX8_keep 16 = .ok (.iload_n 1, 1) := by decide +kernel
theorem dX8_keep_17 : decode cX8_keep 17 = .ok (.aaload, 1) := by decide +kernel
theorem dX8_keep_18 : decode cX8_keep 18 = .ok (.ifnonnull 16, 3) := by decide +kernel
theorem dX8_keep_21 : decode cX8_keep 21 = .ok (.aload_n 0, 1) := by decide +kernel
theorem dX8_keep_22 : decode cX8_keep 22 = .ok (.getfield 59, 3) := by decide +kernel
theorem dX8_keep_25 : decode cX8_keep 25 = .ok (.iload_n 1, 1) := by decide +kernel
theorem dX8_keep_26 : decode cX8_keep 26 = .ok (.new 57, 3) := by decide +kernel
theorem dX8_keep_29 : decode cX8_keep 29 = .ok (.dup, 1) := by decide +kernel
theorem dX8_keep_30 : decode cX8_keep 30 = .ok (.invokespecial 380, 3) := by decide +kernel
theorem dX8_keep_33 : decode cX8_keep 33 = .ok (.aastore, 1) := by decide +kernel
theorem dX8_keep_34 : decode cX8_keep 34 = .ok (.aload_n 0, 1) := by decide +kernel
theorem dX8_keep_35 : decode cX8_keep 35 = .ok (.getfield 59, 3) := by decide +kernel
theorem dX8_keep_38 : decode cX8_keep 38 = .ok (.iload_n 1, 1) := by decide +kernel
theorem dX8_keep_39 : decode cX8_keep 39 = .ok (.aaload, 1) := by decide +kernel
theorem dX8_keep_40 : decode cX8_keep 40 = .ok (.getfield 381, 3) := by decide +kernel
theorem dX8_keep_43 : decode cX8_keep 43 = .ok (.aload_n 0, 1) := by decide +kernel
theorem dX8_keep_44 : decode cX8_keep 44 = .ok (.getfield 19, 3) := by decide +kernel
theorem dX8_keep_47 : decode cX8_keep 47 = .ok (.invokevirtual 384, 3) := by decide +kernel
theorem dX8_keep_50 : decode cX8_keep 50 = .ok (.aload_n 0, 1) := by decide +kernel
theorem dX8_keep_51 : decode cX8_keep 51 = .ok (.getfield 59, 3) := by decide +kernel
theorem dX8_keep_54 : decode cX8_keep 54 = .ok (.iload_n 1, 1) := by decide +kernel
theorem dX8_keep_55 : decode cX8_keep 55 = .ok (.aaload, 1) := by decide +kernel
theorem dX8_keep_56 : decode cX8_keep 56 = .ok (.getfield 387, 3) := by decide +kernel
theorem dX8_keep_59 : decode cX8_keep 59 = .ok (.aload_n 0, 1) := by decide +kernel
theorem dX8_keep_60 : decode cX8_keep 60 = .ok (.getfield 29, 3) := by decide +kernel
theorem dX8_keep_63 : decode cX8_keep 63 = .ok (.invokevirtual 390, 3) := by decide +kernel
theorem dX8_keep_66 : decode cX8_keep 66 = .ok (.iconst 0, 1) := by decide +kernel
theorem dX8_keep_67 : decode cX8_keep 67 = .ok (.ireturn, 1) := by decide +kernel
set_option maxRecDepth 20000 in
theorem ggX8_back_X8_within : GoodIn wsX8_back wsX8_within := goodIn_r _ [9] (by decide +kernel) (by decide +kernel)
set_option maxRecDepth 20000 in
theorem gX8_back_X8_within : GoodIn wsX8_back (va_wsS RX8 105 yX8_within wsX8_within) := goodIn_app (goodIn_of _ (by decide +kernel)) ggX8_back_X8_within
theorem dX8_back_0 : decode cX8_back 0 = .ok (.iload_n 1, 1) := by decide +kernel
theorem dX8_back_1 : decode cX8_back 1 = .ok (.iconst 0, 1) := by decide +kernel
theorem dX8_back_2 : decode cX8_back 2 = .ok (.iconst 2, 1) := by decide +kernel
theorem dX8_back_3 : decode cX8_back 3 = .ok (.invokestatic 105, 3) := by decide +kernel
theorem dX8_back_6 : decode cX8_back 6 = .ok (.ifCond .ne 6, 3) := by decide +kernel
theorem dX8_back_9 : decode cX8_back 9 = .ok (.bipush (-2), 2) := by decide +kernel
theorem dX8_back_11 : decode cX8_back 11 = .ok (.ireturn, 1) := by decide +kernel
theorem dX8_back_12 : decode cX8_back 12 = .ok (.aload_n 0, 1) := by decide +kernel
theorem dX8_back_13 : decode cX8_back 13 = .ok (.getfield 59, 3) := by decide +kernel
theorem dX8_back_16 : decode cX8_back 16 = .ok (.iload_n 1, 1) := by decide +kernel
theorem dX8_back_17 : decode cX8_back 17 = .ok (.aaload, 1) := by decide +kernel
theorem dX8_back_18 : decode cX8_back 18 = .ok (.ifnonnull 6, 3) := by decide +kernel
theorem dX8_back_21 : decode cX8_back 21 = .ok (.bipush (-6), 2) := by decide +kernel
theorem dX8_back_23 : decode cX8_back 23 = .ok (.ireturn, 1) := by decide +kernel
set_option maxRecDepth 20000 in
theorem ggX8_row_X8_isSlot : GoodIn wsX8_row wsX8_isSlot := goodIn_r _ [5, 6, 7, 4, 8] (by decide +kernel) (by decide +kernel)
set_option maxRecDepth 20000 in
theorem gX8_row_X8_isSlot : GoodIn wsX8_row (va_wsS RX8 360 yX8_isSlot wsX8_isSlot) := goodIn_app (goodIn_of _ (by decide +kernel)) ggX8_row_X8_isSlot
set_option maxRecDepth 20000 in
theorem ggX8_row_X8_within : GoodIn wsX8_row wsX8_within := goodIn_r _ [8] (by decide +kernel) (by decide +kernel)
set_option maxRecDepth 20000 in
theorem gX8_row_X8_within : GoodIn wsX8_row (va_wsS RX8 105 yX8_within wsX8_within) := goodIn_app (goodIn_of _ (by decide +kernel)) ggX8_row_X8_within
set_option maxRecDepth 20000 in
theorem ggX8_row_X4_make : GoodIn wsX8_row wsX4_make := goodIn_r _ [13, 14, 15, 16, 17, 18, 19, 20, 31, 32, 33] (by decide +kernel) (by decide +kernel)
set_option maxRecDepth 20000 in
theorem gX8_row_X4_make : GoodIn wsX8_row (wsV RX8 392 RX4 yX4_make wsX4_make) := goodIn_app (goodIn_of _ (by decide +kernel)) ggX8_row_X4_make
theorem dX8_row_0 : decode cX8_row 0 = .ok (.iload_n 1, 1) := by decide +kernel
theorem dX8_row_1 : decode cX8_row 1 = .ok (.invokestatic 360, 3) := by decide +kernel
theorem dX8_row_4 : decode cX8_row 4 = .ok (.ifCond .eq 18, 3) := by decide +kernel
theorem dX8_row_7 : decode cX8_row 7 = .ok (.iload_n 2, 1) := by decide +kernel
theorem dX8_row_8 : decode cX8_row 8 = .ok (.iconst 0, 1) := by decide +kernel
theorem dX8_row_9 : decode cX8_row 9 = .ok (.iconst 3, 1) := by decide +kernel
theorem dX8_row_10 : decode cX8_row 10 = .ok (.invokestatic 105, 3) := by decide +kernel
theorem dX8_row_13 : decode cX8_row 13 = .ok (.ifCond .eq 9, 3) := by decide +kernel
theorem dX8_row_16 : decode cX8_row 16 = .ok (.iload_n 3, 1) := by decide +kernel
theorem dX8_row_17 : decode cX8_row 17 = .ok (.bipush 60, 2) := by decide +kernel
theorem dX8_row_19 : decode cX8_row 19 = .ok (.if_icmp .le 6, 3) := by decide +kernel
theorem dX8_row_22 : decode cX8_row 22 = .ok (.bipush (-2), 2) := by decide +kernel
theorem dX8_row_24 : decode cX8_row 24 = .ok (.ireturn, 1) := by decide +kernel
theorem dX8_row_25 : decode cX8_row 25 = .ok (.iload_n 3, 1) := by decide +kernel
theorem dX8_row_26 : decode cX8_row 26 = .ok (.ifCond .ge 6, 3) := by decide +kernel
theorem dX8_row_29 : decode cX8_row 29 = .ok (.bipush (-3), 2) := by decide +kernel
theorem dX8_row_31 : decode cX8_row 31 = .ok (.ireturn, 1) := by decide +kernel
theorem dX8_row_32 : decode cX8_row 32 = .ok (.aload_n 0, 1) := by decide +kernel
theorem dX8_row_33 : decode cX8_row 33 = .ok (.getfield 65, 3) := by decide +kernel
theorem dX8_row_36 : decode cX8_row 36 = .ok (.iload_n 1, 1) := by decide +kernel
theorem dX8_row_37 : decode cX8_row 37 = .ok (.aaload, 1) := by decide +kernel
theorem dX8_row_38 : decode cX8_row 38 = .ok (.iload_n 2, 1) := by decide +kernel
theorem dX8_row_39 : decode cX8_row 39 = .ok (.iload_n 3, 1) := by decide +kernel
theorem dX8_row_40 : decode cX8_row 40 = .ok (.invokevirtual 392, 3) := by decide +kernel
theorem dX8_row_43 : decode cX8_row 43 = .ok (.iconst 0, 1) := by decide +kernel
theorem dX8_row_44 : decode cX8_row 44 = .ok (.ireturn, 1) := by decide +kernel
set_option maxRecDepth 20000 in
theorem ggX8_write_X8_isSlot : GoodIn wsX8_write wsX8_isSlot := goodIn_r _ [8, 9, 10, 7, 11] (by decide +kernel) (by decide +kernel)
set_option maxRecDepth 20000 in
theorem gX8_write_X8_isSlot : GoodIn wsX8_write (va_wsS RX8 360 yX8_isSlot wsX8_isSlot) := goodIn_app (goodIn_of _ (by decide +kernel)) ggX8_write_X8_isSlot
set_option maxRecDepth 20000 in
theorem ggX8_write_X4_stands : GoodIn wsX8_write wsX4_stands := goodIn_r _ [16, 17, 31, 32, 33] (by decide +kernel) (by decide +kernel)
set_option maxRecDepth 20000 in
theorem gX8_write_X4_stands : GoodIn wsX8_write (wsV RX8 363 RX4 yX4_stands wsX4_stands) := goodIn_app (goodIn_of _ (by decide +kernel)) ggX8_write_X4_stands
theorem dX8_write_0 : decode cX8_write 0 = .ok (.iload_n 1, 1) := by decide +kernel
theorem dX8_write_1 : decode cX8_write 1 = .ok (.invokestatic 360, 3) := by decide +kernel
theorem dX8_write_4 : decode cX8_write 4 = .ok (.ifCond .ne 6, 3) := by decide +kernel
theorem dX8_write_7 : decode cX8_write 7 = .ok (.bipush (-2), 2) := by decide +kernel
theorem dX8_write_9 : decode cX8_write 9 = .ok (.ireturn, 1) := by decide +kernel
theorem dX8_write_10 : decode cX8_write 10 = .ok (.aload_n 0, 1) := by decide +kernel
theorem dX8_write_11 : decode cX8_write 11 = .ok (.getfield 65, 3) := by decide +kernel
theorem dX8_write_14 : decode cX8_write 14 = .ok (.iload_n 1, 1) := by decide +kernel
theorem dX8_write_15 : decode cX8_write 15 = .ok (.aaload, 1) := by decide +kernel
theorem dX8_write_16 : decode cX8_write 16 = .ok (.astore 5, 2) := by decide +kernel
theorem dX8_write_18 : decode cX8_write 18 = .ok (.aload 5, 2) := by decide +kernel
theorem dX8_write_20 : decode cX8_write 20 = .ok (.invokevirtual 363, 3) := by decide +kernel
theorem dX8_write_23 : decode cX8_write 23 = .ok (.ifCond .ne 6, 3) := by decide +kernel
theorem dX8_write_26 : decode cX8_write 26 = .ok (.bipush (-6), 2) := by decide +kernel
theorem dX8_write_28 : decode cX8_write 28 = .ok (.ireturn, 1) := by decide +kernel
set_option maxRecDepth 20000 in
theorem ggX8_paste_X8_isSlot : GoodIn wsX8_paste wsX8_isSlot := goodIn_r _ [11, 12, 13, 10, 14] (by decide +kernel) (by decide +kernel)
set_option maxRecDepth 20000 in
theorem gX8_paste_X8_isSlot : GoodIn wsX8_paste (va_wsS RX8 360 yX8_isSlot wsX8_isSlot) := goodIn_app (goodIn_of _ (by decide +kernel)) ggX8_paste_X8_isSlot
set_option maxRecDepth 20000 in
theorem ggX8_paste_X4_stands : GoodIn wsX8_paste wsX4_stands := goodIn_r _ [19, 20, 36, 37, 38] (by decide +kernel) (by decide +kernel)
set_option maxRecDepth 20000 in
theorem gX8_paste_X4_stands : GoodIn wsX8_paste (wsV RX8 363 RX4 yX4_stands wsX4_stands) := goodIn_app (goodIn_of _ (by decide +kernel)) ggX8_paste_X4_stands
theorem dX8_paste_0 : decode cX8_paste 0 = .ok (.iload_n 1, 1) := by decide +kernel
theorem dX8_paste_1 : decode cX8_paste 1 = .ok (.invokestatic 360, 3) := by decide +kernel
theorem dX8_paste_4 : decode cX8_paste 4 = .ok (.ifCond .eq 10, 3) := by decide +kernel
theorem dX8_paste_7 : decode cX8_paste 7 = .ok (.iload_n 3, 1) := by decide +kernel
theorem dX8_paste_8 : decode cX8_paste 8 = .ok (.invokestatic 360, 3) := by decide +kernel
theorem dX8_paste_11 : decode cX8_paste 11 = .ok (.ifCond .ne 6, 3) := by decide +kernel
theorem dX8_paste_14 : decode cX8_paste 14 = .ok (.bipush (-2), 2) := by decide +kernel
theorem dX8_paste_16 : decode cX8_paste 16 = .ok (.ireturn, 1) := by decide +kernel
theorem dX8_paste_17 : decode cX8_paste 17 = .ok (.aload_n 0, 1) := by decide +kernel
theorem dX8_paste_18 : decode cX8_paste 18 = .ok (.getfield 65, 3) := by decide +kernel
theorem dX8_paste_21 : decode cX8_paste 21 = .ok (.iload_n 1, 1) := by decide +kernel
theorem dX8_paste_22 : decode cX8_paste 22 = .ok (.aaload, 1) := by decide +kernel
theorem dX8_paste_23 : decode cX8_paste 23 = .ok (.astore 6, 2) := by decide +kernel
theorem dX8_paste_25 : decode cX8_paste 25 = .ok (.aload_n 0, 1) := by decide +kernel
theorem dX8_paste_26 : decode cX8_paste 26 = .ok (.getfield 65, 3) := by decide +kernel
theorem dX8_paste_29 : decode cX8_paste 29 = .ok (.iload_n 3, 1) := by decide +kernel
theorem dX8_paste_30 : decode cX8_paste 30 = .ok (.aaload, 1) := by decide +kernel
theorem dX8_paste_31 : decode cX8_paste 31 = .ok (.astore 7, 2) := by decide +kernel
theorem dX8_paste_33 : decode cX8_paste 33 = .ok (.aload 6, 2) := by decide +kernel
theorem dX8_paste_35 : decode cX8_paste 35 = .ok (.invokevirtual 363, 3) := by decide +kernel
theorem dX8_paste_38 : decode cX8_paste 38 = .ok (.ifCond .eq 11, 3) := by decide +kernel
theorem dX8_paste_49 : decode cX8_paste 49 = .ok (.bipush (-6), 2) := by decide +kernel
theorem dX8_paste_51 : decode cX8_paste 51 = .ok (.ireturn, 1) := by decide +kernel
theorem dX8_within_0 : decode cX8_within 0 = .ok (.iload_n 0, 1) := by decide +kernel
theorem dX8_within_1 : decode cX8_within 1 = .ok (.iload_n 1, 1) := by decide +kernel
theorem dX8_within_2 : decode cX8_within 2 = .ok (.if_icmp .lt 12, 3) := by decide +kernel
theorem dX8_within_5 : decode cX8_within 5 = .ok (.iload_n 0, 1) := by decide +kernel
theorem dX8_within_6 : decode cX8_within 6 = .ok (.iload_n 2, 1) := by decide +kernel
theorem dX8_within_7 : decode cX8_within 7 = .ok (.if_icmp .gt 7, 3) := by decide +kernel
theorem dX8_within_10 : decode cX8_within 10 = .ok (.iconst 1, 1) := by decide +kernel
theorem dX8_within_11 : decode cX8_within 11 = .ok (.goto 4, 3) := by decide +kernel
theorem dX8_within_14 : decode cX8_within 14 = .ok (.iconst 0, 1) := by decide +kernel
theorem dX8_within_15 : decode cX8_within 15 = .ok (.ireturn, 1) := by decide +kernel
set_option maxRecDepth 20000 in
theorem ggX8_isMonth_X8_within : GoodIn wsX8_isMonth wsX8_within := goodIn_r _ [4] (by decide +kernel) (by decide +kernel)
set_option maxRecDepth 20000 in
theorem gX8_isMonth_X8_within : GoodIn wsX8_isMonth (va_wsS RX8 105 yX8_within wsX8_within) := goodIn_app (goodIn_of _ (by decide +kernel)) ggX8_isMonth_X8_within
theorem dX8_isMonth_0 : decode cX8_isMonth 0 = .ok (.iload_n 0, 1) := by decide +kernel
theorem dX8_isMonth_1 : decode cX8_isMonth 1 = .ok (.iconst 1, 1) := by decide +kernel
theorem dX8_isMonth_2 : decode cX8_isMonth 2 = .ok (.bipush 12, 2) := by decide +kernel
theorem dX8_isMonth_4 : decode cX8_isMonth 4 = .ok (.invokestatic 105, 3) := by decide +kernel
theorem dX8_isMonth_7 : decode cX8_isMonth 7 = .ok (.ireturn, 1) := by decide +kernel
set_option maxRecDepth 20000 in
theorem ggX8_isSeed_X8_within : GoodIn wsX8_isSeed wsX8_within := goodIn_r _ [5] (by decide +kernel) (by decide +kernel)
set_option maxRecDepth 20000 in
theorem gX8_isSeed_X8_within : GoodIn wsX8_isSeed (va_wsS RX8 105 yX8_within wsX8_within) := goodIn_app (goodIn_of _ (by decide +kernel)) ggX8_isSeed_X8_within
theorem dX8_isSeed_0 : decode cX8_isSeed 0 = .ok (.iload_n 0, 1) := by decide +kernel
theorem dX8_isSeed_1 : decode cX8_isSeed 1 = .ok (.iconst 0, 1) := by decide +kernel
theorem dX8_isSeed_2 : decode cX8_isSeed 2 = .ok (.ldc_w 412, 3) := by decide +kernel
theorem dX8_isSeed_5 : decode cX8_isSeed 5 = .ok (.invokestatic 105, 3) := by decide +kernel
theorem dX8_isSeed_8 : decode cX8_isSeed 8 = .ok (.ireturn, 1) := by decide +kernel
set_option maxRecDepth 20000 in
theorem ggX8_isPush_X8_within : GoodIn wsX8_isPush wsX8_within := goodIn_r _ [4] (by decide +kernel) (by decide +kernel)
set_option maxRecDepth 20000 in
theorem gX8_isPush_X8_within : GoodIn wsX8_isPush (va_wsS RX8 105 yX8_within wsX8_within) := goodIn_app (goodIn_of _ (by decide +kernel)) ggX8_isPush_X8_within
theorem dX8_isPush_0 : decode cX8_isPush 0 = .ok (.iload_n 0, 1) := by decide +kernel
theorem dX8_isPush_1 : decode cX8_isPush 1 = .ok (.iconst 1, 1) := by decide +kernel
theorem dX8_isPush_2 : decode cX8_isPush 2 = .ok (.sipush 4094, 3) := by decide +kernel
theorem dX8_isPush_5 : decode cX8_isPush 5 = .ok (.invokestatic 105, 3) := by decide +kernel
theorem dX8_isPush_8 : decode cX8_isPush 8 = .ok (.ireturn, 1) := by decide +kernel
set_option maxRecDepth 20000 in
theorem ggX8_isSlot_X8_within : GoodIn wsX8_isSlot wsX8_within := goodIn_r _ [4] (by decide +kernel) (by decide +kernel)
set_option maxRecDepth 20000 in
theorem gX8_isSlot_X8_within : GoodIn wsX8_isSlot (va_wsS RX8 105 yX8_within wsX8_within) := goodIn_app (goodIn_of _ (by decide +kernel)) ggX8_isSlot_X8_within
theorem dX8_isSlot_0 : decode cX8_isSlot 0 = .ok (.iload_n 0, 1) := by decide +kernel
theorem dX8_isSlot_1 : decode cX8_isSlot 1 = .ok (.iconst 0, 1) := by decide +kernel
theorem dX8_isSlot_2 : decode cX8_isSlot 2 = .ok (.iconst 3, 1) := by decide +kernel
theorem dX8_isSlot_3 : decode cX8_isSlot 3 = .ok (.invokestatic 105, 3) := by decide +kernel
theorem dX8_isSlot_6 : decode cX8_isSlot 6 = .ok (.ireturn, 1) := by decide +kernel
theorem dX8_thousandths_0 : decode cX8_thousandths 0 = .ok (.lload_n 2, 1) := by decide +kernel
theorem dX8_thousandths_1 : decode cX8_thousandths 1 = .ok (.lconst 0, 1) := by decide +kernel
theorem dX8_thousandths_2 : decode cX8_thousandths 2 = .ok (.lcmp, 1) := by decide +kernel
theorem dX8_thousandths_3 : decode cX8_thousandths 3 = .ok (.ifCond .ne 9, 3) := by decide +kernel
theorem dX8_thousandths_6 : decode cX8_thousandths 6 = .ok (.ldc2_w 282, 3) := by decide +kernel
theorem dX8_thousandths_9 : decode cX8_thousandths 9 = .ok (.goto 10, 3) := by decide +kernel
theorem dX8_thousandths_19 : decode cX8_thousandths 19 = .ok (.lreturn, 1) := by decide +kernel
theorem dX8_toFace_0 : decode cX8_toFace 0 = .ok (.lload_n 0, 1) := by decide +kernel
theorem dX8_toFace_1 : decode cX8_toFace 1 = .ok (.ldc2_w 282, 3) := by decide +kernel
theorem dX8_toFace_4 : decode cX8_toFace 4 = .ok (.lcmp, 1) := by decide +kernel
theorem dX8_toFace_5 : decode cX8_toFace 5 = .ok (.ifCond .ne 9, 3) := by decide +kernel
theorem dX8_toFace_8 : decode cX8_toFace 8 = .ok (.ldc2_w 320, 3) := by decide +kernel
theorem dX8_toFace_11 : decode cX8_toFace 11 = .ok (.goto 4, 3) := by decide +kernel
theorem dX8_toFace_15 : decode cX8_toFace 15 = .ok (.lreturn, 1) := by decide +kernel
set_option maxRecDepth 20000 in
theorem ggX8_isPlaced_X5_has : GoodIn wsX8_isPlaced wsX5_has := goodIn_r _ [7, 8, 25, 26, 27, 28, 29, 30, 31] (by decide +kernel) (by decide +kernel)
set_option maxRecDepth 20000 in
theorem gX8_isPlaced_X5_has : GoodIn wsX8_isPlaced (wsV RX8 189 RX5 yX5_has wsX5_has) := goodIn_app (goodIn_of _ (by decide +kernel)) ggX8_isPlaced_X5_has
theorem dX8_isPlaced_0 : decode cX8_isPlaced 0 = .ok (.aload_n 1, 1) := by decide +kernel
theorem dX8_isPlaced_1 : decode cX8_isPlaced 1 = .ok (.iload_n 2, 1) := by decide +kernel
theorem dX8_isPlaced_2 : decode cX8_isPlaced 2 = .ok (.invokevirtual 189, 3) := by decide +kernel
theorem dX8_isPlaced_5 : decode cX8_isPlaced 5 = .ok (.ifCond .eq 23, 3) := by decide +kernel
theorem dX8_isPlaced_28 : decode cX8_isPlaced 28 = .ok (.iconst 0, 1) := by decide +kernel
theorem dX8_isPlaced_29 : decode cX8_isPlaced 29 = .ok (.ireturn, 1) := by decide +kernel
set_option maxRecDepth 20000 in
theorem ggX8_divided_X6_clear : GoodIn wsX8_divided wsX6_clear := goodIn_r _ [8, 9, 10, 11, 12, 13, 14, 15, 16, 17, 18, 19, 54, 55, 56, 57, 58, 59, 60, 61, 62, 63, 64] (by decide +kernel) (by decide +kernel)
set_option maxRecDepth 20000 in
theorem gX8_divided_X6_clear : GoodIn wsX8_divided (wsV RX8 229 RX6 yX6_clear wsX6_clear) := goodIn_app (goodIn_of _ (by decide +kernel)) ggX8_divided_X6_clear
set_option maxRecDepth 20000 in
theorem ggX8_divided_X8_isPush : GoodIn wsX8_divided wsX8_isPush := goodIn_r _ [23, 24, 25, 22, 26] (by decide +kernel) (by decide +kernel)
set_option maxRecDepth 20000 in
theorem gX8_divided_X8_isPush : GoodIn wsX8_divided (va_wsS RX8 341 yX8_isPush wsX8_isPush) := goodIn_app (goodIn_of _ (by decide +kernel)) ggX8_divided_X8_isPush
theorem dX8_divided_0 : decode cX8_divided 0 = .ok (.aload_n 0, 1) := by decide +kernel
theorem dX8_divided_1 : decode cX8_divided 1 = .ok (.getfield 46, 3) := by decide +kernel
theorem dX8_divided_4 : decode cX8_divided 4 = .ok (.invokevirtual 229, 3) := by decide +kernel
theorem dX8_divided_7 : decode cX8_divided 7 = .ok (.iload_n 2, 1) := by decide +kernel
theorem dX8_divided_8 : decode cX8_divided 8 = .ok (.invokestatic 341, 3) := by decide +kernel
theorem dX8_divided_11 : decode cX8_divided 11 = .ok (.ifCond .eq 38, 3) := by decide +kernel
theorem dX8_divided_14 : decode cX8_divided 14 = .ok (.iconst 0, 1) := by decide +kernel
theorem dX8_divided_15 : decode cX8_divided 15 = .ok (.istore_n 3, 1) := by decide +kernel
theorem dX8_divided_16 : decode cX8_divided 16 = .ok (.iload_n 3, 1) := by decide +kernel
theorem dX8_divided_17 : decode cX8_divided 17 = .ok (.aload_n 1, 1) := by decide +kernel
theorem dX8_divided_18 : decode cX8_divided 18 = .ok (.getfield 127, 3) := by decide +kernel
theorem dX8_divided_21 : decode cX8_divided 21 = .ok (.if_icmp .ge 28, 3) := by decide +kernel
theorem dX8_divided_49 : decode cX8_divided 49 = .ok (.aload_n 0, 1) := by decide +kernel
theorem dX8_divided_50 : decode cX8_divided 50 = .ok (.getfield 46, 3) := by decide +kernel
theorem dX8_divided_53 : decode cX8_divided 53 = .ok (.areturn, 1) := by decide +kernel
theorem dX9_init_0 : decode cX9_init 0 = .ok (.aload_n 0, 1) := by decide +kernel
theorem dX9_init_1 : decode cX9_init 1 = .ok (.invokespecial 1, 3) := by decide +kernel
theorem dX9_init_4 : decode cX9_init 4 = .ok (.aload_n 0, 1) := by decide +kernel
theorem dX9_init_5 : decode cX9_init 5 = .ok (.iconst 4, 1) := by decide +kernel
theorem dX9_init_6 : decode cX9_init 6 = .ok (.newarray .int, 2) := by decide +kernel
theorem dX9_init_8 : decode cX9_init 8 = .ok (.putfield 7, 3) := by decide +kernel
theorem dX9_init_11 : decode cX9_init 11 = .ok (.aload_n 0, 1) := by decide +kernel
theorem dX9_init_12 : decode cX9_init 12 = .ok (.iconst 4, 1) := by decide +kernel
theorem dX9_init_13 : decode cX9_init 13 = .ok (.newarray .int, 2) := by decide +kernel
theorem dX9_init_15 : decode cX9_init 15 = .ok (.putfield 13, 3) := by decide +kernel
theorem dX9_init_18 : decode cX9_init 18 = .ok (.aload_n 0, 1) := by decide +kernel
theorem dX9_init_19 : decode cX9_init 19 = .ok (.sipush 240, 3) := by decide +kernel
theorem dX9_init_22 : decode cX9_init 22 = .ok (.newarray .long, 2) := by decide +kernel
theorem dX9_init_24 : decode cX9_init 24 = .ok (.putfield 16, 3) := by decide +kernel
theorem dX9_init_27 : decode cX9_init 27 = .ok (.aload_n 0, 1) := by decide +kernel
theorem dX9_init_28 : decode cX9_init 28 = .ok (.bipush 60, 2) := by decide +kernel
theorem dX9_init_30 : decode cX9_init 30 = .ok (.newarray .long, 2) := by decide +kernel
theorem dX9_init_32 : decode cX9_init 32 = .ok (.putfield 20, 3) := by decide +kernel
theorem dX9_init_35 : decode cX9_init 35 = .ok (.aload_n 0, 1) := by decide +kernel
theorem dX9_init_36 : decode cX9_init 36 = .ok (.sipush 600, 3) := by decide +kernel
theorem dX9_init_39 : decode cX9_init 39 = .ok (.newarray .byte, 2) := by decide +kernel
theorem dX9_init_41 : decode cX9_init 41 = .ok (.putfield 23, 3) := by decide +kernel
theorem dX9_init_44 : decode cX9_init 44 = .ok (.aload_n 0, 1) := by decide +kernel
theorem dX9_init_45 : decode cX9_init 45 = .ok (.iconst (-1), 1) := by decide +kernel
theorem dX9_init_46 : decode cX9_init 46 = .ok (.putfield 27, 3) := by decide +kernel
theorem dX9_init_49 : decode cX9_init 49 = .ok (.aload_n 0, 1) := by decide +kernel
theorem dX9_init_50 : decode cX9_init 50 = .ok (.iconst 5, 1) := by decide +kernel
theorem dX9_init_51 : decode cX9_init 51 = .ok (.newarray .int, 2) := by decide +kernel
theorem dX9_init_53 : decode cX9_init 53 = .ok (.putfield 31, 3) := by decide +kernel
theorem dX9_init_56 : decode cX9_init 56 = .ok (.aload_n 0, 1) := by decide +kernel
theorem dX9_init_57 : decode cX9_init 57 = .ok (.iconst 5, 1) := by decide +kernel
theorem dX9_init_58 : decode cX9_init 58 = .ok (.newarray .int, 2) := by decide +kernel
theorem dX9_init_60 : decode cX9_init 60 = .ok (.putfield 34, 3) := by decide +kernel
theorem dX9_init_63 : decode cX9_init 63 = .ok (.aload_n 0, 1) := by decide +kernel
theorem dX9_init_64 : decode cX9_init 64 = .ok (.bipush 30, 2) := by decide +kernel
theorem dX9_init_66 : decode cX9_init 66 = .ok (.newarray .int, 2) := by decide +kernel
theorem dX9_init_68 : decode cX9_init 68 = .ok (.putfield 37, 3) := by decide +kernel
theorem dX9_init_71 : decode cX9_init 71 = .ok (.aload_n 0, 1) := by decide +kernel
theorem dX9_init_72 : decode cX9_init 72 = .ok (.bipush 30, 2) := by decide +kernel
theorem dX9_init_74 : decode cX9_init 74 = .ok (.newarray .int, 2) := by decide +kernel
theorem dX9_init_76 : decode cX9_init 76 = .ok (.putfield 40, 3) := by decide +kernel
theorem dX9_init_79 : decode cX9_init 79 = .ok (.aload_n 0, 1) := by decide +kernel
theorem dX9_init_80 : decode cX9_init 80 = .ok (.iconst 5, 1) := by decide +kernel
theorem dX9_init_81 : decode cX9_init 81 = .ok (.newarray .int, 2) := by decide +kernel
theorem dX9_init_83 : decode cX9_init 83 = .ok (.putfield 43, 3) := by decide +kernel
theorem dX9_init_86 : decode cX9_init 86 = .ok (.aload_n 0, 1) := by decide +kernel
theorem dX9_init_87 : decode cX9_init 87 = .ok (.bipush 40, 2) := by decide +kernel
theorem dX9_init_89 : decode cX9_init 89 = .ok (.newarray .int, 2) := by decide +kernel
theorem dX9_init_91 : decode cX9_init 91 = .ok (.putfield 46, 3) := by decide +kernel
theorem dX9_init_94 : decode cX9_init 94 = .ok (.aload_n 0, 1) := by decide +kernel
theorem dX9_init_95 : decode cX9_init 95 = .ok (.bipush 40, 2) := by decide +kernel
theorem dX9_init_97 : decode cX9_init 97 = .ok (.newarray .int, 2) := by decide +kernel
theorem dX9_init_99 : decode cX9_init 99 = .ok (.putfield 49, 3) := by decide +kernel
theorem dX9_init_102 : decode cX9_init 102 = .ok (.aload_n 0, 1) := by decide +kernel
theorem dX9_init_103 : decode cX9_init 103 = .ok (.bipush 40, 2) := by decide +kernel
theorem dX9_init_105 : decode cX9_init 105 = .ok (.newarray .int, 2) := by decide +kernel
theorem dX9_init_107 : decode cX9_init 107 = .ok (.putfield 52, 3) := by decide +kernel
theorem dX9_init_110 : decode cX9_init 110 = .ok (.aload_n 0, 1) := by decide +kernel
theorem dX9_init_111 : decode cX9_init 111 = .ok (.bipush 40, 2) := by decide +kernel
theorem dX9_init_113 : decode cX9_init 113 = .ok (.newarray .int, 2) := by decide +kernel
theorem dX9_init_115 : decode cX9_init 115 = .ok (.putfield 55, 3) := by decide +kernel
theorem dX9_init_118 : decode cX9_init 118 = .ok (.aload_n 0, 1) := by decide +kernel
theorem dX9_init_119 : decode cX9_init 119 = .ok (.bipush 60, 2) := by decide +kernel
theorem dX9_init_121 : decode cX9_init 121 = .ok (.newarray .boolean, 2) := by decide +kernel
theorem dX9_init_123 : decode cX9_init 123 = .ok (.putfield 58, 3) := by decide +kernel
theorem dX9_init_126 : decode cX9_init 126 = .ok (.aload_n 0, 1) := by decide +kernel
theorem dX9_init_127 : decode cX9_init 127 = .ok (.bipush 60, 2) := by decide +kernel
theorem dX9_init_129 : decode cX9_init 129 = .ok (.newarray .int, 2) := by decide +kernel
theorem dX9_init_131 : decode cX9_init 131 = .ok (.putfield 62, 3) := by decide +kernel
theorem dX9_init_134 : decode cX9_init 134 = .ok (.aload_n 0, 1) := by decide +kernel
theorem dX9_init_135 : decode cX9_init 135 = .ok (.iconst 5, 1) := by decide +kernel
theorem dX9_init_136 : decode cX9_init 136 = .ok (.newarray .boolean, 2) := by decide +kernel
theorem dX9_init_138 : decode cX9_init 138 = .ok (.putfield 65, 3) := by decide +kernel
theorem dX9_init_141 : decode cX9_init 141 = .ok (.aload_n 0, 1) := by decide +kernel
theorem dX9_init_142 : decode cX9_init 142 = .ok (.iconst 5, 1) := by decide +kernel
theorem dX9_init_143 : decode cX9_init 143 = .ok (.newarray .boolean, 2) := by decide +kernel
theorem dX9_init_145 : decode cX9_init 145 = .ok (.putfield 68, 3) := by decide +kernel
theorem dX9_init_148 : decode cX9_init 148 = .ok (.aload_n 0, 1) := by decide +kernel
theorem dX9_init_149 : decode cX9_init 149 = .ok (.iconst 5, 1) := by decide +kernel
theorem dX9_init_150 : decode cX9_init 150 = .ok (.newarray .int, 2) := by decide +kernel
theorem dX9_init_152 : decode cX9_init 152 = .ok (.putfield 71, 3) := by decide +kernel
theorem dX9_init_155 : decode cX9_init 155 = .ok (.aload_n 0, 1) := by decide +kernel
theorem dX9_init_156 : decode cX9_init 156 = .ok (.iconst 5, 1) := by decide +kernel
theorem dX9_init_157 : decode cX9_init 157 = .ok (.newarray .int, 2) := by decide +kernel
theorem dX9_init_159 : decode cX9_init 159 = .ok (.putfield 74, 3) := by decide +kernel
theorem dX9_init_162 : decode cX9_init 162 = .ok (.aload_n 0, 1) := by decide +kernel
theorem dX9_init_163 : decode cX9_init 163 = .ok (.iconst 5, 1) := by decide +kernel
theorem dX9_init_164 : decode cX9_init 164 = .ok (.newarray .int, 2) := by decide +kernel
theorem dX9_init_166 : decode cX9_init 166 = .ok (.putfield 77, 3) := by decide +kernel
theorem dX9_init_169 : decode cX9_init 169 = .ok (.aload_n 0, 1) := by decide +kernel
theorem dX9_init_170 : decode cX9_init 170 = .ok (.sipush 1600, 3) := by decide +kernel
theorem dX9_init_173 : decode cX9_init 173 = .ok (.newarray .int, 2) := by decide +kernel
theorem dX9_init_175 : decode cX9_init 175 = .ok (.putfield 80, 3) := by decide +kernel
theorem dX9_init_178 : decode cX9_init 178 = .ok (.aload_n 0, 1) := by decide +kernel
theorem dX9_init_179 : decode cX9_init 179 = .ok (.iconst 3, 1) := by decide +kernel
theorem dX9_init_180 : decode cX9_init 180 = .ok (.newarray .boolean, 2) := by decide +kernel
theorem dX9_init_182 : decode cX9_init 182 = .ok (.putfield 83, 3) := by decide +kernel
theorem dX9_init_185 : decode cX9_init 185 = .ok (.aload_n 0, 1) := by decide +kernel
theorem dX9_init_186 : decode cX9_init 186 = .ok (.sipush 320, 3) := by decide +kernel
theorem dX9_init_189 : decode cX9_init 189 = .ok (.newarray .long, 2) := by decide +kernel
theorem dX9_init_191 : decode cX9_init 191 = .ok (.putfield 86, 3) := by decide +kernel
theorem dX9_init_194 : decode cX9_init 194 = .ok (.aload_n 0, 1) := by decide +kernel
theorem dX9_init_195 : decode cX9_init 195 = .ok (.iconst 5, 1) := by decide +kernel
theorem dX9_init_196 : decode cX9_init 196 = .ok (.newarray .int, 2) := by decide +kernel
theorem dX9_init_198 : decode cX9_init 198 = .ok (.putfield 89, 3) := by decide +kernel
theorem dX9_init_201 : decode cX9_init 201 = .ok (.aload_n 0, 1) := by decide +kernel
theorem dX9_init_202 : decode cX9_init 202 = .ok (.sipush 1000, 3) := by decide +kernel
theorem dX9_init_205 : decode cX9_init 205 = .ok (.newarray .int, 2) := by decide +kernel
theorem dX9_init_207 : decode cX9_init 207 = .ok (.putfield 92, 3) := by decide +kernel
theorem dX9_init_210 : decode cX9_init 210 = .ok (.aload_n 0, 1) := by decide +kernel
theorem dX9_init_211 : decode cX9_init 211 = .ok (.sipush 1000, 3) := by decide +kernel
theorem dX9_init_214 : decode cX9_init 214 = .ok (.newarray .int, 2) := by decide +kernel
theorem dX9_init_216 : decode cX9_init 216 = .ok (.putfield 95, 3) := by decide +kernel
theorem dX9_init_219 : decode cX9_init 219 = .ok (.aload_n 0, 1) := by decide +kernel
theorem dX9_init_220 : decode cX9_init 220 = .ok (.sipush 1000, 3) := by decide +kernel
theorem dX9_init_223 : decode cX9_init 223 = .ok (.newarray .int, 2) := by decide +kernel
theorem dX9_init_225 : decode cX9_init 225 = .ok (.putfield 98, 3) := by decide +kernel
theorem dX9_init_228 : decode cX9_init 228 = .ok (.aload_n 0, 1) := by decide +kernel
theorem dX9_init_229 : decode cX9_init 229 = .ok (.sipush 1000, 3) := by decide +kernel
theorem dX9_init_232 : decode cX9_init 232 = .ok (.newarray .int, 2) := by decide +kernel
theorem dX9_init_234 : decode cX9_init 234 = .ok (.putfield 101, 3) := by decide +kernel
theorem dX9_init_237 : decode cX9_init 237 = .ok (.aload_n 0, 1) := by decide +kernel
theorem dX9_init_238 : decode cX9_init 238 = .ok (.sipush 1000, 3) := by decide +kernel
theorem dX9_init_241 : decode cX9_init 241 = .ok (.newarray .int, 2) := by decide +kernel
theorem dX9_init_243 : decode cX9_init 243 = .ok (.putfield 104, 3) := by decide +kernel
theorem dX9_init_246 : decode cX9_init 246 = .ok (.aload_n 0, 1) := by decide +kernel
theorem dX9_init_247 : decode cX9_init 247 = .ok (.sipush 1000, 3) := by decide +kernel
theorem dX9_init_250 : decode cX9_init 250 = .ok (.newarray .int, 2) := by decide +kernel
theorem dX9_init_252 : decode cX9_init 252 = .ok (.putfield 107, 3) := by decide +kernel
theorem dX9_init_255 : decode cX9_init 255 = .ok (.aload_n 0, 1) := by decide +kernel
theorem dX9_init_256 : decode cX9_init 256 = .ok (.sipush 200, 3) := by decide +kernel
theorem dX9_init_259 : decode cX9_init 259 = .ok (.newarray .boolean, 2) := by decide +kernel
theorem dX9_init_261 : decode cX9_init 261 = .ok (.putfield 110, 3) := by decide +kernel
theorem dX9_init_264 : decode cX9_init 264 = .ok (.aload_n 0, 1) := by decide +kernel
theorem dX9_init_265 : decode cX9_init 265 = .ok (.bipush 72, 2) := by decide +kernel
theorem dX9_init_267 : decode cX9_init 267 = .ok (.newarray .long, 2) := by decide +kernel
theorem dX9_init_269 : decode cX9_init 269 = .ok (.putfield 113, 3) := by decide +kernel
theorem dX9_init_272 : decode cX9_init 272 = .ok (.aload_n 0, 1) := by decide +kernel
theorem dX9_init_273 : decode cX9_init 273 = .ok (.bipush 72, 2) := by decide +kernel
theorem dX9_init_275 : decode cX9_init 275 = .ok (.newarray .long, 2) := by decide +kernel
theorem dX9_init_277 : decode cX9_init 277 = .ok (.putfield 116, 3) := by decide +kernel
theorem dX9_init_280 : decode cX9_init 280 = .ok (.aload_n 0, 1) := by decide +kernel
theorem dX9_init_281 : decode cX9_init 281 = .ok (.bipush 72, 2) := by decide +kernel
theorem dX9_init_283 : decode cX9_init 283 = .ok (.newarray .long, 2) := by decide +kernel
theorem dX9_init_285 : decode cX9_init 285 = .ok (.putfield 119, 3) := by decide +kernel
theorem dX9_init_288 : decode cX9_init 288 = .ok (.aload_n 0, 1) := by decide +kernel
theorem dX9_init_289 : decode cX9_init 289 = .ok (.sipush 199, 3) := by decide +kernel
theorem dX9_init_292 : decode cX9_init 292 = .ok (.newarray .boolean, 2) := by decide +kernel
theorem dX9_init_294 : decode cX9_init 294 = .ok (.putfield 122, 3) := by decide +kernel
theorem dX9_init_297 : decode cX9_init 297 = .ok (.iconst 0, 1) := by decide +kernel
theorem dX9_init_298 : decode cX9_init 298 = .ok (.istore_n 1, 1) := by decide +kernel
theorem dX9_init_299 : decode cX9_init 299 = .ok (.iload_n 1, 1) := by decide +kernel
theorem dX9_init_300 : decode cX9_init 300 = .ok (.iconst 4, 1) := by decide +kernel
theorem dX9_init_301 : decode cX9_init 301 = .ok (.if_icmp .ge 16, 3) := by decide +kernel
theorem dX9_init_304 : decode cX9_init 304 = .ok (.aload_n 0, 1) := by decide +kernel
theorem dX9_init_305 : decode cX9_init 305 = .ok (.getfield 7, 3) := by decide +kernel
theorem dX9_init_308 : decode cX9_init 308 = .ok (.iload_n 1, 1) := by decide +kernel
theorem dX9_init_309 : decode cX9_init 309 = .ok (.iconst (-1), 1) := by decide +kernel
theorem dX9_init_310 : decode cX9_init 310 = .ok (.iastore, 1) := by decide +kernel
theorem dX9_init_311 : decode cX9_init 311 = .ok (.iinc 1 1, 3) := by decide +kernel
theorem dX9_init_314 : decode cX9_init 314 = .ok (.goto (-15), 3) := by decide +kernel
theorem dX9_init_317 : decode cX9_init 317 = .ok (.return_, 1) := by decide +kernel
theorem dX9_in_0 : decode cX9_in 0 = .ok (.lload_n 0, 1) := by decide +kernel
theorem dX9_in_1 : decode cX9_in 1 = .ok (.lload_n 2, 1) := by decide +kernel
theorem dX9_in_2 : decode cX9_in 2 = .ok (.lcmp, 1) := by decide +kernel
theorem dX9_in_3 : decode cX9_in 3 = .ok (.ifCond .lt 14, 3) := by decide +kernel
theorem dX9_in_6 : decode cX9_in 6 = .ok (.lload_n 0, 1) := by decide +kernel
theorem dX9_in_7 : decode cX9_in 7 = .ok (.lload 4, 2) := by decide +kernel
theorem dX9_in_9 : decode cX9_in 9 = .ok (.lcmp, 1) := by decide +kernel
theorem dX9_in_10 : decode cX9_in 10 = .ok (.ifCond .gt 7, 3) := by decide +kernel
theorem dX9_in_13 : decode cX9_in 13 = .ok (.iconst 1, 1) := by decide +kernel
theorem dX9_in_14 : decode cX9_in 14 = .ok (.goto 4, 3) := by decide +kernel
theorem dX9_in_17 : decode cX9_in 17 = .ok (.iconst 0, 1) := by decide +kernel
theorem dX9_in_18 : decode cX9_in 18 = .ok (.ireturn, 1) := by decide +kernel
set_option maxRecDepth 20000 in
theorem ggX9_isSlot_X9_in : GoodIn wsX9_isSlot wsX9_in := goodIn_r _ [5] (by decide +kernel) (by decide +kernel)
set_option maxRecDepth 20000 in
theorem gX9_isSlot_X9_in : GoodIn wsX9_isSlot (va_wsS RX9 130 yX9_in wsX9_in) := goodIn_app (goodIn_of _ (by decide +kernel)) ggX9_isSlot_X9_in
theorem dX9_isSlot_0 : decode cX9_isSlot 0 = .ok (.iload_n 0, 1) := by decide +kernel
theorem dX9_isSlot_1 : decode cX9_isSlot 1 = .ok (.i2l, 1) := by decide +kernel
theorem dX9_isSlot_2 : decode cX9_isSlot 2 = .ok (.lconst 0, 1) := by decide +kernel
theorem dX9_isSlot_3 : decode cX9_isSlot 3 = .ok (.ldc2_w 128, 3) := by decide +kernel
theorem dX9_isSlot_6 : decode cX9_isSlot 6 = .ok (.invokestatic 130, 3) := by decide +kernel
theorem dX9_isSlot_9 : decode cX9_isSlot 9 = .ok (.ireturn, 1) := by decide +kernel
set_option maxRecDepth 20000 in
theorem ggX9_row_X9_isSlot : GoodIn wsX9_row wsX9_isSlot := goodIn_r _ [9, 2, 10, 11, 8, 12] (by decide +kernel) (by decide +kernel)
set_option maxRecDepth 20000 in
theorem gX9_row_X9_isSlot : GoodIn wsX9_row (va_wsS RX9 134 yX9_isSlot wsX9_isSlot) := goodIn_app (goodIn_of _ (by decide +kernel)) ggX9_row_X9_isSlot
set_option maxRecDepth 20000 in
theorem ggX9_row_X9_in : GoodIn wsX9_row wsX9_in := goodIn_r _ [12] (by decide +kernel) (by decide +kernel)
set_option maxRecDepth 20000 in
theorem gX9_row_X9_in : GoodIn wsX9_row (va_wsS RX9 130 yX9_in wsX9_in) := goodIn_app (goodIn_of _ (by decide +kernel)) ggX9_row_X9_in
theorem dX9_row_0 : decode cX9_row 0 = .ok (.aload_n 0, 1) := by decide +kernel
theorem dX9_row_1 : decode cX9_row 1 = .ok (.iconst 0, 1) := by decide +kernel
theorem dX9_row_2 : decode cX9_row 2 = .ok (.putfield 125, 3) := by decide +kernel
theorem dX9_row_5 : decode cX9_row 5 = .ok (.iload_n 1, 1) := by decide +kernel
theorem dX9_row_6 : decode cX9_row 6 = .ok (.invokestatic 134, 3) := by decide +kernel
theorem dX9_row_9 : decode cX9_row 9 = .ok (.ifCond .eq 21, 3) := by decide +kernel
theorem dX9_row_12 : decode cX9_row 12 = .ok (.iload_n 2, 1) := by decide +kernel
theorem dX9_row_13 : decode cX9_row 13 = .ok (.i2l, 1) := by decide +kernel
theorem dX9_row_14 : decode cX9_row 14 = .ok (.lconst 0, 1) := by decide +kernel
theorem dX9_row_15 : decode cX9_row 15 = .ok (.ldc2_w 128, 3) := by decide +kernel
theorem dX9_row_18 : decode cX9_row 18 = .ok (.invokestatic 130, 3) := by decide +kernel
theorem dX9_row_21 : decode cX9_row 21 = .ok (.ifCond .eq 9, 3) := by decide +kernel
theorem dX9_row_24 : decode cX9_row 24 = .ok (.iload_n 3, 1) := by decide +kernel
theorem dX9_row_25 : decode cX9_row 25 = .ok (.bipush 60, 2) := by decide +kernel
theorem dX9_row_27 : decode cX9_row 27 = .ok (.if_icmp .le 6, 3) := by decide +kernel
theorem dX9_row_30 : decode cX9_row 30 = .ok (.bipush (-2), 2) := by decide +kernel
theorem dX9_row_32 : decode cX9_row 32 = .ok (.ireturn, 1) := by decide +kernel
theorem dX9_row_33 : decode cX9_row 33 = .ok (.iload_n 3, 1) := by decide +kernel
theorem dX9_row_34 : decode cX9_row 34 = .ok (.ifCond .ge 6, 3) := by decide +kernel
theorem dX9_row_37 : decode cX9_row 37 = .ok (.bipush (-3), 2) := by decide +kernel
theorem dX9_row_39 : decode cX9_row 39 = .ok (.ireturn, 1) := by decide +kernel
theorem dX9_row_40 : decode cX9_row 40 = .ok (.aload_n 0, 1) := by decide +kernel
theorem dX9_row_41 : decode cX9_row 41 = .ok (.getfield 7, 3) := by decide +kernel
theorem dX9_row_44 : decode cX9_row 44 = .ok (.iload_n 1, 1) := by decide +kernel
theorem dX9_row_45 : decode cX9_row 45 = .ok (.iload_n 2, 1) := by decide +kernel
theorem dX9_row_46 : decode cX9_row 46 = .ok (.iastore, 1) := by decide +kernel
theorem dX9_row_47 : decode cX9_row 47 = .ok (.aload_n 0, 1) := by decide +kernel
theorem dX9_row_48 : decode cX9_row 48 = .ok (.getfield 13, 3) := by decide +kernel
theorem dX9_row_51 : decode cX9_row 51 = .ok (.iload_n 1, 1) := by decide +kernel
theorem dX9_row_52 : decode cX9_row 52 = .ok (.iload_n 3, 1) := by decide +kernel
theorem dX9_row_53 : decode cX9_row 53 = .ok (.iastore, 1) := by decide +kernel
theorem dX9_row_54 : decode cX9_row 54 = .ok (.iconst 0, 1) := by decide +kernel
theorem dX9_row_55 : decode cX9_row 55 = .ok (.istore 4, 2) := by decide +kernel
theorem dX9_row_57 : decode cX9_row 57 = .ok (.iload 4, 2) := by decide +kernel
theorem dX9_row_59 : decode cX9_row 59 = .ok (.iload_n 3, 1) := by decide +kernel
theorem dX9_row_60 : decode cX9_row 60 = .ok (.if_icmp .ge 22, 3) := by decide +kernel
theorem dX9_row_63 : decode cX9_row 63 = .ok (.aload_n 0, 1) := by decide +kernel
theorem dX9_row_64 : decode cX9_row 64 = .ok (.getfield 16, 3) := by decide +kernel
theorem dX9_row_67 : decode cX9_row 67 = .ok (.bipush 60, 2) := by decide +kernel
theorem dX9_row_69 : decode cX9_row 69 = .ok (.iload_n 1, 1) := by decide +kernel
theorem dX9_row_70 : decode cX9_row 70 = .ok (.imul, 1) := by decide +kernel
theorem dX9_row_71 : decode cX9_row 71 = .ok (.iload 4, 2) := by decide +kernel
theorem dX9_row_73 : decode cX9_row 73 = .ok (.iadd, 1) := by decide +kernel
theorem dX9_row_74 : decode cX9_row 74 = .ok (.lconst 0, 1) := by decide +kernel
theorem dX9_row_75 : decode cX9_row 75 = .ok (.lastore, 1) := by decide +kernel
theorem dX9_row_76 : decode cX9_row 76 = .ok (.iinc 4 1, 3) := by decide +kernel
theorem dX9_row_79 : decode cX9_row 79 = .ok (.goto (-22), 3) := by decide +kernel
theorem dX9_row_82 : decode cX9_row 82 = .ok (.iconst 0, 1) := by decide +kernel
theorem dX9_row_83 : decode cX9_row 83 = .ok (.ireturn, 1) := by decide +kernel
set_option maxRecDepth 20000 in
theorem ggX9_write_X9_isSlot : GoodIn wsX9_write wsX9_isSlot := goodIn_r _ [8, 9, 10, 11, 7, 12] (by decide +kernel) (by decide +kernel)
set_option maxRecDepth 20000 in
theorem gX9_write_X9_isSlot : GoodIn wsX9_write (va_wsS RX9 134 yX9_isSlot wsX9_isSlot) := goodIn_app (goodIn_of _ (by decide +kernel)) ggX9_write_X9_isSlot
theorem dX9_write_0 : decode cX9_write 0 = .ok (.aload_n 0, 1) := by decide +kernel
theorem dX9_write_1 : decode cX9_write 1 = .ok (.iconst 0, 1) := by decide +kernel
theorem dX9_write_2 : decode cX9_write 2 = .ok (.putfield 125, 3) := by decide +kernel
theorem dX9_write_5 : decode cX9_write 5 = .ok (.iload_n 1, 1) := by decide +kernel
theorem dX9_write_6 : decode cX9_write 6 = .ok (.invokestatic 134, 3) := by decide +kernel
theorem dX9_write_9 : decode cX9_write 9 = .ok (.ifCond .ne 6, 3) := by decide +kernel
theorem dX9_write_12 : decode cX9_write 12 = .ok (.bipush (-2), 2) := by decide +kernel
theorem dX9_write_14 : decode cX9_write 14 = .ok (.ireturn, 1) := by decide +kernel
theorem dX9_write_15 : decode cX9_write 15 = .ok (.aload_n 0, 1) := by decide +kernel
theorem dX9_write_16 : decode cX9_write 16 = .ok (.getfield 7, 3) := by decide +kernel
theorem dX9_write_19 : decode cX9_write 19 = .ok (.iload_n 1, 1) := by decide +kernel
theorem dX9_write_20 : decode cX9_write 20 = .ok (.iaload, 1) := by decide +kernel
theorem dX9_write_21 : decode cX9_write 21 = .ok (.iconst (-1), 1) := by decide +kernel
theorem dX9_write_22 : decode cX9_write 22 = .ok (.if_icmp .ne 6, 3) := by decide +kernel
theorem dX9_write_25 : decode cX9_write 25 = .ok (.bipush (-6), 2) := by decide +kernel
theorem dX9_write_27 : decode cX9_write 27 = .ok (.ireturn, 1) := by decide +kernel
set_option maxRecDepth 20000 in
theorem ggX9_paste_X9_isSlot : GoodIn wsX9_paste wsX9_isSlot := goodIn_r _ [9, 10, 11, 12, 8, 13] (by decide +kernel) (by decide +kernel)
set_option maxRecDepth 20000 in
theorem gX9_paste_X9_isSlot : GoodIn wsX9_paste (va_wsS RX9 134 yX9_isSlot wsX9_isSlot) := goodIn_app (goodIn_of _ (by decide +kernel)) ggX9_paste_X9_isSlot
theorem dX9_paste_0 : decode cX9_paste 0 = .ok (.aload_n 0, 1) := by decide +kernel
theorem dX9_paste_1 : decode cX9_paste 1 = .ok (.iconst 0, 1) := by decide +kernel
theorem dX9_paste_2 : decode cX9_paste 2 = .ok (.putfield 125, 3) := by decide +kernel
theorem dX9_paste_5 : decode cX9_paste 5 = .ok (.iload_n 1, 1) := by decide +kernel
theorem dX9_paste_6 : decode cX9_paste 6 = .ok (.invokestatic 134, 3) := by decide +kernel
theorem dX9_paste_9 : decode cX9_paste 9 = .ok (.ifCond .eq 10, 3) := by decide +kernel
theorem dX9_paste_12 : decode cX9_paste 12 = .ok (.iload_n 3, 1) := by decide +kernel
theorem dX9_paste_13 : decode cX9_paste 13 = .ok (.invokestatic 134, 3) := by decide +kernel
theorem dX9_paste_16 : decode cX9_paste 16 = .ok (.ifCond .ne 6, 3) := by decide +kernel
theorem dX9_paste_19 : decode cX9_paste 19 = .ok (.bipush (-2), 2) := by decide +kernel
theorem dX9_paste_21 : decode cX9_paste 21 = .ok (.ireturn, 1) := by decide +kernel
theorem dX9_paste_22 : decode cX9_paste 22 = .ok (.aload_n 0, 1) := by decide +kernel
theorem dX9_paste_23 : decode cX9_paste 23 = .ok (.getfield 7, 3) := by decide +kernel
theorem dX9_paste_26 : decode cX9_paste 26 = .ok (.iload_n 1, 1) := by decide +kernel
theorem dX9_paste_27 : decode cX9_paste 27 = .ok (.iaload, 1) := by decide +kernel
theorem dX9_paste_28 : decode cX9_paste 28 = .ok (.iconst (-1), 1) := by decide +kernel
theorem dX9_paste_29 : decode cX9_paste 29 = .ok (.if_icmp .eq 13, 3) := by decide +kernel
theorem dX9_paste_42 : decode cX9_paste 42 = .ok (.bipush (-6), 2) := by decide +kernel
theorem dX9_paste_44 : decode cX9_paste 44 = .ok (.ireturn, 1) := by decide +kernel
set_option maxRecDepth 20000 in
theorem ggX9_feed_X9_four : GoodIn wsX9_feed wsX9_four := goodIn_r _ [7, 8, 2, 9, 10, 11, 12, 13, 14, 15, 16, 17, 18, 19, 20, 21, 22, 23, 24, 25, 26, 27, 28, 29, 30, 31, 32, 33, 34, 35, 36, 37, 38, 39, 40, 41, 42, 43, 44, 45, 46, 47, 48, 49, 50, 51, 52, 53, 54, 55, 56, 57, 58, 59, 60, 61, 62, 63, 64, 65, 66, 67, 68] (by decide +kernel) (by decide +kernel)
set_option maxRecDepth 20000 in
theorem gX9_feed_X9_four : GoodIn wsX9_feed (wsV RX9 145 RX9 yX9_four wsX9_four) := goodIn_app (goodIn_of _ (by decide +kernel)) ggX9_feed_X9_four
theorem dX9_feed_0 : decode cX9_feed 0 = .ok (.aload_n 0, 1) := by decide +kernel
theorem dX9_feed_1 : decode cX9_feed 1 = .ok (.iconst 0, 1) := by decide +kernel
theorem dX9_feed_2 : decode cX9_feed 2 = .ok (.putfield 125, 3) := by decide +kernel
theorem dX9_feed_5 : decode cX9_feed 5 = .ok (.aload_n 0, 1) := by decide +kernel
theorem dX9_feed_6 : decode cX9_feed 6 = .ok (.getfield 142, 3) := by decide +kernel
theorem dX9_feed_9 : decode cX9_feed 9 = .ok (.bipush 20, 2) := by decide +kernel
theorem dX9_feed_11 : decode cX9_feed 11 = .ok (.iadd, 1) := by decide +kernel
theorem dX9_feed_12 : decode cX9_feed 12 = .ok (.sipush 600, 3) := by decide +kernel
theorem dX9_feed_15 : decode cX9_feed 15 = .ok (.if_icmp .le 5, 3) := by decide +kernel
theorem dX9_feed_20 : decode cX9_feed 20 = .ok (.aload_n 0, 1) := by decide +kernel
theorem dX9_feed_21 : decode cX9_feed 21 = .ok (.iload_n 1, 1) := by decide +kernel
theorem dX9_feed_22 : decode cX9_feed 22 = .ok (.invokevirtual 145, 3) := by decide +kernel
theorem dX9_feed_25 : decode cX9_feed 25 = .ok (.aload_n 0, 1) := by decide +kernel
theorem dX9_feed_26 : decode cX9_feed 26 = .ok (.iload_n 2, 1) := by decide +kernel
theorem dX9_feed_27 : decode cX9_feed 27 = .ok (.invokevirtual 145, 3) := by decide +kernel
theorem dX9_feed_30 : decode cX9_feed 30 = .ok (.aload_n 0, 1) := by decide +kernel
theorem dX9_feed_31 : decode cX9_feed 31 = .ok (.iload_n 3, 1) := by decide +kernel
theorem dX9_feed_32 : decode cX9_feed 32 = .ok (.invokevirtual 145, 3) := by decide +kernel
theorem dX9_feed_35 : decode cX9_feed 35 = .ok (.aload_n 0, 1) := by decide +kernel
theorem dX9_feed_36 : decode cX9_feed 36 = .ok (.iload 4, 2) := by decide +kernel
theorem dX9_feed_38 : decode cX9_feed 38 = .ok (.invokevirtual 145, 3) := by decide +kernel
theorem dX9_feed_41 : decode cX9_feed 41 = .ok (.aload_n 0, 1) := by decide +kernel
theorem dX9_feed_42 : decode cX9_feed 42 = .ok (.iload 5, 2) := by decide +kernel
theorem dX9_feed_44 : decode cX9_feed 44 = .ok (.invokevirtual 145, 3) := by decide +kernel
theorem dX9_feed_47 : decode cX9_feed 47 = .ok (.aload_n 0, 1) := by decide +kernel
theorem dX9_feed_48 : decode cX9_feed 48 = .ok (.getfield 142, 3) := by decide +kernel
theorem dX9_feed_51 : decode cX9_feed 51 = .ok (.ireturn, 1) := by decide +kernel
theorem dX9_four_0 : decode cX9_four 0 = .ok (.bipush 24, 2) := by decide +kernel
theorem dX9_four_2 : decode cX9_four 2 = .ok (.istore_n 2, 1) := by decide +kernel
theorem dX9_four_3 : decode cX9_four 3 = .ok (.iload_n 2, 1) := by decide +kernel
theorem dX9_four_4 : decode cX9_four 4 = .ok (.ifCond .lt 32, 3) := by decide +kernel
theorem dX9_four_7 : decode cX9_four 7 = .ok (.aload_n 0, 1) := by decide +kernel
theorem dX9_four_8 : decode cX9_four 8 = .ok (.getfield 23, 3) := by decide +kernel
theorem dX9_four_11 : decode cX9_four 11 = .ok (.aload_n 0, 1) := by decide +kernel
theorem dX9_four_12 : decode cX9_four 12 = .ok (.getfield 142, 3) := by decide +kernel
theorem dX9_four_15 : decode cX9_four 15 = .ok (.iload_n 1, 1) := by decide +kernel
theorem dX9_four_16 : decode cX9_four 16 = .ok (.iload_n 2, 1) := by decide +kernel
theorem dX9_four_17 : decode cX9_four 17 = .ok (.ishr, 1) := by decide +kernel
theorem dX9_four_18 : decode cX9_four 18 = .ok (.i2b, 1) := by decide +kernel
theorem dX9_four_19 : decode cX9_four 19 = .ok (.bastore, 1) := by decide +kernel
theorem dX9_four_20 : decode cX9_four 20 = .ok (.aload_n 0, 1) := by decide +kernel
theorem dX9_four_21 : decode cX9_four 21 = .ok (.dup, 1) := by decide +kernel
theorem dX9_four_22 : decode cX9_four 22 = .ok (.getfield 142, 3) := by decide +kernel
theorem dX9_four_25 : decode cX9_four 25 = .ok (.iconst 1, 1) := by decide +kernel
theorem dX9_four_26 : decode cX9_four 26 = .ok (.iadd, 1) := by decide +kernel
theorem dX9_four_27 : decode cX9_four 27 = .ok (.putfield 142, 3) := by decide +kernel
theorem dX9_four_30 : decode cX9_four 30 = .ok (.iinc 2 (-8), 3) := by decide +kernel
theorem dX9_four_33 : decode cX9_four 33 = .ok (.goto (-30), 3) := by decide +kernel
theorem dX9_four_36 : decode cX9_four 36 = .ok (.return_, 1) := by decide +kernel
set_option maxRecDepth 20000 in
theorem ggX9_end_X9_in : GoodIn wsX9_end wsX9_in := goodIn_r _ [6] (by decide +kernel) (by decide +kernel)
set_option maxRecDepth 20000 in
theorem gX9_end_X9_in : GoodIn wsX9_end (va_wsS RX9 130 yX9_in wsX9_in) := goodIn_app (goodIn_of _ (by decide +kernel)) ggX9_end_X9_in
theorem dX9_end_0 : decode cX9_end 0 = .ok (.aload_n 0, 1) := by decide +kernel
theorem dX9_end_1 : decode cX9_end 1 = .ok (.iconst 0, 1) := by decide +kernel
theorem dX9_end_2 : decode cX9_end 2 = .ok (.putfield 125, 3) := by decide +kernel
theorem dX9_end_5 : decode cX9_end 5 = .ok (.iload_n 1, 1) := by decide +kernel
theorem dX9_end_6 : decode cX9_end 6 = .ok (.i2l, 1) := by decide +kernel
theorem dX9_end_7 : decode cX9_end 7 = .ok (.lconst 0, 1) := by decide +kernel
theorem dX9_end_8 : decode cX9_end 8 = .ok (.aload_n 0, 1) := by decide +kernel
theorem dX9_end_9 : decode cX9_end 9 = .ok (.getfield 142, 3) := by decide +kernel
theorem dX9_end_12 : decode cX9_end 12 = .ok (.i2l, 1) := by decide +kernel
theorem dX9_end_13 : decode cX9_end 13 = .ok (.invokestatic 130, 3) := by decide +kernel
theorem dX9_end_16 : decode cX9_end 16 = .ok (.ifCond .ne 5, 3) := by decide +kernel
theorem dX9_end_19 : decode cX9_end 19 = .ok (.iconst (-1), 1) := by decide +kernel
theorem dX9_end_20 : decode cX9_end 20 = .ok (.ireturn, 1) := by decide +kernel
theorem dX9_end_21 : decode cX9_end 21 = .ok (.aload_n 0, 1) := by decide +kernel
theorem dX9_end_22 : decode cX9_end 22 = .ok (.iload_n 1, 1) := by decide +kernel
theorem dX9_end_23 : decode cX9_end 23 = .ok (.putfield 142, 3) := by decide +kernel
theorem dX9_end_26 : decode cX9_end 26 = .ok (.iload_n 1, 1) := by decide +kernel
theorem dX9_end_27 : decode cX9_end 27 = .ok (.ireturn, 1) := by decide +kernel
theorem dX9_isByte_0 : decode cX9_isByte 0 = .ok (.iload_n 1, 1) := by decide +kernel
theorem dX9_isByte_1 : decode cX9_isByte 1 = .ok (.aload_n 0, 1) := by decide +kernel
theorem dX9_isByte_2 : decode cX9_isByte 2 = .ok (.getfield 142, 3) := by decide +kernel
theorem dX9_isByte_5 : decode cX9_isByte 5 = .ok (.if_icmp .ge 27, 3) := by decide +kernel
theorem dX9_isByte_32 : decode cX9_isByte 32 = .ok (.iconst 0, 1) := by decide +kernel
theorem dX9_isByte_33 : decode cX9_isByte 33 = .ok (.ireturn, 1) := by decide +kernel
set_option maxRecDepth 20000 in
theorem ggX9_next_X9_isByte : GoodIn wsX9_next wsX9_isByte := goodIn_r _ [17, 5, 9, 18, 19, 20, 21, 22, 23, 24, 25, 26, 27, 28, 29, 30, 31, 32, 33, 34, 35, 36, 37, 38, 39, 40, 41, 42, 43, 44, 45, 46, 47, 48, 49, 50, 51, 52, 53, 54, 55, 56, 57, 58, 59, 60, 61, 62, 63, 64, 65, 66, 67, 68, 69, 70, 71, 72, 73, 74, 75, 76, 77] (by decide +kernel) (by decide +kernel)
set_option maxRecDepth 20000 in
theorem gX9_next_X9_isByte : GoodIn wsX9_next (wsV RX9 152 RX9 yX9_isByte wsX9_isByte) := goodIn_app (goodIn_of _ (by decide +kernel)) ggX9_next_X9_isByte
theorem dX9_next_0 : decode cX9_next 0 = .ok (.aload_n 0, 1) := by decide +kernel
theorem dX9_next_1 : decode cX9_next 1 = .ok (.aload_n 0, 1) := by decide +kernel
theorem dX9_next_2 : decode cX9_next 2 = .ok (.getfield 149, 3) := by decide +kernel
theorem dX9_next_5 : decode cX9_next 5 = .ok (.bipush 32, 2) := by decide +kernel
theorem dX9_next_7 : decode cX9_next 7 = .ok (.bipush 32, 2) := by decide +kernel
theorem dX9_next_9 : decode cX9_next 9 = .ok (.invokevirtual 152, 3) := by decide +kernel
theorem dX9_next_12 : decode cX9_next 12 = .ok (.ifCond .ne 18, 3) := by decide +kernel
theorem dX9_next_15 : decode cX9_next 15 = .ok (.aload_n 0, 1) := by decide +kernel
theorem dX9_next_16 : decode cX9_next 16 = .ok (.aload_n 0, 1) := by decide +kernel
theorem dX9_next_17 : decode cX9_next 17 = .ok (.getfield 149, 3) := by decide +kernel
theorem dX9_next_20 : decode cX9_next 20 = .ok (.bipush 10, 2) := by decide +kernel
theorem dX9_next_22 : decode cX9_next 22 = .ok (.bipush 10, 2) := by decide +kernel
theorem dX9_next_24 : decode cX9_next 24 = .ok (.invokevirtual 152, 3) := by decide +kernel
theorem dX9_next_27 : decode cX9_next 27 = .ok (.ifCond .eq 16, 3) := by decide +kernel
theorem dX9_next_43 : decode cX9_next 43 = .ok (.aload_n 0, 1) := by decide +kernel
theorem dX9_next_44 : decode cX9_next 44 = .ok (.aload_n 0, 1) := by decide +kernel
theorem dX9_next_45 : decode cX9_next 45 = .ok (.getfield 149, 3) := by decide +kernel
theorem dX9_next_48 : decode cX9_next 48 = .ok (.putfield 156, 3) := by decide +kernel
theorem dX9_next_51 : decode cX9_next 51 = .ok (.aload_n 0, 1) := by decide +kernel
theorem dX9_next_52 : decode cX9_next 52 = .ok (.iconst 0, 1) := by decide +kernel
theorem dX9_next_53 : decode cX9_next 53 = .ok (.putfield 159, 3) := by decide +kernel
theorem dX9_next_56 : decode cX9_next 56 = .ok (.aload_n 0, 1) := by decide +kernel
theorem dX9_next_57 : decode cX9_next 57 = .ok (.lconst 0, 1) := by decide +kernel
theorem dX9_next_58 : decode cX9_next 58 = .ok (.putfield 162, 3) := by decide +kernel
theorem dX9_next_61 : decode cX9_next 61 = .ok (.aload_n 0, 1) := by decide +kernel
theorem dX9_next_62 : decode cX9_next 62 = .ok (.getfield 149, 3) := by decide +kernel
theorem dX9_next_65 : decode cX9_next 65 = .ok (.aload_n 0, 1) := by decide +kernel
theorem dX9_next_66 : decode cX9_next 66 = .ok (.getfield 142, 3) := by decide +kernel
theorem dX9_next_69 : decode cX9_next 69 = .ok (.if_icmp .ne 11, 3) := by decide +kernel
theorem dX9_next_72 : decode cX9_next 72 = .ok (.aload_n 0, 1) := by decide +kernel
theorem dX9_next_73 : decode cX9_next 73 = .ok (.iconst 0, 1) := by decide +kernel
theorem dX9_next_74 : decode cX9_next 74 = .ok (.putfield 166, 3) := by decide +kernel
theorem dX9_next_77 : decode cX9_next 77 = .ok (.goto 230, 3) := by decide +kernel
theorem dX9_next_307 : decode cX9_next 307 = .ok (.return_, 1) := by decide +kernel
theorem dX9_isGood_0 : decode cX9_isGood 0 = .ok (.aload_n 0, 1) := by decide +kernel
theorem dX9_isGood_1 : decode cX9_isGood 1 = .ok (.getfield 177, 3) := by decide +kernel
theorem dX9_isGood_4 : decode cX9_isGood 4 = .ok (.ifCond .ne 7, 3) := by decide +kernel
theorem dX9_isGood_7 : decode cX9_isGood 7 = .ok (.iconst 1, 1) := by decide +kernel
theorem dX9_isGood_8 : decode cX9_isGood 8 = .ok (.goto 4, 3) := by decide +kernel
theorem dX9_isGood_12 : decode cX9_isGood 12 = .ok (.ireturn, 1) := by decide +kernel
set_option maxRecDepth 20000 in
theorem ggX9_begins_X9_next : GoodIn wsX9_begins wsX9_next := goodIn_r _ [8, 3, 9, 10, 11, 12, 13, 14, 15, 16, 17, 18, 19, 20, 21, 22, 7, 23, 24, 25, 26, 27, 28, 29, 30, 31, 32, 33, 34, 35, 36, 37, 38, 39, 40, 41, 42, 43, 44, 45, 46, 47, 48, 49, 50, 51, 52, 53, 54, 55, 56, 57, 58, 59, 60, 61, 62, 63, 64, 65, 66, 67, 68, 69, 70, 71, 72, 73, 74, 75, 76, 77, 78, 79, 80, 81, 82, 83] (by decide +kernel) (by decide +kernel)
set_option maxRecDepth 20000 in
theorem gX9_begins_X9_next : GoodIn wsX9_begins (wsV RX9 187 RX9 yX9_next wsX9_next) := goodIn_app (goodIn_of _ (by decide +kernel)) ggX9_begins_X9_next
theorem dX9_begins_0 : decode cX9_begins 0 = .ok (.aload_n 0, 1) := by decide +kernel
theorem dX9_begins_1 : decode cX9_begins 1 = .ok (.iconst 0, 1) := by decide +kernel
theorem dX9_begins_2 : decode cX9_begins 2 = .ok (.putfield 177, 3) := by decide +kernel
theorem dX9_begins_5 : decode cX9_begins 5 = .ok (.aload_n 0, 1) := by decide +kernel
theorem dX9_begins_6 : decode cX9_begins 6 = .ok (.iconst (-1), 1) := by decide +kernel
theorem dX9_begins_7 : decode cX9_begins 7 = .ok (.putfield 180, 3) := by decide +kernel
theorem dX9_begins_10 : decode cX9_begins 10 = .ok (.aload_n 0, 1) := by decide +kernel
theorem dX9_begins_11 : decode cX9_begins 11 = .ok (.iconst 0, 1) := by decide +kernel
theorem dX9_begins_12 : decode cX9_begins 12 = .ok (.putfield 149, 3) := by decide +kernel
theorem dX9_begins_15 : decode cX9_begins 15 = .ok (.aload_n 0, 1) := by decide +kernel
theorem dX9_begins_16 : decode cX9_begins 16 = .ok (.invokevirtual 187, 3) := by decide +kernel
theorem dX9_begins_19 : decode cX9_begins 19 = .ok (.return_, 1) := by decide +kernel
theorem dX9_isOver_0 : decode cX9_isOver 0 = .ok (.aload_n 0, 1) := by decide +kernel
theorem dX9_isOver_1 : decode cX9_isOver 1 = .ok (.iconst 0, 1) := by decide +kernel
theorem dX9_isOver_2 : decode cX9_isOver 2 = .ok (.putfield 142, 3) := by decide +kernel
theorem dX9_isOver_5 : decode cX9_isOver 5 = .ok (.aload_n 0, 1) := by decide +kernel
theorem dX9_isOver_6 : decode cX9_isOver 6 = .ok (.aload_n 0, 1) := by decide +kernel
theorem dX9_isOver_7 : decode cX9_isOver 7 = .ok (.getfield 177, 3) := by decide +kernel
theorem dX9_isOver_10 : decode cX9_isOver 10 = .ok (.putfield 204, 3) := by decide +kernel
theorem dX9_isOver_13 : decode cX9_isOver 13 = .ok (.aload_n 0, 1) := by decide +kernel
theorem dX9_isOver_14 : decode cX9_isOver 14 = .ok (.aload_n 0, 1) := by decide +kernel
theorem dX9_isOver_15 : decode cX9_isOver 15 = .ok (.getfield 177, 3) := by decide +kernel
theorem dX9_isOver_18 : decode cX9_isOver 18 = .ok (.ifCond .ne 7, 3) := by decide +kernel
theorem dX9_isOver_21 : decode cX9_isOver 21 = .ok (.iconst (-1), 1) := by decide +kernel
theorem dX9_isOver_22 : decode cX9_isOver 22 = .ok (.goto 7, 3) := by decide +kernel
theorem dX9_isOver_29 : decode cX9_isOver 29 = .ok (.putfield 27, 3) := by decide +kernel
theorem dX9_isOver_32 : decode cX9_isOver 32 = .ok (.return_, 1) := by decide +kernel
theorem dX9_fault_0 : decode cX9_fault 0 = .ok (.aload_n 0, 1) := by decide +kernel
theorem dX9_fault_1 : decode cX9_fault 1 = .ok (.iconst 0, 1) := by decide +kernel
theorem dX9_fault_2 : decode cX9_fault 2 = .ok (.putfield 125, 3) := by decide +kernel
theorem dX9_fault_5 : decode cX9_fault 5 = .ok (.iload_n 1, 1) := by decide +kernel
theorem dX9_fault_6 : decode cX9_fault 6 = .ok (.ifCond .ne 10, 3) := by decide +kernel
theorem dX9_fault_9 : decode cX9_fault 9 = .ok (.aload_n 0, 1) := by decide +kernel
theorem dX9_fault_10 : decode cX9_fault 10 = .ok (.getfield 204, 3) := by decide +kernel
theorem dX9_fault_13 : decode cX9_fault 13 = .ok (.goto 16, 3) := by decide +kernel
theorem dX9_fault_16 : decode cX9_fault 16 = .ok (.iload_n 1, 1) := by decide +kernel
theorem dX9_fault_17 : decode cX9_fault 17 = .ok (.iconst 1, 1) := by decide +kernel
theorem dX9_fault_18 : decode cX9_fault 18 = .ok (.if_icmp .ne 10, 3) := by decide +kernel
theorem dX9_fault_21 : decode cX9_fault 21 = .ok (.aload_n 0, 1) := by decide +kernel
theorem dX9_fault_22 : decode cX9_fault 22 = .ok (.getfield 27, 3) := by decide +kernel
theorem dX9_fault_25 : decode cX9_fault 25 = .ok (.goto 4, 3) := by decide +kernel
theorem dX9_fault_28 : decode cX9_fault 28 = .ok (.iconst (-1), 1) := by decide +kernel
theorem dX9_fault_29 : decode cX9_fault 29 = .ok (.ireturn, 1) := by decide +kernel
set_option maxRecDepth 20000 in
theorem ggX9_land_X9_begins : GoodIn wsX9_land wsX9_begins := goodIn_r _ [18, 13, 19, 20, 21, 22, 23, 17, 24, 25, 26, 27, 28, 12, 29, 30, 31, 32, 33, 34, 35, 36, 37, 38, 144, 145, 146, 147, 148, 149, 150, 151, 152, 153, 154, 155, 156, 157, 158, 159, 160, 161, 162, 163, 164, 165, 166, 167, 168, 169, 170, 171, 172, 173, 174, 175, 176, 177, 178, 179, 180, 181, 182, 183, 184, 185, 186, 187, 188, 189, 190, 191, 192, 193, 194, 195, 196, 197, 198, 199, 200, 201, 202, 203] (by decide +kernel) (by decide +kernel)
set_option maxRecDepth 20000 in
theorem gX9_land_X9_begins : GoodIn wsX9_land (wsV RX9 273 RX9 yX9_begins wsX9_begins) := goodIn_app (goodIn_of _ (by decide +kernel)) ggX9_land_X9_begins
set_option maxRecDepth 20000 in
theorem ggX9_land_X9_isGood : GoodIn wsX9_land wsX9_isGood := goodIn_r _ [42, 13, 144, 145, 146, 147, 148, 149, 150, 151, 152, 153, 154, 155, 156, 157, 158, 159, 160, 161, 162, 163, 164, 165, 166, 167, 168, 169, 170, 171, 172, 173, 174, 175, 176, 177, 178, 179, 180, 181, 182, 183, 184, 185, 186, 187, 188, 189, 190, 191, 192, 193, 194, 195, 196, 197, 198, 199, 200, 201, 202, 203] (by decide +kernel) (by decide +kernel)
set_option maxRecDepth 20000 in
theorem gX9_land_X9_isGood : GoodIn wsX9_land (wsV RX9 276 RX9 yX9_isGood wsX9_isGood) := goodIn_app (goodIn_of _ (by decide +kernel)) ggX9_land_X9_isGood
set_option maxRecDepth 20000 in
theorem ggX9_land_X9_isOver : GoodIn wsX9_land wsX9_isOver := goodIn_r _ [137, 28, 13, 138, 19, 139, 144, 145, 146, 147, 148, 149, 150, 151, 152, 153, 154, 155, 156, 157, 158, 159, 160, 161, 162, 163, 164, 165, 166, 167, 168, 169, 170, 171, 172, 173, 174, 175, 176, 177, 178, 179, 180, 181, 182, 183, 184, 185, 186, 187, 188, 189, 190, 191, 192, 193, 194, 195, 196, 197, 198, 199, 200, 201, 202, 203] (by decide +kernel) (by decide +kernel)
set_option maxRecDepth 20000 in
theorem gX9_land_X9_isOver : GoodIn wsX9_land (wsV RX9 286 RX9 yX9_isOver wsX9_isOver) := goodIn_app (goodIn_of _ (by decide +kernel)) ggX9_land_X9_isOver
set_option maxRecDepth 20000 in
theorem ggX9_land_X9_copyLand : GoodIn wsX9_land wsX9_copyLand := goodIn_r _ [143, 2, 3, 4, 5, 6, 7, 8, 64, 66, 91, 93, 95, 97, 11, 129, 144, 145, 146, 147, 148, 149, 150, 151, 152, 153, 154, 155, 156, 157, 158, 159, 160, 161, 162, 163, 164, 165, 166, 167, 168, 169, 170, 171, 172, 173, 174, 175, 176, 177, 178, 179, 180, 181, 182, 183, 184, 185, 186, 187, 188, 189, 190, 191, 192, 193, 194, 195, 196, 197, 198, 199, 200, 201, 202, 203] (by decide +kernel) (by decide +kernel)
set_option maxRecDepth 20000 in
theorem gX9_land_X9_copyLand : GoodIn wsX9_land (wsV RX9 289 RX9 yX9_copyLand wsX9_copyLand) := goodIn_app (goodIn_of _ (by decide +kernel)) ggX9_land_X9_copyLand
theorem dX9_land_0 : decode cX9_land 0 = .ok (.aload_n 0, 1) := by decide +kernel
theorem dX9_land_1 : decode cX9_land 1 = .ok (.iconst 0, 1) := by decide +kernel
theorem dX9_land_2 : decode cX9_land 2 = .ok (.putfield 125, 3) := by decide +kernel
theorem dX9_land_5 : decode cX9_land 5 = .ok (.aload_n 0, 1) := by decide +kernel
theorem dX9_land_6 : decode cX9_land 6 = .ok (.getfield 31, 3) := by decide +kernel
theorem dX9_land_9 : decode cX9_land 9 = .ok (.iconst 4, 1) := by decide +kernel
theorem dX9_land_10 : decode cX9_land 10 = .ok (.iconst 0, 1) := by decide +kernel
theorem dX9_land_11 : decode cX9_land 11 = .ok (.iastore, 1) := by decide +kernel
theorem dX9_land_12 : decode cX9_land 12 = .ok (.aload_n 0, 1) := by decide +kernel
theorem dX9_land_13 : decode cX9_land 13 = .ok (.getfield 34, 3) := by decide +kernel
theorem dX9_land_16 : decode cX9_land 16 = .ok (.iconst 4, 1) := by decide +kernel
theorem dX9_land_17 : decode cX9_land 17 = .ok (.iconst 0, 1) := by decide +kernel
theorem dX9_land_18 : decode cX9_land 18 = .ok (.iastore, 1) := by decide +kernel
theorem dX9_land_19 : decode cX9_land 19 = .ok (.aload_n 0, 1) := by decide +kernel
theorem dX9_land_20 : decode cX9_land 20 = .ok (.getfield 43, 3) := by decide +kernel
theorem dX9_land_23 : decode cX9_land 23 = .ok (.iconst 4, 1) := by decide +kernel
theorem dX9_land_24 : decode cX9_land 24 = .ok (.iconst 0, 1) := by decide +kernel
theorem dX9_land_25 : decode cX9_land 25 = .ok (.iastore, 1) := by decide +kernel
theorem dX9_land_26 : decode cX9_land 26 = .ok (.aload_n 0, 1) := by decide +kernel
theorem dX9_land_27 : decode cX9_land 27 = .ok (.getfield 74, 3) := by decide +kernel
theorem dX9_land_30 : decode cX9_land 30 = .ok (.iconst 4, 1) := by decide +kernel
theorem dX9_land_31 : decode cX9_land 31 = .ok (.iconst 0, 1) := by decide +kernel
theorem dX9_land_32 : decode cX9_land 32 = .ok (.iastore, 1) := by decide +kernel
theorem dX9_land_33 : decode cX9_land 33 = .ok (.aload_n 0, 1) := by decide +kernel
theorem dX9_land_34 : decode cX9_land 34 = .ok (.getfield 77, 3) := by decide +kernel
theorem dX9_land_37 : decode cX9_land 37 = .ok (.iconst 4, 1) := by decide +kernel
theorem dX9_land_38 : decode cX9_land 38 = .ok (.iconst 0, 1) := by decide +kernel
theorem dX9_land_39 : decode cX9_land 39 = .ok (.iastore, 1) := by decide +kernel
theorem dX9_land_40 : decode cX9_land 40 = .ok (.aload_n 0, 1) := by decide +kernel
theorem dX9_land_41 : decode cX9_land 41 = .ok (.getfield 71, 3) := by decide +kernel
theorem dX9_land_44 : decode cX9_land 44 = .ok (.iconst 4, 1) := by decide +kernel
theorem dX9_land_45 : decode cX9_land 45 = .ok (.iconst 0, 1) := by decide +kernel
theorem dX9_land_46 : decode cX9_land 46 = .ok (.iastore, 1) := by decide +kernel
theorem dX9_land_47 : decode cX9_land 47 = .ok (.aload_n 0, 1) := by decide +kernel
theorem dX9_land_48 : decode cX9_land 48 = .ok (.getfield 65, 3) := by decide +kernel
theorem dX9_land_51 : decode cX9_land 51 = .ok (.iconst 4, 1) := by decide +kernel
theorem dX9_land_52 : decode cX9_land 52 = .ok (.iconst 0, 1) := by decide +kernel
theorem dX9_land_53 : decode cX9_land 53 = .ok (.bastore, 1) := by decide +kernel
theorem dX9_land_54 : decode cX9_land 54 = .ok (.aload_n 0, 1) := by decide +kernel
theorem dX9_land_55 : decode cX9_land 55 = .ok (.getfield 68, 3) := by decide +kernel
theorem dX9_land_58 : decode cX9_land 58 = .ok (.iconst 4, 1) := by decide +kernel
theorem dX9_land_59 : decode cX9_land 59 = .ok (.iconst 0, 1) := by decide +kernel
theorem dX9_land_60 : decode cX9_land 60 = .ok (.bastore, 1) := by decide +kernel
theorem dX9_land_61 : decode cX9_land 61 = .ok (.iconst 0, 1) := by decide +kernel
theorem dX9_land_62 : decode cX9_land 62 = .ok (.istore_n 1, 1) := by decide +kernel
theorem dX9_land_63 : decode cX9_land 63 = .ok (.iload_n 1, 1) := by decide +kernel
theorem dX9_land_64 : decode cX9_land 64 = .ok (.bipush 12, 2) := by decide +kernel
theorem dX9_land_66 : decode cX9_land 66 = .ok (.if_icmp .ge 29, 3) := by decide +kernel
theorem dX9_land_69 : decode cX9_land 69 = .ok (.aload_n 0, 1) := by decide +kernel
theorem dX9_land_70 : decode cX9_land 70 = .ok (.getfield 58, 3) := by decide +kernel
theorem dX9_land_73 : decode cX9_land 73 = .ok (.bipush 48, 2) := by decide +kernel
theorem dX9_land_75 : decode cX9_land 75 = .ok (.iload_n 1, 1) := by decide +kernel
theorem dX9_land_76 : decode cX9_land 76 = .ok (.iadd, 1) := by decide +kernel
theorem dX9_land_77 : decode cX9_land 77 = .ok (.iconst 0, 1) := by decide +kernel
theorem dX9_land_78 : decode cX9_land 78 = .ok (.bastore, 1) := by decide +kernel
theorem dX9_land_79 : decode cX9_land 79 = .ok (.aload_n 0, 1) := by decide +kernel
theorem dX9_land_80 : decode cX9_land 80 = .ok (.getfield 62, 3) := by decide +kernel
theorem dX9_land_83 : decode cX9_land 83 = .ok (.bipush 48, 2) := by decide +kernel
theorem dX9_land_85 : decode cX9_land 85 = .ok (.iload_n 1, 1) := by decide +kernel
theorem dX9_land_86 : decode cX9_land 86 = .ok (.iadd, 1) := by decide +kernel
theorem dX9_land_87 : decode cX9_land 87 = .ok (.iconst 0, 1) := by decide +kernel
theorem dX9_land_88 : decode cX9_land 88 = .ok (.iastore, 1) := by decide +kernel
theorem dX9_land_89 : decode cX9_land 89 = .ok (.iinc 1 1, 3) := by decide +kernel
theorem dX9_land_92 : decode cX9_land 92 = .ok (.goto (-29), 3) := by decide +kernel
theorem dX9_land_95 : decode cX9_land 95 = .ok (.aload_n 0, 1) := by decide +kernel
theorem dX9_land_96 : decode cX9_land 96 = .ok (.invokevirtual 273, 3) := by decide +kernel
theorem dX9_land_99 : decode cX9_land 99 = .ok (.aload_n 0, 1) := by decide +kernel
theorem dX9_land_100 : decode cX9_land 100 = .ok (.invokevirtual 276, 3) := by decide +kernel
theorem dX9_land_103 : decode cX9_land 103 = .ok (.ifCond .eq 38, 3) := by decide +kernel
theorem dX9_land_106 : decode cX9_land 106 = .ok (.aload_n 0, 1) := by decide +kernel
theorem dX9_land_107 : decode cX9_land 107 = .ok (.getfield 166, 3) := by decide +kernel
theorem dX9_land_110 : decode cX9_land 110 = .ok (.ifCond .eq 31, 3) := by decide +kernel
theorem dX9_land_141 : decode cX9_land 141 = .ok (.aload_n 0, 1) := by decide +kernel
theorem dX9_land_142 : decode cX9_land 142 = .ok (.invokevirtual 286, 3) := by decide +kernel
theorem dX9_land_145 : decode cX9_land 145 = .ok (.aload_n 0, 1) := by decide +kernel
theorem dX9_land_146 : decode cX9_land 146 = .ok (.getfield 177, 3) := by decide +kernel
theorem dX9_land_149 : decode cX9_land 149 = .ok (.ifCond .eq 6, 3) := by decide +kernel
theorem dX9_land_155 : decode cX9_land 155 = .ok (.aload_n 0, 1) := by decide +kernel
theorem dX9_land_156 : decode cX9_land 156 = .ok (.iconst 4, 1) := by decide +kernel
theorem dX9_land_157 : decode cX9_land 157 = .ok (.iconst 0, 1) := by decide +kernel
theorem dX9_land_158 : decode cX9_land 158 = .ok (.invokevirtual 289, 3) := by decide +kernel
theorem dX9_land_161 : decode cX9_land 161 = .ok (.aload_n 0, 1) := by decide +kernel
theorem dX9_land_162 : decode cX9_land 162 = .ok (.getfield 31, 3) := by decide +kernel
theorem dX9_land_165 : decode cX9_land 165 = .ok (.iconst 0, 1) := by decide +kernel
theorem dX9_land_166 : decode cX9_land 166 = .ok (.iaload, 1) := by decide +kernel
theorem dX9_land_167 : decode cX9_land 167 = .ok (.ireturn, 1) := by decide +kernel
theorem dX9_copyLand_0 : decode cX9_copyLand 0 = .ok (.aload_n 0, 1) := by decide +kernel
theorem dX9_copyLand_1 : decode cX9_copyLand 1 = .ok (.getfield 31, 3) := by decide +kernel
theorem dX9_copyLand_4 : decode cX9_copyLand 4 = .ok (.iload_n 2, 1) := by decide +kernel
theorem dX9_copyLand_5 : decode cX9_copyLand 5 = .ok (.aload_n 0, 1) := by decide +kernel
theorem dX9_copyLand_6 : decode cX9_copyLand 6 = .ok (.getfield 31, 3) := by decide +kernel
theorem dX9_copyLand_9 : decode cX9_copyLand 9 = .ok (.iload_n 1, 1) := by decide +kernel
theorem dX9_copyLand_10 : decode cX9_copyLand 10 = .ok (.iaload, 1) := by decide +kernel
theorem dX9_copyLand_11 : decode cX9_copyLand 11 = .ok (.iastore, 1) := by decide +kernel
theorem dX9_copyLand_12 : decode cX9_copyLand 12 = .ok (.aload_n 0, 1) := by decide +kernel
theorem dX9_copyLand_13 : decode cX9_copyLand 13 = .ok (.getfield 34, 3) := by decide +kernel
theorem dX9_copyLand_16 : decode cX9_copyLand 16 = .ok (.iload_n 2, 1) := by decide +kernel
theorem dX9_copyLand_17 : decode cX9_copyLand 17 = .ok (.aload_n 0, 1) := by decide +kernel
theorem dX9_copyLand_18 : decode cX9_copyLand 18 = .ok (.getfield 34, 3) := by decide +kernel
theorem dX9_copyLand_21 : decode cX9_copyLand 21 = .ok (.iload_n 1, 1) := by decide +kernel
theorem dX9_copyLand_22 : decode cX9_copyLand 22 = .ok (.iaload, 1) := by decide +kernel
theorem dX9_copyLand_23 : decode cX9_copyLand 23 = .ok (.iastore, 1) := by decide +kernel
theorem dX9_copyLand_24 : decode cX9_copyLand 24 = .ok (.aload_n 0, 1) := by decide +kernel
theorem dX9_copyLand_25 : decode cX9_copyLand 25 = .ok (.getfield 43, 3) := by decide +kernel
theorem dX9_copyLand_28 : decode cX9_copyLand 28 = .ok (.iload_n 2, 1) := by decide +kernel
theorem dX9_copyLand_29 : decode cX9_copyLand 29 = .ok (.aload_n 0, 1) := by decide +kernel
theorem dX9_copyLand_30 : decode cX9_copyLand 30 = .ok (.getfield 43, 3) := by decide +kernel
theorem dX9_copyLand_33 : decode cX9_copyLand 33 = .ok (.iload_n 1, 1) := by decide +kernel
theorem dX9_copyLand_34 : decode cX9_copyLand 34 = .ok (.iaload, 1) := by decide +kernel
theorem dX9_copyLand_35 : decode cX9_copyLand 35 = .ok (.iastore, 1) := by decide +kernel
theorem dX9_copyLand_36 : decode cX9_copyLand 36 = .ok (.aload_n 0, 1) := by decide +kernel
theorem dX9_copyLand_37 : decode cX9_copyLand 37 = .ok (.getfield 74, 3) := by decide +kernel
theorem dX9_copyLand_40 : decode cX9_copyLand 40 = .ok (.iload_n 2, 1) := by decide +kernel
theorem dX9_copyLand_41 : decode cX9_copyLand 41 = .ok (.aload_n 0, 1) := by decide +kernel
theorem dX9_copyLand_42 : decode cX9_copyLand 42 = .ok (.getfield 74, 3) := by decide +kernel
theorem dX9_copyLand_45 : decode cX9_copyLand 45 = .ok (.iload_n 1, 1) := by decide +kernel
theorem dX9_copyLand_46 : decode cX9_copyLand 46 = .ok (.iaload, 1) := by decide +kernel
theorem dX9_copyLand_47 : decode cX9_copyLand 47 = .ok (.iastore, 1) := by decide +kernel
theorem dX9_copyLand_48 : decode cX9_copyLand 48 = .ok (.aload_n 0, 1) := by decide +kernel
theorem dX9_copyLand_49 : decode cX9_copyLand 49 = .ok (.getfield 77, 3) := by decide +kernel
theorem dX9_copyLand_52 : decode cX9_copyLand 52 = .ok (.iload_n 2, 1) := by decide +kernel
theorem dX9_copyLand_53 : decode cX9_copyLand 53 = .ok (.aload_n 0, 1) := by decide +kernel
theorem dX9_copyLand_54 : decode cX9_copyLand 54 = .ok (.getfield 77, 3) := by decide +kernel
theorem dX9_copyLand_57 : decode cX9_copyLand 57 = .ok (.iload_n 1, 1) := by decide +kernel
theorem dX9_copyLand_58 : decode cX9_copyLand 58 = .ok (.iaload, 1) := by decide +kernel
theorem dX9_copyLand_59 : decode cX9_copyLand 59 = .ok (.iastore, 1) := by decide +kernel
theorem dX9_copyLand_60 : decode cX9_copyLand 60 = .ok (.aload_n 0, 1) := by decide +kernel
theorem dX9_copyLand_61 : decode cX9_copyLand 61 = .ok (.getfield 71, 3) := by decide +kernel
theorem dX9_copyLand_64 : decode cX9_copyLand 64 = .ok (.iload_n 2, 1) := by decide +kernel
theorem dX9_copyLand_65 : decode cX9_copyLand 65 = .ok (.aload_n 0, 1) := by decide +kernel
theorem dX9_copyLand_66 : decode cX9_copyLand 66 = .ok (.getfield 71, 3) := by decide +kernel
theorem dX9_copyLand_69 : decode cX9_copyLand 69 = .ok (.iload_n 1, 1) := by decide +kernel
theorem dX9_copyLand_70 : decode cX9_copyLand 70 = .ok (.iaload, 1) := by decide +kernel
theorem dX9_copyLand_71 : decode cX9_copyLand 71 = .ok (.iastore, 1) := by decide +kernel
theorem dX9_copyLand_72 : decode cX9_copyLand 72 = .ok (.aload_n 0, 1) := by decide +kernel
theorem dX9_copyLand_73 : decode cX9_copyLand 73 = .ok (.getfield 65, 3) := by decide +kernel
theorem dX9_copyLand_76 : decode cX9_copyLand 76 = .ok (.iload_n 2, 1) := by decide +kernel
theorem dX9_copyLand_77 : decode cX9_copyLand 77 = .ok (.aload_n 0, 1) := by decide +kernel
theorem dX9_copyLand_78 : decode cX9_copyLand 78 = .ok (.getfield 65, 3) := by decide +kernel
theorem dX9_copyLand_81 : decode cX9_copyLand 81 = .ok (.iload_n 1, 1) := by decide +kernel
theorem dX9_copyLand_82 : decode cX9_copyLand 82 = .ok (.baload, 1) := by decide +kernel
theorem dX9_copyLand_83 : decode cX9_copyLand 83 = .ok (.bastore, 1) := by decide +kernel
theorem dX9_copyLand_84 : decode cX9_copyLand 84 = .ok (.iconst 0, 1) := by decide +kernel
theorem dX9_copyLand_85 : decode cX9_copyLand 85 = .ok (.istore_n 3, 1) := by decide +kernel
theorem dX9_copyLand_86 : decode cX9_copyLand 86 = .ok (.iload_n 3, 1) := by decide +kernel
theorem dX9_copyLand_87 : decode cX9_copyLand 87 = .ok (.bipush 6, 2) := by decide +kernel
theorem dX9_copyLand_89 : decode cX9_copyLand 89 = .ok (.if_icmp .ge 53, 3) := by decide +kernel
theorem dX9_copyLand_92 : decode cX9_copyLand 92 = .ok (.aload_n 0, 1) := by decide +kernel
theorem dX9_copyLand_93 : decode cX9_copyLand 93 = .ok (.getfield 37, 3) := by decide +kernel
theorem dX9_copyLand_96 : decode cX9_copyLand 96 = .ok (.bipush 6, 2) := by decide +kernel
theorem dX9_copyLand_98 : decode cX9_copyLand 98 = .ok (.iload_n 2, 1) := by decide +kernel
theorem dX9_copyLand_99 : decode cX9_copyLand 99 = .ok (.imul, 1) := by decide +kernel
theorem dX9_copyLand_100 : decode cX9_copyLand 100 = .ok (.iload_n 3, 1) := by decide +kernel
theorem dX9_copyLand_101 : decode cX9_copyLand 101 = .ok (.iadd, 1) := by decide +kernel
theorem dX9_copyLand_102 : decode cX9_copyLand 102 = .ok (.aload_n 0, 1) := by decide +kernel
theorem dX9_copyLand_103 : decode cX9_copyLand 103 = .ok (.getfield 37, 3) := by decide +kernel
theorem dX9_copyLand_106 : decode cX9_copyLand 106 = .ok (.bipush 6, 2) := by decide +kernel
theorem dX9_copyLand_108 : decode cX9_copyLand 108 = .ok (.iload_n 1, 1) := by decide +kernel
theorem dX9_copyLand_109 : decode cX9_copyLand 109 = .ok (.imul, 1) := by decide +kernel
theorem dX9_copyLand_110 : decode cX9_copyLand 110 = .ok (.iload_n 3, 1) := by decide +kernel
theorem dX9_copyLand_111 : decode cX9_copyLand 111 = .ok (.iadd, 1) := by decide +kernel
theorem dX9_copyLand_112 : decode cX9_copyLand 112 = .ok (.iaload, 1) := by decide +kernel
theorem dX9_copyLand_113 : decode cX9_copyLand 113 = .ok (.iastore, 1) := by decide +kernel
theorem dX9_copyLand_114 : decode cX9_copyLand 114 = .ok (.aload_n 0, 1) := by decide +kernel
theorem dX9_copyLand_115 : decode cX9_copyLand 115 = .ok (.getfield 40, 3) := by decide +kernel
theorem dX9_copyLand_118 : decode cX9_copyLand 118 = .ok (.bipush 6, 2) := by decide +kernel
theorem dX9_copyLand_120 : decode cX9_copyLand 120 = .ok (.iload_n 2, 1) := by decide +kernel
theorem dX9_copyLand_121 : decode cX9_copyLand 121 = .ok (.imul, 1) := by decide +kernel
theorem dX9_copyLand_122 : decode cX9_copyLand 122 = .ok (.iload_n 3, 1) := by decide +kernel
theorem dX9_copyLand_123 : decode cX9_copyLand 123 = .ok (.iadd, 1) := by decide +kernel
theorem dX9_copyLand_124 : decode cX9_copyLand 124 = .ok (.aload_n 0, 1) := by decide +kernel
theorem dX9_copyLand_125 : decode cX9_copyLand 125 = .ok (.getfield 40, 3) := by decide +kernel
theorem dX9_copyLand_128 : decode cX9_copyLand 128 = .ok (.bipush 6, 2) := by decide +kernel
theorem dX9_copyLand_130 : decode cX9_copyLand 130 = .ok (.iload_n 1, 1) := by decide +kernel
theorem dX9_copyLand_131 : decode cX9_copyLand 131 = .ok (.imul, 1) := by decide +kernel
theorem dX9_copyLand_132 : decode cX9_copyLand 132 = .ok (.iload_n 3, 1) := by decide +kernel
theorem dX9_copyLand_133 : decode cX9_copyLand 133 = .ok (.iadd, 1) := by decide +kernel
theorem dX9_copyLand_134 : decode cX9_copyLand 134 = .ok (.iaload, 1) := by decide +kernel
theorem dX9_copyLand_135 : decode cX9_copyLand 135 = .ok (.iastore, 1) := by decide +kernel
theorem dX9_copyLand_136 : decode cX9_copyLand 136 = .ok (.iinc 3 1, 3) := by decide +kernel
theorem dX9_copyLand_139 : decode cX9_copyLand 139 = .ok (.goto (-53), 3) := by decide +kernel
theorem dX9_copyLand_142 : decode cX9_copyLand 142 = .ok (.iconst 0, 1) := by decide +kernel
theorem dX9_copyLand_143 : decode cX9_copyLand 143 = .ok (.istore_n 3, 1) := by decide +kernel
theorem dX9_copyLand_144 : decode cX9_copyLand 144 = .ok (.iload_n 3, 1) := by decide +kernel
theorem dX9_copyLand_145 : decode cX9_copyLand 145 = .ok (.bipush 8, 2) := by decide +kernel
theorem dX9_copyLand_147 : decode cX9_copyLand 147 = .ok (.if_icmp .ge 97, 3) := by decide +kernel
theorem dX9_copyLand_150 : decode cX9_copyLand 150 = .ok (.aload_n 0, 1) := by decide +kernel
theorem dX9_copyLand_151 : decode cX9_copyLand 151 = .ok (.getfield 46, 3) := by decide +kernel
theorem dX9_copyLand_154 : decode cX9_copyLand 154 = .ok (.bipush 8, 2) := by decide +kernel
theorem dX9_copyLand_156 : decode cX9_copyLand 156 = .ok (.iload_n 2, 1) := by decide +kernel
theorem dX9_copyLand_157 : decode cX9_copyLand 157 = .ok (.imul, 1) := by decide +kernel
theorem dX9_copyLand_158 : decode cX9_copyLand 158 = .ok (.iload_n 3, 1) := by decide +kernel
theorem dX9_copyLand_159 : decode cX9_copyLand 159 = .ok (.iadd, 1) := by decide +kernel
theorem dX9_copyLand_160 : decode cX9_copyLand 160 = .ok (.aload_n 0, 1) := by decide +kernel
theorem dX9_copyLand_161 : decode cX9_copyLand 161 = .ok (.getfield 46, 3) := by decide +kernel
theorem dX9_copyLand_164 : decode cX9_copyLand 164 = .ok (.bipush 8, 2) := by decide +kernel
theorem dX9_copyLand_166 : decode cX9_copyLand 166 = .ok (.iload_n 1, 1) := by decide +kernel
theorem dX9_copyLand_167 : decode cX9_copyLand 167 = .ok (.imul, 1) := by decide +kernel
theorem dX9_copyLand_168 : decode cX9_copyLand 168 = .ok (.iload_n 3, 1) := by decide +kernel
theorem dX9_copyLand_169 : decode cX9_copyLand 169 = .ok (.iadd, 1) := by decide +kernel
theorem dX9_copyLand_170 : decode cX9_copyLand 170 = .ok (.iaload, 1) := by decide +kernel
theorem dX9_copyLand_171 : decode cX9_copyLand 171 = .ok (.iastore, 1) := by decide +kernel
theorem dX9_copyLand_172 : decode cX9_copyLand 172 = .ok (.aload_n 0, 1) := by decide +kernel
theorem dX9_copyLand_173 : decode cX9_copyLand 173 = .ok (.getfield 49, 3) := by decide +kernel
theorem dX9_copyLand_176 : decode cX9_copyLand 176 = .ok (.bipush 8, 2) := by decide +kernel
theorem dX9_copyLand_178 : decode cX9_copyLand 178 = .ok (.iload_n 2, 1) := by decide +kernel
theorem dX9_copyLand_179 : decode cX9_copyLand 179 = .ok (.imul, 1) := by decide +kernel
theorem dX9_copyLand_180 : decode cX9_copyLand 180 = .ok (.iload_n 3, 1) := by decide +kernel
theorem dX9_copyLand_181 : decode cX9_copyLand 181 = .ok (.iadd, 1) := by decide +kernel
theorem dX9_copyLand_182 : decode cX9_copyLand 182 = .ok (.aload_n 0, 1) := by decide +kernel
theorem dX9_copyLand_183 : decode cX9_copyLand 183 = .ok (.getfield 49, 3) := by decide +kernel
theorem dX9_copyLand_186 : decode cX9_copyLand 186 = .ok (.bipush 8, 2) := by decide +kernel
theorem dX9_copyLand_188 : decode cX9_copyLand 188 = .ok (.iload_n 1, 1) := by decide +kernel
theorem dX9_copyLand_189 : decode cX9_copyLand 189 = .ok (.imul, 1) := by decide +kernel
theorem dX9_copyLand_190 : decode cX9_copyLand 190 = .ok (.iload_n 3, 1) := by decide +kernel
theorem dX9_copyLand_191 : decode cX9_copyLand 191 = .ok (.iadd, 1) := by decide +kernel
theorem dX9_copyLand_192 : decode cX9_copyLand 192 = .ok (.iaload, 1) := by decide +kernel
theorem dX9_copyLand_193 : decode cX9_copyLand 193 = .ok (.iastore, 1) := by decide +kernel
theorem dX9_copyLand_194 : decode cX9_copyLand 194 = .ok (.aload_n 0, 1) := by decide +kernel
theorem dX9_copyLand_195 : decode cX9_copyLand 195 = .ok (.getfield 52, 3) := by decide +kernel
theorem dX9_copyLand_198 : decode cX9_copyLand 198 = .ok (.bipush 8, 2) := by decide +kernel
theorem dX9_copyLand_200 : decode cX9_copyLand 200 = .ok (.iload_n 2, 1) := by decide +kernel
theorem dX9_copyLand_201 : decode cX9_copyLand 201 = .ok (.imul, 1) := by decide +kernel
theorem dX9_copyLand_202 : decode cX9_copyLand 202 = .ok (.iload_n 3, 1) := by decide +kernel
theorem dX9_copyLand_203 : decode cX9_copyLand 203 = .ok (.iadd, 1) := by decide +kernel
theorem dX9_copyLand_204 : decode cX9_copyLand 204 = .ok (.aload_n 0, 1) := by decide +kernel
theorem dX9_copyLand_205 : decode cX9_copyLand 205 = .ok (.getfield 52, 3) := by decide +kernel
theorem dX9_copyLand_208 : decode cX9_copyLand 208 = .ok (.bipush 8, 2) := by decide +kernel
theorem dX9_copyLand_210 : decode cX9_copyLand 210 = .ok (.iload_n 1, 1) := by decide +kernel
theorem dX9_copyLand_211 : decode cX9_copyLand 211 = .ok (.imul, 1) := by decide +kernel
theorem dX9_copyLand_212 : decode cX9_copyLand 212 = .ok (.iload_n 3, 1) := by decide +kernel
theorem dX9_copyLand_213 : decode cX9_copyLand 213 = .ok (.iadd, 1) := by decide +kernel
theorem dX9_copyLand_214 : decode cX9_copyLand 214 = .ok (.iaload, 1) := by decide +kernel
theorem dX9_copyLand_215 : decode cX9_copyLand 215 = .ok (.iastore, 1) := by decide +kernel
theorem dX9_copyLand_216 : decode cX9_copyLand 216 = .ok (.aload_n 0, 1) := by decide +kernel
theorem dX9_copyLand_217 : decode cX9_copyLand 217 = .ok (.getfield 55, 3) := by decide +kernel
theorem dX9_copyLand_220 : decode cX9_copyLand 220 = .ok (.bipush 8, 2) := by decide +kernel
theorem dX9_copyLand_222 : decode cX9_copyLand 222 = .ok (.iload_n 2, 1) := by decide +kernel
theorem dX9_copyLand_223 : decode cX9_copyLand 223 = .ok (.imul, 1) := by decide +kernel
theorem dX9_copyLand_224 : decode cX9_copyLand 224 = .ok (.iload_n 3, 1) := by decide +kernel
theorem dX9_copyLand_225 : decode cX9_copyLand 225 = .ok (.iadd, 1) := by decide +kernel
theorem dX9_copyLand_226 : decode cX9_copyLand 226 = .ok (.aload_n 0, 1) := by decide +kernel
theorem dX9_copyLand_227 : decode cX9_copyLand 227 = .ok (.getfield 55, 3) := by decide +kernel
theorem dX9_copyLand_230 : decode cX9_copyLand 230 = .ok (.bipush 8, 2) := by decide +kernel
theorem dX9_copyLand_232 : decode cX9_copyLand 232 = .ok (.iload_n 1, 1) := by decide +kernel
theorem dX9_copyLand_233 : decode cX9_copyLand 233 = .ok (.imul, 1) := by decide +kernel
theorem dX9_copyLand_234 : decode cX9_copyLand 234 = .ok (.iload_n 3, 1) := by decide +kernel
theorem dX9_copyLand_235 : decode cX9_copyLand 235 = .ok (.iadd, 1) := by decide +kernel
theorem dX9_copyLand_236 : decode cX9_copyLand 236 = .ok (.iaload, 1) := by decide +kernel
theorem dX9_copyLand_237 : decode cX9_copyLand 237 = .ok (.iastore, 1) := by decide +kernel
theorem dX9_copyLand_238 : decode cX9_copyLand 238 = .ok (.iinc 3 1, 3) := by decide +kernel
theorem dX9_copyLand_241 : decode cX9_copyLand 241 = .ok (.goto (-97), 3) := by decide +kernel
theorem dX9_copyLand_244 : decode cX9_copyLand 244 = .ok (.iconst 0, 1) := by decide +kernel
theorem dX9_copyLand_245 : decode cX9_copyLand 245 = .ok (.istore_n 3, 1) := by decide +kernel
theorem dX9_copyLand_246 : decode cX9_copyLand 246 = .ok (.iload_n 3, 1) := by decide +kernel
theorem dX9_copyLand_247 : decode cX9_copyLand 247 = .ok (.bipush 12, 2) := by decide +kernel
theorem dX9_copyLand_249 : decode cX9_copyLand 249 = .ok (.if_icmp .ge 31, 3) := by decide +kernel
theorem dX9_copyLand_252 : decode cX9_copyLand 252 = .ok (.aload_n 0, 1) := by decide +kernel
theorem dX9_copyLand_253 : decode cX9_copyLand 253 = .ok (.getfield 62, 3) := by decide +kernel
theorem dX9_copyLand_256 : decode cX9_copyLand 256 = .ok (.bipush 12, 2) := by decide +kernel
theorem dX9_copyLand_258 : decode cX9_copyLand 258 = .ok (.iload_n 2, 1) := by decide +kernel
theorem dX9_copyLand_259 : decode cX9_copyLand 259 = .ok (.imul, 1) := by decide +kernel
theorem dX9_copyLand_260 : decode cX9_copyLand 260 = .ok (.iload_n 3, 1) := by decide +kernel
theorem dX9_copyLand_261 : decode cX9_copyLand 261 = .ok (.iadd, 1) := by decide +kernel
theorem dX9_copyLand_262 : decode cX9_copyLand 262 = .ok (.aload_n 0, 1) := by decide +kernel
theorem dX9_copyLand_263 : decode cX9_copyLand 263 = .ok (.getfield 62, 3) := by decide +kernel
theorem dX9_copyLand_266 : decode cX9_copyLand 266 = .ok (.bipush 12, 2) := by decide +kernel
theorem dX9_copyLand_268 : decode cX9_copyLand 268 = .ok (.iload_n 1, 1) := by decide +kernel
theorem dX9_copyLand_269 : decode cX9_copyLand 269 = .ok (.imul, 1) := by decide +kernel
theorem dX9_copyLand_270 : decode cX9_copyLand 270 = .ok (.iload_n 3, 1) := by decide +kernel
theorem dX9_copyLand_271 : decode cX9_copyLand 271 = .ok (.iadd, 1) := by decide +kernel
theorem dX9_copyLand_272 : decode cX9_copyLand 272 = .ok (.iaload, 1) := by decide +kernel
theorem dX9_copyLand_273 : decode cX9_copyLand 273 = .ok (.iastore, 1) := by decide +kernel
theorem dX9_copyLand_274 : decode cX9_copyLand 274 = .ok (.iinc 3 1, 3) := by decide +kernel
theorem dX9_copyLand_277 : decode cX9_copyLand 277 = .ok (.goto (-31), 3) := by decide +kernel
theorem dX9_copyLand_280 : decode cX9_copyLand 280 = .ok (.iconst 0, 1) := by decide +kernel
theorem dX9_copyLand_281 : decode cX9_copyLand 281 = .ok (.istore_n 3, 1) := by decide +kernel
theorem dX9_copyLand_282 : decode cX9_copyLand 282 = .ok (.iload_n 3, 1) := by decide +kernel
theorem dX9_copyLand_283 : decode cX9_copyLand 283 = .ok (.aload_n 0, 1) := by decide +kernel
theorem dX9_copyLand_284 : decode cX9_copyLand 284 = .ok (.getfield 77, 3) := by decide +kernel
theorem dX9_copyLand_287 : decode cX9_copyLand 287 = .ok (.iload_n 1, 1) := by decide +kernel
theorem dX9_copyLand_288 : decode cX9_copyLand 288 = .ok (.iaload, 1) := by decide +kernel
theorem dX9_copyLand_289 : decode cX9_copyLand 289 = .ok (.if_icmp .ge 33, 3) := by decide +kernel
theorem dX9_copyLand_322 : decode cX9_copyLand 322 = .ok (.return_, 1) := by decide +kernel
set_option maxRecDepth 20000 in
theorem ggX9_isState_X9_in : GoodIn wsX9_isState wsX9_in := goodIn_r _ [5] (by decide +kernel) (by decide +kernel)
set_option maxRecDepth 20000 in
theorem gX9_isState_X9_in : GoodIn wsX9_isState (va_wsS RX9 130 yX9_in wsX9_in) := goodIn_app (goodIn_of _ (by decide +kernel)) ggX9_isState_X9_in
theorem dX9_isState_0 : decode cX9_isState 0 = .ok (.iload_n 1, 1) := by decide +kernel
theorem dX9_isState_1 : decode cX9_isState 1 = .ok (.i2l, 1) := by decide +kernel
theorem dX9_isState_2 : decode cX9_isState 2 = .ok (.lconst 0, 1) := by decide +kernel
theorem dX9_isState_3 : decode cX9_isState 3 = .ok (.aload_n 0, 1) := by decide +kernel
theorem dX9_isState_4 : decode cX9_isState 4 = .ok (.getfield 34, 3) := by decide +kernel
theorem dX9_isState_7 : decode cX9_isState 7 = .ok (.iconst 0, 1) := by decide +kernel
theorem dX9_isState_8 : decode cX9_isState 8 = .ok (.iaload, 1) := by decide +kernel
theorem dX9_isState_9 : decode cX9_isState 9 = .ok (.iconst 1, 1) := by decide +kernel
theorem dX9_isState_10 : decode cX9_isState 10 = .ok (.isub, 1) := by decide +kernel
theorem dX9_isState_11 : decode cX9_isState 11 = .ok (.i2l, 1) := by decide +kernel
theorem dX9_isState_12 : decode cX9_isState 12 = .ok (.invokestatic 130, 3) := by decide +kernel
theorem dX9_isState_15 : decode cX9_isState 15 = .ok (.ireturn, 1) := by decide +kernel
set_option maxRecDepth 20000 in
theorem ggX9_isMonth_X9_in : GoodIn wsX9_isMonth wsX9_in := goodIn_r _ [5] (by decide +kernel) (by decide +kernel)
set_option maxRecDepth 20000 in
theorem gX9_isMonth_X9_in : GoodIn wsX9_isMonth (va_wsS RX9 130 yX9_in wsX9_in) := goodIn_app (goodIn_of _ (by decide +kernel)) ggX9_isMonth_X9_in
theorem dX9_isMonth_0 : decode cX9_isMonth 0 = .ok (.iload_n 0, 1) := by decide +kernel
theorem dX9_isMonth_1 : decode cX9_isMonth 1 = .ok (.i2l, 1) := by decide +kernel
theorem dX9_isMonth_2 : decode cX9_isMonth 2 = .ok (.lconst 1, 1) := by decide +kernel
theorem dX9_isMonth_3 : decode cX9_isMonth 3 = .ok (.ldc2_w 222, 3) := by decide +kernel
theorem dX9_isMonth_6 : decode cX9_isMonth 6 = .ok (.invokestatic 130, 3) := by decide +kernel
theorem dX9_isMonth_9 : decode cX9_isMonth 9 = .ok (.ireturn, 1) := by decide +kernel
set_option maxRecDepth 20000 in
theorem ggX9_forced_X9_isState : GoodIn wsX9_forced wsX9_isState := goodIn_r _ [6, 7, 8, 9, 5, 10, 25, 26, 27, 28, 29, 30, 31, 32, 33, 34, 35, 36, 37, 38, 39, 40, 41, 42, 43, 44, 45, 46, 47, 48, 49, 50, 51, 52, 53, 54, 55, 56, 57, 58, 59, 60, 61, 62, 63, 64, 65, 66, 67, 68, 69, 70, 71, 72, 73, 74, 75, 76, 77, 78, 79, 80, 81, 82, 83, 84] (by decide +kernel) (by decide +kernel)
set_option maxRecDepth 20000 in
theorem gX9_forced_X9_isState : GoodIn wsX9_forced (wsV RX9 296 RX9 yX9_isState wsX9_isState) := goodIn_app (goodIn_of _ (by decide +kernel)) ggX9_forced_X9_isState
theorem dX9_forced_0 : decode cX9_forced 0 = .ok (.aload_n 0, 1) := by decide +kernel
theorem dX9_forced_1 : decode cX9_forced 1 = .ok (.iconst 0, 1) := by decide +kernel
theorem dX9_forced_2 : decode cX9_forced 2 = .ok (.putfield 125, 3) := by decide +kernel
theorem dX9_forced_5 : decode cX9_forced 5 = .ok (.aload_n 0, 1) := by decide +kernel
theorem dX9_forced_6 : decode cX9_forced 6 = .ok (.iload_n 1, 1) := by decide +kernel
theorem dX9_forced_7 : decode cX9_forced 7 = .ok (.invokevirtual 296, 3) := by decide +kernel
theorem dX9_forced_10 : decode cX9_forced 10 = .ok (.ifCond .eq 19, 3) := by decide +kernel
theorem dX9_forced_29 : decode cX9_forced 29 = .ok (.bipush (-2), 2) := by decide +kernel
theorem dX9_forced_31 : decode cX9_forced 31 = .ok (.ireturn, 1) := by decide +kernel
set_option maxRecDepth 20000 in
theorem ggX9_old_X9_isState : GoodIn wsX9_old wsX9_isState := goodIn_r _ [6, 7, 8, 9, 5, 10, 20, 21, 22, 23, 24, 25, 26, 27, 28, 29, 30, 31, 32, 33, 34, 35, 36, 37, 38, 39, 40, 41, 42, 43, 44, 45, 46, 47, 48, 49, 50, 51, 52, 53, 54, 55, 56, 57, 58, 59, 60, 61, 62, 63, 64, 65, 66, 67, 68, 69, 70, 71, 72, 73, 74, 75, 76, 77, 78, 79] (by decide +kernel) (by decide +kernel)
set_option maxRecDepth 20000 in
theorem gX9_old_X9_isState : GoodIn wsX9_old (wsV RX9 296 RX9 yX9_isState wsX9_isState) := goodIn_app (goodIn_of _ (by decide +kernel)) ggX9_old_X9_isState
theorem dX9_old_0 : decode cX9_old 0 = .ok (.aload_n 0, 1) := by decide +kernel
theorem dX9_old_1 : decode cX9_old 1 = .ok (.iconst 0, 1) := by decide +kernel
theorem dX9_old_2 : decode cX9_old 2 = .ok (.putfield 125, 3) := by decide +kernel
theorem dX9_old_5 : decode cX9_old 5 = .ok (.aload_n 0, 1) := by decide +kernel
theorem dX9_old_6 : decode cX9_old 6 = .ok (.iload_n 1, 1) := by decide +kernel
theorem dX9_old_7 : decode cX9_old 7 = .ok (.invokevirtual 296, 3) := by decide +kernel
theorem dX9_old_10 : decode cX9_old 10 = .ok (.ifCond .eq 19, 3) := by decide +kernel
theorem dX9_old_29 : decode cX9_old 29 = .ok (.bipush (-2), 2) := by decide +kernel
theorem dX9_old_31 : decode cX9_old 31 = .ok (.ireturn, 1) := by decide +kernel
set_option maxRecDepth 20000 in
theorem ggX9_wage_X9_in : GoodIn wsX9_wage wsX9_in := goodIn_r _ [7] (by decide +kernel) (by decide +kernel)
set_option maxRecDepth 20000 in
theorem gX9_wage_X9_in : GoodIn wsX9_wage (va_wsS RX9 130 yX9_in wsX9_in) := goodIn_app (goodIn_of _ (by decide +kernel)) ggX9_wage_X9_in
set_option maxRecDepth 20000 in
theorem ggX9_wage_X9_isMonth : GoodIn wsX9_wage wsX9_isMonth := goodIn_r _ [10, 11, 4, 5, 6, 7] (by decide +kernel) (by decide +kernel)
set_option maxRecDepth 20000 in
theorem gX9_wage_X9_isMonth : GoodIn wsX9_wage (va_wsS RX9 299 yX9_isMonth wsX9_isMonth) := goodIn_app (goodIn_of _ (by decide +kernel)) ggX9_wage_X9_isMonth
set_option maxRecDepth 20000 in
theorem ggX9_wage_X9_isState : GoodIn wsX9_wage wsX9_isState := goodIn_r _ [15, 16, 4, 5, 6, 7, 41, 42, 43, 44, 45, 46, 47, 48, 49, 50, 51, 52, 53, 54, 55, 56, 57, 58, 59, 60, 61, 62, 63, 64, 65, 66, 67, 68, 69, 70, 71, 72, 73, 74, 75, 76, 77, 78, 79, 80, 81, 82, 83, 84, 85, 86, 87, 88, 89, 90, 91, 92, 93, 94, 95, 96, 97, 98, 99, 100] (by decide +kernel) (by decide +kernel)
set_option maxRecDepth 20000 in
theorem gX9_wage_X9_isState : GoodIn wsX9_wage (wsV RX9 296 RX9 yX9_isState wsX9_isState) := goodIn_app (goodIn_of _ (by decide +kernel)) ggX9_wage_X9_isState
theorem dX9_wage_0 : decode cX9_wage 0 = .ok (.aload_n 0, 1) := by decide +kernel
theorem dX9_wage_1 : decode cX9_wage 1 = .ok (.iconst 0, 1) := by decide +kernel
theorem dX9_wage_2 : decode cX9_wage 2 = .ok (.putfield 125, 3) := by decide +kernel
theorem dX9_wage_5 : decode cX9_wage 5 = .ok (.iload_n 1, 1) := by decide +kernel
theorem dX9_wage_6 : decode cX9_wage 6 = .ok (.i2l, 1) := by decide +kernel
theorem dX9_wage_7 : decode cX9_wage 7 = .ok (.lconst 0, 1) := by decide +kernel
theorem dX9_wage_8 : decode cX9_wage 8 = .ok (.ldc2_w 315, 3) := by decide +kernel
theorem dX9_wage_11 : decode cX9_wage 11 = .ok (.invokestatic 130, 3) := by decide +kernel
theorem dX9_wage_14 : decode cX9_wage 14 = .ok (.ifCond .eq 31, 3) := by decide +kernel
theorem dX9_wage_17 : decode cX9_wage 17 = .ok (.iload_n 2, 1) := by decide +kernel
theorem dX9_wage_18 : decode cX9_wage 18 = .ok (.i2l, 1) := by decide +kernel
theorem dX9_wage_19 : decode cX9_wage 19 = .ok (.lconst 0, 1) := by decide +kernel
theorem dX9_wage_20 : decode cX9_wage 20 = .ok (.ldc2_w 317, 3) := by decide +kernel
theorem dX9_wage_23 : decode cX9_wage 23 = .ok (.invokestatic 130, 3) := by decide +kernel
theorem dX9_wage_26 : decode cX9_wage 26 = .ok (.ifCond .eq 19, 3) := by decide +kernel
theorem dX9_wage_29 : decode cX9_wage 29 = .ok (.iload_n 3, 1) := by decide +kernel
theorem dX9_wage_30 : decode cX9_wage 30 = .ok (.invokestatic 299, 3) := by decide +kernel
theorem dX9_wage_33 : decode cX9_wage 33 = .ok (.ifCond .eq 12, 3) := by decide +kernel
theorem dX9_wage_36 : decode cX9_wage 36 = .ok (.aload_n 0, 1) := by decide +kernel
theorem dX9_wage_37 : decode cX9_wage 37 = .ok (.iload 4, 2) := by decide +kernel
theorem dX9_wage_39 : decode cX9_wage 39 = .ok (.invokevirtual 296, 3) := by decide +kernel
theorem dX9_wage_42 : decode cX9_wage 42 = .ok (.ifCond .ne 6, 3) := by decide +kernel
theorem dX9_wage_45 : decode cX9_wage 45 = .ok (.bipush (-2), 2) := by decide +kernel
theorem dX9_wage_47 : decode cX9_wage 47 = .ok (.ireturn, 1) := by decide +kernel
theorem dX9_copySheets_0 : decode cX9_copySheets 0 = .ok (.aload_n 0, 1) := by decide +kernel
theorem dX9_copySheets_1 : decode cX9_copySheets 1 = .ok (.getfield 89, 3) := by decide +kernel
theorem dX9_copySheets_4 : decode cX9_copySheets 4 = .ok (.iload_n 2, 1) := by decide +kernel
theorem dX9_copySheets_5 : decode cX9_copySheets 5 = .ok (.aload_n 0, 1) := by decide +kernel
theorem dX9_copySheets_6 : decode cX9_copySheets 6 = .ok (.getfield 89, 3) := by decide +kernel
theorem dX9_copySheets_9 : decode cX9_copySheets 9 = .ok (.iload_n 1, 1) := by decide +kernel
theorem dX9_copySheets_10 : decode cX9_copySheets 10 = .ok (.iaload, 1) := by decide +kernel
theorem dX9_copySheets_11 : decode cX9_copySheets 11 = .ok (.iastore, 1) := by decide +kernel
theorem dX9_copySheets_12 : decode cX9_copySheets 12 = .ok (.iconst 0, 1) := by decide +kernel
theorem dX9_copySheets_13 : decode cX9_copySheets 13 = .ok (.istore_n 3, 1) := by decide +kernel
theorem dX9_copySheets_14 : decode cX9_copySheets 14 = .ok (.iload_n 3, 1) := by decide +kernel
theorem dX9_copySheets_15 : decode cX9_copySheets 15 = .ok (.aload_n 0, 1) := by decide +kernel
theorem dX9_copySheets_16 : decode cX9_copySheets 16 = .ok (.getfield 89, 3) := by decide +kernel
theorem dX9_copySheets_19 : decode cX9_copySheets 19 = .ok (.iload_n 1, 1) := by decide +kernel
theorem dX9_copySheets_20 : decode cX9_copySheets 20 = .ok (.iaload, 1) := by decide +kernel
theorem dX9_copySheets_21 : decode cX9_copySheets 21 = .ok (.if_icmp .ge 27, 3) := by decide +kernel
theorem dX9_copySheets_48 : decode cX9_copySheets 48 = .ok (.return_, 1) := by decide +kernel
set_option maxRecDepth 20000 in
theorem ggX9_isSeed_X9_in : GoodIn wsX9_isSeed wsX9_in := goodIn_r _ [5] (by decide +kernel) (by decide +kernel)
set_option maxRecDepth 20000 in
theorem gX9_isSeed_X9_in : GoodIn wsX9_isSeed (va_wsS RX9 130 yX9_in wsX9_in) := goodIn_app (goodIn_of _ (by decide +kernel)) ggX9_isSeed_X9_in
theorem dX9_isSeed_0 : decode cX9_isSeed 0 = .ok (.iload_n 0, 1) := by decide +kernel
theorem dX9_isSeed_1 : decode cX9_isSeed 1 = .ok (.i2l, 1) := by decide +kernel
theorem dX9_isSeed_2 : decode cX9_isSeed 2 = .ok (.lconst 0, 1) := by decide +kernel
theorem dX9_isSeed_3 : decode cX9_isSeed 3 = .ok (.ldc2_w 345, 3) := by decide +kernel
theorem dX9_isSeed_6 : decode cX9_isSeed 6 = .ok (.invokestatic 130, 3) := by decide +kernel
theorem dX9_isSeed_9 : decode cX9_isSeed 9 = .ok (.ireturn, 1) := by decide +kernel
set_option maxRecDepth 20000 in
theorem ggX9_draw_X9_isSeed : GoodIn wsX9_draw wsX9_isSeed := goodIn_r _ [8, 9, 10, 11, 7, 12] (by decide +kernel) (by decide +kernel)
set_option maxRecDepth 20000 in
theorem gX9_draw_X9_isSeed : GoodIn wsX9_draw (va_wsS RX9 347 yX9_isSeed wsX9_isSeed) := goodIn_app (goodIn_of _ (by decide +kernel)) ggX9_draw_X9_isSeed
set_option maxRecDepth 20000 in
theorem ggX9_draw_X9_in : GoodIn wsX9_draw wsX9_in := goodIn_r _ [12] (by decide +kernel) (by decide +kernel)
set_option maxRecDepth 20000 in
theorem gX9_draw_X9_in : GoodIn wsX9_draw (va_wsS RX9 130 yX9_in wsX9_in) := goodIn_app (goodIn_of _ (by decide +kernel)) ggX9_draw_X9_in
theorem dX9_draw_0 : decode cX9_draw 0 = .ok (.aload_n 0, 1) := by decide +kernel
theorem dX9_draw_1 : decode cX9_draw 1 = .ok (.iconst 0, 1) := by decide +kernel
theorem dX9_draw_2 : decode cX9_draw 2 = .ok (.putfield 125, 3) := by decide +kernel
theorem dX9_draw_5 : decode cX9_draw 5 = .ok (.iload_n 1, 1) := by decide +kernel
theorem dX9_draw_6 : decode cX9_draw 6 = .ok (.invokestatic 347, 3) := by decide +kernel
theorem dX9_draw_9 : decode cX9_draw 9 = .ok (.ifCond .eq 15, 3) := by decide +kernel
theorem dX9_draw_12 : decode cX9_draw 12 = .ok (.iload_n 2, 1) := by decide +kernel
theorem dX9_draw_13 : decode cX9_draw 13 = .ok (.i2l, 1) := by decide +kernel
theorem dX9_draw_14 : decode cX9_draw 14 = .ok (.lconst 1, 1) := by decide +kernel
theorem dX9_draw_15 : decode cX9_draw 15 = .ok (.ldc2_w 350, 3) := by decide +kernel
theorem dX9_draw_18 : decode cX9_draw 18 = .ok (.invokestatic 130, 3) := by decide +kernel
theorem dX9_draw_21 : decode cX9_draw 21 = .ok (.ifCond .ne 6, 3) := by decide +kernel
theorem dX9_draw_24 : decode cX9_draw 24 = .ok (.bipush (-2), 2) := by decide +kernel
theorem dX9_draw_26 : decode cX9_draw 26 = .ok (.ireturn, 1) := by decide +kernel
theorem dX9_draw_27 : decode cX9_draw 27 = .ok (.aload_n 0, 1) := by decide +kernel
theorem dX9_draw_28 : decode cX9_draw 28 = .ok (.getfield 34, 3) := by decide +kernel
theorem dX9_draw_31 : decode cX9_draw 31 = .ok (.iconst 0, 1) := by decide +kernel
theorem dX9_draw_32 : decode cX9_draw 32 = .ok (.iaload, 1) := by decide +kernel
theorem dX9_draw_33 : decode cX9_draw 33 = .ok (.ifCond .eq 12, 3) := by decide +kernel
theorem dX9_draw_45 : decode cX9_draw 45 = .ok (.bipush (-6), 2) := by decide +kernel
theorem dX9_draw_47 : decode cX9_draw 47 = .ok (.ireturn, 1) := by decide +kernel
set_option maxRecDepth 20000 in
theorem ggX9_tells_X9_in : GoodIn wsX9_tells wsX9_in := goodIn_r _ [15] (by decide +kernel) (by decide +kernel)
set_option maxRecDepth 20000 in
theorem gX9_tells_X9_in : GoodIn wsX9_tells (va_wsS RX9 130 yX9_in wsX9_in) := goodIn_app (goodIn_of _ (by decide +kernel)) ggX9_tells_X9_in
theorem dX9_tells_0 : decode cX9_tells 0 = .ok (.lload_n 1, 1) := by decide +kernel
theorem dX9_tells_1 : decode cX9_tells 1 = .ok (.lconst 0, 1) := by decide +kernel
theorem dX9_tells_2 : decode cX9_tells 2 = .ok (.aload_n 0, 1) := by decide +kernel
theorem dX9_tells_3 : decode cX9_tells 3 = .ok (.getfield 34, 3) := by decide +kernel
theorem dX9_tells_6 : decode cX9_tells 6 = .ok (.iconst 0, 1) := by decide +kernel
theorem dX9_tells_7 : decode cX9_tells 7 = .ok (.iaload, 1) := by decide +kernel
theorem dX9_tells_8 : decode cX9_tells 8 = .ok (.iconst 1, 1) := by decide +kernel
theorem dX9_tells_9 : decode cX9_tells 9 = .ok (.isub, 1) := by decide +kernel
theorem dX9_tells_10 : decode cX9_tells 10 = .ok (.i2l, 1) := by decide +kernel
theorem dX9_tells_11 : decode cX9_tells 11 = .ok (.invokestatic 130, 3) := by decide +kernel
theorem dX9_tells_14 : decode cX9_tells 14 = .ok (.ifCond .eq 38, 3) := by decide +kernel
theorem dX9_tells_52 : decode cX9_tells 52 = .ok (.bipush (-2), 2) := by decide +kernel
theorem dX9_tells_54 : decode cX9_tells 54 = .ok (.ireturn, 1) := by decide +kernel
set_option maxRecDepth 20000 in
theorem ggX9_sheet_X9_tells : GoodIn wsX9_sheet wsX9_tells := goodIn_r _ [6, 7, 8, 9, 10, 11, 12, 13, 14, 15, 16, 17, 18, 19, 5, 20, 21, 22, 23, 24, 25, 26, 27, 28, 29, 30, 31, 32, 33, 34, 35, 36, 37, 38, 39, 40, 41, 42, 43, 44, 45, 46, 47, 48, 49, 50, 51, 52, 53, 54, 55, 56, 57, 58, 59, 60, 61, 62, 63, 64, 65, 66, 67, 68, 69, 70, 71, 72, 73, 74, 75, 76, 77, 78, 79, 80] (by decide +kernel) (by decide +kernel)
set_option maxRecDepth 20000 in
theorem gX9_sheet_X9_tells : GoodIn wsX9_sheet (wsV RX9 356 RX9 yX9_tells wsX9_tells) := goodIn_app (goodIn_of _ (by decide +kernel)) ggX9_sheet_X9_tells
theorem dX9_sheet_0 : decode cX9_sheet 0 = .ok (.aload_n 0, 1) := by decide +kernel
theorem dX9_sheet_1 : decode cX9_sheet 1 = .ok (.iconst 0, 1) := by decide +kernel
theorem dX9_sheet_2 : decode cX9_sheet 2 = .ok (.putfield 125, 3) := by decide +kernel
theorem dX9_sheet_5 : decode cX9_sheet 5 = .ok (.aload_n 0, 1) := by decide +kernel
theorem dX9_sheet_6 : decode cX9_sheet 6 = .ok (.iload_n 1, 1) := by decide +kernel
theorem dX9_sheet_7 : decode cX9_sheet 7 = .ok (.i2l, 1) := by decide +kernel
theorem dX9_sheet_8 : decode cX9_sheet 8 = .ok (.iload_n 2, 1) := by decide +kernel
theorem dX9_sheet_9 : decode cX9_sheet 9 = .ok (.i2l, 1) := by decide +kernel
theorem dX9_sheet_10 : decode cX9_sheet 10 = .ok (.iload_n 3, 1) := by decide +kernel
theorem dX9_sheet_11 : decode cX9_sheet 11 = .ok (.i2l, 1) := by decide +kernel
theorem dX9_sheet_12 : decode cX9_sheet 12 = .ok (.iload 4, 2) := by decide +kernel
theorem dX9_sheet_14 : decode cX9_sheet 14 = .ok (.i2l, 1) := by decide +kernel
theorem dX9_sheet_15 : decode cX9_sheet 15 = .ok (.invokevirtual 356, 3) := by decide +kernel
theorem dX9_sheet_18 : decode cX9_sheet 18 = .ok (.ireturn, 1) := by decide +kernel
set_option maxRecDepth 20000 in
theorem ggX9_sheets_X9_isSlot : GoodIn wsX9_sheets wsX9_isSlot := goodIn_r _ [8, 9, 10, 11, 7, 12] (by decide +kernel) (by decide +kernel)
set_option maxRecDepth 20000 in
theorem gX9_sheets_X9_isSlot : GoodIn wsX9_sheets (va_wsS RX9 134 yX9_isSlot wsX9_isSlot) := goodIn_app (goodIn_of _ (by decide +kernel)) ggX9_sheets_X9_isSlot
theorem dX9_sheets_0 : decode cX9_sheets 0 = .ok (.aload_n 0, 1) := by decide +kernel
theorem dX9_sheets_1 : decode cX9_sheets 1 = .ok (.iconst 0, 1) := by decide +kernel
theorem dX9_sheets_2 : decode cX9_sheets 2 = .ok (.putfield 125, 3) := by decide +kernel
theorem dX9_sheets_5 : decode cX9_sheets 5 = .ok (.iload_n 1, 1) := by decide +kernel
theorem dX9_sheets_6 : decode cX9_sheets 6 = .ok (.invokestatic 134, 3) := by decide +kernel
theorem dX9_sheets_9 : decode cX9_sheets 9 = .ok (.ifCond .ne 6, 3) := by decide +kernel
theorem dX9_sheets_12 : decode cX9_sheets 12 = .ok (.bipush (-2), 2) := by decide +kernel
theorem dX9_sheets_14 : decode cX9_sheets 14 = .ok (.ireturn, 1) := by decide +kernel
theorem dX9_sheets_15 : decode cX9_sheets 15 = .ok (.aload_n 0, 1) := by decide +kernel
theorem dX9_sheets_16 : decode cX9_sheets 16 = .ok (.getfield 7, 3) := by decide +kernel
theorem dX9_sheets_19 : decode cX9_sheets 19 = .ok (.iload_n 1, 1) := by decide +kernel
theorem dX9_sheets_20 : decode cX9_sheets 20 = .ok (.iaload, 1) := by decide +kernel
theorem dX9_sheets_21 : decode cX9_sheets 21 = .ok (.iconst (-1), 1) := by decide +kernel
theorem dX9_sheets_22 : decode cX9_sheets 22 = .ok (.if_icmp .ne 6, 3) := by decide +kernel
theorem dX9_sheets_25 : decode cX9_sheets 25 = .ok (.bipush (-6), 2) := by decide +kernel
theorem dX9_sheets_27 : decode cX9_sheets 27 = .ok (.ireturn, 1) := by decide +kernel
set_option maxRecDepth 20000 in
theorem ggX9_isSheet_X9_in : GoodIn wsX9_isSheet wsX9_in := goodIn_r _ [5] (by decide +kernel) (by decide +kernel)
set_option maxRecDepth 20000 in
theorem gX9_isSheet_X9_in : GoodIn wsX9_isSheet (va_wsS RX9 130 yX9_in wsX9_in) := goodIn_app (goodIn_of _ (by decide +kernel)) ggX9_isSheet_X9_in
theorem dX9_isSheet_0 : decode cX9_isSheet 0 = .ok (.iload_n 1, 1) := by decide +kernel
theorem dX9_isSheet_1 : decode cX9_isSheet 1 = .ok (.i2l, 1) := by decide +kernel
theorem dX9_isSheet_2 : decode cX9_isSheet 2 = .ok (.lconst 0, 1) := by decide +kernel
theorem dX9_isSheet_3 : decode cX9_isSheet 3 = .ok (.aload_n 0, 1) := by decide +kernel
theorem dX9_isSheet_4 : decode cX9_isSheet 4 = .ok (.getfield 89, 3) := by decide +kernel
theorem dX9_isSheet_7 : decode cX9_isSheet 7 = .ok (.iconst 0, 1) := by decide +kernel
theorem dX9_isSheet_8 : decode cX9_isSheet 8 = .ok (.iaload, 1) := by decide +kernel
theorem dX9_isSheet_9 : decode cX9_isSheet 9 = .ok (.iconst 1, 1) := by decide +kernel
theorem dX9_isSheet_10 : decode cX9_isSheet 10 = .ok (.isub, 1) := by decide +kernel
theorem dX9_isSheet_11 : decode cX9_isSheet 11 = .ok (.i2l, 1) := by decide +kernel
theorem dX9_isSheet_12 : decode cX9_isSheet 12 = .ok (.invokestatic 130, 3) := by decide +kernel
theorem dX9_isSheet_15 : decode cX9_isSheet 15 = .ok (.ireturn, 1) := by decide +kernel
set_option maxRecDepth 20000 in
theorem ggX9_isThere_X9_isSheet : GoodIn wsX9_isThere wsX9_isSheet := goodIn_r _ [6, 7, 8, 9, 5, 10, 16, 17, 18, 19, 20, 21, 22, 23, 24, 25, 26, 27, 28, 29, 30, 31, 32, 33, 34, 35, 36, 37, 38, 39, 40, 41, 42, 43, 44, 45, 46, 47, 48, 49, 50, 51, 52, 53, 54, 55, 56, 57, 58, 59, 60, 61, 62, 63, 64, 65, 66, 67, 68, 69, 70, 71, 72, 73, 74, 75] (by decide +kernel) (by decide +kernel)
set_option maxRecDepth 20000 in
theorem gX9_isThere_X9_isSheet : GoodIn wsX9_isThere (wsV RX9 360 RX9 yX9_isSheet wsX9_isSheet) := goodIn_app (goodIn_of _ (by decide +kernel)) ggX9_isThere_X9_isSheet
theorem dX9_isThere_0 : decode cX9_isThere 0 = .ok (.aload_n 0, 1) := by decide +kernel
theorem dX9_isThere_1 : decode cX9_isThere 1 = .ok (.iload_n 1, 1) := by decide +kernel
theorem dX9_isThere_2 : decode cX9_isThere 2 = .ok (.invokevirtual 360, 3) := by decide +kernel
theorem dX9_isThere_5 : decode cX9_isThere 5 = .ok (.ifCond .eq 20, 3) := by decide +kernel
theorem dX9_isThere_25 : decode cX9_isThere 25 = .ok (.iconst 0, 1) := by decide +kernel
theorem dX9_isThere_26 : decode cX9_isThere 26 = .ok (.ireturn, 1) := by decide +kernel
set_option maxRecDepth 20000 in
theorem ggX9_told_X9_isSheet : GoodIn wsX9_told wsX9_isSheet := goodIn_r _ [12, 13, 14, 15, 11, 16, 17, 18, 19, 20, 21, 22, 23, 24, 25, 26, 27, 28, 29, 30, 31, 32, 33, 34, 35, 36, 37, 38, 39, 40, 41, 42, 43, 44, 45, 46, 47, 48, 49, 50, 51, 52, 53, 54, 55, 56, 57, 58, 59, 60, 61, 62, 63, 64, 65, 66, 67, 68, 69, 70, 71, 72, 73, 74, 75, 76] (by decide +kernel) (by decide +kernel)
set_option maxRecDepth 20000 in
theorem gX9_told_X9_isSheet : GoodIn wsX9_told (wsV RX9 360 RX9 yX9_isSheet wsX9_isSheet) := goodIn_app (goodIn_of _ (by decide +kernel)) ggX9_told_X9_isSheet
theorem dX9_told_0 : decode cX9_told 0 = .ok (.aload_n 0, 1) := by decide +kernel
theorem dX9_told_1 : decode cX9_told 1 = .ok (.iconst 0, 1) := by decide +kernel
theorem dX9_told_2 : decode cX9_told 2 = .ok (.putfield 125, 3) := by decide +kernel
theorem dX9_told_5 : decode cX9_told 5 = .ok (.aload_n 0, 1) := by decide +kernel
theorem dX9_told_6 : decode cX9_told 6 = .ok (.iload_n 1, 1) := by decide +kernel
theorem dX9_told_7 : decode cX9_told 7 = .ok (.invokevirtual 360, 3) := by decide +kernel
theorem dX9_told_10 : decode cX9_told 10 = .ok (.ifCond .ne 5, 3) := by decide +kernel
theorem dX9_told_13 : decode cX9_told 13 = .ok (.iconst (-1), 1) := by decide +kernel
theorem dX9_told_14 : decode cX9_told 14 = .ok (.ireturn, 1) := by decide +kernel
set_option maxRecDepth 20000 in
theorem ggX9_would_X9_isThere : GoodIn wsX9_would wsX9_isThere := goodIn_r _ [8, 2, 9, 10, 11, 7, 12, 13, 14, 15, 16, 17, 18, 19, 20, 21, 36, 37, 38, 39, 40, 41, 42, 43, 44, 45, 46, 47, 48, 49, 50, 51, 52, 53, 54, 55, 56, 57, 58, 59, 60, 61, 62, 63, 64, 65, 66, 67, 68, 69, 70, 71, 72, 73, 74, 75, 76, 77, 78, 79, 80, 81, 82, 83, 84, 85, 86, 87, 88, 89, 90, 91, 92, 93, 94, 95] (by decide +kernel) (by decide +kernel)
set_option maxRecDepth 20000 in
theorem gX9_would_X9_isThere : GoodIn wsX9_would (wsV RX9 363 RX9 yX9_isThere wsX9_isThere) := goodIn_app (goodIn_of _ (by decide +kernel)) ggX9_would_X9_isThere
theorem dX9_would_0 : decode cX9_would 0 = .ok (.aload_n 0, 1) := by decide +kernel
theorem dX9_would_1 : decode cX9_would 1 = .ok (.iconst 0, 1) := by decide +kernel
theorem dX9_would_2 : decode cX9_would 2 = .ok (.putfield 125, 3) := by decide +kernel
theorem dX9_would_5 : decode cX9_would 5 = .ok (.aload_n 0, 1) := by decide +kernel
theorem dX9_would_6 : decode cX9_would 6 = .ok (.iload_n 1, 1) := by decide +kernel
theorem dX9_would_7 : decode cX9_would 7 = .ok (.invokevirtual 363, 3) := by decide +kernel
theorem dX9_would_10 : decode cX9_would 10 = .ok (.ifCond .eq 10, 3) := by decide +kernel
theorem dX9_would_20 : decode cX9_would 20 = .ok (.bipush (-2), 2) := by decide +kernel
theorem dX9_would_22 : decode cX9_would 22 = .ok (.ireturn, 1) := by decide +kernel
set_option maxRecDepth 20000 in
theorem ggX9_worth_X9_isThere : GoodIn wsX9_worth wsX9_isThere := goodIn_r _ [7, 8, 9, 10, 11, 6, 12, 13, 14, 15, 16, 17, 18, 19, 20, 21, 53, 54, 55, 56, 57, 58, 59, 60, 61, 62, 63, 64, 65, 66, 67, 68, 69, 70, 71, 72, 73, 74, 75, 76, 77, 78, 79, 80, 81, 82, 83, 84, 85, 86, 87, 88, 89, 90, 91, 92, 93, 94, 95, 96, 97, 98, 99, 100, 101, 102, 103, 104, 105, 106, 107, 108, 109, 110, 111, 112] (by decide +kernel) (by decide +kernel)
set_option maxRecDepth 20000 in
theorem gX9_worth_X9_isThere : GoodIn wsX9_worth (wsV RX9 363 RX9 yX9_isThere wsX9_isThere) := goodIn_app (goodIn_of _ (by decide +kernel)) ggX9_worth_X9_isThere
theorem dX9_worth_0 : decode cX9_worth 0 = .ok (.aload_n 0, 1) := by decide +kernel
theorem dX9_worth_1 : decode cX9_worth 1 = .ok (.iconst 0, 1) := by decide +kernel
theorem dX9_worth_2 : decode cX9_worth 2 = .ok (.putfield 125, 3) := by decide +kernel
theorem dX9_worth_5 : decode cX9_worth 5 = .ok (.aload_n 0, 1) := by decide +kernel
theorem dX9_worth_6 : decode cX9_worth 6 = .ok (.iload_n 1, 1) := by decide +kernel
theorem dX9_worth_7 : decode cX9_worth 7 = .ok (.invokevirtual 363, 3) := by decide +kernel
theorem dX9_worth_10 : decode cX9_worth 10 = .ok (.ifCond .eq 11, 3) := by decide +kernel
theorem dX9_worth_21 : decode cX9_worth 21 = .ok (.ldc_w 369, 3) := by decide +kernel
theorem dX9_worth_24 : decode cX9_worth 24 = .ok (.ireturn, 1) := by decide +kernel
set_option maxRecDepth 20000 in
theorem ggX9_month_X9_in : GoodIn wsX9_month wsX9_in := goodIn_r _ [11] (by decide +kernel) (by decide +kernel)
set_option maxRecDepth 20000 in
theorem gX9_month_X9_in : GoodIn wsX9_month (va_wsS RX9 130 yX9_in wsX9_in) := goodIn_app (goodIn_of _ (by decide +kernel)) ggX9_month_X9_in
theorem dX9_month_0 : decode cX9_month 0 = .ok (.aload_n 0, 1) := by decide +kernel
theorem dX9_month_1 : decode cX9_month 1 = .ok (.iconst 0, 1) := by decide +kernel
theorem dX9_month_2 : decode cX9_month 2 = .ok (.putfield 125, 3) := by decide +kernel
theorem dX9_month_5 : decode cX9_month 5 = .ok (.iload_n 1, 1) := by decide +kernel
theorem dX9_month_6 : decode cX9_month 6 = .ok (.i2l, 1) := by decide +kernel
theorem dX9_month_7 : decode cX9_month 7 = .ok (.lconst 0, 1) := by decide +kernel
theorem dX9_month_8 : decode cX9_month 8 = .ok (.ldc2_w 222, 3) := by decide +kernel
theorem dX9_month_11 : decode cX9_month 11 = .ok (.invokestatic 130, 3) := by decide +kernel
theorem dX9_month_14 : decode cX9_month 14 = .ok (.ifCond .eq 15, 3) := by decide +kernel
theorem dX9_month_17 : decode cX9_month 17 = .ok (.iload_n 2, 1) := by decide +kernel
theorem dX9_month_18 : decode cX9_month 18 = .ok (.i2l, 1) := by decide +kernel
theorem dX9_month_19 : decode cX9_month 19 = .ok (.lconst 0, 1) := by decide +kernel
theorem dX9_month_20 : decode cX9_month 20 = .ok (.ldc2_w 128, 3) := by decide +kernel
theorem dX9_month_23 : decode cX9_month 23 = .ok (.invokestatic 130, 3) := by decide +kernel
theorem dX9_month_26 : decode cX9_month 26 = .ok (.ifCond .ne 5, 3) := by decide +kernel
theorem dX9_month_29 : decode cX9_month 29 = .ok (.iconst (-1), 1) := by decide +kernel
theorem dX9_month_30 : decode cX9_month 30 = .ok (.ireturn, 1) := by decide +kernel
theorem dX9_month_31 : decode cX9_month 31 = .ok (.iconst 0, 1) := by decide +kernel
theorem dX9_month_32 : decode cX9_month 32 = .ok (.istore_n 3, 1) := by decide +kernel
theorem dX9_month_33 : decode cX9_month 33 = .ok (.iconst 0, 1) := by decide +kernel
theorem dX9_month_34 : decode cX9_month 34 = .ok (.istore 4, 2) := by decide +kernel
theorem dX9_month_36 : decode cX9_month 36 = .ok (.iload 4, 2) := by decide +kernel
theorem dX9_month_38 : decode cX9_month 38 = .ok (.aload_n 0, 1) := by decide +kernel
theorem dX9_month_39 : decode cX9_month 39 = .ok (.getfield 89, 3) := by decide +kernel
theorem dX9_month_42 : decode cX9_month 42 = .ok (.iconst 0, 1) := by decide +kernel
theorem dX9_month_43 : decode cX9_month 43 = .ok (.iaload, 1) := by decide +kernel
theorem dX9_month_44 : decode cX9_month 44 = .ok (.if_icmp .ge 82, 3) := by decide +kernel
theorem dX9_month_126 : decode cX9_month 126 = .ok (.iload_n 3, 1) := by decide +kernel
theorem dX9_month_127 : decode cX9_month 127 = .ok (.ireturn, 1) := by decide +kernel
set_option maxRecDepth 20000 in
theorem ggX9_isPush_X9_in : GoodIn wsX9_isPush wsX9_in := goodIn_r _ [5] (by decide +kernel) (by decide +kernel)
set_option maxRecDepth 20000 in
theorem gX9_isPush_X9_in : GoodIn wsX9_isPush (va_wsS RX9 130 yX9_in wsX9_in) := goodIn_app (goodIn_of _ (by decide +kernel)) ggX9_isPush_X9_in
theorem dX9_isPush_0 : decode cX9_isPush 0 = .ok (.iload_n 0, 1) := by decide +kernel
theorem dX9_isPush_1 : decode cX9_isPush 1 = .ok (.i2l, 1) := by decide +kernel
theorem dX9_isPush_2 : decode cX9_isPush 2 = .ok (.lconst 1, 1) := by decide +kernel
theorem dX9_isPush_3 : decode cX9_isPush 3 = .ok (.ldc2_w 373, 3) := by decide +kernel
theorem dX9_isPush_6 : decode cX9_isPush 6 = .ok (.invokestatic 130, 3) := by decide +kernel
theorem dX9_isPush_9 : decode cX9_isPush 9 = .ok (.ireturn, 1) := by decide +kernel
theorem dX9_pushes_0 : decode cX9_pushes 0 = .ok (.iconst 0, 1) := by decide +kernel
theorem dX9_pushes_1 : decode cX9_pushes 1 = .ok (.istore_n 2, 1) := by decide +kernel
theorem dX9_pushes_2 : decode cX9_pushes 2 = .ok (.iload_n 2, 1) := by decide +kernel
theorem dX9_pushes_3 : decode cX9_pushes 3 = .ok (.aload_n 0, 1) := by decide +kernel
theorem dX9_pushes_4 : decode cX9_pushes 4 = .ok (.getfield 89, 3) := by decide +kernel
theorem dX9_pushes_7 : decode cX9_pushes 7 = .ok (.iconst 0, 1) := by decide +kernel
theorem dX9_pushes_8 : decode cX9_pushes 8 = .ok (.iaload, 1) := by decide +kernel
theorem dX9_pushes_9 : decode cX9_pushes 9 = .ok (.if_icmp .ge 36, 3) := by decide +kernel
theorem dX9_pushes_45 : decode cX9_pushes 45 = .ok (.aload_n 0, 1) := by decide +kernel
theorem dX9_pushes_46 : decode cX9_pushes 46 = .ok (.aload_n 0, 1) := by decide +kernel
theorem dX9_pushes_47 : decode cX9_pushes 47 = .ok (.getfield 89, 3) := by decide +kernel
theorem dX9_pushes_50 : decode cX9_pushes 50 = .ok (.iconst 0, 1) := by decide +kernel
theorem dX9_pushes_51 : decode cX9_pushes 51 = .ok (.iaload, 1) := by decide +kernel
theorem dX9_pushes_52 : decode cX9_pushes 52 = .ok (.putfield 375, 3) := by decide +kernel
theorem dX9_pushes_55 : decode cX9_pushes 55 = .ok (.return_, 1) := by decide +kernel
theorem dX9_gathers_0 : decode cX9_gathers 0 = .ok (.aload_n 0, 1) := by decide +kernel
theorem dX9_gathers_1 : decode cX9_gathers 1 = .ok (.lconst 0, 1) := by decide +kernel
theorem dX9_gathers_2 : decode cX9_gathers 2 = .ok (.putfield 378, 3) := by decide +kernel
theorem dX9_gathers_5 : decode cX9_gathers 5 = .ok (.aload_n 0, 1) := by decide +kernel
theorem dX9_gathers_6 : decode cX9_gathers 6 = .ok (.lconst 0, 1) := by decide +kernel
theorem dX9_gathers_7 : decode cX9_gathers 7 = .ok (.putfield 381, 3) := by decide +kernel
theorem dX9_gathers_10 : decode cX9_gathers 10 = .ok (.aload_n 0, 1) := by decide +kernel
theorem dX9_gathers_11 : decode cX9_gathers 11 = .ok (.lconst 0, 1) := by decide +kernel
theorem dX9_gathers_12 : decode cX9_gathers 12 = .ok (.putfield 384, 3) := by decide +kernel
theorem dX9_gathers_15 : decode cX9_gathers 15 = .ok (.aload_n 0, 1) := by decide +kernel
theorem dX9_gathers_16 : decode cX9_gathers 16 = .ok (.lconst 0, 1) := by decide +kernel
theorem dX9_gathers_17 : decode cX9_gathers 17 = .ok (.putfield 387, 3) := by decide +kernel
theorem dX9_gathers_20 : decode cX9_gathers 20 = .ok (.aload_n 0, 1) := by decide +kernel
theorem dX9_gathers_21 : decode cX9_gathers 21 = .ok (.lconst 0, 1) := by decide +kernel
theorem dX9_gathers_22 : decode cX9_gathers 22 = .ok (.putfield 390, 3) := by decide +kernel
theorem dX9_gathers_25 : decode cX9_gathers 25 = .ok (.aload_n 0, 1) := by decide +kernel
theorem dX9_gathers_26 : decode cX9_gathers 26 = .ok (.lconst 0, 1) := by decide +kernel
theorem dX9_gathers_27 : decode cX9_gathers 27 = .ok (.putfield 393, 3) := by decide +kernel
theorem dX9_gathers_30 : decode cX9_gathers 30 = .ok (.aload_n 0, 1) := by decide +kernel
theorem dX9_gathers_31 : decode cX9_gathers 31 = .ok (.lconst 0, 1) := by decide +kernel
theorem dX9_gathers_32 : decode cX9_gathers 32 = .ok (.putfield 396, 3) := by decide +kernel
theorem dX9_gathers_35 : decode cX9_gathers 35 = .ok (.aload_n 0, 1) := by decide +kernel
theorem dX9_gathers_36 : decode cX9_gathers 36 = .ok (.lconst 0, 1) := by decide +kernel
theorem dX9_gathers_37 : decode cX9_gathers 37 = .ok (.putfield 399, 3) := by decide +kernel
theorem dX9_gathers_40 : decode cX9_gathers 40 = .ok (.iconst 0, 1) := by decide +kernel
theorem dX9_gathers_41 : decode cX9_gathers 41 = .ok (.istore_n 1, 1) := by decide +kernel
theorem dX9_gathers_42 : decode cX9_gathers 42 = .ok (.iload_n 1, 1) := by decide +kernel
theorem dX9_gathers_43 : decode cX9_gathers 43 = .ok (.aload_n 0, 1) := by decide +kernel
theorem dX9_gathers_44 : decode cX9_gathers 44 = .ok (.getfield 375, 3) := by decide +kernel
theorem dX9_gathers_47 : decode cX9_gathers 47 = .ok (.if_icmp .ge 153, 3) := by decide +kernel
theorem dX9_gathers_200 : decode cX9_gathers 200 = .ok (.return_, 1) := by decide +kernel
theorem dX9_areBoth_0 : decode cX9_areBoth 0 = .ok (.aload_n 0, 1) := by decide +kernel
theorem dX9_areBoth_1 : decode cX9_areBoth 1 = .ok (.getfield 378, 3) := by decide +kernel
theorem dX9_areBoth_4 : decode cX9_areBoth 4 = .ok (.lconst 0, 1) := by decide +kernel
theorem dX9_areBoth_5 : decode cX9_areBoth 5 = .ok (.lcmp, 1) := by decide +kernel
theorem dX9_areBoth_6 : decode cX9_areBoth 6 = .ok (.ifCond .le 16, 3) := by decide +kernel
theorem dX9_areBoth_22 : decode cX9_areBoth 22 = .ok (.iconst 0, 1) := by decide +kernel
theorem dX9_areBoth_23 : decode cX9_areBoth 23 = .ok (.ireturn, 1) := by decide +kernel
theorem dX9_ratio_0 : decode cX9_ratio 0 = .ok (.aload_n 0, 1) := by decide +kernel
theorem dX9_ratio_1 : decode cX9_ratio 1 = .ok (.lload_n 3, 1) := by decide +kernel
theorem dX9_ratio_2 : decode cX9_ratio 2 = .ok (.lconst 0, 1) := by decide +kernel
theorem dX9_ratio_3 : decode cX9_ratio 3 = .ok (.lcmp, 1) := by decide +kernel
theorem dX9_ratio_4 : decode cX9_ratio 4 = .ok (.ifCond .eq 7, 3) := by decide +kernel
theorem dX9_ratio_11 : decode cX9_ratio 11 = .ok (.iconst 0, 1) := by decide +kernel
theorem dX9_ratio_12 : decode cX9_ratio 12 = .ok (.putfield 402, 3) := by decide +kernel
theorem dX9_ratio_15 : decode cX9_ratio 15 = .ok (.aload_n 0, 1) := by decide +kernel
theorem dX9_ratio_16 : decode cX9_ratio 16 = .ok (.getfield 402, 3) := by decide +kernel
theorem dX9_ratio_19 : decode cX9_ratio 19 = .ok (.ifCond .eq 13, 3) := by decide +kernel
theorem dX9_ratio_32 : decode cX9_ratio 32 = .ok (.ldc2_w 408, 3) := by decide +kernel
theorem dX9_ratio_35 : decode cX9_ratio 35 = .ok (.lreturn, 1) := by decide +kernel
theorem dX9_untold_0 : decode cX9_untold 0 = .ok (.aload_n 0, 1) := by decide +kernel
theorem dX9_untold_1 : decode cX9_untold 1 = .ok (.iconst 0, 1) := by decide +kernel
theorem dX9_untold_2 : decode cX9_untold 2 = .ok (.putfield 402, 3) := by decide +kernel
theorem dX9_untold_5 : decode cX9_untold 5 = .ok (.ldc2_w 408, 3) := by decide +kernel
theorem dX9_untold_8 : decode cX9_untold 8 = .ok (.lreturn, 1) := by decide +kernel
set_option maxRecDepth 20000 in
theorem ggX9_plainOf_X9_pushes : GoodIn wsX9_plainOf wsX9_pushes := goodIn_r _ [10, 11, 12, 13, 14, 31, 32, 33, 34, 35, 36, 37, 38, 39, 40, 41, 42, 43, 44, 45, 46, 47, 48, 49, 50, 51, 52, 53, 54, 55, 56, 57, 58, 59, 60, 61, 62, 63, 64, 65, 66, 67, 68, 69, 70, 71, 72, 73, 74, 75, 76, 77, 78, 79, 80, 81, 82, 83, 84, 85, 86, 87, 88, 89, 90] (by decide +kernel) (by decide +kernel)
set_option maxRecDepth 20000 in
theorem gX9_plainOf_X9_pushes : GoodIn wsX9_plainOf (wsV RX9 410 RX9 yX9_pushes wsX9_pushes) := goodIn_app (goodIn_of _ (by decide +kernel)) ggX9_plainOf_X9_pushes
set_option maxRecDepth 20000 in
theorem ggX9_plainOf_X9_gathers : GoodIn wsX9_plainOf wsX9_gathers := goodIn_r _ [18, 19, 1, 20, 3, 21, 4, 5, 2, 14, 22, 23, 12, 31, 32, 33, 34, 35, 36, 37, 38, 39, 40, 41, 42, 43, 44, 45, 46, 47, 48, 49, 50, 51, 52, 53, 54, 55, 56, 57, 58, 59, 60, 61, 62, 63, 64, 65, 66, 67, 68, 69, 70, 71, 72, 73, 74, 75, 76, 77, 78, 79, 80, 81, 82, 83, 84, 85, 86, 87, 88, 89, 90] (by decide +kernel) (by decide +kernel)
set_option maxRecDepth 20000 in
theorem gX9_plainOf_X9_gathers : GoodIn wsX9_plainOf (wsV RX9 413 RX9 yX9_gathers wsX9_gathers) := goodIn_app (goodIn_of _ (by decide +kernel)) ggX9_plainOf_X9_gathers
set_option maxRecDepth 20000 in
theorem ggX9_plainOf_X9_ratio : GoodIn wsX9_plainOf wsX9_ratio := goodIn_r _ [27, 28, 29, 30, 31, 32, 33, 34, 35, 36, 37, 38, 39, 40, 41, 42, 43, 44, 45, 46, 47, 48, 49, 50, 51, 52, 53, 54, 55, 56, 57, 58, 59, 60, 61, 62, 63, 64, 65, 66, 67, 68, 69, 70, 71, 72, 73, 74, 75, 76, 77, 78, 79, 80, 81, 82, 83, 84, 85, 86, 87, 88, 89, 90] (by decide +kernel) (by decide +kernel)
set_option maxRecDepth 20000 in
theorem gX9_plainOf_X9_ratio : GoodIn wsX9_plainOf (wsV RX9 416 RX9 yX9_ratio wsX9_ratio) := goodIn_app (goodIn_of _ (by decide +kernel)) ggX9_plainOf_X9_ratio
theorem dX9_plainOf_0 : decode cX9_plainOf 0 = .ok (.aload_n 0, 1) := by decide +kernel
theorem dX9_plainOf_1 : decode cX9_plainOf 1 = .ok (.iconst 0, 1) := by decide +kernel
theorem dX9_plainOf_2 : decode cX9_plainOf 2 = .ok (.invokevirtual 410, 3) := by decide +kernel
theorem dX9_plainOf_5 : decode cX9_plainOf 5 = .ok (.aload_n 0, 1) := by decide +kernel
theorem dX9_plainOf_6 : decode cX9_plainOf 6 = .ok (.invokevirtual 413, 3) := by decide +kernel
theorem dX9_plainOf_9 : decode cX9_plainOf 9 = .ok (.aload_n 0, 1) := by decide +kernel
theorem dX9_plainOf_10 : decode cX9_plainOf 10 = .ok (.aload_n 0, 1) := by decide +kernel
theorem dX9_plainOf_11 : decode cX9_plainOf 11 = .ok (.getfield 381, 3) := by decide +kernel
theorem dX9_plainOf_14 : decode cX9_plainOf 14 = .ok (.aload_n 0, 1) := by decide +kernel
theorem dX9_plainOf_15 : decode cX9_plainOf 15 = .ok (.getfield 399, 3) := by decide +kernel
theorem dX9_plainOf_18 : decode cX9_plainOf 18 = .ok (.lmul, 1) := by decide +kernel
theorem dX9_plainOf_19 : decode cX9_plainOf 19 = .ok (.aload_n 0, 1) := by decide +kernel
theorem dX9_plainOf_20 : decode cX9_plainOf 20 = .ok (.getfield 387, 3) := by decide +kernel
theorem dX9_plainOf_23 : decode cX9_plainOf 23 = .ok (.aload_n 0, 1) := by decide +kernel
theorem dX9_plainOf_24 : decode cX9_plainOf 24 = .ok (.getfield 393, 3) := by decide +kernel
theorem dX9_plainOf_27 : decode cX9_plainOf 27 = .ok (.lmul, 1) := by decide +kernel
theorem dX9_plainOf_28 : decode cX9_plainOf 28 = .ok (.lsub, 1) := by decide +kernel
theorem dX9_plainOf_29 : decode cX9_plainOf 29 = .ok (.aload_n 0, 1) := by decide +kernel
theorem dX9_plainOf_30 : decode cX9_plainOf 30 = .ok (.getfield 381, 3) := by decide +kernel
theorem dX9_plainOf_33 : decode cX9_plainOf 33 = .ok (.aload_n 0, 1) := by decide +kernel
theorem dX9_plainOf_34 : decode cX9_plainOf 34 = .ok (.getfield 396, 3) := by decide +kernel
theorem dX9_plainOf_37 : decode cX9_plainOf 37 = .ok (.lmul, 1) := by decide +kernel
theorem dX9_plainOf_38 : decode cX9_plainOf 38 = .ok (.aload_n 0, 1) := by decide +kernel
theorem dX9_plainOf_39 : decode cX9_plainOf 39 = .ok (.getfield 387, 3) := by decide +kernel
theorem dX9_plainOf_42 : decode cX9_plainOf 42 = .ok (.aload_n 0, 1) := by decide +kernel
theorem dX9_plainOf_43 : decode cX9_plainOf 43 = .ok (.getfield 387, 3) := by decide +kernel
theorem dX9_plainOf_46 : decode cX9_plainOf 46 = .ok (.lmul, 1) := by decide +kernel
theorem dX9_plainOf_47 : decode cX9_plainOf 47 = .ok (.lsub, 1) := by decide +kernel
theorem dX9_plainOf_48 : decode cX9_plainOf 48 = .ok (.invokevirtual 416, 3) := by decide +kernel
theorem dX9_plainOf_51 : decode cX9_plainOf 51 = .ok (.lreturn, 1) := by decide +kernel
set_option maxRecDepth 20000 in
theorem ggX9_plain_X9_plainOf : GoodIn wsX9_plain wsX9_plainOf := goodIn_r _ [6, 7, 8, 9, 10, 11, 12, 13, 14, 5, 15, 16, 17, 18, 19, 20, 21, 22, 23, 24, 25, 26, 27, 28, 29, 30, 31, 32, 33, 34, 35, 36, 37, 38, 39, 40, 41, 42, 43, 44, 45, 46, 47, 48, 49, 50, 51, 52, 53, 54, 55, 56, 57, 58, 59, 60, 61, 62, 63, 64, 65, 66, 67, 68, 69, 70, 71, 72, 73, 74, 75, 76, 77, 78, 79, 80, 81, 82, 83, 84, 85, 86, 87, 88, 89, 90, 91, 92, 93, 94, 95] (by decide +kernel) (by decide +kernel)
set_option maxRecDepth 20000 in
theorem gX9_plain_X9_plainOf : GoodIn wsX9_plain (wsV RX9 420 RX9 yX9_plainOf wsX9_plainOf) := goodIn_app (goodIn_of _ (by decide +kernel)) ggX9_plain_X9_plainOf
theorem dX9_plain_0 : decode cX9_plain 0 = .ok (.aload_n 0, 1) := by decide +kernel
theorem dX9_plain_1 : decode cX9_plain 1 = .ok (.iconst 0, 1) := by decide +kernel
theorem dX9_plain_2 : decode cX9_plain 2 = .ok (.putfield 125, 3) := by decide +kernel
theorem dX9_plain_5 : decode cX9_plain 5 = .ok (.aload_n 0, 1) := by decide +kernel
