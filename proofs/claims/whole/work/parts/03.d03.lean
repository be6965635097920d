theorem dX1_lookAhead_105 : decode cX1_lookAhead 105 = .ok (.iload_n 2, 1) := by decide +kernel
theorem dX1_lookAhead_106 : decode cX1_lookAhead 106 = .ok (.iconst 1, 1) := by decide +kernel
theorem dX1_lookAhead_107 : decode cX1_lookAhead 107 = .ok (.isub, 1) := by decide +kernel
theorem dX1_lookAhead_108 : decode cX1_lookAhead 108 = .ok (.bipush 61, 2) := by decide +kernel
theorem dX1_lookAhead_110 : decode cX1_lookAhead 110 = .ok (.invokevirtual 182, 3) := by decide +kernel
theorem dX1_lookAhead_113 : decode cX1_lookAhead 113 = .ok (.aload_n 0, 1) := by decide +kernel
theorem dX1_lookAhead_114 : decode cX1_lookAhead 114 = .ok (.iload_n 2, 1) := by decide +kernel
theorem dX1_lookAhead_115 : decode cX1_lookAhead 115 = .ok (.invokevirtual 185, 3) := by decide +kernel
theorem dX1_lookAhead_118 : decode cX1_lookAhead 118 = .ok (.ifCond .ne 5, 3) := by decide +kernel
theorem dX1_lookAhead_121 : decode cX1_lookAhead 121 = .ok (.iload_n 2, 1) := by decide +kernel
theorem dX1_lookAhead_122 : decode cX1_lookAhead 122 = .ok (.ireturn, 1) := by decide +kernel
theorem dX1_lookAhead_123 : decode cX1_lookAhead 123 = .ok (.iinc 2 1, 3) := by decide +kernel
theorem dX1_lookAhead_126 : decode cX1_lookAhead 126 = .ok (.goto (-47), 3) := by decide +kernel
theorem dX1_lookAhead_129 : decode cX1_lookAhead 129 = .ok (.iconst (-1), 1) := by decide +kernel
theorem dX1_lookAhead_130 : decode cX1_lookAhead 130 = .ok (.ireturn, 1) := by decide +kernel
set_option maxRecDepth 20000 in
theorem ggX1_keepAllowed_X0_cut : GoodIn wsX1_keepAllowed wsX0_cut := goodIn_r _ [12, 13, 14, 15, 16, 17, 18, 19, 20, 21, 22, 23, 11, 24, 58, 59] (by decide +kernel) (by decide +kernel)
set_option maxRecDepth 20000 in
theorem gX1_keepAllowed_X0_cut : GoodIn wsX1_keepAllowed (wsV RX1 189 RX0 yX0_cut wsX0_cut) := goodIn_app (goodIn_of _ (by decide +kernel)) ggX1_keepAllowed_X0_cut
set_option maxRecDepth 20000 in
theorem ggX1_keepAllowed_X0_tighten : GoodIn wsX1_keepAllowed wsX0_tighten := goodIn_r _ [28, 29, 30, 31, 11, 32, 13, 22, 23, 24, 33, 34, 35, 36, 18, 37, 9, 10, 12, 14, 15, 16, 17, 19, 20, 21, 38, 39, 40, 41, 58, 59] (by decide +kernel) (by decide +kernel)
set_option maxRecDepth 20000 in
theorem gX1_keepAllowed_X0_tighten : GoodIn wsX1_keepAllowed (wsV RX1 192 RX0 yX0_tighten wsX0_tighten) := goodIn_app (goodIn_of _ (by decide +kernel)) ggX1_keepAllowed_X0_tighten
theorem dX1_keepAllowed_0 : decode cX1_keepAllowed 0 = .ok (.aload_n 0, 1) := by decide +kernel
theorem dX1_keepAllowed_1 : decode cX1_keepAllowed 1 = .ok (.getfield 49, 3) := by decide +kernel
theorem dX1_keepAllowed_4 : decode cX1_keepAllowed 4 = .ok (.iload_n 1, 1) := by decide +kernel
theorem dX1_keepAllowed_5 : decode cX1_keepAllowed 5 = .ok (.iconst 0, 1) := by decide +kernel
theorem dX1_keepAllowed_6 : decode cX1_keepAllowed 6 = .ok (.iconst 0, 1) := by decide +kernel
theorem dX1_keepAllowed_7 : decode cX1_keepAllowed 7 = .ok (.ldc 188, 2) := by decide +kernel
theorem dX1_keepAllowed_9 : decode cX1_keepAllowed 9 = .ok (.invokevirtual 189, 3) := by decide +kernel
theorem dX1_keepAllowed_12 : decode cX1_keepAllowed 12 = .ok (.aload_n 0, 1) := by decide +kernel
theorem dX1_keepAllowed_13 : decode cX1_keepAllowed 13 = .ok (.getfield 49, 3) := by decide +kernel
theorem dX1_keepAllowed_16 : decode cX1_keepAllowed 16 = .ok (.iload_n 1, 1) := by decide +kernel
theorem dX1_keepAllowed_17 : decode cX1_keepAllowed 17 = .ok (.iconst 1, 1) := by decide +kernel
theorem dX1_keepAllowed_18 : decode cX1_keepAllowed 18 = .ok (.iconst 0, 1) := by decide +kernel
theorem dX1_keepAllowed_19 : decode cX1_keepAllowed 19 = .ok (.ldc 188, 2) := by decide +kernel
theorem dX1_keepAllowed_21 : decode cX1_keepAllowed 21 = .ok (.invokevirtual 189, 3) := by decide +kernel
theorem dX1_keepAllowed_24 : decode cX1_keepAllowed 24 = .ok (.iconst 0, 1) := by decide +kernel
theorem dX1_keepAllowed_25 : decode cX1_keepAllowed 25 = .ok (.istore_n 2, 1) := by decide +kernel
theorem dX1_keepAllowed_26 : decode cX1_keepAllowed 26 = .ok (.iload_n 2, 1) := by decide +kernel
theorem dX1_keepAllowed_27 : decode cX1_keepAllowed 27 = .ok (.aload_n 0, 1) := by decide +kernel
theorem dX1_keepAllowed_28 : decode cX1_keepAllowed 28 = .ok (.getfield 86, 3) := by decide +kernel
theorem dX1_keepAllowed_31 : decode cX1_keepAllowed 31 = .ok (.if_icmp .ge 45, 3) := by decide +kernel
theorem dX1_keepAllowed_34 : decode cX1_keepAllowed 34 = .ok (.aload_n 0, 1) := by decide +kernel
theorem dX1_keepAllowed_35 : decode cX1_keepAllowed 35 = .ok (.getfield 34, 3) := by decide +kernel
theorem dX1_keepAllowed_38 : decode cX1_keepAllowed 38 = .ok (.iload_n 2, 1) := by decide +kernel
theorem dX1_keepAllowed_39 : decode cX1_keepAllowed 39 = .ok (.iaload, 1) := by decide +kernel
theorem dX1_keepAllowed_40 : decode cX1_keepAllowed 40 = .ok (.iload_n 1, 1) := by decide +kernel
theorem dX1_keepAllowed_41 : decode cX1_keepAllowed 41 = .ok (.if_icmp .ne 29, 3) := by decide +kernel
theorem dX1_keepAllowed_44 : decode cX1_keepAllowed 44 = .ok (.aload_n 0, 1) := by decide +kernel
theorem dX1_keepAllowed_45 : decode cX1_keepAllowed 45 = .ok (.getfield 49, 3) := by decide +kernel
theorem dX1_keepAllowed_48 : decode cX1_keepAllowed 48 = .ok (.iload_n 1, 1) := by decide +kernel
theorem dX1_keepAllowed_49 : decode cX1_keepAllowed 49 = .ok (.aload_n 0, 1) := by decide +kernel
theorem dX1_keepAllowed_50 : decode cX1_keepAllowed 50 = .ok (.getfield 37, 3) := by decide +kernel
theorem dX1_keepAllowed_53 : decode cX1_keepAllowed 53 = .ok (.iload_n 2, 1) := by decide +kernel
theorem dX1_keepAllowed_54 : decode cX1_keepAllowed 54 = .ok (.iaload, 1) := by decide +kernel
theorem dX1_keepAllowed_55 : decode cX1_keepAllowed 55 = .ok (.aload_n 0, 1) := by decide +kernel
theorem dX1_keepAllowed_56 : decode cX1_keepAllowed 56 = .ok (.getfield 40, 3) := by decide +kernel
theorem dX1_keepAllowed_59 : decode cX1_keepAllowed 59 = .ok (.iload_n 2, 1) := by decide +kernel
theorem dX1_keepAllowed_60 : decode cX1_keepAllowed 60 = .ok (.iaload, 1) := by decide +kernel
theorem dX1_keepAllowed_61 : decode cX1_keepAllowed 61 = .ok (.aload_n 0, 1) := by decide +kernel
theorem dX1_keepAllowed_62 : decode cX1_keepAllowed 62 = .ok (.getfield 43, 3) := by decide +kernel
theorem dX1_keepAllowed_65 : decode cX1_keepAllowed 65 = .ok (.iload_n 2, 1) := by decide +kernel
theorem dX1_keepAllowed_66 : decode cX1_keepAllowed 66 = .ok (.iaload, 1) := by decide +kernel
theorem dX1_keepAllowed_67 : decode cX1_keepAllowed 67 = .ok (.invokevirtual 189, 3) := by decide +kernel
theorem dX1_keepAllowed_70 : decode cX1_keepAllowed 70 = .ok (.iinc 2 1, 3) := by decide +kernel
theorem dX1_keepAllowed_73 : decode cX1_keepAllowed 73 = .ok (.goto (-47), 3) := by decide +kernel
theorem dX1_keepAllowed_76 : decode cX1_keepAllowed 76 = .ok (.aload_n 0, 1) := by decide +kernel
theorem dX1_keepAllowed_77 : decode cX1_keepAllowed 77 = .ok (.getfield 49, 3) := by decide +kernel
theorem dX1_keepAllowed_80 : decode cX1_keepAllowed 80 = .ok (.iload_n 1, 1) := by decide +kernel
theorem dX1_keepAllowed_81 : decode cX1_keepAllowed 81 = .ok (.invokevirtual 192, 3) := by decide +kernel
theorem dX1_keepAllowed_84 : decode cX1_keepAllowed 84 = .ok (.ireturn, 1) := by decide +kernel
set_option maxRecDepth 20000 in
theorem ggX1_lookBackTo_X1_gatherChange : GoodIn wsX1_lookBackTo wsX1_gatherChange := goodIn_r _ [7, 2, 8, 9, 10, 11, 12, 13, 14, 15, 16, 17, 18, 19, 20, 21, 22, 6, 23, 24, 25, 26, 27, 28, 29, 30, 31, 32, 33, 34, 35, 36, 37, 38, 39, 40, 41, 42, 43, 44, 45, 46, 47, 48, 49, 50, 51, 52, 53, 54, 55, 84, 85, 86, 87, 88, 89, 90, 91, 92, 93, 94, 95, 96, 97, 98, 99, 100, 101] (by decide +kernel) (by decide +kernel)
set_option maxRecDepth 20000 in
theorem gX1_lookBackTo_X1_gatherChange : GoodIn wsX1_lookBackTo (wsV RX1 120 RX1 yX1_gatherChange wsX1_gatherChange) := goodIn_app (goodIn_of _ (by decide +kernel)) ggX1_lookBackTo_X1_gatherChange
set_option maxRecDepth 20000 in
theorem ggX1_lookBackTo_X0_cutByDifference : GoodIn wsX1_lookBackTo wsX0_cutByDifference := goodIn_r _ [59, 60, 61, 62, 13, 63, 15, 17, 18, 19, 64, 65, 66, 67, 16, 68, 69, 70, 71, 72, 35, 36, 37, 73, 74, 75, 100, 101] (by decide +kernel) (by decide +kernel)
set_option maxRecDepth 20000 in
theorem gX1_lookBackTo_X0_cutByDifference : GoodIn wsX1_lookBackTo (wsV RX1 195 RX0 yX0_cutByDifference wsX0_cutByDifference) := goodIn_app (goodIn_of _ (by decide +kernel)) ggX1_lookBackTo_X0_cutByDifference
set_option maxRecDepth 20000 in
theorem ggX1_lookBackTo_X0_tighten : GoodIn wsX1_lookBackTo wsX0_tighten := goodIn_r _ [79, 60, 61, 62, 13, 63, 15, 17, 18, 19, 64, 65, 66, 67, 16, 68, 69, 70, 71, 72, 35, 36, 37, 73, 74, 75, 80, 81, 82, 83, 100, 101] (by decide +kernel) (by decide +kernel)
set_option maxRecDepth 20000 in
theorem gX1_lookBackTo_X0_tighten : GoodIn wsX1_lookBackTo (wsV RX1 192 RX0 yX0_tighten wsX0_tighten) := goodIn_app (goodIn_of _ (by decide +kernel)) ggX1_lookBackTo_X0_tighten
theorem dX1_lookBackTo_0 : decode cX1_lookBackTo 0 = .ok (.aload_n 0, 1) := by decide +kernel
theorem dX1_lookBackTo_1 : decode cX1_lookBackTo 1 = .ok (.getfield 141, 3) := by decide +kernel
theorem dX1_lookBackTo_4 : decode cX1_lookBackTo 4 = .ok (.iconst 1, 1) := by decide +kernel
theorem dX1_lookBackTo_5 : decode cX1_lookBackTo 5 = .ok (.isub, 1) := by decide +kernel
theorem dX1_lookBackTo_6 : decode cX1_lookBackTo 6 = .ok (.istore_n 2, 1) := by decide +kernel
theorem dX1_lookBackTo_7 : decode cX1_lookBackTo 7 = .ok (.iload_n 2, 1) := by decide +kernel
theorem dX1_lookBackTo_8 : decode cX1_lookBackTo 8 = .ok (.iload_n 1, 1) := by decide +kernel
theorem dX1_lookBackTo_9 : decode cX1_lookBackTo 9 = .ok (.if_icmp .lt 38, 3) := by decide +kernel
theorem dX1_lookBackTo_12 : decode cX1_lookBackTo 12 = .ok (.aload_n 0, 1) := by decide +kernel
theorem dX1_lookBackTo_13 : decode cX1_lookBackTo 13 = .ok (.iload_n 2, 1) := by decide +kernel
theorem dX1_lookBackTo_14 : decode cX1_lookBackTo 14 = .ok (.iconst 0, 1) := by decide +kernel
theorem dX1_lookBackTo_15 : decode cX1_lookBackTo 15 = .ok (.iconst (-1), 1) := by decide +kernel
theorem dX1_lookBackTo_16 : decode cX1_lookBackTo 16 = .ok (.invokevirtual 120, 3) := by decide +kernel
theorem dX1_lookBackTo_19 : decode cX1_lookBackTo 19 = .ok (.aload_n 0, 1) := by decide +kernel
theorem dX1_lookBackTo_20 : decode cX1_lookBackTo 20 = .ok (.getfield 49, 3) := by decide +kernel
theorem dX1_lookBackTo_23 : decode cX1_lookBackTo 23 = .ok (.iload_n 2, 1) := by decide +kernel
theorem dX1_lookBackTo_24 : decode cX1_lookBackTo 24 = .ok (.iload_n 2, 1) := by decide +kernel
theorem dX1_lookBackTo_25 : decode cX1_lookBackTo 25 = .ok (.iconst 1, 1) := by decide +kernel
theorem dX1_lookBackTo_26 : decode cX1_lookBackTo 26 = .ok (.iadd, 1) := by decide +kernel
theorem dX1_lookBackTo_27 : decode cX1_lookBackTo 27 = .ok (.bipush 61, 2) := by decide +kernel
theorem dX1_lookBackTo_29 : decode cX1_lookBackTo 29 = .ok (.invokevirtual 195, 3) := by decide +kernel
theorem dX1_lookBackTo_32 : decode cX1_lookBackTo 32 = .ok (.aload_n 0, 1) := by decide +kernel
theorem dX1_lookBackTo_33 : decode cX1_lookBackTo 33 = .ok (.getfield 49, 3) := by decide +kernel
theorem dX1_lookBackTo_36 : decode cX1_lookBackTo 36 = .ok (.iload_n 2, 1) := by decide +kernel
theorem dX1_lookBackTo_37 : decode cX1_lookBackTo 37 = .ok (.invokevirtual 192, 3) := by decide +kernel
theorem dX1_lookBackTo_40 : decode cX1_lookBackTo 40 = .ok (.pop, 1) := by decide +kernel
theorem dX1_lookBackTo_41 : decode cX1_lookBackTo 41 = .ok (.iinc 2 (-1), 3) := by decide +kernel
theorem dX1_lookBackTo_44 : decode cX1_lookBackTo 44 = .ok (.goto (-37), 3) := by decide +kernel
theorem dX1_lookBackTo_47 : decode cX1_lookBackTo 47 = .ok (.return_, 1) := by decide +kernel
set_option maxRecDepth 20000 in
theorem ggX1_firstAbove_X1_within : GoodIn wsX1_firstAbove wsX1_within := goodIn_r _ [7] (by decide +kernel) (by decide +kernel)
set_option maxRecDepth 20000 in
theorem gX1_firstAbove_X1_within : GoodIn wsX1_firstAbove (va_wsS RX1 57 yX1_within wsX1_within) := goodIn_app (goodIn_of _ (by decide +kernel)) ggX1_firstAbove_X1_within
set_option maxRecDepth 20000 in
theorem ggX1_firstAbove_X1_lookAhead : GoodIn wsX1_firstAbove wsX1_lookAhead := goodIn_r _ [11, 3, 12, 13, 2, 14, 15, 16, 17, 18, 19, 20, 21, 22, 23, 24, 25, 26, 6, 27, 28, 29, 30, 31, 32, 33, 34, 35, 36, 37, 38, 39, 40, 41, 42, 43, 44, 45, 46, 47, 48, 49, 50, 51, 52, 53, 54, 55, 56, 57, 58, 59, 60, 61, 62, 63, 64, 65, 66, 67, 68, 69, 70, 71, 72, 73, 74, 75, 76, 77, 78, 79, 80, 81, 82, 83, 84, 85, 86, 87, 88, 89, 90, 91, 92, 93, 94, 95, 96, 97, 98, 99, 100, 101, 102, 103, 104, 105, 116, 117, 118, 119, 120, 121, 122, 123, 124, 125, 126, 127, 128, 129, 130, 131, 132, 133] (by decide +kernel) (by decide +kernel)
set_option maxRecDepth 20000 in
theorem gX1_firstAbove_X1_lookAhead : GoodIn wsX1_firstAbove (wsV RX1 89 RX1 yX1_lookAhead wsX1_lookAhead) := goodIn_app (goodIn_of _ (by decide +kernel)) ggX1_firstAbove_X1_lookAhead
set_option maxRecDepth 20000 in
theorem ggX1_firstAbove_X1_lookBackTo : GoodIn wsX1_firstAbove wsX1_lookBackTo := goodIn_r _ [109, 2, 3, 24, 25, 26, 6, 27, 28, 29, 14, 15, 16, 17, 18, 19, 20, 21, 22, 23, 30, 31, 32, 33, 34, 35, 36, 37, 38, 39, 40, 41, 42, 43, 44, 45, 46, 47, 48, 49, 50, 51, 52, 53, 54, 55, 56, 57, 58, 59, 60, 61, 62, 63, 64, 65, 110, 111, 112, 113, 70, 71, 72, 73, 74, 75, 76, 77, 101, 90, 91, 92, 93, 94, 95, 96, 97, 98, 99, 100, 102, 103, 104, 105, 116, 117, 118, 119, 120, 121, 122, 123, 124, 125, 126, 127, 128, 129, 130, 131, 132, 133] (by decide +kernel) (by decide +kernel)
set_option maxRecDepth 20000 in
theorem gX1_firstAbove_X1_lookBackTo : GoodIn wsX1_firstAbove (wsV RX1 105 RX1 yX1_lookBackTo wsX1_lookBackTo) := goodIn_app (goodIn_of _ (by decide +kernel)) ggX1_firstAbove_X1_lookBackTo
set_option maxRecDepth 20000 in
theorem ggX1_firstAbove_X0_high : GoodIn wsX1_firstAbove wsX0_high := goodIn_r _ [77, 20, 21, 22, 17, 23, 132, 133] (by decide +kernel) (by decide +kernel)
set_option maxRecDepth 20000 in
theorem gX1_firstAbove_X0_high : GoodIn wsX1_firstAbove (wsV RX1 108 RX0 yX0_high wsX0_high) := goodIn_app (goodIn_of _ (by decide +kernel)) ggX1_firstAbove_X0_high
set_option maxRecDepth 20000 in
theorem ggX1_firstAbove_X0_low : GoodIn wsX1_firstAbove wsX0_low := goodIn_r _ [73, 19, 21, 22, 17, 23, 132, 133] (by decide +kernel) (by decide +kernel)
set_option maxRecDepth 20000 in
theorem gX1_firstAbove_X0_low : GoodIn wsX1_firstAbove (wsV RX1 111 RX0 yX0_low wsX0_low) := goodIn_app (goodIn_of _ (by decide +kernel)) ggX1_firstAbove_X0_low
theorem dX1_firstAbove_0 : decode cX1_firstAbove 0 = .ok (.iload_n 1, 1) := by decide +kernel
theorem dX1_firstAbove_1 : decode cX1_firstAbove 1 = .ok (.iconst 0, 1) := by decide +kernel
theorem dX1_firstAbove_2 : decode cX1_firstAbove 2 = .ok (.ldc 198, 2) := by decide +kernel
theorem dX1_firstAbove_4 : decode cX1_firstAbove 4 = .ok (.invokestatic 57, 3) := by decide +kernel
theorem dX1_firstAbove_7 : decode cX1_firstAbove 7 = .ok (.ifCond .eq 12, 3) := by decide +kernel
theorem dX1_firstAbove_10 : decode cX1_firstAbove 10 = .ok (.aload_n 0, 1) := by decide +kernel
theorem dX1_firstAbove_11 : decode cX1_firstAbove 11 = .ok (.iconst 0, 1) := by decide +kernel
theorem dX1_firstAbove_12 : decode cX1_firstAbove 12 = .ok (.invokevirtual 89, 3) := by decide +kernel
theorem dX1_firstAbove_15 : decode cX1_firstAbove 15 = .ok (.iconst (-1), 1) := by decide +kernel
theorem dX1_firstAbove_16 : decode cX1_firstAbove 16 = .ok (.if_icmp .eq 5, 3) := by decide +kernel
theorem dX1_firstAbove_19 : decode cX1_firstAbove 19 = .ok (.iconst (-1), 1) := by decide +kernel
theorem dX1_firstAbove_20 : decode cX1_firstAbove 20 = .ok (.ireturn, 1) := by decide +kernel
theorem dX1_firstAbove_21 : decode cX1_firstAbove 21 = .ok (.aload_n 0, 1) := by decide +kernel
theorem dX1_firstAbove_22 : decode cX1_firstAbove 22 = .ok (.iconst 0, 1) := by decide +kernel
theorem dX1_firstAbove_23 : decode cX1_firstAbove 23 = .ok (.invokevirtual 105, 3) := by decide +kernel
theorem dX1_firstAbove_26 : decode cX1_firstAbove 26 = .ok (.iconst 0, 1) := by decide +kernel
theorem dX1_firstAbove_27 : decode cX1_firstAbove 27 = .ok (.istore_n 3, 1) := by decide +kernel
theorem dX1_firstAbove_28 : decode cX1_firstAbove 28 = .ok (.iload_n 3, 1) := by decide +kernel
theorem dX1_firstAbove_29 : decode cX1_firstAbove 29 = .ok (.aload_n 0, 1) := by decide +kernel
theorem dX1_firstAbove_30 : decode cX1_firstAbove 30 = .ok (.getfield 141, 3) := by decide +kernel
theorem dX1_firstAbove_33 : decode cX1_firstAbove 33 = .ok (.if_icmp .gt 44, 3) := by decide +kernel
theorem dX1_firstAbove_36 : decode cX1_firstAbove 36 = .ok (.iload_n 2, 1) := by decide +kernel
theorem dX1_firstAbove_37 : decode cX1_firstAbove 37 = .ok (.ifCond .eq 15, 3) := by decide +kernel
theorem dX1_firstAbove_40 : decode cX1_firstAbove 40 = .ok (.aload_n 0, 1) := by decide +kernel
theorem dX1_firstAbove_41 : decode cX1_firstAbove 41 = .ok (.getfield 49, 3) := by decide +kernel
theorem dX1_firstAbove_44 : decode cX1_firstAbove 44 = .ok (.iload_n 3, 1) := by decide +kernel
theorem dX1_firstAbove_45 : decode cX1_firstAbove 45 = .ok (.iconst 2, 1) := by decide +kernel
theorem dX1_firstAbove_46 : decode cX1_firstAbove 46 = .ok (.invokevirtual 108, 3) := by decide +kernel
theorem dX1_firstAbove_49 : decode cX1_firstAbove 49 = .ok (.goto 12, 3) := by decide +kernel
theorem dX1_firstAbove_52 : decode cX1_firstAbove 52 = .ok (.aload_n 0, 1) := by decide +kernel
theorem dX1_firstAbove_53 : decode cX1_firstAbove 53 = .ok (.getfield 49, 3) := by decide +kernel
theorem dX1_firstAbove_56 : decode cX1_firstAbove 56 = .ok (.iload_n 3, 1) := by decide +kernel
theorem dX1_firstAbove_57 : decode cX1_firstAbove 57 = .ok (.iconst 2, 1) := by decide +kernel
theorem dX1_firstAbove_58 : decode cX1_firstAbove 58 = .ok (.invokevirtual 111, 3) := by decide +kernel
theorem dX1_firstAbove_61 : decode cX1_firstAbove 61 = .ok (.istore 4, 2) := by decide +kernel
theorem dX1_firstAbove_63 : decode cX1_firstAbove 63 = .ok (.iload 4, 2) := by decide +kernel
theorem dX1_firstAbove_65 : decode cX1_firstAbove 65 = .ok (.iload_n 1, 1) := by decide +kernel
theorem dX1_firstAbove_66 : decode cX1_firstAbove 66 = .ok (.if_icmp .le 5, 3) := by decide +kernel
theorem dX1_firstAbove_69 : decode cX1_firstAbove 69 = .ok (.iload_n 3, 1) := by decide +kernel
theorem dX1_firstAbove_70 : decode cX1_firstAbove 70 = .ok (.ireturn, 1) := by decide +kernel
theorem dX1_firstAbove_71 : decode cX1_firstAbove 71 = .ok (.iinc 3 1, 3) := by decide +kernel
theorem dX1_firstAbove_74 : decode cX1_firstAbove 74 = .ok (.goto (-46), 3) := by decide +kernel
theorem dX1_firstAbove_77 : decode cX1_firstAbove 77 = .ok (.iconst (-1), 1) := by decide +kernel
theorem dX1_firstAbove_78 : decode cX1_firstAbove 78 = .ok (.ireturn, 1) := by decide +kernel
set_option maxRecDepth 20000 in
theorem ggX1_leastThrough_X1_leastNet : GoodIn wsX1_leastThrough wsX1_leastNet := goodIn_r _ [10, 11, 12, 13, 14, 9, 15, 16, 17, 18, 19, 20, 2, 3, 4, 5, 21, 22, 23, 24, 25, 26, 50, 51, 52, 53, 54, 55, 56, 57, 58, 59, 60, 61, 62, 63, 64, 65] (by decide +kernel) (by decide +kernel)
set_option maxRecDepth 20000 in
theorem gX1_leastThrough_X1_leastNet : GoodIn wsX1_leastThrough (wsV RX1 170 RX1 yX1_leastNet wsX1_leastNet) := goodIn_app (goodIn_of _ (by decide +kernel)) ggX1_leastThrough_X1_leastNet
set_option maxRecDepth 20000 in
theorem ggX1_leastThrough_X1_leastRest : GoodIn wsX1_leastThrough wsX1_leastRest := goodIn_r _ [30, 31, 32, 33, 34, 35, 36, 37, 38, 39, 40, 41, 42, 43, 44, 45, 50, 51, 52, 53, 54, 55, 56, 57, 58, 59, 60, 61, 62, 63, 64, 65, 66, 67] (by decide +kernel) (by decide +kernel)
set_option maxRecDepth 20000 in
theorem gX1_leastThrough_X1_leastRest : GoodIn wsX1_leastThrough (wsV RX1 199 RX1 yX1_leastRest wsX1_leastRest) := goodIn_app (goodIn_of _ (by decide +kernel)) ggX1_leastThrough_X1_leastRest
set_option maxRecDepth 20000 in
theorem ggX1_leastThrough_X1_mostRest : GoodIn wsX1_leastThrough wsX1_mostRest := goodIn_r _ [49, 31, 41, 42, 43, 35, 44, 45, 38, 39, 40, 32, 33, 34, 36, 37, 50, 51, 52, 53, 54, 55, 56, 57, 58, 59, 60, 61, 62, 63, 64, 65, 66, 67] (by decide +kernel) (by decide +kernel)
set_option maxRecDepth 20000 in
theorem gX1_leastThrough_X1_mostRest : GoodIn wsX1_leastThrough (wsV RX1 202 RX1 yX1_mostRest wsX1_mostRest) := goodIn_app (goodIn_of _ (by decide +kernel)) ggX1_leastThrough_X1_mostRest
theorem dX1_leastThrough_0 : decode cX1_leastThrough 0 = .ok (.aload_n 0, 1) := by decide +kernel
theorem dX1_leastThrough_1 : decode cX1_leastThrough 1 = .ok (.iload_n 1, 1) := by decide +kernel
theorem dX1_leastThrough_2 : decode cX1_leastThrough 2 = .ok (.iload_n 2, 1) := by decide +kernel
theorem dX1_leastThrough_3 : decode cX1_leastThrough 3 = .ok (.iconst 0, 1) := by decide +kernel
theorem dX1_leastThrough_4 : decode cX1_leastThrough 4 = .ok (.invokevirtual 170, 3) := by decide +kernel
theorem dX1_leastThrough_7 : decode cX1_leastThrough 7 = .ok (.istore_n 3, 1) := by decide +kernel
theorem dX1_leastThrough_8 : decode cX1_leastThrough 8 = .ok (.aload_n 0, 1) := by decide +kernel
theorem dX1_leastThrough_9 : decode cX1_leastThrough 9 = .ok (.getfield 9, 3) := by decide +kernel
theorem dX1_leastThrough_12 : decode cX1_leastThrough 12 = .ok (.iload_n 1, 1) := by decide +kernel
theorem dX1_leastThrough_13 : decode cX1_leastThrough 13 = .ok (.iaload, 1) := by decide +kernel
theorem dX1_leastThrough_14 : decode cX1_leastThrough 14 = .ok (.ifCond .ne 23, 3) := by decide +kernel
theorem dX1_leastThrough_17 : decode cX1_leastThrough 17 = .ok (.iload_n 3, 1) := by decide +kernel
theorem dX1_leastThrough_18 : decode cX1_leastThrough 18 = .ok (.aload_n 0, 1) := by decide +kernel
theorem dX1_leastThrough_19 : decode cX1_leastThrough 19 = .ok (.iload_n 2, 1) := by decide +kernel
theorem dX1_leastThrough_20 : decode cX1_leastThrough 20 = .ok (.iconst 0, 1) := by decide +kernel
theorem dX1_leastThrough_21 : decode cX1_leastThrough 21 = .ok (.invokevirtual 199, 3) := by decide +kernel
theorem dX1_leastThrough_24 : decode cX1_leastThrough 24 = .ok (.aload_n 0, 1) := by decide +kernel
theorem dX1_leastThrough_25 : decode cX1_leastThrough 25 = .ok (.iload_n 2, 1) := by decide +kernel
theorem dX1_leastThrough_26 : decode cX1_leastThrough 26 = .ok (.iconst 2, 1) := by decide +kernel
theorem dX1_leastThrough_27 : decode cX1_leastThrough 27 = .ok (.invokevirtual 199, 3) := by decide +kernel
theorem dX1_leastThrough_30 : decode cX1_leastThrough 30 = .ok (.invokestatic 154, 3) := by decide +kernel
theorem dX1_leastThrough_33 : decode cX1_leastThrough 33 = .ok (.invokestatic 154, 3) := by decide +kernel
theorem dX1_leastThrough_36 : decode cX1_leastThrough 36 = .ok (.ireturn, 1) := by decide +kernel
theorem dX1_leastThrough_37 : decode cX1_leastThrough 37 = .ok (.aload_n 0, 1) := by decide +kernel
theorem dX1_leastThrough_38 : decode cX1_leastThrough 38 = .ok (.getfield 9, 3) := by decide +kernel
theorem dX1_leastThrough_41 : decode cX1_leastThrough 41 = .ok (.iload_n 1, 1) := by decide +kernel
theorem dX1_leastThrough_42 : decode cX1_leastThrough 42 = .ok (.iaload, 1) := by decide +kernel
theorem dX1_leastThrough_43 : decode cX1_leastThrough 43 = .ok (.iconst 1, 1) := by decide +kernel
theorem dX1_leastThrough_44 : decode cX1_leastThrough 44 = .ok (.if_icmp .ne 23, 3) := by decide +kernel
theorem dX1_leastThrough_47 : decode cX1_leastThrough 47 = .ok (.iload_n 3, 1) := by decide +kernel
theorem dX1_leastThrough_48 : decode cX1_leastThrough 48 = .ok (.aload_n 0, 1) := by decide +kernel
theorem dX1_leastThrough_49 : decode cX1_leastThrough 49 = .ok (.iload_n 2, 1) := by decide +kernel
theorem dX1_leastThrough_50 : decode cX1_leastThrough 50 = .ok (.iconst 1, 1) := by decide +kernel
theorem dX1_leastThrough_51 : decode cX1_leastThrough 51 = .ok (.invokevirtual 199, 3) := by decide +kernel
theorem dX1_leastThrough_54 : decode cX1_leastThrough 54 = .ok (.aload_n 0, 1) := by decide +kernel
theorem dX1_leastThrough_55 : decode cX1_leastThrough 55 = .ok (.iload_n 2, 1) := by decide +kernel
theorem dX1_leastThrough_56 : decode cX1_leastThrough 56 = .ok (.iconst 2, 1) := by decide +kernel
theorem dX1_leastThrough_57 : decode cX1_leastThrough 57 = .ok (.invokevirtual 199, 3) := by decide +kernel
theorem dX1_leastThrough_60 : decode cX1_leastThrough 60 = .ok (.invokestatic 154, 3) := by decide +kernel
theorem dX1_leastThrough_63 : decode cX1_leastThrough 63 = .ok (.invokestatic 154, 3) := by decide +kernel
theorem dX1_leastThrough_66 : decode cX1_leastThrough 66 = .ok (.ireturn, 1) := by decide +kernel
theorem dX1_leastThrough_67 : decode cX1_leastThrough 67 = .ok (.iload_n 3, 1) := by decide +kernel
theorem dX1_leastThrough_68 : decode cX1_leastThrough 68 = .ok (.aload_n 0, 1) := by decide +kernel
theorem dX1_leastThrough_69 : decode cX1_leastThrough 69 = .ok (.iload_n 2, 1) := by decide +kernel
theorem dX1_leastThrough_70 : decode cX1_leastThrough 70 = .ok (.iconst 1, 1) := by decide +kernel
theorem dX1_leastThrough_71 : decode cX1_leastThrough 71 = .ok (.invokevirtual 199, 3) := by decide +kernel
theorem dX1_leastThrough_74 : decode cX1_leastThrough 74 = .ok (.aload_n 0, 1) := by decide +kernel
theorem dX1_leastThrough_75 : decode cX1_leastThrough 75 = .ok (.iload_n 2, 1) := by decide +kernel
theorem dX1_leastThrough_76 : decode cX1_leastThrough 76 = .ok (.iconst 0, 1) := by decide +kernel
theorem dX1_leastThrough_77 : decode cX1_leastThrough 77 = .ok (.invokevirtual 202, 3) := by decide +kernel
theorem dX1_leastThrough_80 : decode cX1_leastThrough 80 = .ok (.ineg, 1) := by decide +kernel
theorem dX1_leastThrough_81 : decode cX1_leastThrough 81 = .ok (.invokestatic 154, 3) := by decide +kernel
theorem dX1_leastThrough_84 : decode cX1_leastThrough 84 = .ok (.invokestatic 154, 3) := by decide +kernel
theorem dX1_leastThrough_87 : decode cX1_leastThrough 87 = .ok (.ireturn, 1) := by decide +kernel
set_option maxRecDepth 20000 in
theorem ggX1_mostThrough_X1_mostNet : GoodIn wsX1_mostThrough wsX1_mostNet := goodIn_r _ [10, 11, 12, 13, 14, 9, 15, 16, 17, 18, 19, 20, 21, 22, 23, 24, 25, 26, 27, 28, 4, 29, 53, 54, 55, 56, 57, 58, 59, 60, 61, 62, 63, 64, 65, 66, 67, 68] (by decide +kernel) (by decide +kernel)
set_option maxRecDepth 20000 in
theorem gX1_mostThrough_X1_mostNet : GoodIn wsX1_mostThrough (wsV RX1 173 RX1 yX1_mostNet wsX1_mostNet) := goodIn_app (goodIn_of _ (by decide +kernel)) ggX1_mostThrough_X1_mostNet
set_option maxRecDepth 20000 in
theorem ggX1_mostThrough_X1_mostRest : GoodIn wsX1_mostThrough wsX1_mostRest := goodIn_r _ [33, 34, 35, 36, 37, 38, 39, 40, 41, 42, 43, 44, 45, 46, 47, 48, 53, 54, 55, 56, 57, 58, 59, 60, 61, 62, 63, 64, 65, 66, 67, 68, 69, 70] (by decide +kernel) (by decide +kernel)
set_option maxRecDepth 20000 in
theorem gX1_mostThrough_X1_mostRest : GoodIn wsX1_mostThrough (wsV RX1 202 RX1 yX1_mostRest wsX1_mostRest) := goodIn_app (goodIn_of _ (by decide +kernel)) ggX1_mostThrough_X1_mostRest
set_option maxRecDepth 20000 in
theorem ggX1_mostThrough_X1_leastRest : GoodIn wsX1_mostThrough wsX1_leastRest := goodIn_r _ [52, 34, 44, 45, 46, 38, 47, 48, 41, 42, 43, 35, 36, 37, 39, 40, 53, 54, 55, 56, 57, 58, 59, 60, 61, 62, 63, 64, 65, 66, 67, 68, 69, 70] (by decide +kernel) (by decide +kernel)
set_option maxRecDepth 20000 in
theorem gX1_mostThrough_X1_leastRest : GoodIn wsX1_mostThrough (wsV RX1 199 RX1 yX1_leastRest wsX1_leastRest) := goodIn_app (goodIn_of _ (by decide +kernel)) ggX1_mostThrough_X1_leastRest
theorem dX1_mostThrough_0 : decode cX1_mostThrough 0 = .ok (.aload_n 0, 1) := by decide +kernel
theorem dX1_mostThrough_1 : decode cX1_mostThrough 1 = .ok (.iload_n 1, 1) := by decide +kernel
theorem dX1_mostThrough_2 : decode cX1_mostThrough 2 = .ok (.iload_n 2, 1) := by decide +kernel
theorem dX1_mostThrough_3 : decode cX1_mostThrough 3 = .ok (.iconst 0, 1) := by decide +kernel
theorem dX1_mostThrough_4 : decode cX1_mostThrough 4 = .ok (.invokevirtual 173, 3) := by decide +kernel
theorem dX1_mostThrough_7 : decode cX1_mostThrough 7 = .ok (.istore_n 3, 1) := by decide +kernel
theorem dX1_mostThrough_8 : decode cX1_mostThrough 8 = .ok (.aload_n 0, 1) := by decide +kernel
theorem dX1_mostThrough_9 : decode cX1_mostThrough 9 = .ok (.getfield 9, 3) := by decide +kernel
theorem dX1_mostThrough_12 : decode cX1_mostThrough 12 = .ok (.iload_n 1, 1) := by decide +kernel
theorem dX1_mostThrough_13 : decode cX1_mostThrough 13 = .ok (.iaload, 1) := by decide +kernel
theorem dX1_mostThrough_14 : decode cX1_mostThrough 14 = .ok (.ifCond .ne 23, 3) := by decide +kernel
theorem dX1_mostThrough_17 : decode cX1_mostThrough 17 = .ok (.iload_n 3, 1) := by decide +kernel
theorem dX1_mostThrough_18 : decode cX1_mostThrough 18 = .ok (.aload_n 0, 1) := by decide +kernel
theorem dX1_mostThrough_19 : decode cX1_mostThrough 19 = .ok (.iload_n 2, 1) := by decide +kernel
theorem dX1_mostThrough_20 : decode cX1_mostThrough 20 = .ok (.iconst 0, 1) := by decide +kernel
theorem dX1_mostThrough_21 : decode cX1_mostThrough 21 = .ok (.invokevirtual 202, 3) := by decide +kernel
theorem dX1_mostThrough_24 : decode cX1_mostThrough 24 = .ok (.aload_n 0, 1) := by decide +kernel
theorem dX1_mostThrough_25 : decode cX1_mostThrough 25 = .ok (.iload_n 2, 1) := by decide +kernel
theorem dX1_mostThrough_26 : decode cX1_mostThrough 26 = .ok (.iconst 2, 1) := by decide +kernel
theorem dX1_mostThrough_27 : decode cX1_mostThrough 27 = .ok (.invokevirtual 202, 3) := by decide +kernel
theorem dX1_mostThrough_30 : decode cX1_mostThrough 30 = .ok (.invokestatic 205, 3) := by decide +kernel
theorem dX1_mostThrough_33 : decode cX1_mostThrough 33 = .ok (.invokestatic 205, 3) := by decide +kernel
theorem dX1_mostThrough_36 : decode cX1_mostThrough 36 = .ok (.ireturn, 1) := by decide +kernel
theorem dX1_mostThrough_37 : decode cX1_mostThrough 37 = .ok (.aload_n 0, 1) := by decide +kernel
theorem dX1_mostThrough_38 : decode cX1_mostThrough 38 = .ok (.getfield 9, 3) := by decide +kernel
theorem dX1_mostThrough_41 : decode cX1_mostThrough 41 = .ok (.iload_n 1, 1) := by decide +kernel
theorem dX1_mostThrough_42 : decode cX1_mostThrough 42 = .ok (.iaload, 1) := by decide +kernel
theorem dX1_mostThrough_43 : decode cX1_mostThrough 43 = .ok (.iconst 1, 1) := by decide +kernel
theorem dX1_mostThrough_44 : decode cX1_mostThrough 44 = .ok (.if_icmp .ne 23, 3) := by decide +kernel
theorem dX1_mostThrough_47 : decode cX1_mostThrough 47 = .ok (.iload_n 3, 1) := by decide +kernel
theorem dX1_mostThrough_48 : decode cX1_mostThrough 48 = .ok (.aload_n 0, 1) := by decide +kernel
theorem dX1_mostThrough_49 : decode cX1_mostThrough 49 = .ok (.iload_n 2, 1) := by decide +kernel
theorem dX1_mostThrough_50 : decode cX1_mostThrough 50 = .ok (.iconst 1, 1) := by decide +kernel
theorem dX1_mostThrough_51 : decode cX1_mostThrough 51 = .ok (.invokevirtual 202, 3) := by decide +kernel
theorem dX1_mostThrough_54 : decode cX1_mostThrough 54 = .ok (.aload_n 0, 1) := by decide +kernel
theorem dX1_mostThrough_55 : decode cX1_mostThrough 55 = .ok (.iload_n 2, 1) := by decide +kernel
theorem dX1_mostThrough_56 : decode cX1_mostThrough 56 = .ok (.iconst 2, 1) := by decide +kernel
theorem dX1_mostThrough_57 : decode cX1_mostThrough 57 = .ok (.invokevirtual 202, 3) := by decide +kernel
theorem dX1_mostThrough_60 : decode cX1_mostThrough 60 = .ok (.invokestatic 205, 3) := by decide +kernel
theorem dX1_mostThrough_63 : decode cX1_mostThrough 63 = .ok (.invokestatic 205, 3) := by decide +kernel
theorem dX1_mostThrough_66 : decode cX1_mostThrough 66 = .ok (.ireturn, 1) := by decide +kernel
theorem dX1_mostThrough_67 : decode cX1_mostThrough 67 = .ok (.iload_n 3, 1) := by decide +kernel
theorem dX1_mostThrough_68 : decode cX1_mostThrough 68 = .ok (.aload_n 0, 1) := by decide +kernel
theorem dX1_mostThrough_69 : decode cX1_mostThrough 69 = .ok (.iload_n 2, 1) := by decide +kernel
theorem dX1_mostThrough_70 : decode cX1_mostThrough 70 = .ok (.iconst 1, 1) := by decide +kernel
theorem dX1_mostThrough_71 : decode cX1_mostThrough 71 = .ok (.invokevirtual 202, 3) := by decide +kernel
theorem dX1_mostThrough_74 : decode cX1_mostThrough 74 = .ok (.aload_n 0, 1) := by decide +kernel
theorem dX1_mostThrough_75 : decode cX1_mostThrough 75 = .ok (.iload_n 2, 1) := by decide +kernel
theorem dX1_mostThrough_76 : decode cX1_mostThrough 76 = .ok (.iconst 0, 1) := by decide +kernel
theorem dX1_mostThrough_77 : decode cX1_mostThrough 77 = .ok (.invokevirtual 199, 3) := by decide +kernel
theorem dX1_mostThrough_80 : decode cX1_mostThrough 80 = .ok (.ineg, 1) := by decide +kernel
theorem dX1_mostThrough_81 : decode cX1_mostThrough 81 = .ok (.invokestatic 205, 3) := by decide +kernel
theorem dX1_mostThrough_84 : decode cX1_mostThrough 84 = .ok (.invokestatic 205, 3) := by decide +kernel
theorem dX1_mostThrough_87 : decode cX1_mostThrough 87 = .ok (.ireturn, 1) := by decide +kernel
set_option maxRecDepth 20000 in
theorem ggX1_leastRest_X0_low : GoodIn wsX1_leastRest wsX0_low := goodIn_r _ [6, 7, 8, 9, 5, 10, 32, 33] (by decide +kernel) (by decide +kernel)
set_option maxRecDepth 20000 in
theorem gX1_leastRest_X0_low : GoodIn wsX1_leastRest (wsV RX1 111 RX0 yX0_low wsX0_low) := goodIn_app (goodIn_of _ (by decide +kernel)) ggX1_leastRest_X0_low
set_option maxRecDepth 20000 in
theorem ggX1_leastRest_X0_high : GoodIn wsX1_leastRest wsX0_high := goodIn_r _ [14, 15, 8, 9, 5, 10, 32, 33] (by decide +kernel) (by decide +kernel)
set_option maxRecDepth 20000 in
theorem gX1_leastRest_X0_high : GoodIn wsX1_leastRest (wsV RX1 108 RX0 yX0_high wsX0_high) := goodIn_app (goodIn_of _ (by decide +kernel)) ggX1_leastRest_X0_high
theorem dX1_leastRest_0 : decode cX1_leastRest 0 = .ok (.aload_n 0, 1) := by decide +kernel
theorem dX1_leastRest_1 : decode cX1_leastRest 1 = .ok (.getfield 49, 3) := by decide +kernel
theorem dX1_leastRest_4 : decode cX1_leastRest 4 = .ok (.iload_n 1, 1) := by decide +kernel
theorem dX1_leastRest_5 : decode cX1_leastRest 5 = .ok (.iconst 1, 1) := by decide +kernel
theorem dX1_leastRest_6 : decode cX1_leastRest 6 = .ok (.iadd, 1) := by decide +kernel
theorem dX1_leastRest_7 : decode cX1_leastRest 7 = .ok (.iload_n 2, 1) := by decide +kernel
theorem dX1_leastRest_8 : decode cX1_leastRest 8 = .ok (.invokevirtual 111, 3) := by decide +kernel
theorem dX1_leastRest_11 : decode cX1_leastRest 11 = .ok (.aload_n 0, 1) := by decide +kernel
theorem dX1_leastRest_12 : decode cX1_leastRest 12 = .ok (.getfield 49, 3) := by decide +kernel
theorem dX1_leastRest_15 : decode cX1_leastRest 15 = .ok (.iload_n 1, 1) := by decide +kernel
theorem dX1_leastRest_16 : decode cX1_leastRest 16 = .ok (.iload_n 2, 1) := by decide +kernel
theorem dX1_leastRest_17 : decode cX1_leastRest 17 = .ok (.invokevirtual 108, 3) := by decide +kernel
theorem dX1_leastRest_20 : decode cX1_leastRest 20 = .ok (.isub, 1) := by decide +kernel
theorem dX1_leastRest_21 : decode cX1_leastRest 21 = .ok (.aload_n 0, 1) := by decide +kernel
theorem dX1_leastRest_22 : decode cX1_leastRest 22 = .ok (.getfield 49, 3) := by decide +kernel
theorem dX1_leastRest_25 : decode cX1_leastRest 25 = .ok (.bipush 61, 2) := by decide +kernel
theorem dX1_leastRest_27 : decode cX1_leastRest 27 = .ok (.iload_n 2, 1) := by decide +kernel
theorem dX1_leastRest_28 : decode cX1_leastRest 28 = .ok (.invokevirtual 108, 3) := by decide +kernel
theorem dX1_leastRest_31 : decode cX1_leastRest 31 = .ok (.isub, 1) := by decide +kernel
theorem dX1_leastRest_32 : decode cX1_leastRest 32 = .ok (.ireturn, 1) := by decide +kernel
set_option maxRecDepth 20000 in
theorem ggX1_mostRest_X0_high : GoodIn wsX1_mostRest wsX0_high := goodIn_r _ [6, 7, 8, 9, 5, 10, 32, 33] (by decide +kernel) (by decide +kernel)
set_option maxRecDepth 20000 in
theorem gX1_mostRest_X0_high : GoodIn wsX1_mostRest (wsV RX1 108 RX0 yX0_high wsX0_high) := goodIn_app (goodIn_of _ (by decide +kernel)) ggX1_mostRest_X0_high
set_option maxRecDepth 20000 in
theorem ggX1_mostRest_X0_low : GoodIn wsX1_mostRest wsX0_low := goodIn_r _ [14, 15, 8, 9, 5, 10, 32, 33] (by decide +kernel) (by decide +kernel)
set_option maxRecDepth 20000 in
theorem gX1_mostRest_X0_low : GoodIn wsX1_mostRest (wsV RX1 111 RX0 yX0_low wsX0_low) := goodIn_app (goodIn_of _ (by decide +kernel)) ggX1_mostRest_X0_low
theorem dX1_mostRest_0 : decode cX1_mostRest 0 = .ok (.aload_n 0, 1) := by decide +kernel
theorem dX1_mostRest_1 : decode cX1_mostRest 1 = .ok (.getfield 49, 3) := by decide +kernel
theorem dX1_mostRest_4 : decode cX1_mostRest 4 = .ok (.iload_n 1, 1) := by decide +kernel
theorem dX1_mostRest_5 : decode cX1_mostRest 5 = .ok (.iconst 1, 1) := by decide +kernel
theorem dX1_mostRest_6 : decode cX1_mostRest 6 = .ok (.iadd, 1) := by decide +kernel
theorem dX1_mostRest_7 : decode cX1_mostRest 7 = .ok (.iload_n 2, 1) := by decide +kernel
theorem dX1_mostRest_8 : decode cX1_mostRest 8 = .ok (.invokevirtual 108, 3) := by decide +kernel
theorem dX1_mostRest_11 : decode cX1_mostRest 11 = .ok (.aload_n 0, 1) := by decide +kernel
theorem dX1_mostRest_12 : decode cX1_mostRest 12 = .ok (.getfield 49, 3) := by decide +kernel
theorem dX1_mostRest_15 : decode cX1_mostRest 15 = .ok (.iload_n 1, 1) := by decide +kernel
theorem dX1_mostRest_16 : decode cX1_mostRest 16 = .ok (.iload_n 2, 1) := by decide +kernel
theorem dX1_mostRest_17 : decode cX1_mostRest 17 = .ok (.invokevirtual 111, 3) := by decide +kernel
theorem dX1_mostRest_20 : decode cX1_mostRest 20 = .ok (.isub, 1) := by decide +kernel
theorem dX1_mostRest_21 : decode cX1_mostRest 21 = .ok (.aload_n 0, 1) := by decide +kernel
theorem dX1_mostRest_22 : decode cX1_mostRest 22 = .ok (.getfield 49, 3) := by decide +kernel
theorem dX1_mostRest_25 : decode cX1_mostRest 25 = .ok (.bipush 61, 2) := by decide +kernel
theorem dX1_mostRest_27 : decode cX1_mostRest 27 = .ok (.iload_n 2, 1) := by decide +kernel
theorem dX1_mostRest_28 : decode cX1_mostRest 28 = .ok (.invokevirtual 111, 3) := by decide +kernel
theorem dX1_mostRest_31 : decode cX1_mostRest 31 = .ok (.isub, 1) := by decide +kernel
theorem dX1_mostRest_32 : decode cX1_mostRest 32 = .ok (.ireturn, 1) := by decide +kernel
set_option maxRecDepth 20000 in
theorem ggX2_init_X2_clear : GoodIn wsX2_init wsX2_clear := goodIn_r _ [26, 4, 27, 28, 10, 11, 12, 13, 29, 30, 31, 32, 33, 34, 35, 36, 37, 38, 39, 40, 41, 42, 43, 44, 45, 46, 47, 48, 49] (by decide +kernel) (by decide +kernel)
set_option maxRecDepth 20000 in
theorem gX2_init_X2_clear : GoodIn wsX2_init (wsV RX2 62 RX2 yX2_clear wsX2_clear) := goodIn_app (goodIn_of _ (by decide +kernel)) ggX2_init_X2_clear
theorem dX2_init_0 : decode cX2_init 0 = .ok (.aload_n 0, 1) := by decide +kernel
theorem dX2_init_1 : decode cX2_init 1 = .ok (.invokespecial 1, 3) := by decide +kernel
theorem dX2_init_4 : decode cX2_init 4 = .ok (.aload_n 0, 1) := by decide +kernel
theorem dX2_init_5 : decode cX2_init 5 = .ok (.iconst 1, 1) := by decide +kernel
theorem dX2_init_6 : decode cX2_init 6 = .ok (.putfield 7, 3) := by decide +kernel
theorem dX2_init_9 : decode cX2_init 9 = .ok (.aload_n 0, 1) := by decide +kernel
theorem dX2_init_10 : decode cX2_init 10 = .ok (.bipush 6, 2) := by decide +kernel
theorem dX2_init_12 : decode cX2_init 12 = .ok (.newarray .int, 2) := by decide +kernel
theorem dX2_init_14 : decode cX2_init 14 = .ok (.putfield 13, 3) := by decide +kernel
theorem dX2_init_17 : decode cX2_init 17 = .ok (.aload_n 0, 1) := by decide +kernel
theorem dX2_init_18 : decode cX2_init 18 = .ok (.bipush 6, 2) := by decide +kernel
theorem dX2_init_20 : decode cX2_init 20 = .ok (.newarray .int, 2) := by decide +kernel
theorem dX2_init_22 : decode cX2_init 22 = .ok (.putfield 17, 3) := by decide +kernel
theorem dX2_init_25 : decode cX2_init 25 = .ok (.aload_n 0, 1) := by decide +kernel
theorem dX2_init_26 : decode cX2_init 26 = .ok (.bipush 6, 2) := by decide +kernel
theorem dX2_init_28 : decode cX2_init 28 = .ok (.newarray .int, 2) := by decide +kernel
theorem dX2_init_30 : decode cX2_init 30 = .ok (.putfield 20, 3) := by decide +kernel
theorem dX2_init_33 : decode cX2_init 33 = .ok (.aload_n 0, 1) := by decide +kernel
theorem dX2_init_34 : decode cX2_init 34 = .ok (.bipush 6, 2) := by decide +kernel
theorem dX2_init_36 : decode cX2_init 36 = .ok (.newarray .int, 2) := by decide +kernel
theorem dX2_init_38 : decode cX2_init 38 = .ok (.putfield 23, 3) := by decide +kernel
theorem dX2_init_41 : decode cX2_init 41 = .ok (.aload_n 0, 1) := by decide +kernel
theorem dX2_init_42 : decode cX2_init 42 = .ok (.sipush 360, 3) := by decide +kernel
theorem dX2_init_45 : decode cX2_init 45 = .ok (.newarray .int, 2) := by decide +kernel
theorem dX2_init_47 : decode cX2_init 47 = .ok (.putfield 26, 3) := by decide +kernel
theorem dX2_init_50 : decode cX2_init 50 = .ok (.aload_n 0, 1) := by decide +kernel
theorem dX2_init_51 : decode cX2_init 51 = .ok (.sipush 360, 3) := by decide +kernel
theorem dX2_init_54 : decode cX2_init 54 = .ok (.newarray .int, 2) := by decide +kernel
theorem dX2_init_56 : decode cX2_init 56 = .ok (.putfield 29, 3) := by decide +kernel
theorem dX2_init_59 : decode cX2_init 59 = .ok (.aload_n 0, 1) := by decide +kernel
theorem dX2_init_60 : decode cX2_init 60 = .ok (.iconst 2, 1) := by decide +kernel
theorem dX2_init_61 : decode cX2_init 61 = .ok (.newarray .int, 2) := by decide +kernel
theorem dX2_init_63 : decode cX2_init 63 = .ok (.putfield 32, 3) := by decide +kernel
theorem dX2_init_66 : decode cX2_init 66 = .ok (.aload_n 0, 1) := by decide +kernel
theorem dX2_init_67 : decode cX2_init 67 = .ok (.iconst 2, 1) := by decide +kernel
theorem dX2_init_68 : decode cX2_init 68 = .ok (.newarray .int, 2) := by decide +kernel
theorem dX2_init_70 : decode cX2_init 70 = .ok (.putfield 35, 3) := by decide +kernel
theorem dX2_init_73 : decode cX2_init 73 = .ok (.aload_n 0, 1) := by decide +kernel
theorem dX2_init_74 : decode cX2_init 74 = .ok (.bipush 20, 2) := by decide +kernel
theorem dX2_init_76 : decode cX2_init 76 = .ok (.newarray .int, 2) := by decide +kernel
theorem dX2_init_78 : decode cX2_init 78 = .ok (.putfield 38, 3) := by decide +kernel
theorem dX2_init_81 : decode cX2_init 81 = .ok (.aload_n 0, 1) := by decide +kernel
theorem dX2_init_82 : decode cX2_init 82 = .ok (.bipush 20, 2) := by decide +kernel
theorem dX2_init_84 : decode cX2_init 84 = .ok (.newarray .int, 2) := by decide +kernel
theorem dX2_init_86 : decode cX2_init 86 = .ok (.putfield 41, 3) := by decide +kernel
theorem dX2_init_89 : decode cX2_init 89 = .ok (.aload_n 0, 1) := by decide +kernel
theorem dX2_init_90 : decode cX2_init 90 = .ok (.bipush 20, 2) := by decide +kernel
theorem dX2_init_92 : decode cX2_init 92 = .ok (.newarray .int, 2) := by decide +kernel
theorem dX2_init_94 : decode cX2_init 94 = .ok (.putfield 44, 3) := by decide +kernel
theorem dX2_init_97 : decode cX2_init 97 = .ok (.aload_n 0, 1) := by decide +kernel
theorem dX2_init_98 : decode cX2_init 98 = .ok (.bipush 20, 2) := by decide +kernel
theorem dX2_init_100 : decode cX2_init 100 = .ok (.newarray .int, 2) := by decide +kernel
theorem dX2_init_102 : decode cX2_init 102 = .ok (.putfield 47, 3) := by decide +kernel
theorem dX2_init_105 : decode cX2_init 105 = .ok (.aload_n 0, 1) := by decide +kernel
theorem dX2_init_106 : decode cX2_init 106 = .ok (.sipush 366, 3) := by decide +kernel
theorem dX2_init_109 : decode cX2_init 109 = .ok (.newarray .int, 2) := by decide +kernel
theorem dX2_init_111 : decode cX2_init 111 = .ok (.putfield 50, 3) := by decide +kernel
theorem dX2_init_114 : decode cX2_init 114 = .ok (.aload_n 0, 1) := by decide +kernel
theorem dX2_init_115 : decode cX2_init 115 = .ok (.sipush 366, 3) := by decide +kernel
theorem dX2_init_118 : decode cX2_init 118 = .ok (.newarray .int, 2) := by decide +kernel
theorem dX2_init_120 : decode cX2_init 120 = .ok (.putfield 53, 3) := by decide +kernel
theorem dX2_init_123 : decode cX2_init 123 = .ok (.aload_n 0, 1) := by decide +kernel
theorem dX2_init_124 : decode cX2_init 124 = .ok (.sipush 366, 3) := by decide +kernel
theorem dX2_init_127 : decode cX2_init 127 = .ok (.newarray .int, 2) := by decide +kernel
theorem dX2_init_129 : decode cX2_init 129 = .ok (.putfield 56, 3) := by decide +kernel
theorem dX2_init_132 : decode cX2_init 132 = .ok (.aload_n 0, 1) := by decide +kernel
theorem dX2_init_133 : decode cX2_init 133 = .ok (.bipush 6, 2) := by decide +kernel
theorem dX2_init_135 : decode cX2_init 135 = .ok (.newarray .int, 2) := by decide +kernel
theorem dX2_init_137 : decode cX2_init 137 = .ok (.putfield 59, 3) := by decide +kernel
theorem dX2_init_140 : decode cX2_init 140 = .ok (.aload_n 0, 1) := by decide +kernel
theorem dX2_init_141 : decode cX2_init 141 = .ok (.iconst 1, 1) := by decide +kernel
theorem dX2_init_142 : decode cX2_init 142 = .ok (.invokevirtual 62, 3) := by decide +kernel
theorem dX2_init_145 : decode cX2_init 145 = .ok (.return_, 1) := by decide +kernel
theorem dX2_thrown_0 : decode cX2_thrown 0 = .ok (.aload_n 0, 1) := by decide +kernel
theorem dX2_thrown_1 : decode cX2_thrown 1 = .ok (.getfield 66, 3) := by decide +kernel
theorem dX2_thrown_4 : decode cX2_thrown 4 = .ok (.ireturn, 1) := by decide +kernel
theorem dX2_clear_0 : decode cX2_clear 0 = .ok (.aload_n 0, 1) := by decide +kernel
theorem dX2_clear_1 : decode cX2_clear 1 = .ok (.iload_n 1, 1) := by decide +kernel
theorem dX2_clear_2 : decode cX2_clear 2 = .ok (.putfield 7, 3) := by decide +kernel
theorem dX2_clear_5 : decode cX2_clear 5 = .ok (.aload_n 0, 1) := by decide +kernel
theorem dX2_clear_6 : decode cX2_clear 6 = .ok (.iconst 0, 1) := by decide +kernel
theorem dX2_clear_7 : decode cX2_clear 7 = .ok (.putfield 69, 3) := by decide +kernel
theorem dX2_clear_10 : decode cX2_clear 10 = .ok (.aload_n 0, 1) := by decide +kernel
theorem dX2_clear_11 : decode cX2_clear 11 = .ok (.iconst 0, 1) := by decide +kernel
theorem dX2_clear_12 : decode cX2_clear 12 = .ok (.putfield 72, 3) := by decide +kernel
theorem dX2_clear_15 : decode cX2_clear 15 = .ok (.iconst 0, 1) := by decide +kernel
theorem dX2_clear_16 : decode cX2_clear 16 = .ok (.istore_n 2, 1) := by decide +kernel
theorem dX2_clear_17 : decode cX2_clear 17 = .ok (.iload_n 2, 1) := by decide +kernel
theorem dX2_clear_18 : decode cX2_clear 18 = .ok (.sipush 360, 3) := by decide +kernel
theorem dX2_clear_21 : decode cX2_clear 21 = .ok (.if_icmp .ge 23, 3) := by decide +kernel
theorem dX2_clear_24 : decode cX2_clear 24 = .ok (.aload_n 0, 1) := by decide +kernel
theorem dX2_clear_25 : decode cX2_clear 25 = .ok (.getfield 26, 3) := by decide +kernel
theorem dX2_clear_28 : decode cX2_clear 28 = .ok (.iload_n 2, 1) := by decide +kernel
theorem dX2_clear_29 : decode cX2_clear 29 = .ok (.iconst (-1), 1) := by decide +kernel
theorem dX2_clear_30 : decode cX2_clear 30 = .ok (.iastore, 1) := by decide +kernel
theorem dX2_clear_31 : decode cX2_clear 31 = .ok (.aload_n 0, 1) := by decide +kernel
theorem dX2_clear_32 : decode cX2_clear 32 = .ok (.getfield 29, 3) := by decide +kernel
theorem dX2_clear_35 : decode cX2_clear 35 = .ok (.iload_n 2, 1) := by decide +kernel
theorem dX2_clear_36 : decode cX2_clear 36 = .ok (.iconst (-1), 1) := by decide +kernel
theorem dX2_clear_37 : decode cX2_clear 37 = .ok (.iastore, 1) := by decide +kernel
theorem dX2_clear_38 : decode cX2_clear 38 = .ok (.iinc 2 1, 3) := by decide +kernel
theorem dX2_clear_41 : decode cX2_clear 41 = .ok (.goto (-24), 3) := by decide +kernel
theorem dX2_clear_44 : decode cX2_clear 44 = .ok (.iconst 0, 1) := by decide +kernel
theorem dX2_clear_45 : decode cX2_clear 45 = .ok (.istore_n 2, 1) := by decide +kernel
theorem dX2_clear_46 : decode cX2_clear 46 = .ok (.iload_n 2, 1) := by decide +kernel
theorem dX2_clear_47 : decode cX2_clear 47 = .ok (.iconst 2, 1) := by decide +kernel
theorem dX2_clear_48 : decode cX2_clear 48 = .ok (.if_icmp .ge 23, 3) := by decide +kernel
theorem dX2_clear_51 : decode cX2_clear 51 = .ok (.aload_n 0, 1) := by decide +kernel
theorem dX2_clear_52 : decode cX2_clear 52 = .ok (.getfield 32, 3) := by decide +kernel
theorem dX2_clear_55 : decode cX2_clear 55 = .ok (.iload_n 2, 1) := by decide +kernel
theorem dX2_clear_56 : decode cX2_clear 56 = .ok (.iconst 0, 1) := by decide +kernel
