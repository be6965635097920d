set_option maxRecDepth 20000 in
theorem gX1_row_X1_place : GoodIn wsX1_row (va_wsS RX1 72 yX1_place wsX1_place) := goodIn_app (goodIn_of _ (by decide +kernel)) ggX1_row_X1_place
theorem dX1_row_0 : decode cX1_row 0 = .ok (.aload_n 0, 1) := by decide +kernel
theorem dX1_row_1 : decode cX1_row 1 = .ok (.iload_n 1, 1) := by decide +kernel
theorem dX1_row_2 : decode cX1_row 2 = .ok (.invokevirtual 65, 3) := by decide +kernel
theorem dX1_row_5 : decode cX1_row 5 = .ok (.ifCond .eq 36, 3) := by decide +kernel
theorem dX1_row_8 : decode cX1_row 8 = .ok (.aload_n 0, 1) := by decide +kernel
theorem dX1_row_9 : decode cX1_row 9 = .ok (.iload_n 2, 1) := by decide +kernel
theorem dX1_row_10 : decode cX1_row 10 = .ok (.invokevirtual 69, 3) := by decide +kernel
theorem dX1_row_13 : decode cX1_row 13 = .ok (.ifCond .eq 28, 3) := by decide +kernel
theorem dX1_row_16 : decode cX1_row 16 = .ok (.iload_n 3, 1) := by decide +kernel
theorem dX1_row_17 : decode cX1_row 17 = .ok (.iconst 0, 1) := by decide +kernel
theorem dX1_row_18 : decode cX1_row 18 = .ok (.bipush 20, 2) := by decide +kernel
theorem dX1_row_20 : decode cX1_row 20 = .ok (.invokestatic 57, 3) := by decide +kernel
theorem dX1_row_23 : decode cX1_row 23 = .ok (.ifCond .eq 18, 3) := by decide +kernel
theorem dX1_row_26 : decode cX1_row 26 = .ok (.iload 4, 2) := by decide +kernel
theorem dX1_row_28 : decode cX1_row 28 = .ok (.iconst 0, 1) := by decide +kernel
theorem dX1_row_29 : decode cX1_row 29 = .ok (.bipush 20, 2) := by decide +kernel
theorem dX1_row_31 : decode cX1_row 31 = .ok (.invokestatic 57, 3) := by decide +kernel
theorem dX1_row_34 : decode cX1_row 34 = .ok (.ifCond .eq 7, 3) := by decide +kernel
theorem dX1_row_37 : decode cX1_row 37 = .ok (.iconst 1, 1) := by decide +kernel
theorem dX1_row_38 : decode cX1_row 38 = .ok (.goto 4, 3) := by decide +kernel
theorem dX1_row_41 : decode cX1_row 41 = .ok (.iconst 0, 1) := by decide +kernel
theorem dX1_row_42 : decode cX1_row 42 = .ok (.istore 5, 2) := by decide +kernel
theorem dX1_row_44 : decode cX1_row 44 = .ok (.iload 5, 2) := by decide +kernel
theorem dX1_row_46 : decode cX1_row 46 = .ok (.ifCond .ne 5, 3) := by decide +kernel
theorem dX1_row_49 : decode cX1_row 49 = .ok (.iconst 0, 1) := by decide +kernel
theorem dX1_row_50 : decode cX1_row 50 = .ok (.ireturn, 1) := by decide +kernel
theorem dX1_row_51 : decode cX1_row 51 = .ok (.iload_n 1, 1) := by decide +kernel
theorem dX1_row_52 : decode cX1_row 52 = .ok (.iload_n 2, 1) := by decide +kernel
theorem dX1_row_53 : decode cX1_row 53 = .ok (.invokestatic 72, 3) := by decide +kernel
theorem dX1_row_56 : decode cX1_row 56 = .ok (.istore 6, 2) := by decide +kernel
theorem dX1_row_58 : decode cX1_row 58 = .ok (.aload_n 0, 1) := by decide +kernel
theorem dX1_row_59 : decode cX1_row 59 = .ok (.getfield 22, 3) := by decide +kernel
theorem dX1_row_62 : decode cX1_row 62 = .ok (.iload 6, 2) := by decide +kernel
theorem dX1_row_64 : decode cX1_row 64 = .ok (.iload_n 3, 1) := by decide +kernel
theorem dX1_row_65 : decode cX1_row 65 = .ok (.iastore, 1) := by decide +kernel
theorem dX1_row_66 : decode cX1_row 66 = .ok (.aload_n 0, 1) := by decide +kernel
theorem dX1_row_67 : decode cX1_row 67 = .ok (.getfield 25, 3) := by decide +kernel
theorem dX1_row_70 : decode cX1_row 70 = .ok (.iload 6, 2) := by decide +kernel
theorem dX1_row_72 : decode cX1_row 72 = .ok (.iload 4, 2) := by decide +kernel
theorem dX1_row_74 : decode cX1_row 74 = .ok (.iastore, 1) := by decide +kernel
theorem dX1_row_75 : decode cX1_row 75 = .ok (.iconst 1, 1) := by decide +kernel
theorem dX1_row_76 : decode cX1_row 76 = .ok (.ireturn, 1) := by decide +kernel
set_option maxRecDepth 20000 in
theorem ggX1_lack_X1_isDoor : GoodIn wsX1_lack wsX1_isDoor := goodIn_r _ [7, 8, 9, 10, 6, 11, 20, 21, 22, 23, 24, 25, 26, 27, 28, 29, 30, 31, 32, 33, 34, 35] (by decide +kernel) (by decide +kernel)
set_option maxRecDepth 20000 in
theorem gX1_lack_X1_isDoor : GoodIn wsX1_lack (wsV RX1 65 RX1 yX1_isDoor wsX1_isDoor) := goodIn_app (goodIn_of _ (by decide +kernel)) ggX1_lack_X1_isDoor
set_option maxRecDepth 20000 in
theorem ggX1_lack_X1_isTick : GoodIn wsX1_lack wsX1_isTick := goodIn_r _ [15, 16, 9, 10, 6, 11, 20, 21, 22, 23, 24, 25, 26, 27, 28, 29, 30, 31, 32, 33, 34, 35] (by decide +kernel) (by decide +kernel)
set_option maxRecDepth 20000 in
theorem gX1_lack_X1_isTick : GoodIn wsX1_lack (wsV RX1 69 RX1 yX1_isTick wsX1_isTick) := goodIn_app (goodIn_of _ (by decide +kernel)) ggX1_lack_X1_isTick
set_option maxRecDepth 20000 in
theorem ggX1_lack_X1_place : GoodIn wsX1_lack wsX1_place := goodIn_r _ [19] (by decide +kernel) (by decide +kernel)
set_option maxRecDepth 20000 in
theorem gX1_lack_X1_place : GoodIn wsX1_lack (va_wsS RX1 72 yX1_place wsX1_place) := goodIn_app (goodIn_of _ (by decide +kernel)) ggX1_lack_X1_place
theorem dX1_lack_0 : decode cX1_lack 0 = .ok (.aload_n 0, 1) := by decide +kernel
theorem dX1_lack_1 : decode cX1_lack 1 = .ok (.iload_n 1, 1) := by decide +kernel
theorem dX1_lack_2 : decode cX1_lack 2 = .ok (.invokevirtual 65, 3) := by decide +kernel
theorem dX1_lack_5 : decode cX1_lack 5 = .ok (.ifCond .eq 24, 3) := by decide +kernel
theorem dX1_lack_8 : decode cX1_lack 8 = .ok (.aload_n 0, 1) := by decide +kernel
theorem dX1_lack_9 : decode cX1_lack 9 = .ok (.iload_n 2, 1) := by decide +kernel
theorem dX1_lack_10 : decode cX1_lack 10 = .ok (.invokevirtual 69, 3) := by decide +kernel
theorem dX1_lack_13 : decode cX1_lack 13 = .ok (.ifCond .eq 16, 3) := by decide +kernel
theorem dX1_lack_16 : decode cX1_lack 16 = .ok (.aload_n 0, 1) := by decide +kernel
theorem dX1_lack_17 : decode cX1_lack 17 = .ok (.iload_n 3, 1) := by decide +kernel
theorem dX1_lack_18 : decode cX1_lack 18 = .ok (.invokevirtual 69, 3) := by decide +kernel
theorem dX1_lack_21 : decode cX1_lack 21 = .ok (.ifCond .eq 8, 3) := by decide +kernel
theorem dX1_lack_24 : decode cX1_lack 24 = .ok (.iload_n 2, 1) := by decide +kernel
theorem dX1_lack_25 : decode cX1_lack 25 = .ok (.iload_n 3, 1) := by decide +kernel
theorem dX1_lack_26 : decode cX1_lack 26 = .ok (.if_icmp .le 5, 3) := by decide +kernel
theorem dX1_lack_29 : decode cX1_lack 29 = .ok (.iconst 0, 1) := by decide +kernel
theorem dX1_lack_30 : decode cX1_lack 30 = .ok (.ireturn, 1) := by decide +kernel
theorem dX1_lack_31 : decode cX1_lack 31 = .ok (.iload_n 2, 1) := by decide +kernel
theorem dX1_lack_32 : decode cX1_lack 32 = .ok (.istore 4, 2) := by decide +kernel
theorem dX1_lack_34 : decode cX1_lack 34 = .ok (.iload 4, 2) := by decide +kernel
theorem dX1_lack_36 : decode cX1_lack 36 = .ok (.iload_n 3, 1) := by decide +kernel
theorem dX1_lack_37 : decode cX1_lack 37 = .ok (.if_icmp .gt 33, 3) := by decide +kernel
theorem dX1_lack_40 : decode cX1_lack 40 = .ok (.aload_n 0, 1) := by decide +kernel
theorem dX1_lack_41 : decode cX1_lack 41 = .ok (.getfield 22, 3) := by decide +kernel
theorem dX1_lack_44 : decode cX1_lack 44 = .ok (.iload_n 1, 1) := by decide +kernel
theorem dX1_lack_45 : decode cX1_lack 45 = .ok (.iload 4, 2) := by decide +kernel
theorem dX1_lack_47 : decode cX1_lack 47 = .ok (.invokestatic 72, 3) := by decide +kernel
theorem dX1_lack_50 : decode cX1_lack 50 = .ok (.iconst (-1), 1) := by decide +kernel
theorem dX1_lack_51 : decode cX1_lack 51 = .ok (.iastore, 1) := by decide +kernel
theorem dX1_lack_52 : decode cX1_lack 52 = .ok (.aload_n 0, 1) := by decide +kernel
theorem dX1_lack_53 : decode cX1_lack 53 = .ok (.getfield 25, 3) := by decide +kernel
theorem dX1_lack_56 : decode cX1_lack 56 = .ok (.iload_n 1, 1) := by decide +kernel
theorem dX1_lack_57 : decode cX1_lack 57 = .ok (.iload 4, 2) := by decide +kernel
theorem dX1_lack_59 : decode cX1_lack 59 = .ok (.invokestatic 72, 3) := by decide +kernel
theorem dX1_lack_62 : decode cX1_lack 62 = .ok (.iconst (-1), 1) := by decide +kernel
theorem dX1_lack_63 : decode cX1_lack 63 = .ok (.iastore, 1) := by decide +kernel
theorem dX1_lack_64 : decode cX1_lack 64 = .ok (.iinc 4 1, 3) := by decide +kernel
theorem dX1_lack_67 : decode cX1_lack 67 = .ok (.goto (-33), 3) := by decide +kernel
theorem dX1_lack_70 : decode cX1_lack 70 = .ok (.iconst 1, 1) := by decide +kernel
theorem dX1_lack_71 : decode cX1_lack 71 = .ok (.ireturn, 1) := by decide +kernel
set_option maxRecDepth 20000 in
theorem ggX1_start_X1_within : GoodIn wsX1_start wsX1_within := goodIn_r _ [6] (by decide +kernel) (by decide +kernel)
set_option maxRecDepth 20000 in
theorem gX1_start_X1_within : GoodIn wsX1_start (va_wsS RX1 57 yX1_within wsX1_within) := goodIn_app (goodIn_of _ (by decide +kernel)) ggX1_start_X1_within
set_option maxRecDepth 20000 in
theorem ggX1_start_X1_isSpanInside : GoodIn wsX1_start wsX1_isSpanInside := goodIn_r _ [9] (by decide +kernel) (by decide +kernel)
set_option maxRecDepth 20000 in
theorem gX1_start_X1_isSpanInside : GoodIn wsX1_start (va_wsS RX1 76 yX1_isSpanInside wsX1_isSpanInside) := goodIn_app (goodIn_of _ (by decide +kernel)) ggX1_start_X1_isSpanInside
theorem dX1_start_0 : decode cX1_start 0 = .ok (.iload_n 1, 1) := by decide +kernel
theorem dX1_start_1 : decode cX1_start 1 = .ok (.iconst 0, 1) := by decide +kernel
theorem dX1_start_2 : decode cX1_start 2 = .ok (.iconst 1, 1) := by decide +kernel
theorem dX1_start_3 : decode cX1_start 3 = .ok (.invokestatic 57, 3) := by decide +kernel
theorem dX1_start_6 : decode cX1_start 6 = .ok (.ifCond .eq 11, 3) := by decide +kernel
theorem dX1_start_9 : decode cX1_start 9 = .ok (.iload_n 2, 1) := by decide +kernel
theorem dX1_start_10 : decode cX1_start 10 = .ok (.iload_n 3, 1) := by decide +kernel
theorem dX1_start_11 : decode cX1_start 11 = .ok (.invokestatic 76, 3) := by decide +kernel
theorem dX1_start_14 : decode cX1_start 14 = .ok (.ifCond .ne 5, 3) := by decide +kernel
theorem dX1_start_17 : decode cX1_start 17 = .ok (.iconst 0, 1) := by decide +kernel
theorem dX1_start_18 : decode cX1_start 18 = .ok (.ireturn, 1) := by decide +kernel
theorem dX1_start_19 : decode cX1_start 19 = .ok (.aload_n 0, 1) := by decide +kernel
theorem dX1_start_20 : decode cX1_start 20 = .ok (.getfield 28, 3) := by decide +kernel
theorem dX1_start_23 : decode cX1_start 23 = .ok (.iload_n 1, 1) := by decide +kernel
theorem dX1_start_24 : decode cX1_start 24 = .ok (.iload_n 2, 1) := by decide +kernel
theorem dX1_start_25 : decode cX1_start 25 = .ok (.iastore, 1) := by decide +kernel
theorem dX1_start_26 : decode cX1_start 26 = .ok (.aload_n 0, 1) := by decide +kernel
theorem dX1_start_27 : decode cX1_start 27 = .ok (.getfield 31, 3) := by decide +kernel
theorem dX1_start_30 : decode cX1_start 30 = .ok (.iload_n 1, 1) := by decide +kernel
theorem dX1_start_31 : decode cX1_start 31 = .ok (.iload_n 3, 1) := by decide +kernel
theorem dX1_start_32 : decode cX1_start 32 = .ok (.iastore, 1) := by decide +kernel
theorem dX1_start_33 : decode cX1_start 33 = .ok (.iconst 1, 1) := by decide +kernel
theorem dX1_start_34 : decode cX1_start 34 = .ok (.ireturn, 1) := by decide +kernel
set_option maxRecDepth 20000 in
theorem ggX1_check_X1_isTime : GoodIn wsX1_check wsX1_isTime := goodIn_r _ [10, 11, 12, 13, 9, 14, 21, 22, 23, 24, 25, 26, 27, 28, 29, 30, 31, 32, 33, 34, 35, 36] (by decide +kernel) (by decide +kernel)
set_option maxRecDepth 20000 in
theorem gX1_check_X1_isTime : GoodIn wsX1_check (wsV RX1 80 RX1 yX1_isTime wsX1_isTime) := goodIn_app (goodIn_of _ (by decide +kernel)) ggX1_check_X1_isTime
set_option maxRecDepth 20000 in
theorem ggX1_check_X1_isWhat : GoodIn wsX1_check wsX1_isWhat := goodIn_r _ [17, 12, 13, 9, 14] (by decide +kernel) (by decide +kernel)
set_option maxRecDepth 20000 in
theorem gX1_check_X1_isWhat : GoodIn wsX1_check (va_wsS RX1 83 yX1_isWhat wsX1_isWhat) := goodIn_app (goodIn_of _ (by decide +kernel)) ggX1_check_X1_isWhat
set_option maxRecDepth 20000 in
theorem ggX1_check_X1_isSpanInside : GoodIn wsX1_check wsX1_isSpanInside := goodIn_r _ [20] (by decide +kernel) (by decide +kernel)
set_option maxRecDepth 20000 in
theorem gX1_check_X1_isSpanInside : GoodIn wsX1_check (va_wsS RX1 76 yX1_isSpanInside wsX1_isSpanInside) := goodIn_app (goodIn_of _ (by decide +kernel)) ggX1_check_X1_isSpanInside
theorem dX1_check_0 : decode cX1_check 0 = .ok (.aload_n 0, 1) := by decide +kernel
theorem dX1_check_1 : decode cX1_check 1 = .ok (.iload_n 1, 1) := by decide +kernel
theorem dX1_check_2 : decode cX1_check 2 = .ok (.invokevirtual 80, 3) := by decide +kernel
theorem dX1_check_5 : decode cX1_check 5 = .ok (.ifCond .eq 23, 3) := by decide +kernel
theorem dX1_check_8 : decode cX1_check 8 = .ok (.iload_n 2, 1) := by decide +kernel
theorem dX1_check_9 : decode cX1_check 9 = .ok (.invokestatic 83, 3) := by decide +kernel
theorem dX1_check_12 : decode cX1_check 12 = .ok (.ifCond .eq 16, 3) := by decide +kernel
theorem dX1_check_15 : decode cX1_check 15 = .ok (.iload_n 3, 1) := by decide +kernel
theorem dX1_check_16 : decode cX1_check 16 = .ok (.iload 4, 2) := by decide +kernel
theorem dX1_check_18 : decode cX1_check 18 = .ok (.invokestatic 76, 3) := by decide +kernel
theorem dX1_check_21 : decode cX1_check 21 = .ok (.ifCond .eq 7, 3) := by decide +kernel
theorem dX1_check_24 : decode cX1_check 24 = .ok (.iconst 1, 1) := by decide +kernel
theorem dX1_check_25 : decode cX1_check 25 = .ok (.goto 4, 3) := by decide +kernel
theorem dX1_check_28 : decode cX1_check 28 = .ok (.iconst 0, 1) := by decide +kernel
theorem dX1_check_29 : decode cX1_check 29 = .ok (.istore 5, 2) := by decide +kernel
theorem dX1_check_31 : decode cX1_check 31 = .ok (.iload 5, 2) := by decide +kernel
theorem dX1_check_33 : decode cX1_check 33 = .ok (.ifCond .eq 12, 3) := by decide +kernel
theorem dX1_check_36 : decode cX1_check 36 = .ok (.aload_n 0, 1) := by decide +kernel
theorem dX1_check_37 : decode cX1_check 37 = .ok (.getfield 86, 3) := by decide +kernel
theorem dX1_check_40 : decode cX1_check 40 = .ok (.bipush 20, 2) := by decide +kernel
theorem dX1_check_42 : decode cX1_check 42 = .ok (.if_icmp .lt 5, 3) := by decide +kernel
theorem dX1_check_45 : decode cX1_check 45 = .ok (.iconst (-1), 1) := by decide +kernel
theorem dX1_check_46 : decode cX1_check 46 = .ok (.ireturn, 1) := by decide +kernel
theorem dX1_check_47 : decode cX1_check 47 = .ok (.aload_n 0, 1) := by decide +kernel
theorem dX1_check_48 : decode cX1_check 48 = .ok (.getfield 86, 3) := by decide +kernel
theorem dX1_check_51 : decode cX1_check 51 = .ok (.istore 6, 2) := by decide +kernel
theorem dX1_check_53 : decode cX1_check 53 = .ok (.aload_n 0, 1) := by decide +kernel
theorem dX1_check_54 : decode cX1_check 54 = .ok (.getfield 34, 3) := by decide +kernel
theorem dX1_check_57 : decode cX1_check 57 = .ok (.iload 6, 2) := by decide +kernel
theorem dX1_check_59 : decode cX1_check 59 = .ok (.iload_n 1, 1) := by decide +kernel
theorem dX1_check_60 : decode cX1_check 60 = .ok (.iastore, 1) := by decide +kernel
theorem dX1_check_61 : decode cX1_check 61 = .ok (.aload_n 0, 1) := by decide +kernel
theorem dX1_check_62 : decode cX1_check 62 = .ok (.getfield 37, 3) := by decide +kernel
theorem dX1_check_65 : decode cX1_check 65 = .ok (.iload 6, 2) := by decide +kernel
theorem dX1_check_67 : decode cX1_check 67 = .ok (.iload_n 2, 1) := by decide +kernel
theorem dX1_check_68 : decode cX1_check 68 = .ok (.iastore, 1) := by decide +kernel
theorem dX1_check_69 : decode cX1_check 69 = .ok (.aload_n 0, 1) := by decide +kernel
theorem dX1_check_70 : decode cX1_check 70 = .ok (.getfield 40, 3) := by decide +kernel
theorem dX1_check_73 : decode cX1_check 73 = .ok (.iload 6, 2) := by decide +kernel
theorem dX1_check_75 : decode cX1_check 75 = .ok (.iload_n 3, 1) := by decide +kernel
theorem dX1_check_76 : decode cX1_check 76 = .ok (.iastore, 1) := by decide +kernel
theorem dX1_check_77 : decode cX1_check 77 = .ok (.aload_n 0, 1) := by decide +kernel
theorem dX1_check_78 : decode cX1_check 78 = .ok (.getfield 43, 3) := by decide +kernel
theorem dX1_check_81 : decode cX1_check 81 = .ok (.iload 6, 2) := by decide +kernel
theorem dX1_check_83 : decode cX1_check 83 = .ok (.iload 4, 2) := by decide +kernel
theorem dX1_check_85 : decode cX1_check 85 = .ok (.iastore, 1) := by decide +kernel
theorem dX1_check_86 : decode cX1_check 86 = .ok (.aload_n 0, 1) := by decide +kernel
theorem dX1_check_87 : decode cX1_check 87 = .ok (.iload 6, 2) := by decide +kernel
theorem dX1_check_89 : decode cX1_check 89 = .ok (.iconst 1, 1) := by decide +kernel
theorem dX1_check_90 : decode cX1_check 90 = .ok (.iadd, 1) := by decide +kernel
theorem dX1_check_91 : decode cX1_check 91 = .ok (.putfield 86, 3) := by decide +kernel
theorem dX1_check_94 : decode cX1_check 94 = .ok (.iload 6, 2) := by decide +kernel
theorem dX1_check_96 : decode cX1_check 96 = .ok (.ireturn, 1) := by decide +kernel
theorem dX1_uncheck_0 : decode cX1_uncheck 0 = .ok (.aload_n 0, 1) := by decide +kernel
theorem dX1_uncheck_1 : decode cX1_uncheck 1 = .ok (.getfield 86, 3) := by decide +kernel
theorem dX1_uncheck_4 : decode cX1_uncheck 4 = .ok (.ifCond .ne 5, 3) := by decide +kernel
theorem dX1_uncheck_7 : decode cX1_uncheck 7 = .ok (.iconst (-1), 1) := by decide +kernel
theorem dX1_uncheck_8 : decode cX1_uncheck 8 = .ok (.ireturn, 1) := by decide +kernel
theorem dX1_uncheck_9 : decode cX1_uncheck 9 = .ok (.aload_n 0, 1) := by decide +kernel
theorem dX1_uncheck_10 : decode cX1_uncheck 10 = .ok (.dup, 1) := by decide +kernel
theorem dX1_uncheck_11 : decode cX1_uncheck 11 = .ok (.getfield 86, 3) := by decide +kernel
theorem dX1_uncheck_14 : decode cX1_uncheck 14 = .ok (.iconst 1, 1) := by decide +kernel
theorem dX1_uncheck_15 : decode cX1_uncheck 15 = .ok (.isub, 1) := by decide +kernel
theorem dX1_uncheck_16 : decode cX1_uncheck 16 = .ok (.putfield 86, 3) := by decide +kernel
theorem dX1_uncheck_19 : decode cX1_uncheck 19 = .ok (.aload_n 0, 1) := by decide +kernel
theorem dX1_uncheck_20 : decode cX1_uncheck 20 = .ok (.getfield 86, 3) := by decide +kernel
theorem dX1_uncheck_23 : decode cX1_uncheck 23 = .ok (.ireturn, 1) := by decide +kernel
set_option maxRecDepth 20000 in
theorem ggX1_fits_X1_lookAhead : GoodIn wsX1_fits wsX1_lookAhead := goodIn_r _ [5, 6, 7, 8, 9, 10, 11, 12, 13, 14, 15, 16, 17, 18, 19, 20, 21, 22, 4, 23, 24, 25, 26, 27, 28, 29, 30, 31, 32, 33, 34, 35, 36, 37, 38, 39, 40, 41, 42, 43, 44, 45, 46, 47, 48, 49, 50, 51, 52, 53, 54, 55, 56, 57, 58, 59, 60, 61, 62, 63, 64, 65, 66, 67, 68, 69, 70, 71, 72, 73, 74, 75, 76, 77, 78, 79, 80, 81, 82, 83, 84, 85, 86, 87, 88, 89, 90, 91, 92, 93, 94, 95, 96, 97, 98, 99, 100, 101, 102, 103, 104, 105, 106, 107, 108, 109, 110, 111, 112, 113, 114, 115, 116, 117, 118, 119] (by decide +kernel) (by decide +kernel)
set_option maxRecDepth 20000 in
theorem gX1_fits_X1_lookAhead : GoodIn wsX1_fits (wsV RX1 89 RX1 yX1_lookAhead wsX1_lookAhead) := goodIn_app (goodIn_of _ (by decide +kernel)) ggX1_fits_X1_lookAhead
theorem dX1_fits_0 : decode cX1_fits 0 = .ok (.aload_n 0, 1) := by decide +kernel
theorem dX1_fits_1 : decode cX1_fits 1 = .ok (.iconst 0, 1) := by decide +kernel
theorem dX1_fits_2 : decode cX1_fits 2 = .ok (.invokevirtual 89, 3) := by decide +kernel
theorem dX1_fits_5 : decode cX1_fits 5 = .ok (.iconst (-1), 1) := by decide +kernel
theorem dX1_fits_6 : decode cX1_fits 6 = .ok (.if_icmp .ne 7, 3) := by decide +kernel
theorem dX1_fits_9 : decode cX1_fits 9 = .ok (.iconst 1, 1) := by decide +kernel
theorem dX1_fits_10 : decode cX1_fits 10 = .ok (.goto 4, 3) := by decide +kernel
theorem dX1_fits_13 : decode cX1_fits 13 = .ok (.iconst 0, 1) := by decide +kernel
theorem dX1_fits_14 : decode cX1_fits 14 = .ok (.ireturn, 1) := by decide +kernel
set_option maxRecDepth 20000 in
theorem ggX1_inside_X1_isTime : GoodIn wsX1_inside wsX1_isTime := goodIn_r _ [10, 11, 12, 13, 9, 14, 126, 127, 128, 129, 130, 131, 132, 133, 134, 135, 136, 137, 138, 139, 140, 141] (by decide +kernel) (by decide +kernel)
set_option maxRecDepth 20000 in
theorem gX1_inside_X1_isTime : GoodIn wsX1_inside (wsV RX1 80 RX1 yX1_isTime wsX1_isTime) := goodIn_app (goodIn_of _ (by decide +kernel)) ggX1_inside_X1_isTime
set_option maxRecDepth 20000 in
theorem ggX1_inside_X1_isWhat : GoodIn wsX1_inside wsX1_isWhat := goodIn_r _ [17, 12, 13, 9, 14] (by decide +kernel) (by decide +kernel)
set_option maxRecDepth 20000 in
theorem gX1_inside_X1_isWhat : GoodIn wsX1_inside (va_wsS RX1 83 yX1_isWhat wsX1_isWhat) := goodIn_app (goodIn_of _ (by decide +kernel)) ggX1_inside_X1_isWhat
set_option maxRecDepth 20000 in
theorem ggX1_inside_X1_lookAhead : GoodIn wsX1_inside wsX1_lookAhead := goodIn_r _ [21, 5, 22, 23, 11, 24, 25, 26, 27, 28, 29, 30, 31, 32, 33, 34, 35, 36, 9, 37, 38, 39, 40, 41, 42, 43, 44, 45, 46, 47, 48, 49, 50, 51, 52, 53, 54, 55, 56, 57, 58, 59, 60, 61, 62, 63, 64, 65, 66, 67, 68, 69, 70, 71, 72, 73, 74, 75, 76, 77, 78, 79, 80, 81, 82, 83, 84, 85, 86, 87, 88, 89, 90, 91, 92, 93, 94, 95, 96, 97, 98, 99, 100, 101, 102, 103, 104, 105, 106, 107, 108, 109, 110, 111, 112, 113, 114, 115, 126, 127, 128, 129, 130, 131, 132, 133, 134, 135, 136, 137, 138, 139, 140, 141, 142, 143] (by decide +kernel) (by decide +kernel)
set_option maxRecDepth 20000 in
theorem gX1_inside_X1_lookAhead : GoodIn wsX1_inside (wsV RX1 89 RX1 yX1_lookAhead wsX1_lookAhead) := goodIn_app (goodIn_of _ (by decide +kernel)) ggX1_inside_X1_lookAhead
set_option maxRecDepth 20000 in
theorem ggX1_inside_X1_lookBackTo : GoodIn wsX1_inside wsX1_lookBackTo := goodIn_r _ [119, 11, 5, 34, 35, 36, 9, 37, 38, 39, 24, 25, 26, 27, 28, 29, 30, 31, 32, 33, 40, 41, 42, 43, 44, 45, 46, 47, 48, 49, 50, 51, 52, 53, 54, 55, 56, 57, 58, 59, 60, 61, 62, 63, 64, 65, 66, 67, 68, 69, 70, 71, 72, 73, 74, 75, 120, 121, 122, 123, 80, 81, 82, 83, 84, 85, 86, 87, 111, 100, 101, 102, 103, 104, 105, 106, 107, 108, 109, 110, 112, 113, 114, 115, 126, 127, 128, 129, 130, 131, 132, 133, 134, 135, 136, 137, 138, 139, 140, 141, 142, 143] (by decide +kernel) (by decide +kernel)
set_option maxRecDepth 20000 in
theorem gX1_inside_X1_lookBackTo : GoodIn wsX1_inside (wsV RX1 105 RX1 yX1_lookBackTo wsX1_lookBackTo) := goodIn_app (goodIn_of _ (by decide +kernel)) ggX1_inside_X1_lookBackTo
set_option maxRecDepth 20000 in
theorem ggX1_inside_X0_high : GoodIn wsX1_inside wsX0_high := goodIn_r _ [87, 30, 31, 32, 27, 33, 142, 143] (by decide +kernel) (by decide +kernel)
set_option maxRecDepth 20000 in
theorem gX1_inside_X0_high : GoodIn wsX1_inside (wsV RX1 108 RX0 yX0_high wsX0_high) := goodIn_app (goodIn_of _ (by decide +kernel)) ggX1_inside_X0_high
set_option maxRecDepth 20000 in
theorem ggX1_inside_X0_low : GoodIn wsX1_inside wsX0_low := goodIn_r _ [83, 29, 31, 32, 27, 33, 142, 143] (by decide +kernel) (by decide +kernel)
set_option maxRecDepth 20000 in
theorem gX1_inside_X0_low : GoodIn wsX1_inside (wsV RX1 111 RX0 yX0_low wsX0_low) := goodIn_app (goodIn_of _ (by decide +kernel)) ggX1_inside_X0_low
theorem dX1_inside_0 : decode cX1_inside 0 = .ok (.aload_n 0, 1) := by decide +kernel
theorem dX1_inside_1 : decode cX1_inside 1 = .ok (.iload_n 1, 1) := by decide +kernel
theorem dX1_inside_2 : decode cX1_inside 2 = .ok (.invokevirtual 80, 3) := by decide +kernel
theorem dX1_inside_5 : decode cX1_inside 5 = .ok (.ifCond .eq 10, 3) := by decide +kernel
theorem dX1_inside_8 : decode cX1_inside 8 = .ok (.iload_n 2, 1) := by decide +kernel
theorem dX1_inside_9 : decode cX1_inside 9 = .ok (.invokestatic 83, 3) := by decide +kernel
theorem dX1_inside_12 : decode cX1_inside 12 = .ok (.ifCond .ne 13, 3) := by decide +kernel
theorem dX1_inside_15 : decode cX1_inside 15 = .ok (.new 93, 3) := by decide +kernel
theorem dX1_inside_18 : decode cX1_inside 18 = .ok (.dup, 1) := by decide +kernel
theorem dX1_inside_19 : decode cX1_inside 19 = .ok (.ldc 95, 2) := by decide +kernel
theorem dX1_inside_21 : decode cX1_inside 21 = .ok (.invokespecial 97, 3) := by decide +kernel
theorem dX1_inside_24 : decode cX1_inside 24 = .ok (.athrow, 1) := by decide +kernel
theorem dX1_inside_25 : decode cX1_inside 25 = .ok (.aload_n 0, 1) := by decide +kernel
theorem dX1_inside_26 : decode cX1_inside 26 = .ok (.iconst 0, 1) := by decide +kernel
theorem dX1_inside_27 : decode cX1_inside 27 = .ok (.invokevirtual 89, 3) := by decide +kernel
theorem dX1_inside_30 : decode cX1_inside 30 = .ok (.iconst (-1), 1) := by decide +kernel
theorem dX1_inside_31 : decode cX1_inside 31 = .ok (.if_icmp .eq 13, 3) := by decide +kernel
theorem dX1_inside_34 : decode cX1_inside 34 = .ok (.new 100, 3) := by decide +kernel
theorem dX1_inside_37 : decode cX1_inside 37 = .ok (.dup, 1) := by decide +kernel
theorem dX1_inside_38 : decode cX1_inside 38 = .ok (.ldc 102, 2) := by decide +kernel
theorem dX1_inside_40 : decode cX1_inside 40 = .ok (.invokespecial 104, 3) := by decide +kernel
theorem dX1_inside_43 : decode cX1_inside 43 = .ok (.athrow, 1) := by decide +kernel
theorem dX1_inside_44 : decode cX1_inside 44 = .ok (.aload_n 0, 1) := by decide +kernel
theorem dX1_inside_45 : decode cX1_inside 45 = .ok (.iload_n 1, 1) := by decide +kernel
theorem dX1_inside_46 : decode cX1_inside 46 = .ok (.invokevirtual 105, 3) := by decide +kernel
theorem dX1_inside_49 : decode cX1_inside 49 = .ok (.iload_n 3, 1) := by decide +kernel
theorem dX1_inside_50 : decode cX1_inside 50 = .ok (.ifCond .eq 15, 3) := by decide +kernel
theorem dX1_inside_53 : decode cX1_inside 53 = .ok (.aload_n 0, 1) := by decide +kernel
theorem dX1_inside_54 : decode cX1_inside 54 = .ok (.getfield 49, 3) := by decide +kernel
theorem dX1_inside_57 : decode cX1_inside 57 = .ok (.iload_n 1, 1) := by decide +kernel
theorem dX1_inside_58 : decode cX1_inside 58 = .ok (.iload_n 2, 1) := by decide +kernel
theorem dX1_inside_59 : decode cX1_inside 59 = .ok (.invokevirtual 108, 3) := by decide +kernel
theorem dX1_inside_62 : decode cX1_inside 62 = .ok (.goto 12, 3) := by decide +kernel
theorem dX1_inside_65 : decode cX1_inside 65 = .ok (.aload_n 0, 1) := by decide +kernel
theorem dX1_inside_66 : decode cX1_inside 66 = .ok (.getfield 49, 3) := by decide +kernel
theorem dX1_inside_69 : decode cX1_inside 69 = .ok (.iload_n 1, 1) := by decide +kernel
theorem dX1_inside_70 : decode cX1_inside 70 = .ok (.iload_n 2, 1) := by decide +kernel
theorem dX1_inside_71 : decode cX1_inside 71 = .ok (.invokevirtual 111, 3) := by decide +kernel
theorem dX1_inside_74 : decode cX1_inside 74 = .ok (.ireturn, 1) := by decide +kernel
set_option maxRecDepth 20000 in
theorem ggX1_could_X1_firstAbove : GoodIn wsX1_could wsX1_firstAbove := goodIn_r _ [5, 6, 7, 8, 9, 10, 4, 11, 12, 13, 14, 15, 16, 17, 18, 19, 20, 21, 22, 23, 24, 25, 26, 27, 28, 29, 30, 31, 32, 33, 34, 35, 36, 37, 38, 39, 40, 41, 42, 43, 44, 45, 46, 47, 48, 49, 50, 51, 52, 53, 54, 55, 56, 57, 58, 59, 60, 61, 62, 63, 64, 65, 66, 67, 68, 69, 70, 71, 72, 73, 74, 75, 76, 77, 78, 79, 80, 81, 82, 83, 84, 85, 86, 87, 88, 89, 90, 91, 92, 93, 94, 95, 96, 97, 98, 99, 100, 101, 102, 103, 104, 105, 106, 107, 108, 109, 110, 111, 112, 113, 114, 115, 116, 117, 118, 119, 120, 121, 122, 123, 124, 125, 126, 127, 128, 129, 130, 131, 132, 133, 134, 135, 136, 137] (by decide +kernel) (by decide +kernel)
set_option maxRecDepth 20000 in
theorem gX1_could_X1_firstAbove : GoodIn wsX1_could (wsV RX1 114 RX1 yX1_firstAbove wsX1_firstAbove) := goodIn_app (goodIn_of _ (by decide +kernel)) ggX1_could_X1_firstAbove
theorem dX1_could_0 : decode cX1_could 0 = .ok (.aload_n 0, 1) := by decide +kernel
theorem dX1_could_1 : decode cX1_could 1 = .ok (.iload_n 1, 1) := by decide +kernel
theorem dX1_could_2 : decode cX1_could 2 = .ok (.iconst 1, 1) := by decide +kernel
theorem dX1_could_3 : decode cX1_could 3 = .ok (.invokevirtual 114, 3) := by decide +kernel
theorem dX1_could_6 : decode cX1_could 6 = .ok (.ireturn, 1) := by decide +kernel
set_option maxRecDepth 20000 in
theorem ggX1_surely_X1_firstAbove : GoodIn wsX1_surely wsX1_firstAbove := goodIn_r _ [5, 6, 7, 8, 9, 10, 4, 11, 12, 13, 14, 15, 16, 17, 18, 19, 20, 21, 22, 23, 24, 25, 26, 27, 28, 29, 30, 31, 32, 33, 34, 35, 36, 37, 38, 39, 40, 41, 42, 43, 44, 45, 46, 47, 48, 49, 50, 51, 52, 53, 54, 55, 56, 57, 58, 59, 60, 61, 62, 63, 64, 65, 66, 67, 68, 69, 70, 71, 72, 73, 74, 75, 76, 77, 78, 79, 80, 81, 82, 83, 84, 85, 86, 87, 88, 89, 90, 91, 92, 93, 94, 95, 96, 97, 98, 99, 100, 101, 102, 103, 104, 105, 106, 107, 108, 109, 110, 111, 112, 113, 114, 115, 116, 117, 118, 119, 120, 121, 122, 123, 124, 125, 126, 127, 128, 129, 130, 131, 132, 133, 134, 135, 136, 137] (by decide +kernel) (by decide +kernel)
set_option maxRecDepth 20000 in
theorem gX1_surely_X1_firstAbove : GoodIn wsX1_surely (wsV RX1 114 RX1 yX1_firstAbove wsX1_firstAbove) := goodIn_app (goodIn_of _ (by decide +kernel)) ggX1_surely_X1_firstAbove
theorem dX1_surely_0 : decode cX1_surely 0 = .ok (.aload_n 0, 1) := by decide +kernel
theorem dX1_surely_1 : decode cX1_surely 1 = .ok (.iload_n 1, 1) := by decide +kernel
theorem dX1_surely_2 : decode cX1_surely 2 = .ok (.iconst 0, 1) := by decide +kernel
theorem dX1_surely_3 : decode cX1_surely 3 = .ok (.invokevirtual 114, 3) := by decide +kernel
theorem dX1_surely_6 : decode cX1_surely 6 = .ok (.ireturn, 1) := by decide +kernel
set_option maxRecDepth 20000 in
theorem ggX1_through_X1_isDoor : GoodIn wsX1_through wsX1_isDoor := goodIn_r _ [9, 10, 11, 12, 8, 13, 144, 145, 146, 147, 148, 149, 150, 151, 152, 153, 154, 155, 156, 157, 158, 159] (by decide +kernel) (by decide +kernel)
set_option maxRecDepth 20000 in
theorem gX1_through_X1_isDoor : GoodIn wsX1_through (wsV RX1 65 RX1 yX1_isDoor wsX1_isDoor) := goodIn_app (goodIn_of _ (by decide +kernel)) ggX1_through_X1_isDoor
set_option maxRecDepth 20000 in
theorem ggX1_through_X1_isTick : GoodIn wsX1_through wsX1_isTick := goodIn_r _ [17, 18, 11, 12, 8, 13, 144, 145, 146, 147, 148, 149, 150, 151, 152, 153, 154, 155, 156, 157, 158, 159] (by decide +kernel) (by decide +kernel)
set_option maxRecDepth 20000 in
theorem gX1_through_X1_isTick : GoodIn wsX1_through (wsV RX1 69 RX1 yX1_isTick wsX1_isTick) := goodIn_app (goodIn_of _ (by decide +kernel)) ggX1_through_X1_isTick
set_option maxRecDepth 20000 in
theorem ggX1_through_X1_lookAhead : GoodIn wsX1_through wsX1_lookAhead := goodIn_r _ [22, 23, 24, 25, 18, 26, 27, 28, 29, 30, 31, 32, 33, 34, 35, 36, 37, 38, 8, 39, 10, 40, 41, 42, 43, 44, 45, 46, 47, 48, 49, 50, 51, 52, 53, 54, 55, 56, 57, 58, 59, 60, 61, 62, 63, 64, 65, 66, 67, 68, 69, 70, 71, 72, 73, 74, 75, 76, 77, 78, 79, 80, 81, 82, 83, 84, 85, 86, 87, 88, 89, 90, 91, 92, 93, 94, 95, 96, 97, 98, 99, 100, 101, 102, 103, 104, 105, 106, 107, 108, 109, 110, 111, 112, 113, 114, 115, 116, 144, 145, 146, 147, 148, 149, 150, 151, 152, 153, 154, 155, 156, 157, 158, 159, 160, 161] (by decide +kernel) (by decide +kernel)
set_option maxRecDepth 20000 in
theorem gX1_through_X1_lookAhead : GoodIn wsX1_through (wsV RX1 89 RX1 yX1_lookAhead wsX1_lookAhead) := goodIn_app (goodIn_of _ (by decide +kernel)) ggX1_through_X1_lookAhead
set_option maxRecDepth 20000 in
theorem ggX1_through_X1_lookBackTo : GoodIn wsX1_through wsX1_lookBackTo := goodIn_r _ [120, 18, 23, 36, 37, 38, 8, 39, 10, 40, 26, 27, 28, 29, 30, 31, 32, 33, 34, 35, 41, 42, 43, 44, 45, 46, 47, 48, 49, 50, 51, 52, 53, 54, 55, 56, 57, 58, 59, 60, 61, 62, 63, 64, 65, 66, 67, 68, 69, 70, 71, 72, 73, 74, 75, 76, 121, 122, 123, 124, 81, 82, 83, 84, 85, 86, 87, 88, 112, 101, 102, 103, 104, 105, 106, 107, 108, 109, 110, 111, 113, 114, 115, 116, 144, 145, 146, 147, 148, 149, 150, 151, 152, 153, 154, 155, 156, 157, 158, 159, 160, 161] (by decide +kernel) (by decide +kernel)
set_option maxRecDepth 20000 in
theorem gX1_through_X1_lookBackTo : GoodIn wsX1_through (wsV RX1 105 RX1 yX1_lookBackTo wsX1_lookBackTo) := goodIn_app (goodIn_of _ (by decide +kernel)) ggX1_through_X1_lookBackTo
set_option maxRecDepth 20000 in
theorem ggX1_through_X1_gatherChange : GoodIn wsX1_through wsX1_gatherChange := goodIn_r _ [39, 23, 10, 40, 26, 27, 28, 29, 30, 31, 32, 33, 34, 35, 41, 42, 43, 8, 44, 45, 46, 47, 48, 49, 50, 51, 52, 53, 54, 55, 56, 57, 58, 59, 60, 61, 62, 63, 64, 65, 66, 67, 68, 69, 70, 71, 72, 73, 74, 75, 76, 144, 145, 146, 147, 148, 149, 150, 151, 152, 153, 154, 155, 156, 157, 158, 159, 160, 161] (by decide +kernel) (by decide +kernel)
set_option maxRecDepth 20000 in
theorem gX1_through_X1_gatherChange : GoodIn wsX1_through (wsV RX1 120 RX1 yX1_gatherChange wsX1_gatherChange) := goodIn_app (goodIn_of _ (by decide +kernel)) ggX1_through_X1_gatherChange
set_option maxRecDepth 20000 in
theorem ggX1_through_X1_mostThrough : GoodIn wsX1_through wsX1_mostThrough := goodIn_r _ [128, 40, 129, 106, 57, 107, 65, 66, 67, 8, 68, 45, 46, 47, 48, 49, 59, 60, 61, 62, 63, 64, 50, 51, 52, 53, 54, 55, 56, 58, 130, 131, 132, 133, 23, 134, 86, 87, 29, 88, 32, 33, 34, 35, 135, 82, 83, 84, 31, 136, 137, 138, 139, 144, 145, 146, 147, 148, 149, 150, 151, 152, 153, 154, 155, 156, 157, 158, 159, 160, 161] (by decide +kernel) (by decide +kernel)
set_option maxRecDepth 20000 in
theorem gX1_through_X1_mostThrough : GoodIn wsX1_through (wsV RX1 124 RX1 yX1_mostThrough wsX1_mostThrough) := goodIn_app (goodIn_of _ (by decide +kernel)) ggX1_through_X1_mostThrough
set_option maxRecDepth 20000 in
theorem ggX1_through_X1_leastThrough : GoodIn wsX1_through wsX1_leastThrough := goodIn_r _ [143, 40, 55, 56, 57, 58, 41, 42, 43, 8, 44, 45, 46, 47, 48, 49, 50, 51, 52, 53, 54, 59, 60, 61, 62, 63, 64, 136, 137, 138, 139, 23, 135, 82, 83, 29, 84, 31, 33, 34, 35, 134, 86, 87, 88, 32, 130, 131, 132, 133, 144, 145, 146, 147, 148, 149, 150, 151, 152, 153, 154, 155, 156, 157, 158, 159, 160, 161] (by decide +kernel) (by decide +kernel)
set_option maxRecDepth 20000 in
theorem gX1_through_X1_leastThrough : GoodIn wsX1_through (wsV RX1 127 RX1 yX1_leastThrough wsX1_leastThrough) := goodIn_app (goodIn_of _ (by decide +kernel)) ggX1_through_X1_leastThrough
theorem dX1_through_0 : decode cX1_through 0 = .ok (.aload_n 0, 1) := by decide +kernel
theorem dX1_through_1 : decode cX1_through 1 = .ok (.iload_n 1, 1) := by decide +kernel
theorem dX1_through_2 : decode cX1_through 2 = .ok (.invokevirtual 65, 3) := by decide +kernel
theorem dX1_through_5 : decode cX1_through 5 = .ok (.ifCond .eq 11, 3) := by decide +kernel
theorem dX1_through_8 : decode cX1_through 8 = .ok (.aload_n 0, 1) := by decide +kernel
theorem dX1_through_9 : decode cX1_through 9 = .ok (.iload_n 2, 1) := by decide +kernel
theorem dX1_through_10 : decode cX1_through 10 = .ok (.invokevirtual 69, 3) := by decide +kernel
theorem dX1_through_13 : decode cX1_through 13 = .ok (.ifCond .ne 13, 3) := by decide +kernel
theorem dX1_through_16 : decode cX1_through 16 = .ok (.new 93, 3) := by decide +kernel
theorem dX1_through_19 : decode cX1_through 19 = .ok (.dup, 1) := by decide +kernel
theorem dX1_through_20 : decode cX1_through 20 = .ok (.ldc 118, 2) := by decide +kernel
theorem dX1_through_22 : decode cX1_through 22 = .ok (.invokespecial 97, 3) := by decide +kernel
theorem dX1_through_25 : decode cX1_through 25 = .ok (.athrow, 1) := by decide +kernel
theorem dX1_through_26 : decode cX1_through 26 = .ok (.aload_n 0, 1) := by decide +kernel
theorem dX1_through_27 : decode cX1_through 27 = .ok (.iconst 0, 1) := by decide +kernel
theorem dX1_through_28 : decode cX1_through 28 = .ok (.invokevirtual 89, 3) := by decide +kernel
theorem dX1_through_31 : decode cX1_through 31 = .ok (.iconst (-1), 1) := by decide +kernel
theorem dX1_through_32 : decode cX1_through 32 = .ok (.if_icmp .eq 13, 3) := by decide +kernel
theorem dX1_through_35 : decode cX1_through 35 = .ok (.new 100, 3) := by decide +kernel
theorem dX1_through_38 : decode cX1_through 38 = .ok (.dup, 1) := by decide +kernel
theorem dX1_through_39 : decode cX1_through 39 = .ok (.ldc 102, 2) := by decide +kernel
theorem dX1_through_41 : decode cX1_through 41 = .ok (.invokespecial 104, 3) := by decide +kernel
theorem dX1_through_44 : decode cX1_through 44 = .ok (.athrow, 1) := by decide +kernel
theorem dX1_through_45 : decode cX1_through 45 = .ok (.aload_n 0, 1) := by decide +kernel
theorem dX1_through_46 : decode cX1_through 46 = .ok (.iload_n 2, 1) := by decide +kernel
theorem dX1_through_47 : decode cX1_through 47 = .ok (.iconst 1, 1) := by decide +kernel
theorem dX1_through_48 : decode cX1_through 48 = .ok (.iadd, 1) := by decide +kernel
theorem dX1_through_49 : decode cX1_through 49 = .ok (.invokevirtual 105, 3) := by decide +kernel
theorem dX1_through_52 : decode cX1_through 52 = .ok (.aload_n 0, 1) := by decide +kernel
theorem dX1_through_53 : decode cX1_through 53 = .ok (.iload_n 2, 1) := by decide +kernel
theorem dX1_through_54 : decode cX1_through 54 = .ok (.iconst 0, 1) := by decide +kernel
theorem dX1_through_55 : decode cX1_through 55 = .ok (.iload_n 1, 1) := by decide +kernel
theorem dX1_through_56 : decode cX1_through 56 = .ok (.invokevirtual 120, 3) := by decide +kernel
theorem dX1_through_59 : decode cX1_through 59 = .ok (.iload_n 3, 1) := by decide +kernel
theorem dX1_through_60 : decode cX1_through 60 = .ok (.ifCond .eq 12, 3) := by decide +kernel
theorem dX1_through_63 : decode cX1_through 63 = .ok (.aload_n 0, 1) := by decide +kernel
theorem dX1_through_64 : decode cX1_through 64 = .ok (.iload_n 1, 1) := by decide +kernel
theorem dX1_through_65 : decode cX1_through 65 = .ok (.iload_n 2, 1) := by decide +kernel
theorem dX1_through_66 : decode cX1_through 66 = .ok (.invokevirtual 124, 3) := by decide +kernel
theorem dX1_through_69 : decode cX1_through 69 = .ok (.goto 9, 3) := by decide +kernel
theorem dX1_through_72 : decode cX1_through 72 = .ok (.aload_n 0, 1) := by decide +kernel
theorem dX1_through_73 : decode cX1_through 73 = .ok (.iload_n 1, 1) := by decide +kernel
theorem dX1_through_74 : decode cX1_through 74 = .ok (.iload_n 2, 1) := by decide +kernel
theorem dX1_through_75 : decode cX1_through 75 = .ok (.invokevirtual 127, 3) := by decide +kernel
theorem dX1_through_78 : decode cX1_through 78 = .ok (.ireturn, 1) := by decide +kernel
set_option maxRecDepth 20000 in
theorem ggX1_worse_X1_lookAhead : GoodIn wsX1_worse wsX1_lookAhead := goodIn_r _ [5, 6, 7, 8, 9, 10, 11, 12, 13, 14, 15, 16, 17, 18, 19, 20, 21, 22, 4, 23, 24, 25, 26, 27, 28, 29, 30, 31, 32, 33, 34, 35, 36, 37, 38, 39, 40, 41, 42, 43, 44, 45, 46, 47, 48, 49, 50, 51, 52, 53, 54, 55, 56, 57, 58, 59, 60, 61, 62, 63, 64, 65, 66, 67, 68, 69, 70, 71, 72, 73, 74, 75, 76, 77, 78, 79, 80, 81, 82, 83, 84, 85, 86, 87, 88, 89, 90, 91, 92, 93, 94, 95, 96, 97, 98, 99, 100, 101, 102, 103, 104, 105, 106, 107, 108, 109, 110, 111, 112, 113, 114, 115, 116, 117, 118, 119] (by decide +kernel) (by decide +kernel)
set_option maxRecDepth 20000 in
theorem gX1_worse_X1_lookAhead : GoodIn wsX1_worse (wsV RX1 89 RX1 yX1_lookAhead wsX1_lookAhead) := goodIn_app (goodIn_of _ (by decide +kernel)) ggX1_worse_X1_lookAhead
theorem dX1_worse_0 : decode cX1_worse 0 = .ok (.iconst 0, 1) := by decide +kernel
theorem dX1_worse_1 : decode cX1_worse 1 = .ok (.istore_n 1, 1) := by decide +kernel
theorem dX1_worse_2 : decode cX1_worse 2 = .ok (.iload_n 1, 1) := by decide +kernel
theorem dX1_worse_3 : decode cX1_worse 3 = .ok (.iconst 5, 1) := by decide +kernel
theorem dX1_worse_4 : decode cX1_worse 4 = .ok (.if_icmp .gt 20, 3) := by decide +kernel
theorem dX1_worse_7 : decode cX1_worse 7 = .ok (.aload_n 0, 1) := by decide +kernel
theorem dX1_worse_8 : decode cX1_worse 8 = .ok (.iload_n 1, 1) := by decide +kernel
theorem dX1_worse_9 : decode cX1_worse 9 = .ok (.invokevirtual 89, 3) := by decide +kernel
theorem dX1_worse_12 : decode cX1_worse 12 = .ok (.iconst (-1), 1) := by decide +kernel
theorem dX1_worse_13 : decode cX1_worse 13 = .ok (.if_icmp .ne 5, 3) := by decide +kernel
theorem dX1_worse_16 : decode cX1_worse 16 = .ok (.iload_n 1, 1) := by decide +kernel
theorem dX1_worse_17 : decode cX1_worse 17 = .ok (.ireturn, 1) := by decide +kernel
theorem dX1_worse_18 : decode cX1_worse 18 = .ok (.iinc 1 1, 3) := by decide +kernel
theorem dX1_worse_21 : decode cX1_worse 21 = .ok (.goto (-19), 3) := by decide +kernel
theorem dX1_worse_24 : decode cX1_worse 24 = .ok (.iconst (-1), 1) := by decide +kernel
theorem dX1_worse_25 : decode cX1_worse 25 = .ok (.ireturn, 1) := by decide +kernel
set_option maxRecDepth 20000 in
theorem ggX1_quarrel_X1_lookAhead : GoodIn wsX1_quarrel wsX1_lookAhead := goodIn_r _ [5, 6, 7, 8, 9, 10, 11, 12, 13, 14, 15, 16, 17, 18, 19, 20, 21, 22, 4, 23, 24, 25, 26, 27, 28, 29, 30, 31, 32, 33, 34, 35, 36, 37, 38, 39, 40, 41, 42, 43, 44, 45, 46, 47, 48, 49, 50, 51, 52, 53, 54, 55, 56, 57, 58, 59, 60, 61, 62, 63, 64, 65, 66, 67, 68, 69, 70, 71, 72, 73, 74, 75, 76, 77, 78, 79, 80, 81, 82, 83, 84, 85, 86, 87, 88, 89, 90, 91, 92, 93, 94, 95, 96, 97, 98, 99, 100, 101, 102, 103, 104, 105, 106, 107, 108, 109, 110, 111, 112, 113, 114, 115, 116, 117, 118, 119] (by decide +kernel) (by decide +kernel)
set_option maxRecDepth 20000 in
theorem gX1_quarrel_X1_lookAhead : GoodIn wsX1_quarrel (wsV RX1 89 RX1 yX1_lookAhead wsX1_lookAhead) := goodIn_app (goodIn_of _ (by decide +kernel)) ggX1_quarrel_X1_lookAhead
theorem dX1_quarrel_0 : decode cX1_quarrel 0 = .ok (.aload_n 0, 1) := by decide +kernel
theorem dX1_quarrel_1 : decode cX1_quarrel 1 = .ok (.iconst 0, 1) := by decide +kernel
theorem dX1_quarrel_2 : decode cX1_quarrel 2 = .ok (.invokevirtual 89, 3) := by decide +kernel
theorem dX1_quarrel_5 : decode cX1_quarrel 5 = .ok (.ireturn, 1) := by decide +kernel
set_option maxRecDepth 20000 in
theorem ggX1_look_X1_isDoor : GoodIn wsX1_look wsX1_isDoor := goodIn_r _ [15, 16, 17, 18, 14, 19, 32, 33, 34, 35, 36, 37, 38, 39, 40, 41, 42, 43, 44, 45, 46, 47] (by decide +kernel) (by decide +kernel)
set_option maxRecDepth 20000 in
theorem gX1_look_X1_isDoor : GoodIn wsX1_look (wsV RX1 65 RX1 yX1_isDoor wsX1_isDoor) := goodIn_app (goodIn_of _ (by decide +kernel)) ggX1_look_X1_isDoor
set_option maxRecDepth 20000 in
theorem ggX1_look_X1_toldRows : GoodIn wsX1_look wsX1_toldRows := goodIn_r _ [23, 24, 9, 25, 26, 14, 27, 32, 33, 34, 35, 36, 37, 38, 39, 40, 41, 42, 43, 44, 45, 46, 47] (by decide +kernel) (by decide +kernel)
set_option maxRecDepth 20000 in
theorem gX1_look_X1_toldRows : GoodIn wsX1_look (wsV RX1 132 RX1 yX1_toldRows wsX1_toldRows) := goodIn_app (goodIn_of _ (by decide +kernel)) ggX1_look_X1_toldRows
set_option maxRecDepth 20000 in
theorem ggX1_look_X1_toldSum : GoodIn wsX1_look wsX1_toldSum := goodIn_r _ [31, 24, 25, 26, 14, 27, 32, 33, 34, 35, 36, 37, 38, 39, 40, 41, 42, 43, 44, 45, 46, 47] (by decide +kernel) (by decide +kernel)
set_option maxRecDepth 20000 in
theorem gX1_look_X1_toldSum : GoodIn wsX1_look (wsV RX1 135 RX1 yX1_toldSum wsX1_toldSum) := goodIn_app (goodIn_of _ (by decide +kernel)) ggX1_look_X1_toldSum
theorem dX1_look_0 : decode cX1_look 0 = .ok (.aload_n 0, 1) := by decide +kernel
theorem dX1_look_1 : decode cX1_look 1 = .ok (.iload_n 1, 1) := by decide +kernel
theorem dX1_look_2 : decode cX1_look 2 = .ok (.invokevirtual 65, 3) := by decide +kernel
theorem dX1_look_5 : decode cX1_look 5 = .ok (.ifCond .ne 13, 3) := by decide +kernel
theorem dX1_look_8 : decode cX1_look 8 = .ok (.new 93, 3) := by decide +kernel
theorem dX1_look_11 : decode cX1_look 11 = .ok (.dup, 1) := by decide +kernel
theorem dX1_look_12 : decode cX1_look 12 = .ok (.ldc 130, 2) := by decide +kernel
theorem dX1_look_14 : decode cX1_look 14 = .ok (.invokespecial 97, 3) := by decide +kernel
theorem dX1_look_17 : decode cX1_look 17 = .ok (.athrow, 1) := by decide +kernel
theorem dX1_look_18 : decode cX1_look 18 = .ok (.iload_n 2, 1) := by decide +kernel
theorem dX1_look_19 : decode cX1_look 19 = .ok (.tableswitch 95 0 6 #[41, 48, 55, 62, 69, 75, 85], 41) := by decide +kernel
theorem dX1_look_60 : decode cX1_look 60 = .ok (.aload_n 0, 1) := by decide +kernel
theorem dX1_look_61 : decode cX1_look 61 = .ok (.getfield 9, 3) := by decide +kernel
theorem dX1_look_64 : decode cX1_look 64 = .ok (.iload_n 1, 1) := by decide +kernel
theorem dX1_look_65 : decode cX1_look 65 = .ok (.iaload, 1) := by decide +kernel
theorem dX1_look_66 : decode cX1_look 66 = .ok (.ireturn, 1) := by decide +kernel
theorem dX1_look_67 : decode cX1_look 67 = .ok (.aload_n 0, 1) := by decide +kernel
theorem dX1_look_68 : decode cX1_look 68 = .ok (.getfield 13, 3) := by decide +kernel
theorem dX1_look_71 : decode cX1_look 71 = .ok (.iload_n 1, 1) := by decide +kernel
theorem dX1_look_72 : decode cX1_look 72 = .ok (.iaload, 1) := by decide +kernel
theorem dX1_look_73 : decode cX1_look 73 = .ok (.ireturn, 1) := by decide +kernel
theorem dX1_look_74 : decode cX1_look 74 = .ok (.aload_n 0, 1) := by decide +kernel
theorem dX1_look_75 : decode cX1_look 75 = .ok (.getfield 16, 3) := by decide +kernel
theorem dX1_look_78 : decode cX1_look 78 = .ok (.iload_n 1, 1) := by decide +kernel
theorem dX1_look_79 : decode cX1_look 79 = .ok (.iaload, 1) := by decide +kernel
theorem dX1_look_80 : decode cX1_look 80 = .ok (.ireturn, 1) := by decide +kernel
theorem dX1_look_81 : decode cX1_look 81 = .ok (.aload_n 0, 1) := by decide +kernel
theorem dX1_look_82 : decode cX1_look 82 = .ok (.getfield 19, 3) := by decide +kernel
theorem dX1_look_85 : decode cX1_look 85 = .ok (.iload_n 1, 1) := by decide +kernel
theorem dX1_look_86 : decode cX1_look 86 = .ok (.iaload, 1) := by decide +kernel
theorem dX1_look_87 : decode cX1_look 87 = .ok (.ireturn, 1) := by decide +kernel
theorem dX1_look_88 : decode cX1_look 88 = .ok (.aload_n 0, 1) := by decide +kernel
theorem dX1_look_89 : decode cX1_look 89 = .ok (.iload_n 1, 1) := by decide +kernel
theorem dX1_look_90 : decode cX1_look 90 = .ok (.invokevirtual 132, 3) := by decide +kernel
theorem dX1_look_93 : decode cX1_look 93 = .ok (.ireturn, 1) := by decide +kernel
theorem dX1_look_94 : decode cX1_look 94 = .ok (.aload_n 0, 1) := by decide +kernel
theorem dX1_look_95 : decode cX1_look 95 = .ok (.aload_n 0, 1) := by decide +kernel
theorem dX1_look_96 : decode cX1_look 96 = .ok (.getfield 22, 3) := by decide +kernel
theorem dX1_look_99 : decode cX1_look 99 = .ok (.iload_n 1, 1) := by decide +kernel
theorem dX1_look_100 : decode cX1_look 100 = .ok (.invokevirtual 135, 3) := by decide +kernel
theorem dX1_look_103 : decode cX1_look 103 = .ok (.ireturn, 1) := by decide +kernel
theorem dX1_look_104 : decode cX1_look 104 = .ok (.aload_n 0, 1) := by decide +kernel
theorem dX1_look_105 : decode cX1_look 105 = .ok (.aload_n 0, 1) := by decide +kernel
theorem dX1_look_106 : decode cX1_look 106 = .ok (.getfield 25, 3) := by decide +kernel
theorem dX1_look_109 : decode cX1_look 109 = .ok (.iload_n 1, 1) := by decide +kernel
theorem dX1_look_110 : decode cX1_look 110 = .ok (.invokevirtual 135, 3) := by decide +kernel
theorem dX1_look_113 : decode cX1_look 113 = .ok (.ireturn, 1) := by decide +kernel
theorem dX1_look_114 : decode cX1_look 114 = .ok (.new 100, 3) := by decide +kernel
theorem dX1_look_117 : decode cX1_look 117 = .ok (.dup, 1) := by decide +kernel
theorem dX1_look_118 : decode cX1_look 118 = .ok (.ldc 139, 2) := by decide +kernel
theorem dX1_look_120 : decode cX1_look 120 = .ok (.invokespecial 104, 3) := by decide +kernel
theorem dX1_look_123 : decode cX1_look 123 = .ok (.athrow, 1) := by decide +kernel
set_option maxRecDepth 20000 in
theorem ggX1_count_X1_allToldRows : GoodIn wsX1_count wsX1_allToldRows := goodIn_r _ [8, 2, 9, 10, 11, 7, 12, 1, 13, 14, 15, 16, 17, 18, 19, 20, 21, 22, 23, 24, 25, 26, 27, 28, 29, 30, 31, 32] (by decide +kernel) (by decide +kernel)
set_option maxRecDepth 20000 in
theorem gX1_count_X1_allToldRows : GoodIn wsX1_count (wsV RX1 144 RX1 yX1_allToldRows wsX1_allToldRows) := goodIn_app (goodIn_of _ (by decide +kernel)) ggX1_count_X1_allToldRows
theorem dX1_count_0 : decode cX1_count 0 = .ok (.iload_n 1, 1) := by decide +kernel
theorem dX1_count_1 : decode cX1_count 1 = .ok (.tableswitch 51 0 3 #[31, 36, 41, 46], 31) := by decide +kernel
theorem dX1_count_32 : decode cX1_count 32 = .ok (.aload_n 0, 1) := by decide +kernel
theorem dX1_count_33 : decode cX1_count 33 = .ok (.getfield 141, 3) := by decide +kernel
theorem dX1_count_36 : decode cX1_count 36 = .ok (.ireturn, 1) := by decide +kernel
theorem dX1_count_37 : decode cX1_count 37 = .ok (.aload_n 0, 1) := by decide +kernel
theorem dX1_count_38 : decode cX1_count 38 = .ok (.getfield 61, 3) := by decide +kernel
theorem dX1_count_41 : decode cX1_count 41 = .ok (.ireturn, 1) := by decide +kernel
theorem dX1_count_42 : decode cX1_count 42 = .ok (.aload_n 0, 1) := by decide +kernel
theorem dX1_count_43 : decode cX1_count 43 = .ok (.getfield 86, 3) := by decide +kernel
theorem dX1_count_46 : decode cX1_count 46 = .ok (.ireturn, 1) := by decide +kernel
theorem dX1_count_47 : decode cX1_count 47 = .ok (.aload_n 0, 1) := by decide +kernel
