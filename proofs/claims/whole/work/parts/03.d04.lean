theorem dX2_clear_57 : decode cX2_clear 57 = .ok (.iastore, 1) := by decide +kernel
theorem dX2_clear_58 : decode cX2_clear 58 = .ok (.aload_n 0, 1) := by decide +kernel
theorem dX2_clear_59 : decode cX2_clear 59 = .ok (.getfield 35, 3) := by decide +kernel
theorem dX2_clear_62 : decode cX2_clear 62 = .ok (.iload_n 2, 1) := by decide +kernel
theorem dX2_clear_63 : decode cX2_clear 63 = .ok (.iconst 0, 1) := by decide +kernel
theorem dX2_clear_64 : decode cX2_clear 64 = .ok (.iastore, 1) := by decide +kernel
theorem dX2_clear_65 : decode cX2_clear 65 = .ok (.iinc 2 1, 3) := by decide +kernel
theorem dX2_clear_68 : decode cX2_clear 68 = .ok (.goto (-22), 3) := by decide +kernel
theorem dX2_clear_71 : decode cX2_clear 71 = .ok (.return_, 1) := by decide +kernel
set_option maxRecDepth 20000 in
theorem ggX2_day_X2_clear : GoodIn wsX2_day wsX2_clear := goodIn_r _ [6, 7, 8, 9, 10, 11, 12, 13, 14, 15, 16, 17, 18, 19, 20, 21, 22, 23, 24, 25, 26, 27, 28, 29, 30, 31, 32, 33, 34] (by decide +kernel) (by decide +kernel)
set_option maxRecDepth 20000 in
theorem gX2_day_X2_clear : GoodIn wsX2_day (wsV RX2 62 RX2 yX2_clear wsX2_clear) := goodIn_app (goodIn_of _ (by decide +kernel)) ggX2_day_X2_clear
theorem dX2_day_0 : decode cX2_day 0 = .ok (.aload_n 0, 1) := by decide +kernel
theorem dX2_day_1 : decode cX2_day 1 = .ok (.iconst 0, 1) := by decide +kernel
theorem dX2_day_2 : decode cX2_day 2 = .ok (.putfield 66, 3) := by decide +kernel
theorem dX2_day_5 : decode cX2_day 5 = .ok (.iload_n 1, 1) := by decide +kernel
theorem dX2_day_6 : decode cX2_day 6 = .ok (.iconst 1, 1) := by decide +kernel
theorem dX2_day_7 : decode cX2_day 7 = .ok (.if_icmp .lt 9, 3) := by decide +kernel
theorem dX2_day_10 : decode cX2_day 10 = .ok (.iload_n 1, 1) := by decide +kernel
theorem dX2_day_11 : decode cX2_day 11 = .ok (.bipush 60, 2) := by decide +kernel
theorem dX2_day_13 : decode cX2_day 13 = .ok (.if_icmp .le 5, 3) := by decide +kernel
theorem dX2_day_16 : decode cX2_day 16 = .ok (.iconst 0, 1) := by decide +kernel
theorem dX2_day_17 : decode cX2_day 17 = .ok (.ireturn, 1) := by decide +kernel
theorem dX2_day_18 : decode cX2_day 18 = .ok (.aload_n 0, 1) := by decide +kernel
theorem dX2_day_19 : decode cX2_day 19 = .ok (.iload_n 1, 1) := by decide +kernel
theorem dX2_day_20 : decode cX2_day 20 = .ok (.invokevirtual 62, 3) := by decide +kernel
theorem dX2_day_23 : decode cX2_day 23 = .ok (.iconst 1, 1) := by decide +kernel
theorem dX2_day_24 : decode cX2_day 24 = .ok (.ireturn, 1) := by decide +kernel
theorem dX2_door_0 : decode cX2_door 0 = .ok (.aload_n 0, 1) := by decide +kernel
theorem dX2_door_1 : decode cX2_door 1 = .ok (.iconst 0, 1) := by decide +kernel
theorem dX2_door_2 : decode cX2_door 2 = .ok (.putfield 66, 3) := by decide +kernel
theorem dX2_door_5 : decode cX2_door 5 = .ok (.aload_n 0, 1) := by decide +kernel
theorem dX2_door_6 : decode cX2_door 6 = .ok (.getfield 69, 3) := by decide +kernel
theorem dX2_door_9 : decode cX2_door 9 = .ok (.bipush 6, 2) := by decide +kernel
theorem dX2_door_11 : decode cX2_door 11 = .ok (.if_icmp .eq 42, 3) := by decide +kernel
theorem dX2_door_14 : decode cX2_door 14 = .ok (.iload_n 1, 1) := by decide +kernel
theorem dX2_door_15 : decode cX2_door 15 = .ok (.ifCond .lt 38, 3) := by decide +kernel
theorem dX2_door_18 : decode cX2_door 18 = .ok (.iload_n 1, 1) := by decide +kernel
theorem dX2_door_19 : decode cX2_door 19 = .ok (.iconst 2, 1) := by decide +kernel
theorem dX2_door_20 : decode cX2_door 20 = .ok (.if_icmp .gt 33, 3) := by decide +kernel
theorem dX2_door_23 : decode cX2_door 23 = .ok (.iload_n 2, 1) := by decide +kernel
theorem dX2_door_24 : decode cX2_door 24 = .ok (.ifCond .lt 29, 3) := by decide +kernel
theorem dX2_door_27 : decode cX2_door 27 = .ok (.iload_n 2, 1) := by decide +kernel
theorem dX2_door_28 : decode cX2_door 28 = .ok (.iconst 5, 1) := by decide +kernel
theorem dX2_door_29 : decode cX2_door 29 = .ok (.if_icmp .gt 24, 3) := by decide +kernel
theorem dX2_door_32 : decode cX2_door 32 = .ok (.iload_n 3, 1) := by decide +kernel
theorem dX2_door_33 : decode cX2_door 33 = .ok (.ifCond .lt 20, 3) := by decide +kernel
theorem dX2_door_36 : decode cX2_door 36 = .ok (.iload_n 3, 1) := by decide +kernel
theorem dX2_door_37 : decode cX2_door 37 = .ok (.iconst 5, 1) := by decide +kernel
theorem dX2_door_38 : decode cX2_door 38 = .ok (.if_icmp .gt 15, 3) := by decide +kernel
theorem dX2_door_41 : decode cX2_door 41 = .ok (.iload 4, 2) := by decide +kernel
theorem dX2_door_43 : decode cX2_door 43 = .ok (.ifCond .lt 10, 3) := by decide +kernel
theorem dX2_door_46 : decode cX2_door 46 = .ok (.iload 4, 2) := by decide +kernel
theorem dX2_door_48 : decode cX2_door 48 = .ok (.bipush 20, 2) := by decide +kernel
theorem dX2_door_50 : decode cX2_door 50 = .ok (.if_icmp .le 5, 3) := by decide +kernel
theorem dX2_door_53 : decode cX2_door 53 = .ok (.iconst (-1), 1) := by decide +kernel
theorem dX2_door_54 : decode cX2_door 54 = .ok (.ireturn, 1) := by decide +kernel
theorem dX2_door_55 : decode cX2_door 55 = .ok (.aload_n 0, 1) := by decide +kernel
theorem dX2_door_56 : decode cX2_door 56 = .ok (.getfield 13, 3) := by decide +kernel
theorem dX2_door_59 : decode cX2_door 59 = .ok (.aload_n 0, 1) := by decide +kernel
theorem dX2_door_60 : decode cX2_door 60 = .ok (.getfield 69, 3) := by decide +kernel
theorem dX2_door_63 : decode cX2_door 63 = .ok (.iload_n 1, 1) := by decide +kernel
theorem dX2_door_64 : decode cX2_door 64 = .ok (.iastore, 1) := by decide +kernel
theorem dX2_door_65 : decode cX2_door 65 = .ok (.aload_n 0, 1) := by decide +kernel
theorem dX2_door_66 : decode cX2_door 66 = .ok (.getfield 17, 3) := by decide +kernel
theorem dX2_door_69 : decode cX2_door 69 = .ok (.aload_n 0, 1) := by decide +kernel
theorem dX2_door_70 : decode cX2_door 70 = .ok (.getfield 69, 3) := by decide +kernel
theorem dX2_door_73 : decode cX2_door 73 = .ok (.iload_n 2, 1) := by decide +kernel
theorem dX2_door_74 : decode cX2_door 74 = .ok (.iastore, 1) := by decide +kernel
theorem dX2_door_75 : decode cX2_door 75 = .ok (.aload_n 0, 1) := by decide +kernel
theorem dX2_door_76 : decode cX2_door 76 = .ok (.getfield 20, 3) := by decide +kernel
theorem dX2_door_79 : decode cX2_door 79 = .ok (.aload_n 0, 1) := by decide +kernel
theorem dX2_door_80 : decode cX2_door 80 = .ok (.getfield 69, 3) := by decide +kernel
theorem dX2_door_83 : decode cX2_door 83 = .ok (.iload_n 3, 1) := by decide +kernel
theorem dX2_door_84 : decode cX2_door 84 = .ok (.iastore, 1) := by decide +kernel
theorem dX2_door_85 : decode cX2_door 85 = .ok (.aload_n 0, 1) := by decide +kernel
theorem dX2_door_86 : decode cX2_door 86 = .ok (.getfield 23, 3) := by decide +kernel
theorem dX2_door_89 : decode cX2_door 89 = .ok (.aload_n 0, 1) := by decide +kernel
theorem dX2_door_90 : decode cX2_door 90 = .ok (.getfield 69, 3) := by decide +kernel
theorem dX2_door_93 : decode cX2_door 93 = .ok (.iload 4, 2) := by decide +kernel
theorem dX2_door_95 : decode cX2_door 95 = .ok (.iastore, 1) := by decide +kernel
theorem dX2_door_96 : decode cX2_door 96 = .ok (.aload_n 0, 1) := by decide +kernel
theorem dX2_door_97 : decode cX2_door 97 = .ok (.dup, 1) := by decide +kernel
theorem dX2_door_98 : decode cX2_door 98 = .ok (.getfield 69, 3) := by decide +kernel
theorem dX2_door_101 : decode cX2_door 101 = .ok (.iconst 1, 1) := by decide +kernel
theorem dX2_door_102 : decode cX2_door 102 = .ok (.iadd, 1) := by decide +kernel
theorem dX2_door_103 : decode cX2_door 103 = .ok (.putfield 69, 3) := by decide +kernel
theorem dX2_door_106 : decode cX2_door 106 = .ok (.aload_n 0, 1) := by decide +kernel
theorem dX2_door_107 : decode cX2_door 107 = .ok (.getfield 69, 3) := by decide +kernel
theorem dX2_door_110 : decode cX2_door 110 = .ok (.iconst 1, 1) := by decide +kernel
theorem dX2_door_111 : decode cX2_door 111 = .ok (.isub, 1) := by decide +kernel
theorem dX2_door_112 : decode cX2_door 112 = .ok (.ireturn, 1) := by decide +kernel
theorem dX2_isRow_0 : decode cX2_isRow 0 = .ok (.iload_n 1, 1) := by decide +kernel
theorem dX2_isRow_1 : decode cX2_isRow 1 = .ok (.ifCond .lt 27, 3) := by decide +kernel
theorem dX2_isRow_4 : decode cX2_isRow 4 = .ok (.iload_n 1, 1) := by decide +kernel
theorem dX2_isRow_5 : decode cX2_isRow 5 = .ok (.aload_n 0, 1) := by decide +kernel
theorem dX2_isRow_6 : decode cX2_isRow 6 = .ok (.getfield 69, 3) := by decide +kernel
theorem dX2_isRow_9 : decode cX2_isRow 9 = .ok (.if_icmp .ge 19, 3) := by decide +kernel
theorem dX2_isRow_12 : decode cX2_isRow 12 = .ok (.iload_n 2, 1) := by decide +kernel
theorem dX2_isRow_13 : decode cX2_isRow 13 = .ok (.ifCond .lt 15, 3) := by decide +kernel
theorem dX2_isRow_16 : decode cX2_isRow 16 = .ok (.iload_n 2, 1) := by decide +kernel
theorem dX2_isRow_17 : decode cX2_isRow 17 = .ok (.aload_n 0, 1) := by decide +kernel
theorem dX2_isRow_18 : decode cX2_isRow 18 = .ok (.getfield 7, 3) := by decide +kernel
theorem dX2_isRow_21 : decode cX2_isRow 21 = .ok (.if_icmp .ge 7, 3) := by decide +kernel
theorem dX2_isRow_24 : decode cX2_isRow 24 = .ok (.iconst 1, 1) := by decide +kernel
theorem dX2_isRow_25 : decode cX2_isRow 25 = .ok (.goto 4, 3) := by decide +kernel
theorem dX2_isRow_28 : decode cX2_isRow 28 = .ok (.iconst 0, 1) := by decide +kernel
theorem dX2_isRow_29 : decode cX2_isRow 29 = .ok (.ireturn, 1) := by decide +kernel
set_option maxRecDepth 20000 in
theorem ggX2_row_X2_isRow : GoodIn wsX2_row wsX2_isRow := goodIn_r _ [8, 9, 10, 11, 12, 13, 14, 15, 16, 17, 18, 19, 20, 21, 22, 23, 24, 25, 26, 27, 28, 29, 30, 31] (by decide +kernel) (by decide +kernel)
set_option maxRecDepth 20000 in
theorem gX2_row_X2_isRow : GoodIn wsX2_row (wsV RX2 75 RX2 yX2_isRow wsX2_isRow) := goodIn_app (goodIn_of _ (by decide +kernel)) ggX2_row_X2_isRow
theorem dX2_row_0 : decode cX2_row 0 = .ok (.aload_n 0, 1) := by decide +kernel
theorem dX2_row_1 : decode cX2_row 1 = .ok (.iconst 0, 1) := by decide +kernel
theorem dX2_row_2 : decode cX2_row 2 = .ok (.putfield 66, 3) := by decide +kernel
theorem dX2_row_5 : decode cX2_row 5 = .ok (.aload_n 0, 1) := by decide +kernel
theorem dX2_row_6 : decode cX2_row 6 = .ok (.iload_n 1, 1) := by decide +kernel
theorem dX2_row_7 : decode cX2_row 7 = .ok (.iload_n 2, 1) := by decide +kernel
theorem dX2_row_8 : decode cX2_row 8 = .ok (.invokevirtual 75, 3) := by decide +kernel
theorem dX2_row_11 : decode cX2_row 11 = .ok (.ifCond .eq 25, 3) := by decide +kernel
theorem dX2_row_14 : decode cX2_row 14 = .ok (.iload_n 3, 1) := by decide +kernel
theorem dX2_row_15 : decode cX2_row 15 = .ok (.ifCond .lt 21, 3) := by decide +kernel
theorem dX2_row_18 : decode cX2_row 18 = .ok (.iload_n 3, 1) := by decide +kernel
theorem dX2_row_19 : decode cX2_row 19 = .ok (.bipush 20, 2) := by decide +kernel
theorem dX2_row_21 : decode cX2_row 21 = .ok (.if_icmp .gt 15, 3) := by decide +kernel
theorem dX2_row_24 : decode cX2_row 24 = .ok (.iload 4, 2) := by decide +kernel
theorem dX2_row_26 : decode cX2_row 26 = .ok (.ifCond .lt 10, 3) := by decide +kernel
theorem dX2_row_29 : decode cX2_row 29 = .ok (.iload 4, 2) := by decide +kernel
theorem dX2_row_31 : decode cX2_row 31 = .ok (.bipush 20, 2) := by decide +kernel
theorem dX2_row_33 : decode cX2_row 33 = .ok (.if_icmp .le 5, 3) := by decide +kernel
theorem dX2_row_36 : decode cX2_row 36 = .ok (.iconst 0, 1) := by decide +kernel
theorem dX2_row_37 : decode cX2_row 37 = .ok (.ireturn, 1) := by decide +kernel
theorem dX2_row_38 : decode cX2_row 38 = .ok (.aload_n 0, 1) := by decide +kernel
theorem dX2_row_39 : decode cX2_row 39 = .ok (.getfield 26, 3) := by decide +kernel
theorem dX2_row_42 : decode cX2_row 42 = .ok (.bipush 60, 2) := by decide +kernel
theorem dX2_row_44 : decode cX2_row 44 = .ok (.iload_n 1, 1) := by decide +kernel
theorem dX2_row_45 : decode cX2_row 45 = .ok (.imul, 1) := by decide +kernel
theorem dX2_row_46 : decode cX2_row 46 = .ok (.iload_n 2, 1) := by decide +kernel
theorem dX2_row_47 : decode cX2_row 47 = .ok (.iadd, 1) := by decide +kernel
theorem dX2_row_48 : decode cX2_row 48 = .ok (.iload_n 3, 1) := by decide +kernel
theorem dX2_row_49 : decode cX2_row 49 = .ok (.iastore, 1) := by decide +kernel
theorem dX2_row_50 : decode cX2_row 50 = .ok (.aload_n 0, 1) := by decide +kernel
theorem dX2_row_51 : decode cX2_row 51 = .ok (.getfield 29, 3) := by decide +kernel
theorem dX2_row_54 : decode cX2_row 54 = .ok (.bipush 60, 2) := by decide +kernel
theorem dX2_row_56 : decode cX2_row 56 = .ok (.iload_n 1, 1) := by decide +kernel
theorem dX2_row_57 : decode cX2_row 57 = .ok (.imul, 1) := by decide +kernel
theorem dX2_row_58 : decode cX2_row 58 = .ok (.iload_n 2, 1) := by decide +kernel
theorem dX2_row_59 : decode cX2_row 59 = .ok (.iadd, 1) := by decide +kernel
theorem dX2_row_60 : decode cX2_row 60 = .ok (.iload 4, 2) := by decide +kernel
theorem dX2_row_62 : decode cX2_row 62 = .ok (.iastore, 1) := by decide +kernel
theorem dX2_row_63 : decode cX2_row 63 = .ok (.iconst 1, 1) := by decide +kernel
theorem dX2_row_64 : decode cX2_row 64 = .ok (.ireturn, 1) := by decide +kernel
set_option maxRecDepth 20000 in
theorem ggX2_lack_X2_isRow : GoodIn wsX2_lack wsX2_isRow := goodIn_r _ [8, 9, 10, 11, 12, 13, 14, 15, 16, 17, 18, 19, 20, 21, 22, 23, 24, 25, 26, 27, 28, 29, 30, 31] (by decide +kernel) (by decide +kernel)
set_option maxRecDepth 20000 in
theorem gX2_lack_X2_isRow : GoodIn wsX2_lack (wsV RX2 75 RX2 yX2_isRow wsX2_isRow) := goodIn_app (goodIn_of _ (by decide +kernel)) ggX2_lack_X2_isRow
theorem dX2_lack_0 : decode cX2_lack 0 = .ok (.aload_n 0, 1) := by decide +kernel
theorem dX2_lack_1 : decode cX2_lack 1 = .ok (.iconst 0, 1) := by decide +kernel
theorem dX2_lack_2 : decode cX2_lack 2 = .ok (.putfield 66, 3) := by decide +kernel
theorem dX2_lack_5 : decode cX2_lack 5 = .ok (.aload_n 0, 1) := by decide +kernel
theorem dX2_lack_6 : decode cX2_lack 6 = .ok (.iload_n 1, 1) := by decide +kernel
theorem dX2_lack_7 : decode cX2_lack 7 = .ok (.iload_n 2, 1) := by decide +kernel
theorem dX2_lack_8 : decode cX2_lack 8 = .ok (.invokevirtual 75, 3) := by decide +kernel
theorem dX2_lack_11 : decode cX2_lack 11 = .ok (.ifCond .eq 17, 3) := by decide +kernel
theorem dX2_lack_14 : decode cX2_lack 14 = .ok (.aload_n 0, 1) := by decide +kernel
theorem dX2_lack_15 : decode cX2_lack 15 = .ok (.iload_n 1, 1) := by decide +kernel
theorem dX2_lack_16 : decode cX2_lack 16 = .ok (.iload_n 3, 1) := by decide +kernel
theorem dX2_lack_17 : decode cX2_lack 17 = .ok (.invokevirtual 75, 3) := by decide +kernel
theorem dX2_lack_20 : decode cX2_lack 20 = .ok (.ifCond .eq 8, 3) := by decide +kernel
theorem dX2_lack_23 : decode cX2_lack 23 = .ok (.iload_n 2, 1) := by decide +kernel
theorem dX2_lack_24 : decode cX2_lack 24 = .ok (.iload_n 3, 1) := by decide +kernel
theorem dX2_lack_25 : decode cX2_lack 25 = .ok (.if_icmp .le 5, 3) := by decide +kernel
theorem dX2_lack_28 : decode cX2_lack 28 = .ok (.iconst 0, 1) := by decide +kernel
theorem dX2_lack_29 : decode cX2_lack 29 = .ok (.ireturn, 1) := by decide +kernel
theorem dX2_lack_30 : decode cX2_lack 30 = .ok (.iload_n 2, 1) := by decide +kernel
theorem dX2_lack_31 : decode cX2_lack 31 = .ok (.istore 4, 2) := by decide +kernel
theorem dX2_lack_33 : decode cX2_lack 33 = .ok (.iload 4, 2) := by decide +kernel
theorem dX2_lack_35 : decode cX2_lack 35 = .ok (.iload_n 3, 1) := by decide +kernel
theorem dX2_lack_36 : decode cX2_lack 36 = .ok (.if_icmp .gt 35, 3) := by decide +kernel
theorem dX2_lack_39 : decode cX2_lack 39 = .ok (.aload_n 0, 1) := by decide +kernel
theorem dX2_lack_40 : decode cX2_lack 40 = .ok (.getfield 26, 3) := by decide +kernel
theorem dX2_lack_43 : decode cX2_lack 43 = .ok (.bipush 60, 2) := by decide +kernel
theorem dX2_lack_45 : decode cX2_lack 45 = .ok (.iload_n 1, 1) := by decide +kernel
theorem dX2_lack_46 : decode cX2_lack 46 = .ok (.imul, 1) := by decide +kernel
theorem dX2_lack_47 : decode cX2_lack 47 = .ok (.iload 4, 2) := by decide +kernel
theorem dX2_lack_49 : decode cX2_lack 49 = .ok (.iadd, 1) := by decide +kernel
theorem dX2_lack_50 : decode cX2_lack 50 = .ok (.iconst (-1), 1) := by decide +kernel
theorem dX2_lack_51 : decode cX2_lack 51 = .ok (.iastore, 1) := by decide +kernel
theorem dX2_lack_52 : decode cX2_lack 52 = .ok (.aload_n 0, 1) := by decide +kernel
theorem dX2_lack_53 : decode cX2_lack 53 = .ok (.getfield 29, 3) := by decide +kernel
theorem dX2_lack_56 : decode cX2_lack 56 = .ok (.bipush 60, 2) := by decide +kernel
theorem dX2_lack_58 : decode cX2_lack 58 = .ok (.iload_n 1, 1) := by decide +kernel
theorem dX2_lack_59 : decode cX2_lack 59 = .ok (.imul, 1) := by decide +kernel
theorem dX2_lack_60 : decode cX2_lack 60 = .ok (.iload 4, 2) := by decide +kernel
theorem dX2_lack_62 : decode cX2_lack 62 = .ok (.iadd, 1) := by decide +kernel
theorem dX2_lack_63 : decode cX2_lack 63 = .ok (.iconst (-1), 1) := by decide +kernel
theorem dX2_lack_64 : decode cX2_lack 64 = .ok (.iastore, 1) := by decide +kernel
theorem dX2_lack_65 : decode cX2_lack 65 = .ok (.iinc 4 1, 3) := by decide +kernel
theorem dX2_lack_68 : decode cX2_lack 68 = .ok (.goto (-35), 3) := by decide +kernel
theorem dX2_lack_71 : decode cX2_lack 71 = .ok (.iconst 1, 1) := by decide +kernel
theorem dX2_lack_72 : decode cX2_lack 72 = .ok (.ireturn, 1) := by decide +kernel
theorem dX2_start_0 : decode cX2_start 0 = .ok (.aload_n 0, 1) := by decide +kernel
theorem dX2_start_1 : decode cX2_start 1 = .ok (.iconst 0, 1) := by decide +kernel
theorem dX2_start_2 : decode cX2_start 2 = .ok (.putfield 66, 3) := by decide +kernel
theorem dX2_start_5 : decode cX2_start 5 = .ok (.iload_n 1, 1) := by decide +kernel
theorem dX2_start_6 : decode cX2_start 6 = .ok (.ifCond .lt 24, 3) := by decide +kernel
theorem dX2_start_9 : decode cX2_start 9 = .ok (.iload_n 1, 1) := by decide +kernel
theorem dX2_start_10 : decode cX2_start 10 = .ok (.iconst 1, 1) := by decide +kernel
theorem dX2_start_11 : decode cX2_start 11 = .ok (.if_icmp .gt 19, 3) := by decide +kernel
theorem dX2_start_14 : decode cX2_start 14 = .ok (.iload_n 2, 1) := by decide +kernel
theorem dX2_start_15 : decode cX2_start 15 = .ok (.ifCond .lt 15, 3) := by decide +kernel
theorem dX2_start_18 : decode cX2_start 18 = .ok (.iload_n 3, 1) := by decide +kernel
theorem dX2_start_19 : decode cX2_start 19 = .ok (.iload_n 2, 1) := by decide +kernel
theorem dX2_start_20 : decode cX2_start 20 = .ok (.if_icmp .lt 10, 3) := by decide +kernel
theorem dX2_start_23 : decode cX2_start 23 = .ok (.iload_n 3, 1) := by decide +kernel
theorem dX2_start_24 : decode cX2_start 24 = .ok (.sipush 9999, 3) := by decide +kernel
theorem dX2_start_27 : decode cX2_start 27 = .ok (.if_icmp .le 5, 3) := by decide +kernel
theorem dX2_start_30 : decode cX2_start 30 = .ok (.iconst 0, 1) := by decide +kernel
theorem dX2_start_31 : decode cX2_start 31 = .ok (.ireturn, 1) := by decide +kernel
theorem dX2_start_32 : decode cX2_start 32 = .ok (.aload_n 0, 1) := by decide +kernel
theorem dX2_start_33 : decode cX2_start 33 = .ok (.getfield 32, 3) := by decide +kernel
theorem dX2_start_36 : decode cX2_start 36 = .ok (.iload_n 1, 1) := by decide +kernel
theorem dX2_start_37 : decode cX2_start 37 = .ok (.iload_n 2, 1) := by decide +kernel
theorem dX2_start_38 : decode cX2_start 38 = .ok (.iastore, 1) := by decide +kernel
theorem dX2_start_39 : decode cX2_start 39 = .ok (.aload_n 0, 1) := by decide +kernel
theorem dX2_start_40 : decode cX2_start 40 = .ok (.getfield 35, 3) := by decide +kernel
theorem dX2_start_43 : decode cX2_start 43 = .ok (.iload_n 1, 1) := by decide +kernel
theorem dX2_start_44 : decode cX2_start 44 = .ok (.iload_n 3, 1) := by decide +kernel
theorem dX2_start_45 : decode cX2_start 45 = .ok (.iastore, 1) := by decide +kernel
theorem dX2_start_46 : decode cX2_start 46 = .ok (.iconst 1, 1) := by decide +kernel
theorem dX2_start_47 : decode cX2_start 47 = .ok (.ireturn, 1) := by decide +kernel
theorem dX2_check_0 : decode cX2_check 0 = .ok (.aload_n 0, 1) := by decide +kernel
theorem dX2_check_1 : decode cX2_check 1 = .ok (.iconst 0, 1) := by decide +kernel
theorem dX2_check_2 : decode cX2_check 2 = .ok (.putfield 66, 3) := by decide +kernel
theorem dX2_check_5 : decode cX2_check 5 = .ok (.aload_n 0, 1) := by decide +kernel
theorem dX2_check_6 : decode cX2_check 6 = .ok (.getfield 72, 3) := by decide +kernel
theorem dX2_check_9 : decode cX2_check 9 = .ok (.bipush 20, 2) := by decide +kernel
theorem dX2_check_11 : decode cX2_check 11 = .ok (.if_icmp .eq 42, 3) := by decide +kernel
theorem dX2_check_14 : decode cX2_check 14 = .ok (.iload_n 1, 1) := by decide +kernel
theorem dX2_check_15 : decode cX2_check 15 = .ok (.ifCond .lt 38, 3) := by decide +kernel
theorem dX2_check_18 : decode cX2_check 18 = .ok (.iload_n 1, 1) := by decide +kernel
theorem dX2_check_19 : decode cX2_check 19 = .ok (.aload_n 0, 1) := by decide +kernel
theorem dX2_check_20 : decode cX2_check 20 = .ok (.getfield 7, 3) := by decide +kernel
theorem dX2_check_23 : decode cX2_check 23 = .ok (.if_icmp .gt 30, 3) := by decide +kernel
theorem dX2_check_26 : decode cX2_check 26 = .ok (.iload_n 2, 1) := by decide +kernel
theorem dX2_check_27 : decode cX2_check 27 = .ok (.ifCond .lt 26, 3) := by decide +kernel
theorem dX2_check_30 : decode cX2_check 30 = .ok (.iload_n 2, 1) := by decide +kernel
theorem dX2_check_31 : decode cX2_check 31 = .ok (.iconst 2, 1) := by decide +kernel
theorem dX2_check_32 : decode cX2_check 32 = .ok (.if_icmp .gt 21, 3) := by decide +kernel
theorem dX2_check_35 : decode cX2_check 35 = .ok (.iload_n 3, 1) := by decide +kernel
theorem dX2_check_36 : decode cX2_check 36 = .ok (.ifCond .lt 17, 3) := by decide +kernel
theorem dX2_check_39 : decode cX2_check 39 = .ok (.iload 4, 2) := by decide +kernel
theorem dX2_check_41 : decode cX2_check 41 = .ok (.iload_n 3, 1) := by decide +kernel
theorem dX2_check_42 : decode cX2_check 42 = .ok (.if_icmp .lt 11, 3) := by decide +kernel
theorem dX2_check_45 : decode cX2_check 45 = .ok (.iload 4, 2) := by decide +kernel
theorem dX2_check_47 : decode cX2_check 47 = .ok (.sipush 9999, 3) := by decide +kernel
theorem dX2_check_50 : decode cX2_check 50 = .ok (.if_icmp .le 5, 3) := by decide +kernel
theorem dX2_check_53 : decode cX2_check 53 = .ok (.iconst (-1), 1) := by decide +kernel
theorem dX2_check_54 : decode cX2_check 54 = .ok (.ireturn, 1) := by decide +kernel
theorem dX2_check_55 : decode cX2_check 55 = .ok (.aload_n 0, 1) := by decide +kernel
theorem dX2_check_56 : decode cX2_check 56 = .ok (.getfield 38, 3) := by decide +kernel
theorem dX2_check_59 : decode cX2_check 59 = .ok (.aload_n 0, 1) := by decide +kernel
theorem dX2_check_60 : decode cX2_check 60 = .ok (.getfield 72, 3) := by decide +kernel
theorem dX2_check_63 : decode cX2_check 63 = .ok (.iload_n 1, 1) := by decide +kernel
theorem dX2_check_64 : decode cX2_check 64 = .ok (.iastore, 1) := by decide +kernel
theorem dX2_check_65 : decode cX2_check 65 = .ok (.aload_n 0, 1) := by decide +kernel
theorem dX2_check_66 : decode cX2_check 66 = .ok (.getfield 41, 3) := by decide +kernel
theorem dX2_check_69 : decode cX2_check 69 = .ok (.aload_n 0, 1) := by decide +kernel
theorem dX2_check_70 : decode cX2_check 70 = .ok (.getfield 72, 3) := by decide +kernel
theorem dX2_check_73 : decode cX2_check 73 = .ok (.iload_n 2, 1) := by decide +kernel
theorem dX2_check_74 : decode cX2_check 74 = .ok (.iastore, 1) := by decide +kernel
theorem dX2_check_75 : decode cX2_check 75 = .ok (.aload_n 0, 1) := by decide +kernel
theorem dX2_check_76 : decode cX2_check 76 = .ok (.getfield 44, 3) := by decide +kernel
theorem dX2_check_79 : decode cX2_check 79 = .ok (.aload_n 0, 1) := by decide +kernel
theorem dX2_check_80 : decode cX2_check 80 = .ok (.getfield 72, 3) := by decide +kernel
theorem dX2_check_83 : decode cX2_check 83 = .ok (.iload_n 3, 1) := by decide +kernel
theorem dX2_check_84 : decode cX2_check 84 = .ok (.iastore, 1) := by decide +kernel
theorem dX2_check_85 : decode cX2_check 85 = .ok (.aload_n 0, 1) := by decide +kernel
theorem dX2_check_86 : decode cX2_check 86 = .ok (.getfield 47, 3) := by decide +kernel
theorem dX2_check_89 : decode cX2_check 89 = .ok (.aload_n 0, 1) := by decide +kernel
theorem dX2_check_90 : decode cX2_check 90 = .ok (.getfield 72, 3) := by decide +kernel
theorem dX2_check_93 : decode cX2_check 93 = .ok (.iload 4, 2) := by decide +kernel
theorem dX2_check_95 : decode cX2_check 95 = .ok (.iastore, 1) := by decide +kernel
theorem dX2_check_96 : decode cX2_check 96 = .ok (.aload_n 0, 1) := by decide +kernel
theorem dX2_check_97 : decode cX2_check 97 = .ok (.dup, 1) := by decide +kernel
theorem dX2_check_98 : decode cX2_check 98 = .ok (.getfield 72, 3) := by decide +kernel
theorem dX2_check_101 : decode cX2_check 101 = .ok (.iconst 1, 1) := by decide +kernel
theorem dX2_check_102 : decode cX2_check 102 = .ok (.iadd, 1) := by decide +kernel
theorem dX2_check_103 : decode cX2_check 103 = .ok (.putfield 72, 3) := by decide +kernel
theorem dX2_check_106 : decode cX2_check 106 = .ok (.aload_n 0, 1) := by decide +kernel
theorem dX2_check_107 : decode cX2_check 107 = .ok (.getfield 72, 3) := by decide +kernel
theorem dX2_check_110 : decode cX2_check 110 = .ok (.iconst 1, 1) := by decide +kernel
theorem dX2_check_111 : decode cX2_check 111 = .ok (.isub, 1) := by decide +kernel
theorem dX2_check_112 : decode cX2_check 112 = .ok (.ireturn, 1) := by decide +kernel
theorem dX2_uncheck_0 : decode cX2_uncheck 0 = .ok (.aload_n 0, 1) := by decide +kernel
theorem dX2_uncheck_1 : decode cX2_uncheck 1 = .ok (.iconst 0, 1) := by decide +kernel
theorem dX2_uncheck_2 : decode cX2_uncheck 2 = .ok (.putfield 66, 3) := by decide +kernel
theorem dX2_uncheck_5 : decode cX2_uncheck 5 = .ok (.aload_n 0, 1) := by decide +kernel
theorem dX2_uncheck_6 : decode cX2_uncheck 6 = .ok (.getfield 72, 3) := by decide +kernel
theorem dX2_uncheck_9 : decode cX2_uncheck 9 = .ok (.ifCond .ne 5, 3) := by decide +kernel
theorem dX2_uncheck_12 : decode cX2_uncheck 12 = .ok (.iconst (-1), 1) := by decide +kernel
theorem dX2_uncheck_13 : decode cX2_uncheck 13 = .ok (.ireturn, 1) := by decide +kernel
theorem dX2_uncheck_14 : decode cX2_uncheck 14 = .ok (.aload_n 0, 1) := by decide +kernel
theorem dX2_uncheck_15 : decode cX2_uncheck 15 = .ok (.dup, 1) := by decide +kernel
theorem dX2_uncheck_16 : decode cX2_uncheck 16 = .ok (.getfield 72, 3) := by decide +kernel
theorem dX2_uncheck_19 : decode cX2_uncheck 19 = .ok (.iconst 1, 1) := by decide +kernel
theorem dX2_uncheck_20 : decode cX2_uncheck 20 = .ok (.isub, 1) := by decide +kernel
theorem dX2_uncheck_21 : decode cX2_uncheck 21 = .ok (.putfield 72, 3) := by decide +kernel
theorem dX2_uncheck_24 : decode cX2_uncheck 24 = .ok (.aload_n 0, 1) := by decide +kernel
theorem dX2_uncheck_25 : decode cX2_uncheck 25 = .ok (.getfield 72, 3) := by decide +kernel
theorem dX2_uncheck_28 : decode cX2_uncheck 28 = .ok (.ireturn, 1) := by decide +kernel
theorem dX2_greater_0 : decode cX2_greater 0 = .ok (.iload_n 0, 1) := by decide +kernel
theorem dX2_greater_1 : decode cX2_greater 1 = .ok (.iload_n 1, 1) := by decide +kernel
theorem dX2_greater_2 : decode cX2_greater 2 = .ok (.if_icmp .le 7, 3) := by decide +kernel
theorem dX2_greater_5 : decode cX2_greater 5 = .ok (.iload_n 0, 1) := by decide +kernel
theorem dX2_greater_6 : decode cX2_greater 6 = .ok (.goto 4, 3) := by decide +kernel
theorem dX2_greater_9 : decode cX2_greater 9 = .ok (.iload_n 1, 1) := by decide +kernel
theorem dX2_greater_10 : decode cX2_greater 10 = .ok (.ireturn, 1) := by decide +kernel
theorem dX2_lesser_0 : decode cX2_lesser 0 = .ok (.iload_n 0, 1) := by decide +kernel
theorem dX2_lesser_1 : decode cX2_lesser 1 = .ok (.iload_n 1, 1) := by decide +kernel
theorem dX2_lesser_2 : decode cX2_lesser 2 = .ok (.if_icmp .ge 7, 3) := by decide +kernel
theorem dX2_lesser_5 : decode cX2_lesser 5 = .ok (.iload_n 0, 1) := by decide +kernel
theorem dX2_lesser_6 : decode cX2_lesser 6 = .ok (.goto 4, 3) := by decide +kernel
theorem dX2_lesser_9 : decode cX2_lesser 9 = .ok (.iload_n 1, 1) := by decide +kernel
theorem dX2_lesser_10 : decode cX2_lesser 10 = .ok (.ireturn, 1) := by decide +kernel
set_option maxRecDepth 20000 in
theorem ggX2_least_X2_greater : GoodIn wsX2_least wsX2_greater := goodIn_r _ [6] (by decide +kernel) (by decide +kernel)
set_option maxRecDepth 20000 in
theorem gX2_least_X2_greater : GoodIn wsX2_least (va_wsS RX2 82 yX2_greater wsX2_greater) := goodIn_app (goodIn_of _ (by decide +kernel)) ggX2_least_X2_greater
theorem dX2_least_0 : decode cX2_least 0 = .ok (.iload_n 2, 1) := by decide +kernel
theorem dX2_least_1 : decode cX2_least 1 = .ok (.ifCond .ge 7, 3) := by decide +kernel
theorem dX2_least_4 : decode cX2_least 4 = .ok (.iconst 0, 1) := by decide +kernel
theorem dX2_least_5 : decode cX2_least 5 = .ok (.goto 20, 3) := by decide +kernel
theorem dX2_least_8 : decode cX2_least 8 = .ok (.iconst 0, 1) := by decide +kernel
theorem dX2_least_9 : decode cX2_least 9 = .ok (.iload_n 2, 1) := by decide +kernel
theorem dX2_least_10 : decode cX2_least 10 = .ok (.aload_n 0, 1) := by decide +kernel
theorem dX2_least_11 : decode cX2_least 11 = .ok (.getfield 20, 3) := by decide +kernel
theorem dX2_least_14 : decode cX2_least 14 = .ok (.iload_n 1, 1) := by decide +kernel
theorem dX2_least_15 : decode cX2_least 15 = .ok (.iaload, 1) := by decide +kernel
theorem dX2_least_16 : decode cX2_least 16 = .ok (.isub, 1) := by decide +kernel
theorem dX2_least_17 : decode cX2_least 17 = .ok (.aload_n 0, 1) := by decide +kernel
theorem dX2_least_18 : decode cX2_least 18 = .ok (.getfield 79, 3) := by decide +kernel
theorem dX2_least_21 : decode cX2_least 21 = .ok (.isub, 1) := by decide +kernel
theorem dX2_least_22 : decode cX2_least 22 = .ok (.invokestatic 82, 3) := by decide +kernel
theorem dX2_least_25 : decode cX2_least 25 = .ok (.ireturn, 1) := by decide +kernel
theorem dX2_most_0 : decode cX2_most 0 = .ok (.iload_n 2, 1) := by decide +kernel
theorem dX2_most_1 : decode cX2_most 1 = .ok (.ifCond .ge 12, 3) := by decide +kernel
theorem dX2_most_4 : decode cX2_most 4 = .ok (.aload_n 0, 1) := by decide +kernel
theorem dX2_most_5 : decode cX2_most 5 = .ok (.getfield 23, 3) := by decide +kernel
theorem dX2_most_8 : decode cX2_most 8 = .ok (.iload_n 1, 1) := by decide +kernel
theorem dX2_most_9 : decode cX2_most 9 = .ok (.iaload, 1) := by decide +kernel
theorem dX2_most_10 : decode cX2_most 10 = .ok (.goto 16, 3) := by decide +kernel
theorem dX2_most_13 : decode cX2_most 13 = .ok (.iload_n 2, 1) := by decide +kernel
theorem dX2_most_14 : decode cX2_most 14 = .ok (.aload_n 0, 1) := by decide +kernel
theorem dX2_most_15 : decode cX2_most 15 = .ok (.getfield 17, 3) := by decide +kernel
theorem dX2_most_18 : decode cX2_most 18 = .ok (.iload_n 1, 1) := by decide +kernel
theorem dX2_most_19 : decode cX2_most 19 = .ok (.iaload, 1) := by decide +kernel
theorem dX2_most_20 : decode cX2_most 20 = .ok (.iadd, 1) := by decide +kernel
theorem dX2_most_21 : decode cX2_most 21 = .ok (.aload_n 0, 1) := by decide +kernel
theorem dX2_most_22 : decode cX2_most 22 = .ok (.getfield 79, 3) := by decide +kernel
theorem dX2_most_25 : decode cX2_most 25 = .ok (.iadd, 1) := by decide +kernel
theorem dX2_most_26 : decode cX2_most 26 = .ok (.ireturn, 1) := by decide +kernel
set_option maxRecDepth 20000 in
theorem ggX2_netLow_X2_least : GoodIn wsX2_netLow wsX2_least := goodIn_r _ [7, 8, 9, 10, 11, 6, 12, 19, 20, 21, 22, 23, 24, 25, 26, 27, 28, 29, 30, 31, 32, 33, 34, 35, 36, 37, 38, 39] (by decide +kernel) (by decide +kernel)
set_option maxRecDepth 20000 in
theorem gX2_netLow_X2_least : GoodIn wsX2_netLow (wsV RX2 86 RX2 yX2_least wsX2_least) := goodIn_app (goodIn_of _ (by decide +kernel)) ggX2_netLow_X2_least
set_option maxRecDepth 20000 in
theorem ggX2_netLow_X2_most : GoodIn wsX2_netLow wsX2_most := goodIn_r _ [16, 17, 18, 9, 19, 20, 21, 22, 23, 24, 25, 26, 27, 28, 29, 30, 31, 32, 33, 34, 35, 36, 37, 38, 39] (by decide +kernel) (by decide +kernel)
set_option maxRecDepth 20000 in
theorem gX2_netLow_X2_most : GoodIn wsX2_netLow (wsV RX2 89 RX2 yX2_most wsX2_most) := goodIn_app (goodIn_of _ (by decide +kernel)) ggX2_netLow_X2_most
theorem dX2_netLow_0 : decode cX2_netLow 0 = .ok (.aload_n 0, 1) := by decide +kernel
theorem dX2_netLow_1 : decode cX2_netLow 1 = .ok (.iload_n 1, 1) := by decide +kernel
theorem dX2_netLow_2 : decode cX2_netLow 2 = .ok (.aload_n 0, 1) := by decide +kernel
theorem dX2_netLow_3 : decode cX2_netLow 3 = .ok (.getfield 26, 3) := by decide +kernel
theorem dX2_netLow_6 : decode cX2_netLow 6 = .ok (.bipush 60, 2) := by decide +kernel
theorem dX2_netLow_8 : decode cX2_netLow 8 = .ok (.iload_n 1, 1) := by decide +kernel
theorem dX2_netLow_9 : decode cX2_netLow 9 = .ok (.imul, 1) := by decide +kernel
theorem dX2_netLow_10 : decode cX2_netLow 10 = .ok (.iload_n 2, 1) := by decide +kernel
theorem dX2_netLow_11 : decode cX2_netLow 11 = .ok (.iadd, 1) := by decide +kernel
theorem dX2_netLow_12 : decode cX2_netLow 12 = .ok (.iaload, 1) := by decide +kernel
theorem dX2_netLow_13 : decode cX2_netLow 13 = .ok (.invokevirtual 86, 3) := by decide +kernel
theorem dX2_netLow_16 : decode cX2_netLow 16 = .ok (.aload_n 0, 1) := by decide +kernel
theorem dX2_netLow_17 : decode cX2_netLow 17 = .ok (.iload_n 1, 1) := by decide +kernel
theorem dX2_netLow_18 : decode cX2_netLow 18 = .ok (.aload_n 0, 1) := by decide +kernel
theorem dX2_netLow_19 : decode cX2_netLow 19 = .ok (.getfield 29, 3) := by decide +kernel
theorem dX2_netLow_22 : decode cX2_netLow 22 = .ok (.bipush 60, 2) := by decide +kernel
theorem dX2_netLow_24 : decode cX2_netLow 24 = .ok (.iload_n 1, 1) := by decide +kernel
theorem dX2_netLow_25 : decode cX2_netLow 25 = .ok (.imul, 1) := by decide +kernel
theorem dX2_netLow_26 : decode cX2_netLow 26 = .ok (.iload_n 2, 1) := by decide +kernel
theorem dX2_netLow_27 : decode cX2_netLow 27 = .ok (.iadd, 1) := by decide +kernel
theorem dX2_netLow_28 : decode cX2_netLow 28 = .ok (.iaload, 1) := by decide +kernel
theorem dX2_netLow_29 : decode cX2_netLow 29 = .ok (.invokevirtual 89, 3) := by decide +kernel
theorem dX2_netLow_32 : decode cX2_netLow 32 = .ok (.isub, 1) := by decide +kernel
theorem dX2_netLow_33 : decode cX2_netLow 33 = .ok (.ireturn, 1) := by decide +kernel
set_option maxRecDepth 20000 in
theorem ggX2_netHigh_X2_most : GoodIn wsX2_netHigh wsX2_most := goodIn_r _ [7, 8, 9, 10, 19, 20, 21, 22, 23, 24, 25, 26, 27, 28, 29, 30, 31, 32, 33, 34, 35, 36, 37, 38, 39] (by decide +kernel) (by decide +kernel)
set_option maxRecDepth 20000 in
theorem gX2_netHigh_X2_most : GoodIn wsX2_netHigh (wsV RX2 89 RX2 yX2_most wsX2_most) := goodIn_app (goodIn_of _ (by decide +kernel)) ggX2_netHigh_X2_most
set_option maxRecDepth 20000 in
theorem ggX2_netHigh_X2_least : GoodIn wsX2_netHigh wsX2_least := goodIn_r _ [14, 15, 10, 16, 17, 6, 18, 19, 20, 21, 22, 23, 24, 25, 26, 27, 28, 29, 30, 31, 32, 33, 34, 35, 36, 37, 38, 39] (by decide +kernel) (by decide +kernel)
set_option maxRecDepth 20000 in
theorem gX2_netHigh_X2_least : GoodIn wsX2_netHigh (wsV RX2 86 RX2 yX2_least wsX2_least) := goodIn_app (goodIn_of _ (by decide +kernel)) ggX2_netHigh_X2_least
theorem dX2_netHigh_0 : decode cX2_netHigh 0 = .ok (.aload_n 0, 1) := by decide +kernel
theorem dX2_netHigh_1 : decode cX2_netHigh 1 = .ok (.iload_n 1, 1) := by decide +kernel
theorem dX2_netHigh_2 : decode cX2_netHigh 2 = .ok (.aload_n 0, 1) := by decide +kernel
theorem dX2_netHigh_3 : decode cX2_netHigh 3 = .ok (.getfield 26, 3) := by decide +kernel
theorem dX2_netHigh_6 : decode cX2_netHigh 6 = .ok (.bipush 60, 2) := by decide +kernel
theorem dX2_netHigh_8 : decode cX2_netHigh 8 = .ok (.iload_n 1, 1) := by decide +kernel
theorem dX2_netHigh_9 : decode cX2_netHigh 9 = .ok (.imul, 1) := by decide +kernel
theorem dX2_netHigh_10 : decode cX2_netHigh 10 = .ok (.iload_n 2, 1) := by decide +kernel
theorem dX2_netHigh_11 : decode cX2_netHigh 11 = .ok (.iadd, 1) := by decide +kernel
theorem dX2_netHigh_12 : decode cX2_netHigh 12 = .ok (.iaload, 1) := by decide +kernel
theorem dX2_netHigh_13 : decode cX2_netHigh 13 = .ok (.invokevirtual 89, 3) := by decide +kernel
theorem dX2_netHigh_16 : decode cX2_netHigh 16 = .ok (.aload_n 0, 1) := by decide +kernel
theorem dX2_netHigh_17 : decode cX2_netHigh 17 = .ok (.iload_n 1, 1) := by decide +kernel
theorem dX2_netHigh_18 : decode cX2_netHigh 18 = .ok (.aload_n 0, 1) := by decide +kernel
theorem dX2_netHigh_19 : decode cX2_netHigh 19 = .ok (.getfield 29, 3) := by decide +kernel
theorem dX2_netHigh_22 : decode cX2_netHigh 22 = .ok (.bipush 60, 2) := by decide +kernel
theorem dX2_netHigh_24 : decode cX2_netHigh 24 = .ok (.iload_n 1, 1) := by decide +kernel
theorem dX2_netHigh_25 : decode cX2_netHigh 25 = .ok (.imul, 1) := by decide +kernel
theorem dX2_netHigh_26 : decode cX2_netHigh 26 = .ok (.iload_n 2, 1) := by decide +kernel
theorem dX2_netHigh_27 : decode cX2_netHigh 27 = .ok (.iadd, 1) := by decide +kernel
theorem dX2_netHigh_28 : decode cX2_netHigh 28 = .ok (.iaload, 1) := by decide +kernel
theorem dX2_netHigh_29 : decode cX2_netHigh 29 = .ok (.invokevirtual 86, 3) := by decide +kernel
theorem dX2_netHigh_32 : decode cX2_netHigh 32 = .ok (.isub, 1) := by decide +kernel
theorem dX2_netHigh_33 : decode cX2_netHigh 33 = .ok (.ireturn, 1) := by decide +kernel
set_option maxRecDepth 20000 in
theorem ggX2_moves_X2_netLow : GoodIn wsX2_moves wsX2_netLow := goodIn_r _ [8, 9, 10, 11, 12, 13, 7, 14, 15, 16, 17, 18, 19, 20, 21, 22, 23, 24, 25, 30, 31, 32, 33, 34, 35, 36, 37, 38, 39, 40, 41, 42, 43, 44, 45, 46, 47, 48, 49, 50] (by decide +kernel) (by decide +kernel)
set_option maxRecDepth 20000 in
theorem gX2_moves_X2_netLow : GoodIn wsX2_moves (wsV RX2 92 RX2 yX2_netLow wsX2_netLow) := goodIn_app (goodIn_of _ (by decide +kernel)) ggX2_moves_X2_netLow
set_option maxRecDepth 20000 in
theorem ggX2_moves_X2_netHigh : GoodIn wsX2_moves wsX2_netHigh := goodIn_r _ [29, 9, 10, 20, 21, 22, 7, 23, 24, 25, 16, 11, 12, 13, 14, 15, 17, 18, 19, 30, 31, 32, 33, 34, 35, 36, 37, 38, 39, 40, 41, 42, 43, 44, 45, 46, 47, 48, 49, 50] (by decide +kernel) (by decide +kernel)
set_option maxRecDepth 20000 in
theorem gX2_moves_X2_netHigh : GoodIn wsX2_moves (wsV RX2 95 RX2 yX2_netHigh wsX2_netHigh) := goodIn_app (goodIn_of _ (by decide +kernel)) ggX2_moves_X2_netHigh
theorem dX2_moves_0 : decode cX2_moves 0 = .ok (.iconst 0, 1) := by decide +kernel
theorem dX2_moves_1 : decode cX2_moves 1 = .ok (.istore_n 3, 1) := by decide +kernel
theorem dX2_moves_2 : decode cX2_moves 2 = .ok (.iload_n 3, 1) := by decide +kernel
theorem dX2_moves_3 : decode cX2_moves 3 = .ok (.bipush 6, 2) := by decide +kernel
theorem dX2_moves_5 : decode cX2_moves 5 = .ok (.if_icmp .ge 16, 3) := by decide +kernel
theorem dX2_moves_8 : decode cX2_moves 8 = .ok (.aload_n 0, 1) := by decide +kernel
theorem dX2_moves_9 : decode cX2_moves 9 = .ok (.getfield 59, 3) := by decide +kernel
theorem dX2_moves_12 : decode cX2_moves 12 = .ok (.iload_n 3, 1) := by decide +kernel
theorem dX2_moves_13 : decode cX2_moves 13 = .ok (.iconst 0, 1) := by decide +kernel
theorem dX2_moves_14 : decode cX2_moves 14 = .ok (.iastore, 1) := by decide +kernel
theorem dX2_moves_15 : decode cX2_moves 15 = .ok (.iinc 3 1, 3) := by decide +kernel
theorem dX2_moves_18 : decode cX2_moves 18 = .ok (.goto (-16), 3) := by decide +kernel
theorem dX2_moves_21 : decode cX2_moves 21 = .ok (.iconst 0, 1) := by decide +kernel
theorem dX2_moves_22 : decode cX2_moves 22 = .ok (.istore_n 3, 1) := by decide +kernel
theorem dX2_moves_23 : decode cX2_moves 23 = .ok (.iload_n 3, 1) := by decide +kernel
theorem dX2_moves_24 : decode cX2_moves 24 = .ok (.aload_n 0, 1) := by decide +kernel
theorem dX2_moves_25 : decode cX2_moves 25 = .ok (.getfield 69, 3) := by decide +kernel
theorem dX2_moves_28 : decode cX2_moves 28 = .ok (.if_icmp .ge 63, 3) := by decide +kernel
theorem dX2_moves_31 : decode cX2_moves 31 = .ok (.iload_n 3, 1) := by decide +kernel
theorem dX2_moves_32 : decode cX2_moves 32 = .ok (.iload_n 2, 1) := by decide +kernel
theorem dX2_moves_33 : decode cX2_moves 33 = .ok (.if_icmp .ne 6, 3) := by decide +kernel
theorem dX2_moves_36 : decode cX2_moves 36 = .ok (.goto 49, 3) := by decide +kernel
theorem dX2_moves_39 : decode cX2_moves 39 = .ok (.aload_n 0, 1) := by decide +kernel
theorem dX2_moves_40 : decode cX2_moves 40 = .ok (.getfield 59, 3) := by decide +kernel
theorem dX2_moves_43 : decode cX2_moves 43 = .ok (.iconst 2, 1) := by decide +kernel
theorem dX2_moves_44 : decode cX2_moves 44 = .ok (.aload_n 0, 1) := by decide +kernel
theorem dX2_moves_45 : decode cX2_moves 45 = .ok (.getfield 13, 3) := by decide +kernel
theorem dX2_moves_48 : decode cX2_moves 48 = .ok (.iload_n 3, 1) := by decide +kernel
theorem dX2_moves_49 : decode cX2_moves 49 = .ok (.iaload, 1) := by decide +kernel
theorem dX2_moves_50 : decode cX2_moves 50 = .ok (.imul, 1) := by decide +kernel
theorem dX2_moves_51 : decode cX2_moves 51 = .ok (.dup2, 1) := by decide +kernel
theorem dX2_moves_52 : decode cX2_moves 52 = .ok (.iaload, 1) := by decide +kernel
theorem dX2_moves_53 : decode cX2_moves 53 = .ok (.aload_n 0, 1) := by decide +kernel
theorem dX2_moves_54 : decode cX2_moves 54 = .ok (.iload_n 3, 1) := by decide +kernel
theorem dX2_moves_55 : decode cX2_moves 55 = .ok (.iload_n 1, 1) := by decide +kernel
theorem dX2_moves_56 : decode cX2_moves 56 = .ok (.invokevirtual 92, 3) := by decide +kernel
theorem dX2_moves_59 : decode cX2_moves 59 = .ok (.iadd, 1) := by decide +kernel
theorem dX2_moves_60 : decode cX2_moves 60 = .ok (.iastore, 1) := by decide +kernel
theorem dX2_moves_61 : decode cX2_moves 61 = .ok (.aload_n 0, 1) := by decide +kernel
theorem dX2_moves_62 : decode cX2_moves 62 = .ok (.getfield 59, 3) := by decide +kernel
theorem dX2_moves_65 : decode cX2_moves 65 = .ok (.iconst 2, 1) := by decide +kernel
theorem dX2_moves_66 : decode cX2_moves 66 = .ok (.aload_n 0, 1) := by decide +kernel
theorem dX2_moves_67 : decode cX2_moves 67 = .ok (.getfield 13, 3) := by decide +kernel
theorem dX2_moves_70 : decode cX2_moves 70 = .ok (.iload_n 3, 1) := by decide +kernel
theorem dX2_moves_71 : decode cX2_moves 71 = .ok (.iaload, 1) := by decide +kernel
