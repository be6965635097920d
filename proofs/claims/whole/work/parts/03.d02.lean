theorem dX1_count_48 : decode cX1_count 48 = .ok (.invokevirtual 144, 3) := by decide +kernel
theorem dX1_count_51 : decode cX1_count 51 = .ok (.ireturn, 1) := by decide +kernel
theorem dX1_count_52 : decode cX1_count 52 = .ok (.iconst (-1), 1) := by decide +kernel
theorem dX1_count_53 : decode cX1_count 53 = .ok (.ireturn, 1) := by decide +kernel
set_option maxRecDepth 20000 in
theorem ggX1_beginDay_J7_fill_53178 : GoodIn wsX1_beginDay wsJ7_fill_53178 := goodIn_r _ [11] (by decide +kernel) (by decide +kernel)
set_option maxRecDepth 20000 in
theorem gX1_beginDay_J7_fill_53178 : GoodIn wsX1_beginDay (va_wsS RX1 148 yJ7_fill_53178 wsJ7_fill_53178) := goodIn_app (goodIn_of _ (by decide +kernel)) ggX1_beginDay_J7_fill_53178
theorem dX1_beginDay_0 : decode cX1_beginDay 0 = .ok (.aload_n 0, 1) := by decide +kernel
theorem dX1_beginDay_1 : decode cX1_beginDay 1 = .ok (.iload_n 1, 1) := by decide +kernel
theorem dX1_beginDay_2 : decode cX1_beginDay 2 = .ok (.putfield 141, 3) := by decide +kernel
theorem dX1_beginDay_5 : decode cX1_beginDay 5 = .ok (.aload_n 0, 1) := by decide +kernel
theorem dX1_beginDay_6 : decode cX1_beginDay 6 = .ok (.iconst 0, 1) := by decide +kernel
theorem dX1_beginDay_7 : decode cX1_beginDay 7 = .ok (.putfield 61, 3) := by decide +kernel
theorem dX1_beginDay_10 : decode cX1_beginDay 10 = .ok (.aload_n 0, 1) := by decide +kernel
theorem dX1_beginDay_11 : decode cX1_beginDay 11 = .ok (.iconst 0, 1) := by decide +kernel
theorem dX1_beginDay_12 : decode cX1_beginDay 12 = .ok (.putfield 86, 3) := by decide +kernel
theorem dX1_beginDay_15 : decode cX1_beginDay 15 = .ok (.aload_n 0, 1) := by decide +kernel
theorem dX1_beginDay_16 : decode cX1_beginDay 16 = .ok (.getfield 22, 3) := by decide +kernel
theorem dX1_beginDay_19 : decode cX1_beginDay 19 = .ok (.iconst (-1), 1) := by decide +kernel
theorem dX1_beginDay_20 : decode cX1_beginDay 20 = .ok (.invokestatic 148, 3) := by decide +kernel
theorem dX1_beginDay_23 : decode cX1_beginDay 23 = .ok (.aload_n 0, 1) := by decide +kernel
theorem dX1_beginDay_24 : decode cX1_beginDay 24 = .ok (.getfield 25, 3) := by decide +kernel
theorem dX1_beginDay_27 : decode cX1_beginDay 27 = .ok (.iconst (-1), 1) := by decide +kernel
theorem dX1_beginDay_28 : decode cX1_beginDay 28 = .ok (.invokestatic 148, 3) := by decide +kernel
theorem dX1_beginDay_31 : decode cX1_beginDay 31 = .ok (.aload_n 0, 1) := by decide +kernel
theorem dX1_beginDay_32 : decode cX1_beginDay 32 = .ok (.getfield 28, 3) := by decide +kernel
theorem dX1_beginDay_35 : decode cX1_beginDay 35 = .ok (.iconst 0, 1) := by decide +kernel
theorem dX1_beginDay_36 : decode cX1_beginDay 36 = .ok (.invokestatic 148, 3) := by decide +kernel
theorem dX1_beginDay_39 : decode cX1_beginDay 39 = .ok (.aload_n 0, 1) := by decide +kernel
theorem dX1_beginDay_40 : decode cX1_beginDay 40 = .ok (.getfield 31, 3) := by decide +kernel
theorem dX1_beginDay_43 : decode cX1_beginDay 43 = .ok (.iconst 0, 1) := by decide +kernel
theorem dX1_beginDay_44 : decode cX1_beginDay 44 = .ok (.invokestatic 148, 3) := by decide +kernel
theorem dX1_beginDay_47 : decode cX1_beginDay 47 = .ok (.return_, 1) := by decide +kernel
theorem dX1_within_0 : decode cX1_within 0 = .ok (.iload_n 1, 1) := by decide +kernel
theorem dX1_within_1 : decode cX1_within 1 = .ok (.iload_n 0, 1) := by decide +kernel
theorem dX1_within_2 : decode cX1_within 2 = .ok (.if_icmp .gt 12, 3) := by decide +kernel
theorem dX1_within_5 : decode cX1_within 5 = .ok (.iload_n 0, 1) := by decide +kernel
theorem dX1_within_6 : decode cX1_within 6 = .ok (.iload_n 2, 1) := by decide +kernel
theorem dX1_within_7 : decode cX1_within 7 = .ok (.if_icmp .gt 7, 3) := by decide +kernel
theorem dX1_within_10 : decode cX1_within 10 = .ok (.iconst 1, 1) := by decide +kernel
theorem dX1_within_11 : decode cX1_within 11 = .ok (.goto 4, 3) := by decide +kernel
theorem dX1_within_14 : decode cX1_within 14 = .ok (.iconst 0, 1) := by decide +kernel
theorem dX1_within_15 : decode cX1_within 15 = .ok (.ireturn, 1) := by decide +kernel
set_option maxRecDepth 20000 in
theorem ggX1_isDoor_X1_within : GoodIn wsX1_isDoor wsX1_within := goodIn_r _ [5] (by decide +kernel) (by decide +kernel)
set_option maxRecDepth 20000 in
theorem gX1_isDoor_X1_within : GoodIn wsX1_isDoor (va_wsS RX1 57 yX1_within wsX1_within) := goodIn_app (goodIn_of _ (by decide +kernel)) ggX1_isDoor_X1_within
theorem dX1_isDoor_0 : decode cX1_isDoor 0 = .ok (.iload_n 1, 1) := by decide +kernel
theorem dX1_isDoor_1 : decode cX1_isDoor 1 = .ok (.iconst 0, 1) := by decide +kernel
theorem dX1_isDoor_2 : decode cX1_isDoor 2 = .ok (.aload_n 0, 1) := by decide +kernel
theorem dX1_isDoor_3 : decode cX1_isDoor 3 = .ok (.getfield 61, 3) := by decide +kernel
theorem dX1_isDoor_6 : decode cX1_isDoor 6 = .ok (.iconst 1, 1) := by decide +kernel
theorem dX1_isDoor_7 : decode cX1_isDoor 7 = .ok (.isub, 1) := by decide +kernel
theorem dX1_isDoor_8 : decode cX1_isDoor 8 = .ok (.invokestatic 57, 3) := by decide +kernel
theorem dX1_isDoor_11 : decode cX1_isDoor 11 = .ok (.ireturn, 1) := by decide +kernel
set_option maxRecDepth 20000 in
theorem ggX1_isTick_X1_within : GoodIn wsX1_isTick wsX1_within := goodIn_r _ [5] (by decide +kernel) (by decide +kernel)
set_option maxRecDepth 20000 in
theorem gX1_isTick_X1_within : GoodIn wsX1_isTick (va_wsS RX1 57 yX1_within wsX1_within) := goodIn_app (goodIn_of _ (by decide +kernel)) ggX1_isTick_X1_within
theorem dX1_isTick_0 : decode cX1_isTick 0 = .ok (.iload_n 1, 1) := by decide +kernel
theorem dX1_isTick_1 : decode cX1_isTick 1 = .ok (.iconst 0, 1) := by decide +kernel
theorem dX1_isTick_2 : decode cX1_isTick 2 = .ok (.aload_n 0, 1) := by decide +kernel
theorem dX1_isTick_3 : decode cX1_isTick 3 = .ok (.getfield 141, 3) := by decide +kernel
theorem dX1_isTick_6 : decode cX1_isTick 6 = .ok (.iconst 1, 1) := by decide +kernel
theorem dX1_isTick_7 : decode cX1_isTick 7 = .ok (.isub, 1) := by decide +kernel
theorem dX1_isTick_8 : decode cX1_isTick 8 = .ok (.invokestatic 57, 3) := by decide +kernel
theorem dX1_isTick_11 : decode cX1_isTick 11 = .ok (.ireturn, 1) := by decide +kernel
set_option maxRecDepth 20000 in
theorem ggX1_isTime_X1_within : GoodIn wsX1_isTime wsX1_within := goodIn_r _ [5] (by decide +kernel) (by decide +kernel)
set_option maxRecDepth 20000 in
theorem gX1_isTime_X1_within : GoodIn wsX1_isTime (va_wsS RX1 57 yX1_within wsX1_within) := goodIn_app (goodIn_of _ (by decide +kernel)) ggX1_isTime_X1_within
theorem dX1_isTime_0 : decode cX1_isTime 0 = .ok (.iload_n 1, 1) := by decide +kernel
theorem dX1_isTime_1 : decode cX1_isTime 1 = .ok (.iconst 0, 1) := by decide +kernel
theorem dX1_isTime_2 : decode cX1_isTime 2 = .ok (.aload_n 0, 1) := by decide +kernel
theorem dX1_isTime_3 : decode cX1_isTime 3 = .ok (.getfield 141, 3) := by decide +kernel
theorem dX1_isTime_6 : decode cX1_isTime 6 = .ok (.invokestatic 57, 3) := by decide +kernel
theorem dX1_isTime_9 : decode cX1_isTime 9 = .ok (.ireturn, 1) := by decide +kernel
set_option maxRecDepth 20000 in
theorem ggX1_isWhat_X1_within : GoodIn wsX1_isWhat wsX1_within := goodIn_r _ [4] (by decide +kernel) (by decide +kernel)
set_option maxRecDepth 20000 in
theorem gX1_isWhat_X1_within : GoodIn wsX1_isWhat (va_wsS RX1 57 yX1_within wsX1_within) := goodIn_app (goodIn_of _ (by decide +kernel)) ggX1_isWhat_X1_within
theorem dX1_isWhat_0 : decode cX1_isWhat 0 = .ok (.iload_n 0, 1) := by decide +kernel
theorem dX1_isWhat_1 : decode cX1_isWhat 1 = .ok (.iconst 0, 1) := by decide +kernel
theorem dX1_isWhat_2 : decode cX1_isWhat 2 = .ok (.iconst 2, 1) := by decide +kernel
theorem dX1_isWhat_3 : decode cX1_isWhat 3 = .ok (.invokestatic 57, 3) := by decide +kernel
theorem dX1_isWhat_6 : decode cX1_isWhat 6 = .ok (.ireturn, 1) := by decide +kernel
theorem dX1_isSpanInside_0 : decode cX1_isSpanInside 0 = .ok (.iconst 0, 1) := by decide +kernel
theorem dX1_isSpanInside_1 : decode cX1_isSpanInside 1 = .ok (.iload_n 0, 1) := by decide +kernel
theorem dX1_isSpanInside_2 : decode cX1_isSpanInside 2 = .ok (.if_icmp .gt 19, 3) := by decide +kernel
theorem dX1_isSpanInside_5 : decode cX1_isSpanInside 5 = .ok (.iload_n 0, 1) := by decide +kernel
theorem dX1_isSpanInside_6 : decode cX1_isSpanInside 6 = .ok (.iload_n 1, 1) := by decide +kernel
theorem dX1_isSpanInside_7 : decode cX1_isSpanInside 7 = .ok (.if_icmp .gt 14, 3) := by decide +kernel
theorem dX1_isSpanInside_10 : decode cX1_isSpanInside 10 = .ok (.iload_n 1, 1) := by decide +kernel
theorem dX1_isSpanInside_11 : decode cX1_isSpanInside 11 = .ok (.sipush 9999, 3) := by decide +kernel
theorem dX1_isSpanInside_14 : decode cX1_isSpanInside 14 = .ok (.if_icmp .gt 7, 3) := by decide +kernel
theorem dX1_isSpanInside_17 : decode cX1_isSpanInside 17 = .ok (.iconst 1, 1) := by decide +kernel
theorem dX1_isSpanInside_18 : decode cX1_isSpanInside 18 = .ok (.goto 4, 3) := by decide +kernel
theorem dX1_isSpanInside_21 : decode cX1_isSpanInside 21 = .ok (.iconst 0, 1) := by decide +kernel
theorem dX1_isSpanInside_22 : decode cX1_isSpanInside 22 = .ok (.ireturn, 1) := by decide +kernel
theorem dX1_place_0 : decode cX1_place 0 = .ok (.iload_n 0, 1) := by decide +kernel
theorem dX1_place_1 : decode cX1_place 1 = .ok (.bipush 60, 2) := by decide +kernel
theorem dX1_place_3 : decode cX1_place 3 = .ok (.imul, 1) := by decide +kernel
theorem dX1_place_4 : decode cX1_place 4 = .ok (.iload_n 1, 1) := by decide +kernel
theorem dX1_place_5 : decode cX1_place 5 = .ok (.iadd, 1) := by decide +kernel
theorem dX1_place_6 : decode cX1_place 6 = .ok (.ireturn, 1) := by decide +kernel
set_option maxRecDepth 20000 in
theorem ggX1_toldRows_X1_place : GoodIn wsX1_toldRows wsX1_place := goodIn_r _ [6] (by decide +kernel) (by decide +kernel)
set_option maxRecDepth 20000 in
theorem gX1_toldRows_X1_place : GoodIn wsX1_toldRows (va_wsS RX1 72 yX1_place wsX1_place) := goodIn_app (goodIn_of _ (by decide +kernel)) ggX1_toldRows_X1_place
theorem dX1_toldRows_0 : decode cX1_toldRows 0 = .ok (.iconst 0, 1) := by decide +kernel
theorem dX1_toldRows_1 : decode cX1_toldRows 1 = .ok (.istore_n 2, 1) := by decide +kernel
theorem dX1_toldRows_2 : decode cX1_toldRows 2 = .ok (.iconst 0, 1) := by decide +kernel
theorem dX1_toldRows_3 : decode cX1_toldRows 3 = .ok (.istore_n 3, 1) := by decide +kernel
theorem dX1_toldRows_4 : decode cX1_toldRows 4 = .ok (.iload_n 3, 1) := by decide +kernel
theorem dX1_toldRows_5 : decode cX1_toldRows 5 = .ok (.aload_n 0, 1) := by decide +kernel
theorem dX1_toldRows_6 : decode cX1_toldRows 6 = .ok (.getfield 141, 3) := by decide +kernel
theorem dX1_toldRows_9 : decode cX1_toldRows 9 = .ok (.if_icmp .ge 26, 3) := by decide +kernel
theorem dX1_toldRows_12 : decode cX1_toldRows 12 = .ok (.aload_n 0, 1) := by decide +kernel
theorem dX1_toldRows_13 : decode cX1_toldRows 13 = .ok (.getfield 22, 3) := by decide +kernel
theorem dX1_toldRows_16 : decode cX1_toldRows 16 = .ok (.iload_n 1, 1) := by decide +kernel
theorem dX1_toldRows_17 : decode cX1_toldRows 17 = .ok (.iload_n 3, 1) := by decide +kernel
theorem dX1_toldRows_18 : decode cX1_toldRows 18 = .ok (.invokestatic 72, 3) := by decide +kernel
theorem dX1_toldRows_21 : decode cX1_toldRows 21 = .ok (.iaload, 1) := by decide +kernel
theorem dX1_toldRows_22 : decode cX1_toldRows 22 = .ok (.iconst (-1), 1) := by decide +kernel
theorem dX1_toldRows_23 : decode cX1_toldRows 23 = .ok (.if_icmp .eq 6, 3) := by decide +kernel
theorem dX1_toldRows_26 : decode cX1_toldRows 26 = .ok (.iinc 2 1, 3) := by decide +kernel
theorem dX1_toldRows_29 : decode cX1_toldRows 29 = .ok (.iinc 3 1, 3) := by decide +kernel
theorem dX1_toldRows_32 : decode cX1_toldRows 32 = .ok (.goto (-28), 3) := by decide +kernel
theorem dX1_toldRows_35 : decode cX1_toldRows 35 = .ok (.iload_n 2, 1) := by decide +kernel
theorem dX1_toldRows_36 : decode cX1_toldRows 36 = .ok (.ireturn, 1) := by decide +kernel
set_option maxRecDepth 20000 in
theorem ggX1_allToldRows_X1_toldRows : GoodIn wsX1_allToldRows wsX1_toldRows := goodIn_r _ [6, 7, 8, 9, 10, 5, 11, 12, 13, 14, 15, 16, 17, 18, 19, 20, 21, 22, 23, 24, 25, 26, 27] (by decide +kernel) (by decide +kernel)
set_option maxRecDepth 20000 in
theorem gX1_allToldRows_X1_toldRows : GoodIn wsX1_allToldRows (wsV RX1 132 RX1 yX1_toldRows wsX1_toldRows) := goodIn_app (goodIn_of _ (by decide +kernel)) ggX1_allToldRows_X1_toldRows
theorem dX1_allToldRows_0 : decode cX1_allToldRows 0 = .ok (.iconst 0, 1) := by decide +kernel
theorem dX1_allToldRows_1 : decode cX1_allToldRows 1 = .ok (.istore_n 1, 1) := by decide +kernel
theorem dX1_allToldRows_2 : decode cX1_allToldRows 2 = .ok (.iconst 0, 1) := by decide +kernel
theorem dX1_allToldRows_3 : decode cX1_allToldRows 3 = .ok (.istore_n 2, 1) := by decide +kernel
theorem dX1_allToldRows_4 : decode cX1_allToldRows 4 = .ok (.iload_n 2, 1) := by decide +kernel
theorem dX1_allToldRows_5 : decode cX1_allToldRows 5 = .ok (.aload_n 0, 1) := by decide +kernel
theorem dX1_allToldRows_6 : decode cX1_allToldRows 6 = .ok (.getfield 61, 3) := by decide +kernel
theorem dX1_allToldRows_9 : decode cX1_allToldRows 9 = .ok (.if_icmp .ge 17, 3) := by decide +kernel
theorem dX1_allToldRows_12 : decode cX1_allToldRows 12 = .ok (.iload_n 1, 1) := by decide +kernel
theorem dX1_allToldRows_13 : decode cX1_allToldRows 13 = .ok (.aload_n 0, 1) := by decide +kernel
theorem dX1_allToldRows_14 : decode cX1_allToldRows 14 = .ok (.iload_n 2, 1) := by decide +kernel
theorem dX1_allToldRows_15 : decode cX1_allToldRows 15 = .ok (.invokevirtual 132, 3) := by decide +kernel
theorem dX1_allToldRows_18 : decode cX1_allToldRows 18 = .ok (.iadd, 1) := by decide +kernel
theorem dX1_allToldRows_19 : decode cX1_allToldRows 19 = .ok (.istore_n 1, 1) := by decide +kernel
theorem dX1_allToldRows_20 : decode cX1_allToldRows 20 = .ok (.iinc 2 1, 3) := by decide +kernel
theorem dX1_allToldRows_23 : decode cX1_allToldRows 23 = .ok (.goto (-19), 3) := by decide +kernel
theorem dX1_allToldRows_26 : decode cX1_allToldRows 26 = .ok (.iload_n 1, 1) := by decide +kernel
theorem dX1_allToldRows_27 : decode cX1_allToldRows 27 = .ok (.ireturn, 1) := by decide +kernel
set_option maxRecDepth 20000 in
theorem ggX1_toldSum_X1_place : GoodIn wsX1_toldSum wsX1_place := goodIn_r _ [5] (by decide +kernel) (by decide +kernel)
set_option maxRecDepth 20000 in
theorem gX1_toldSum_X1_place : GoodIn wsX1_toldSum (va_wsS RX1 72 yX1_place wsX1_place) := goodIn_app (goodIn_of _ (by decide +kernel)) ggX1_toldSum_X1_place
theorem dX1_toldSum_0 : decode cX1_toldSum 0 = .ok (.iconst 0, 1) := by decide +kernel
theorem dX1_toldSum_1 : decode cX1_toldSum 1 = .ok (.istore_n 3, 1) := by decide +kernel
theorem dX1_toldSum_2 : decode cX1_toldSum 2 = .ok (.iconst 0, 1) := by decide +kernel
theorem dX1_toldSum_3 : decode cX1_toldSum 3 = .ok (.istore 4, 2) := by decide +kernel
theorem dX1_toldSum_5 : decode cX1_toldSum 5 = .ok (.iload 4, 2) := by decide +kernel
theorem dX1_toldSum_7 : decode cX1_toldSum 7 = .ok (.aload_n 0, 1) := by decide +kernel
theorem dX1_toldSum_8 : decode cX1_toldSum 8 = .ok (.getfield 141, 3) := by decide +kernel
theorem dX1_toldSum_11 : decode cX1_toldSum 11 = .ok (.if_icmp .ge 30, 3) := by decide +kernel
theorem dX1_toldSum_14 : decode cX1_toldSum 14 = .ok (.aload_n 1, 1) := by decide +kernel
theorem dX1_toldSum_15 : decode cX1_toldSum 15 = .ok (.iload_n 2, 1) := by decide +kernel
theorem dX1_toldSum_16 : decode cX1_toldSum 16 = .ok (.iload 4, 2) := by decide +kernel
theorem dX1_toldSum_18 : decode cX1_toldSum 18 = .ok (.invokestatic 72, 3) := by decide +kernel
theorem dX1_toldSum_21 : decode cX1_toldSum 21 = .ok (.iaload, 1) := by decide +kernel
theorem dX1_toldSum_22 : decode cX1_toldSum 22 = .ok (.istore 5, 2) := by decide +kernel
theorem dX1_toldSum_24 : decode cX1_toldSum 24 = .ok (.iload 5, 2) := by decide +kernel
theorem dX1_toldSum_26 : decode cX1_toldSum 26 = .ok (.iconst (-1), 1) := by decide +kernel
theorem dX1_toldSum_27 : decode cX1_toldSum 27 = .ok (.if_icmp .eq 8, 3) := by decide +kernel
theorem dX1_toldSum_30 : decode cX1_toldSum 30 = .ok (.iload_n 3, 1) := by decide +kernel
theorem dX1_toldSum_31 : decode cX1_toldSum 31 = .ok (.iload 5, 2) := by decide +kernel
theorem dX1_toldSum_33 : decode cX1_toldSum 33 = .ok (.iadd, 1) := by decide +kernel
theorem dX1_toldSum_34 : decode cX1_toldSum 34 = .ok (.istore_n 3, 1) := by decide +kernel
theorem dX1_toldSum_35 : decode cX1_toldSum 35 = .ok (.iinc 4 1, 3) := by decide +kernel
theorem dX1_toldSum_38 : decode cX1_toldSum 38 = .ok (.goto (-33), 3) := by decide +kernel
theorem dX1_toldSum_41 : decode cX1_toldSum 41 = .ok (.iload_n 3, 1) := by decide +kernel
theorem dX1_toldSum_42 : decode cX1_toldSum 42 = .ok (.ireturn, 1) := by decide +kernel
theorem dX1_leastPassed_0 : decode cX1_leastPassed 0 = .ok (.iload_n 1, 1) := by decide +kernel
theorem dX1_leastPassed_1 : decode cX1_leastPassed 1 = .ok (.iconst (-1), 1) := by decide +kernel
theorem dX1_leastPassed_2 : decode cX1_leastPassed 2 = .ok (.if_icmp .ne 7, 3) := by decide +kernel
theorem dX1_leastPassed_5 : decode cX1_leastPassed 5 = .ok (.iconst 0, 1) := by decide +kernel
theorem dX1_leastPassed_6 : decode cX1_leastPassed 6 = .ok (.goto 17, 3) := by decide +kernel
theorem dX1_leastPassed_9 : decode cX1_leastPassed 9 = .ok (.iconst 0, 1) := by decide +kernel
theorem dX1_leastPassed_10 : decode cX1_leastPassed 10 = .ok (.iload_n 1, 1) := by decide +kernel
theorem dX1_leastPassed_11 : decode cX1_leastPassed 11 = .ok (.aload_n 0, 1) := by decide +kernel
theorem dX1_leastPassed_12 : decode cX1_leastPassed 12 = .ok (.getfield 16, 3) := by decide +kernel
theorem dX1_leastPassed_15 : decode cX1_leastPassed 15 = .ok (.iload_n 2, 1) := by decide +kernel
theorem dX1_leastPassed_16 : decode cX1_leastPassed 16 = .ok (.iaload, 1) := by decide +kernel
theorem dX1_leastPassed_17 : decode cX1_leastPassed 17 = .ok (.isub, 1) := by decide +kernel
theorem dX1_leastPassed_18 : decode cX1_leastPassed 18 = .ok (.iload_n 3, 1) := by decide +kernel
theorem dX1_leastPassed_19 : decode cX1_leastPassed 19 = .ok (.isub, 1) := by decide +kernel
theorem dX1_leastPassed_20 : decode cX1_leastPassed 20 = .ok (.invokestatic 154, 3) := by decide +kernel
theorem dX1_leastPassed_23 : decode cX1_leastPassed 23 = .ok (.ireturn, 1) := by decide +kernel
theorem dX1_mostPassed_0 : decode cX1_mostPassed 0 = .ok (.iload_n 1, 1) := by decide +kernel
theorem dX1_mostPassed_1 : decode cX1_mostPassed 1 = .ok (.iconst (-1), 1) := by decide +kernel
theorem dX1_mostPassed_2 : decode cX1_mostPassed 2 = .ok (.if_icmp .ne 12, 3) := by decide +kernel
theorem dX1_mostPassed_5 : decode cX1_mostPassed 5 = .ok (.aload_n 0, 1) := by decide +kernel
theorem dX1_mostPassed_6 : decode cX1_mostPassed 6 = .ok (.getfield 19, 3) := by decide +kernel
theorem dX1_mostPassed_9 : decode cX1_mostPassed 9 = .ok (.iload_n 2, 1) := by decide +kernel
theorem dX1_mostPassed_10 : decode cX1_mostPassed 10 = .ok (.iaload, 1) := by decide +kernel
theorem dX1_mostPassed_11 : decode cX1_mostPassed 11 = .ok (.goto 13, 3) := by decide +kernel
theorem dX1_mostPassed_14 : decode cX1_mostPassed 14 = .ok (.iload_n 1, 1) := by decide +kernel
theorem dX1_mostPassed_15 : decode cX1_mostPassed 15 = .ok (.aload_n 0, 1) := by decide +kernel
theorem dX1_mostPassed_16 : decode cX1_mostPassed 16 = .ok (.getfield 13, 3) := by decide +kernel
theorem dX1_mostPassed_19 : decode cX1_mostPassed 19 = .ok (.iload_n 2, 1) := by decide +kernel
theorem dX1_mostPassed_20 : decode cX1_mostPassed 20 = .ok (.iaload, 1) := by decide +kernel
theorem dX1_mostPassed_21 : decode cX1_mostPassed 21 = .ok (.iadd, 1) := by decide +kernel
theorem dX1_mostPassed_22 : decode cX1_mostPassed 22 = .ok (.iload_n 3, 1) := by decide +kernel
theorem dX1_mostPassed_23 : decode cX1_mostPassed 23 = .ok (.iadd, 1) := by decide +kernel
theorem dX1_mostPassed_24 : decode cX1_mostPassed 24 = .ok (.ireturn, 1) := by decide +kernel
set_option maxRecDepth 20000 in
theorem ggX1_leastNet_X1_place : GoodIn wsX1_leastNet wsX1_place := goodIn_r _ [6] (by decide +kernel) (by decide +kernel)
set_option maxRecDepth 20000 in
theorem gX1_leastNet_X1_place : GoodIn wsX1_leastNet (va_wsS RX1 72 yX1_place wsX1_place) := goodIn_app (goodIn_of _ (by decide +kernel)) ggX1_leastNet_X1_place
set_option maxRecDepth 20000 in
theorem ggX1_leastNet_X1_leastPassed : GoodIn wsX1_leastNet wsX1_leastPassed := goodIn_r _ [10, 11, 12, 13, 14, 15, 22, 23, 24, 25, 26, 27, 28, 29, 30, 31, 32, 33, 34, 35, 36, 37] (by decide +kernel) (by decide +kernel)
set_option maxRecDepth 20000 in
theorem gX1_leastNet_X1_leastPassed : GoodIn wsX1_leastNet (wsV RX1 159 RX1 yX1_leastPassed wsX1_leastPassed) := goodIn_app (goodIn_of _ (by decide +kernel)) ggX1_leastNet_X1_leastPassed
set_option maxRecDepth 20000 in
theorem ggX1_leastNet_X1_mostPassed : GoodIn wsX1_leastNet wsX1_mostPassed := goodIn_r _ [19, 20, 21, 22, 23, 24, 25, 26, 27, 28, 29, 30, 31, 32, 33, 34, 35, 36, 37] (by decide +kernel) (by decide +kernel)
set_option maxRecDepth 20000 in
theorem gX1_leastNet_X1_mostPassed : GoodIn wsX1_leastNet (wsV RX1 163 RX1 yX1_mostPassed wsX1_mostPassed) := goodIn_app (goodIn_of _ (by decide +kernel)) ggX1_leastNet_X1_mostPassed
theorem dX1_leastNet_0 : decode cX1_leastNet 0 = .ok (.iload_n 1, 1) := by decide +kernel
theorem dX1_leastNet_1 : decode cX1_leastNet 1 = .ok (.iload_n 2, 1) := by decide +kernel
theorem dX1_leastNet_2 : decode cX1_leastNet 2 = .ok (.invokestatic 72, 3) := by decide +kernel
theorem dX1_leastNet_5 : decode cX1_leastNet 5 = .ok (.istore 4, 2) := by decide +kernel
theorem dX1_leastNet_7 : decode cX1_leastNet 7 = .ok (.aload_n 0, 1) := by decide +kernel
theorem dX1_leastNet_8 : decode cX1_leastNet 8 = .ok (.aload_n 0, 1) := by decide +kernel
theorem dX1_leastNet_9 : decode cX1_leastNet 9 = .ok (.getfield 22, 3) := by decide +kernel
theorem dX1_leastNet_12 : decode cX1_leastNet 12 = .ok (.iload 4, 2) := by decide +kernel
theorem dX1_leastNet_14 : decode cX1_leastNet 14 = .ok (.iaload, 1) := by decide +kernel
theorem dX1_leastNet_15 : decode cX1_leastNet 15 = .ok (.iload_n 1, 1) := by decide +kernel
theorem dX1_leastNet_16 : decode cX1_leastNet 16 = .ok (.iload_n 3, 1) := by decide +kernel
theorem dX1_leastNet_17 : decode cX1_leastNet 17 = .ok (.invokevirtual 159, 3) := by decide +kernel
theorem dX1_leastNet_20 : decode cX1_leastNet 20 = .ok (.aload_n 0, 1) := by decide +kernel
theorem dX1_leastNet_21 : decode cX1_leastNet 21 = .ok (.aload_n 0, 1) := by decide +kernel
theorem dX1_leastNet_22 : decode cX1_leastNet 22 = .ok (.getfield 25, 3) := by decide +kernel
theorem dX1_leastNet_25 : decode cX1_leastNet 25 = .ok (.iload 4, 2) := by decide +kernel
theorem dX1_leastNet_27 : decode cX1_leastNet 27 = .ok (.iaload, 1) := by decide +kernel
theorem dX1_leastNet_28 : decode cX1_leastNet 28 = .ok (.iload_n 1, 1) := by decide +kernel
theorem dX1_leastNet_29 : decode cX1_leastNet 29 = .ok (.iload_n 3, 1) := by decide +kernel
theorem dX1_leastNet_30 : decode cX1_leastNet 30 = .ok (.invokevirtual 163, 3) := by decide +kernel
theorem dX1_leastNet_33 : decode cX1_leastNet 33 = .ok (.isub, 1) := by decide +kernel
theorem dX1_leastNet_34 : decode cX1_leastNet 34 = .ok (.ireturn, 1) := by decide +kernel
set_option maxRecDepth 20000 in
theorem ggX1_mostNet_X1_place : GoodIn wsX1_mostNet wsX1_place := goodIn_r _ [6] (by decide +kernel) (by decide +kernel)
set_option maxRecDepth 20000 in
theorem gX1_mostNet_X1_place : GoodIn wsX1_mostNet (va_wsS RX1 72 yX1_place wsX1_place) := goodIn_app (goodIn_of _ (by decide +kernel)) ggX1_mostNet_X1_place
set_option maxRecDepth 20000 in
theorem ggX1_mostNet_X1_mostPassed : GoodIn wsX1_mostNet wsX1_mostPassed := goodIn_r _ [10, 11, 12, 22, 23, 24, 25, 26, 27, 28, 29, 30, 31, 32, 33, 34, 35, 36, 37] (by decide +kernel) (by decide +kernel)
set_option maxRecDepth 20000 in
theorem gX1_mostNet_X1_mostPassed : GoodIn wsX1_mostNet (wsV RX1 163 RX1 yX1_mostPassed wsX1_mostPassed) := goodIn_app (goodIn_of _ (by decide +kernel)) ggX1_mostNet_X1_mostPassed
set_option maxRecDepth 20000 in
theorem ggX1_mostNet_X1_leastPassed : GoodIn wsX1_mostNet wsX1_leastPassed := goodIn_r _ [16, 17, 18, 19, 20, 21, 22, 23, 24, 25, 26, 27, 28, 29, 30, 31, 32, 33, 34, 35, 36, 37] (by decide +kernel) (by decide +kernel)
set_option maxRecDepth 20000 in
theorem gX1_mostNet_X1_leastPassed : GoodIn wsX1_mostNet (wsV RX1 159 RX1 yX1_leastPassed wsX1_leastPassed) := goodIn_app (goodIn_of _ (by decide +kernel)) ggX1_mostNet_X1_leastPassed
theorem dX1_mostNet_0 : decode cX1_mostNet 0 = .ok (.iload_n 1, 1) := by decide +kernel
theorem dX1_mostNet_1 : decode cX1_mostNet 1 = .ok (.iload_n 2, 1) := by decide +kernel
theorem dX1_mostNet_2 : decode cX1_mostNet 2 = .ok (.invokestatic 72, 3) := by decide +kernel
theorem dX1_mostNet_5 : decode cX1_mostNet 5 = .ok (.istore 4, 2) := by decide +kernel
theorem dX1_mostNet_7 : decode cX1_mostNet 7 = .ok (.aload_n 0, 1) := by decide +kernel
theorem dX1_mostNet_8 : decode cX1_mostNet 8 = .ok (.aload_n 0, 1) := by decide +kernel
theorem dX1_mostNet_9 : decode cX1_mostNet 9 = .ok (.getfield 22, 3) := by decide +kernel
theorem dX1_mostNet_12 : decode cX1_mostNet 12 = .ok (.iload 4, 2) := by decide +kernel
theorem dX1_mostNet_14 : decode cX1_mostNet 14 = .ok (.iaload, 1) := by decide +kernel
theorem dX1_mostNet_15 : decode cX1_mostNet 15 = .ok (.iload_n 1, 1) := by decide +kernel
theorem dX1_mostNet_16 : decode cX1_mostNet 16 = .ok (.iload_n 3, 1) := by decide +kernel
theorem dX1_mostNet_17 : decode cX1_mostNet 17 = .ok (.invokevirtual 163, 3) := by decide +kernel
theorem dX1_mostNet_20 : decode cX1_mostNet 20 = .ok (.aload_n 0, 1) := by decide +kernel
theorem dX1_mostNet_21 : decode cX1_mostNet 21 = .ok (.aload_n 0, 1) := by decide +kernel
theorem dX1_mostNet_22 : decode cX1_mostNet 22 = .ok (.getfield 25, 3) := by decide +kernel
theorem dX1_mostNet_25 : decode cX1_mostNet 25 = .ok (.iload 4, 2) := by decide +kernel
theorem dX1_mostNet_27 : decode cX1_mostNet 27 = .ok (.iaload, 1) := by decide +kernel
theorem dX1_mostNet_28 : decode cX1_mostNet 28 = .ok (.iload_n 1, 1) := by decide +kernel
theorem dX1_mostNet_29 : decode cX1_mostNet 29 = .ok (.iload_n 3, 1) := by decide +kernel
theorem dX1_mostNet_30 : decode cX1_mostNet 30 = .ok (.invokevirtual 159, 3) := by decide +kernel
theorem dX1_mostNet_33 : decode cX1_mostNet 33 = .ok (.isub, 1) := by decide +kernel
theorem dX1_mostNet_34 : decode cX1_mostNet 34 = .ok (.ireturn, 1) := by decide +kernel
set_option maxRecDepth 20000 in
theorem ggX1_gatherChange_X0_put : GoodIn wsX1_gatherChange wsX0_put := goodIn_r _ [8, 9, 10, 11, 12, 7, 13, 67, 68] (by decide +kernel) (by decide +kernel)
set_option maxRecDepth 20000 in
theorem gX1_gatherChange_X0_put : GoodIn wsX1_gatherChange (wsV RX1 166 RX0 yX0_put wsX0_put) := goodIn_app (goodIn_of _ (by decide +kernel)) ggX1_gatherChange_X0_put
set_option maxRecDepth 20000 in
theorem ggX1_gatherChange_X1_leastNet : GoodIn wsX1_gatherChange wsX1_leastNet := goodIn_r _ [18, 19, 20, 21, 22, 17, 23, 24, 25, 26, 27, 28, 29, 30, 31, 32, 33, 34, 35, 36, 37, 38, 51, 52, 53, 54, 55, 56, 57, 58, 59, 60, 61, 62, 63, 64, 65, 66] (by decide +kernel) (by decide +kernel)
set_option maxRecDepth 20000 in
theorem gX1_gatherChange_X1_leastNet : GoodIn wsX1_gatherChange (wsV RX1 170 RX1 yX1_leastNet wsX1_leastNet) := goodIn_app (goodIn_of _ (by decide +kernel)) ggX1_gatherChange_X1_leastNet
set_option maxRecDepth 20000 in
theorem ggX1_gatherChange_X1_mostNet : GoodIn wsX1_gatherChange wsX1_mostNet := goodIn_r _ [42, 19, 20, 21, 22, 17, 23, 33, 34, 35, 36, 37, 38, 24, 25, 26, 27, 28, 29, 30, 31, 32, 51, 52, 53, 54, 55, 56, 57, 58, 59, 60, 61, 62, 63, 64, 65, 66] (by decide +kernel) (by decide +kernel)
set_option maxRecDepth 20000 in
theorem gX1_gatherChange_X1_mostNet : GoodIn wsX1_gatherChange (wsV RX1 173 RX1 yX1_mostNet wsX1_mostNet) := goodIn_app (goodIn_of _ (by decide +kernel)) ggX1_gatherChange_X1_mostNet
set_option maxRecDepth 20000 in
theorem ggX1_gatherChange_X1_addDoor : GoodIn wsX1_gatherChange wsX1_addDoor := goodIn_r _ [46, 1, 47, 48, 49, 7, 50, 9, 10, 11, 12, 13, 51, 52, 53, 54, 55, 56, 57, 58, 59, 60, 61, 62, 63, 64, 65, 66, 67, 68] (by decide +kernel) (by decide +kernel)
set_option maxRecDepth 20000 in
theorem gX1_gatherChange_X1_addDoor : GoodIn wsX1_gatherChange (wsV RX1 176 RX1 yX1_addDoor wsX1_addDoor) := goodIn_app (goodIn_of _ (by decide +kernel)) ggX1_gatherChange_X1_addDoor
theorem dX1_gatherChange_0 : decode cX1_gatherChange 0 = .ok (.iconst 0, 1) := by decide +kernel
theorem dX1_gatherChange_1 : decode cX1_gatherChange 1 = .ok (.istore 4, 2) := by decide +kernel
theorem dX1_gatherChange_3 : decode cX1_gatherChange 3 = .ok (.iload 4, 2) := by decide +kernel
theorem dX1_gatherChange_5 : decode cX1_gatherChange 5 = .ok (.iconst 3, 1) := by decide +kernel
theorem dX1_gatherChange_6 : decode cX1_gatherChange 6 = .ok (.if_icmp .ge 22, 3) := by decide +kernel
theorem dX1_gatherChange_9 : decode cX1_gatherChange 9 = .ok (.aload_n 0, 1) := by decide +kernel
theorem dX1_gatherChange_10 : decode cX1_gatherChange 10 = .ok (.getfield 49, 3) := by decide +kernel
theorem dX1_gatherChange_13 : decode cX1_gatherChange 13 = .ok (.bipush 61, 2) := by decide +kernel
theorem dX1_gatherChange_15 : decode cX1_gatherChange 15 = .ok (.iload 4, 2) := by decide +kernel
theorem dX1_gatherChange_17 : decode cX1_gatherChange 17 = .ok (.iconst 0, 1) := by decide +kernel
theorem dX1_gatherChange_18 : decode cX1_gatherChange 18 = .ok (.iconst 0, 1) := by decide +kernel
theorem dX1_gatherChange_19 : decode cX1_gatherChange 19 = .ok (.invokevirtual 166, 3) := by decide +kernel
theorem dX1_gatherChange_22 : decode cX1_gatherChange 22 = .ok (.iinc 4 1, 3) := by decide +kernel
theorem dX1_gatherChange_25 : decode cX1_gatherChange 25 = .ok (.goto (-22), 3) := by decide +kernel
theorem dX1_gatherChange_28 : decode cX1_gatherChange 28 = .ok (.iconst 0, 1) := by decide +kernel
theorem dX1_gatherChange_29 : decode cX1_gatherChange 29 = .ok (.istore 4, 2) := by decide +kernel
theorem dX1_gatherChange_31 : decode cX1_gatherChange 31 = .ok (.iload 4, 2) := by decide +kernel
theorem dX1_gatherChange_33 : decode cX1_gatherChange 33 = .ok (.aload_n 0, 1) := by decide +kernel
theorem dX1_gatherChange_34 : decode cX1_gatherChange 34 = .ok (.getfield 61, 3) := by decide +kernel
theorem dX1_gatherChange_37 : decode cX1_gatherChange 37 = .ok (.if_icmp .ge 42, 3) := by decide +kernel
theorem dX1_gatherChange_40 : decode cX1_gatherChange 40 = .ok (.iload 4, 2) := by decide +kernel
theorem dX1_gatherChange_42 : decode cX1_gatherChange 42 = .ok (.iload_n 3, 1) := by decide +kernel
theorem dX1_gatherChange_43 : decode cX1_gatherChange 43 = .ok (.if_icmp .eq 30, 3) := by decide +kernel
theorem dX1_gatherChange_46 : decode cX1_gatherChange 46 = .ok (.aload_n 0, 1) := by decide +kernel
theorem dX1_gatherChange_47 : decode cX1_gatherChange 47 = .ok (.aload_n 0, 1) := by decide +kernel
theorem dX1_gatherChange_48 : decode cX1_gatherChange 48 = .ok (.getfield 9, 3) := by decide +kernel
theorem dX1_gatherChange_51 : decode cX1_gatherChange 51 = .ok (.iload 4, 2) := by decide +kernel
theorem dX1_gatherChange_53 : decode cX1_gatherChange 53 = .ok (.iaload, 1) := by decide +kernel
theorem dX1_gatherChange_54 : decode cX1_gatherChange 54 = .ok (.aload_n 0, 1) := by decide +kernel
theorem dX1_gatherChange_55 : decode cX1_gatherChange 55 = .ok (.iload 4, 2) := by decide +kernel
theorem dX1_gatherChange_57 : decode cX1_gatherChange 57 = .ok (.iload_n 1, 1) := by decide +kernel
theorem dX1_gatherChange_58 : decode cX1_gatherChange 58 = .ok (.iload_n 2, 1) := by decide +kernel
theorem dX1_gatherChange_59 : decode cX1_gatherChange 59 = .ok (.invokevirtual 170, 3) := by decide +kernel
theorem dX1_gatherChange_62 : decode cX1_gatherChange 62 = .ok (.aload_n 0, 1) := by decide +kernel
theorem dX1_gatherChange_63 : decode cX1_gatherChange 63 = .ok (.iload 4, 2) := by decide +kernel
theorem dX1_gatherChange_65 : decode cX1_gatherChange 65 = .ok (.iload_n 1, 1) := by decide +kernel
theorem dX1_gatherChange_66 : decode cX1_gatherChange 66 = .ok (.iload_n 2, 1) := by decide +kernel
theorem dX1_gatherChange_67 : decode cX1_gatherChange 67 = .ok (.invokevirtual 173, 3) := by decide +kernel
theorem dX1_gatherChange_70 : decode cX1_gatherChange 70 = .ok (.invokevirtual 176, 3) := by decide +kernel
theorem dX1_gatherChange_73 : decode cX1_gatherChange 73 = .ok (.iinc 4 1, 3) := by decide +kernel
theorem dX1_gatherChange_76 : decode cX1_gatherChange 76 = .ok (.goto (-45), 3) := by decide +kernel
theorem dX1_gatherChange_79 : decode cX1_gatherChange 79 = .ok (.return_, 1) := by decide +kernel
set_option maxRecDepth 20000 in
theorem ggX1_addDoor_X0_widen : GoodIn wsX1_addDoor wsX0_widen := goodIn_r _ [6, 7, 8, 9, 10, 5, 11, 28, 29] (by decide +kernel) (by decide +kernel)
set_option maxRecDepth 20000 in
theorem gX1_addDoor_X0_widen : GoodIn wsX1_addDoor (wsV RX1 179 RX0 yX0_widen wsX0_widen) := goodIn_app (goodIn_of _ (by decide +kernel)) ggX1_addDoor_X0_widen
theorem dX1_addDoor_0 : decode cX1_addDoor 0 = .ok (.iload_n 1, 1) := by decide +kernel
theorem dX1_addDoor_1 : decode cX1_addDoor 1 = .ok (.ifCond .ne 30, 3) := by decide +kernel
theorem dX1_addDoor_4 : decode cX1_addDoor 4 = .ok (.aload_n 0, 1) := by decide +kernel
theorem dX1_addDoor_5 : decode cX1_addDoor 5 = .ok (.getfield 49, 3) := by decide +kernel
theorem dX1_addDoor_8 : decode cX1_addDoor 8 = .ok (.bipush 61, 2) := by decide +kernel
theorem dX1_addDoor_10 : decode cX1_addDoor 10 = .ok (.iconst 0, 1) := by decide +kernel
theorem dX1_addDoor_11 : decode cX1_addDoor 11 = .ok (.iload_n 2, 1) := by decide +kernel
theorem dX1_addDoor_12 : decode cX1_addDoor 12 = .ok (.iload_n 3, 1) := by decide +kernel
theorem dX1_addDoor_13 : decode cX1_addDoor 13 = .ok (.invokevirtual 179, 3) := by decide +kernel
theorem dX1_addDoor_16 : decode cX1_addDoor 16 = .ok (.aload_n 0, 1) := by decide +kernel
theorem dX1_addDoor_17 : decode cX1_addDoor 17 = .ok (.getfield 49, 3) := by decide +kernel
theorem dX1_addDoor_20 : decode cX1_addDoor 20 = .ok (.bipush 61, 2) := by decide +kernel
theorem dX1_addDoor_22 : decode cX1_addDoor 22 = .ok (.iconst 2, 1) := by decide +kernel
theorem dX1_addDoor_23 : decode cX1_addDoor 23 = .ok (.iload_n 2, 1) := by decide +kernel
theorem dX1_addDoor_24 : decode cX1_addDoor 24 = .ok (.iload_n 3, 1) := by decide +kernel
theorem dX1_addDoor_25 : decode cX1_addDoor 25 = .ok (.invokevirtual 179, 3) := by decide +kernel
theorem dX1_addDoor_28 : decode cX1_addDoor 28 = .ok (.goto 61, 3) := by decide +kernel
theorem dX1_addDoor_31 : decode cX1_addDoor 31 = .ok (.iload_n 1, 1) := by decide +kernel
theorem dX1_addDoor_32 : decode cX1_addDoor 32 = .ok (.iconst 1, 1) := by decide +kernel
theorem dX1_addDoor_33 : decode cX1_addDoor 33 = .ok (.if_icmp .ne 30, 3) := by decide +kernel
theorem dX1_addDoor_36 : decode cX1_addDoor 36 = .ok (.aload_n 0, 1) := by decide +kernel
theorem dX1_addDoor_37 : decode cX1_addDoor 37 = .ok (.getfield 49, 3) := by decide +kernel
theorem dX1_addDoor_40 : decode cX1_addDoor 40 = .ok (.bipush 61, 2) := by decide +kernel
theorem dX1_addDoor_42 : decode cX1_addDoor 42 = .ok (.iconst 1, 1) := by decide +kernel
theorem dX1_addDoor_43 : decode cX1_addDoor 43 = .ok (.iload_n 2, 1) := by decide +kernel
theorem dX1_addDoor_44 : decode cX1_addDoor 44 = .ok (.iload_n 3, 1) := by decide +kernel
theorem dX1_addDoor_45 : decode cX1_addDoor 45 = .ok (.invokevirtual 179, 3) := by decide +kernel
theorem dX1_addDoor_48 : decode cX1_addDoor 48 = .ok (.aload_n 0, 1) := by decide +kernel
theorem dX1_addDoor_49 : decode cX1_addDoor 49 = .ok (.getfield 49, 3) := by decide +kernel
theorem dX1_addDoor_52 : decode cX1_addDoor 52 = .ok (.bipush 61, 2) := by decide +kernel
theorem dX1_addDoor_54 : decode cX1_addDoor 54 = .ok (.iconst 2, 1) := by decide +kernel
theorem dX1_addDoor_55 : decode cX1_addDoor 55 = .ok (.iload_n 2, 1) := by decide +kernel
theorem dX1_addDoor_56 : decode cX1_addDoor 56 = .ok (.iload_n 3, 1) := by decide +kernel
theorem dX1_addDoor_57 : decode cX1_addDoor 57 = .ok (.invokevirtual 179, 3) := by decide +kernel
theorem dX1_addDoor_60 : decode cX1_addDoor 60 = .ok (.goto 29, 3) := by decide +kernel
theorem dX1_addDoor_63 : decode cX1_addDoor 63 = .ok (.aload_n 0, 1) := by decide +kernel
theorem dX1_addDoor_64 : decode cX1_addDoor 64 = .ok (.getfield 49, 3) := by decide +kernel
theorem dX1_addDoor_67 : decode cX1_addDoor 67 = .ok (.bipush 61, 2) := by decide +kernel
theorem dX1_addDoor_69 : decode cX1_addDoor 69 = .ok (.iconst 0, 1) := by decide +kernel
theorem dX1_addDoor_70 : decode cX1_addDoor 70 = .ok (.iload_n 3, 1) := by decide +kernel
theorem dX1_addDoor_71 : decode cX1_addDoor 71 = .ok (.ineg, 1) := by decide +kernel
theorem dX1_addDoor_72 : decode cX1_addDoor 72 = .ok (.iload_n 2, 1) := by decide +kernel
theorem dX1_addDoor_73 : decode cX1_addDoor 73 = .ok (.ineg, 1) := by decide +kernel
theorem dX1_addDoor_74 : decode cX1_addDoor 74 = .ok (.invokevirtual 179, 3) := by decide +kernel
theorem dX1_addDoor_77 : decode cX1_addDoor 77 = .ok (.aload_n 0, 1) := by decide +kernel
theorem dX1_addDoor_78 : decode cX1_addDoor 78 = .ok (.getfield 49, 3) := by decide +kernel
theorem dX1_addDoor_81 : decode cX1_addDoor 81 = .ok (.bipush 61, 2) := by decide +kernel
theorem dX1_addDoor_83 : decode cX1_addDoor 83 = .ok (.iconst 1, 1) := by decide +kernel
theorem dX1_addDoor_84 : decode cX1_addDoor 84 = .ok (.iload_n 2, 1) := by decide +kernel
theorem dX1_addDoor_85 : decode cX1_addDoor 85 = .ok (.iload_n 3, 1) := by decide +kernel
theorem dX1_addDoor_86 : decode cX1_addDoor 86 = .ok (.invokevirtual 179, 3) := by decide +kernel
theorem dX1_addDoor_89 : decode cX1_addDoor 89 = .ok (.return_, 1) := by decide +kernel
set_option maxRecDepth 20000 in
theorem ggX1_lookAhead_X0_put : GoodIn wsX1_lookAhead wsX0_put := goodIn_r _ [9, 10, 11, 12, 13, 8, 14, 114, 115] (by decide +kernel) (by decide +kernel)
set_option maxRecDepth 20000 in
theorem gX1_lookAhead_X0_put : GoodIn wsX1_lookAhead (wsV RX1 166 RX0 yX0_put wsX0_put) := goodIn_app (goodIn_of _ (by decide +kernel)) ggX1_lookAhead_X0_put
set_option maxRecDepth 20000 in
theorem ggX1_lookAhead_X1_gatherChange : GoodIn wsX1_lookAhead wsX1_gatherChange := goodIn_r _ [19, 1, 20, 21, 5, 6, 7, 8, 9, 10, 11, 12, 13, 14, 22, 23, 24, 18, 25, 26, 27, 28, 29, 30, 31, 32, 33, 34, 35, 36, 37, 38, 39, 40, 41, 42, 43, 44, 45, 46, 47, 48, 49, 50, 51, 52, 53, 54, 55, 56, 57, 98, 99, 100, 101, 102, 103, 104, 105, 106, 107, 108, 109, 110, 111, 112, 113, 114, 115] (by decide +kernel) (by decide +kernel)
set_option maxRecDepth 20000 in
theorem gX1_lookAhead_X1_gatherChange : GoodIn wsX1_lookAhead (wsV RX1 120 RX1 yX1_gatherChange wsX1_gatherChange) := goodIn_app (goodIn_of _ (by decide +kernel)) ggX1_lookAhead_X1_gatherChange
set_option maxRecDepth 20000 in
theorem ggX1_lookAhead_X0_putSum : GoodIn wsX1_lookAhead wsX0_putSum := goodIn_r _ [61, 62, 63, 64, 8, 65, 10, 12, 13, 14, 66, 67, 68, 69, 11, 70, 6, 7, 9, 114, 115] (by decide +kernel) (by decide +kernel)
set_option maxRecDepth 20000 in
theorem gX1_lookAhead_X0_putSum : GoodIn wsX1_lookAhead (wsV RX1 182 RX0 yX0_putSum wsX0_putSum) := goodIn_app (goodIn_of _ (by decide +kernel)) ggX1_lookAhead_X0_putSum
set_option maxRecDepth 20000 in
theorem ggX1_lookAhead_X1_keepAllowed : GoodIn wsX1_lookAhead wsX1_keepAllowed := goodIn_r _ [74, 1, 75, 76, 77, 78, 79, 80, 81, 82, 83, 8, 84, 10, 85, 37, 38, 39, 11, 86, 87, 88, 12, 13, 14, 89, 90, 91, 92, 62, 63, 64, 65, 66, 67, 68, 69, 93, 94, 95, 96, 97, 98, 99, 100, 101, 102, 103, 104, 105, 106, 107, 108, 109, 110, 111, 112, 113, 114, 115] (by decide +kernel) (by decide +kernel)
set_option maxRecDepth 20000 in
theorem gX1_lookAhead_X1_keepAllowed : GoodIn wsX1_lookAhead (wsV RX1 185 RX1 yX1_keepAllowed wsX1_keepAllowed) := goodIn_app (goodIn_of _ (by decide +kernel)) ggX1_lookAhead_X1_keepAllowed
theorem dX1_lookAhead_0 : decode cX1_lookAhead 0 = .ok (.aload_n 0, 1) := by decide +kernel
theorem dX1_lookAhead_1 : decode cX1_lookAhead 1 = .ok (.getfield 49, 3) := by decide +kernel
theorem dX1_lookAhead_4 : decode cX1_lookAhead 4 = .ok (.iconst 0, 1) := by decide +kernel
theorem dX1_lookAhead_5 : decode cX1_lookAhead 5 = .ok (.iconst 0, 1) := by decide +kernel
theorem dX1_lookAhead_6 : decode cX1_lookAhead 6 = .ok (.aload_n 0, 1) := by decide +kernel
theorem dX1_lookAhead_7 : decode cX1_lookAhead 7 = .ok (.getfield 28, 3) := by decide +kernel
theorem dX1_lookAhead_10 : decode cX1_lookAhead 10 = .ok (.iconst 0, 1) := by decide +kernel
theorem dX1_lookAhead_11 : decode cX1_lookAhead 11 = .ok (.iaload, 1) := by decide +kernel
theorem dX1_lookAhead_12 : decode cX1_lookAhead 12 = .ok (.aload_n 0, 1) := by decide +kernel
theorem dX1_lookAhead_13 : decode cX1_lookAhead 13 = .ok (.getfield 31, 3) := by decide +kernel
theorem dX1_lookAhead_16 : decode cX1_lookAhead 16 = .ok (.iconst 0, 1) := by decide +kernel
theorem dX1_lookAhead_17 : decode cX1_lookAhead 17 = .ok (.iaload, 1) := by decide +kernel
theorem dX1_lookAhead_18 : decode cX1_lookAhead 18 = .ok (.invokevirtual 166, 3) := by decide +kernel
theorem dX1_lookAhead_21 : decode cX1_lookAhead 21 = .ok (.aload_n 0, 1) := by decide +kernel
theorem dX1_lookAhead_22 : decode cX1_lookAhead 22 = .ok (.getfield 49, 3) := by decide +kernel
theorem dX1_lookAhead_25 : decode cX1_lookAhead 25 = .ok (.iconst 0, 1) := by decide +kernel
theorem dX1_lookAhead_26 : decode cX1_lookAhead 26 = .ok (.iconst 1, 1) := by decide +kernel
theorem dX1_lookAhead_27 : decode cX1_lookAhead 27 = .ok (.aload_n 0, 1) := by decide +kernel
theorem dX1_lookAhead_28 : decode cX1_lookAhead 28 = .ok (.getfield 28, 3) := by decide +kernel
theorem dX1_lookAhead_31 : decode cX1_lookAhead 31 = .ok (.iconst 1, 1) := by decide +kernel
theorem dX1_lookAhead_32 : decode cX1_lookAhead 32 = .ok (.iaload, 1) := by decide +kernel
theorem dX1_lookAhead_33 : decode cX1_lookAhead 33 = .ok (.aload_n 0, 1) := by decide +kernel
theorem dX1_lookAhead_34 : decode cX1_lookAhead 34 = .ok (.getfield 31, 3) := by decide +kernel
theorem dX1_lookAhead_37 : decode cX1_lookAhead 37 = .ok (.iconst 1, 1) := by decide +kernel
theorem dX1_lookAhead_38 : decode cX1_lookAhead 38 = .ok (.iaload, 1) := by decide +kernel
theorem dX1_lookAhead_39 : decode cX1_lookAhead 39 = .ok (.invokevirtual 166, 3) := by decide +kernel
theorem dX1_lookAhead_42 : decode cX1_lookAhead 42 = .ok (.aload_n 0, 1) := by decide +kernel
theorem dX1_lookAhead_43 : decode cX1_lookAhead 43 = .ok (.getfield 49, 3) := by decide +kernel
theorem dX1_lookAhead_46 : decode cX1_lookAhead 46 = .ok (.iconst 0, 1) := by decide +kernel
theorem dX1_lookAhead_47 : decode cX1_lookAhead 47 = .ok (.iconst 2, 1) := by decide +kernel
theorem dX1_lookAhead_48 : decode cX1_lookAhead 48 = .ok (.aload_n 0, 1) := by decide +kernel
theorem dX1_lookAhead_49 : decode cX1_lookAhead 49 = .ok (.getfield 28, 3) := by decide +kernel
theorem dX1_lookAhead_52 : decode cX1_lookAhead 52 = .ok (.iconst 0, 1) := by decide +kernel
theorem dX1_lookAhead_53 : decode cX1_lookAhead 53 = .ok (.iaload, 1) := by decide +kernel
theorem dX1_lookAhead_54 : decode cX1_lookAhead 54 = .ok (.aload_n 0, 1) := by decide +kernel
theorem dX1_lookAhead_55 : decode cX1_lookAhead 55 = .ok (.getfield 28, 3) := by decide +kernel
theorem dX1_lookAhead_58 : decode cX1_lookAhead 58 = .ok (.iconst 1, 1) := by decide +kernel
theorem dX1_lookAhead_59 : decode cX1_lookAhead 59 = .ok (.iaload, 1) := by decide +kernel
theorem dX1_lookAhead_60 : decode cX1_lookAhead 60 = .ok (.iadd, 1) := by decide +kernel
theorem dX1_lookAhead_61 : decode cX1_lookAhead 61 = .ok (.aload_n 0, 1) := by decide +kernel
theorem dX1_lookAhead_62 : decode cX1_lookAhead 62 = .ok (.getfield 31, 3) := by decide +kernel
theorem dX1_lookAhead_65 : decode cX1_lookAhead 65 = .ok (.iconst 0, 1) := by decide +kernel
theorem dX1_lookAhead_66 : decode cX1_lookAhead 66 = .ok (.iaload, 1) := by decide +kernel
theorem dX1_lookAhead_67 : decode cX1_lookAhead 67 = .ok (.aload_n 0, 1) := by decide +kernel
theorem dX1_lookAhead_68 : decode cX1_lookAhead 68 = .ok (.getfield 31, 3) := by decide +kernel
theorem dX1_lookAhead_71 : decode cX1_lookAhead 71 = .ok (.iconst 1, 1) := by decide +kernel
theorem dX1_lookAhead_72 : decode cX1_lookAhead 72 = .ok (.iaload, 1) := by decide +kernel
theorem dX1_lookAhead_73 : decode cX1_lookAhead 73 = .ok (.iadd, 1) := by decide +kernel
theorem dX1_lookAhead_74 : decode cX1_lookAhead 74 = .ok (.invokevirtual 166, 3) := by decide +kernel
theorem dX1_lookAhead_77 : decode cX1_lookAhead 77 = .ok (.iconst 0, 1) := by decide +kernel
theorem dX1_lookAhead_78 : decode cX1_lookAhead 78 = .ok (.istore_n 2, 1) := by decide +kernel
theorem dX1_lookAhead_79 : decode cX1_lookAhead 79 = .ok (.iload_n 2, 1) := by decide +kernel
theorem dX1_lookAhead_80 : decode cX1_lookAhead 80 = .ok (.aload_n 0, 1) := by decide +kernel
theorem dX1_lookAhead_81 : decode cX1_lookAhead 81 = .ok (.getfield 141, 3) := by decide +kernel
theorem dX1_lookAhead_84 : decode cX1_lookAhead 84 = .ok (.if_icmp .gt 45, 3) := by decide +kernel
theorem dX1_lookAhead_87 : decode cX1_lookAhead 87 = .ok (.iload_n 2, 1) := by decide +kernel
theorem dX1_lookAhead_88 : decode cX1_lookAhead 88 = .ok (.ifCond .le 25, 3) := by decide +kernel
theorem dX1_lookAhead_91 : decode cX1_lookAhead 91 = .ok (.aload_n 0, 1) := by decide +kernel
theorem dX1_lookAhead_92 : decode cX1_lookAhead 92 = .ok (.iload_n 2, 1) := by decide +kernel
theorem dX1_lookAhead_93 : decode cX1_lookAhead 93 = .ok (.iconst 1, 1) := by decide +kernel
theorem dX1_lookAhead_94 : decode cX1_lookAhead 94 = .ok (.isub, 1) := by decide +kernel
theorem dX1_lookAhead_95 : decode cX1_lookAhead 95 = .ok (.iload_n 1, 1) := by decide +kernel
theorem dX1_lookAhead_96 : decode cX1_lookAhead 96 = .ok (.iconst (-1), 1) := by decide +kernel
theorem dX1_lookAhead_97 : decode cX1_lookAhead 97 = .ok (.invokevirtual 120, 3) := by decide +kernel
theorem dX1_lookAhead_100 : decode cX1_lookAhead 100 = .ok (.aload_n 0, 1) := by decide +kernel
theorem dX1_lookAhead_101 : decode cX1_lookAhead 101 = .ok (.getfield 49, 3) := by decide +kernel
theorem dX1_lookAhead_104 : decode cX1_lookAhead 104 = .ok (.iload_n 2, 1) := by decide +kernel
