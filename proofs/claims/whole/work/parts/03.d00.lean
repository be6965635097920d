theorem dX0_init_0 : decode cX0_init 0 = .ok (.aload_n 0, 1) := by decide +kernel
theorem dX0_init_1 : decode cX0_init 1 = .ok (.invokespecial 3, 3) := by decide +kernel
theorem dX0_init_4 : decode cX0_init 4 = .ok (.aload_n 0, 1) := by decide +kernel
theorem dX0_init_5 : decode cX0_init 5 = .ok (.sipush 186, 3) := by decide +kernel
theorem dX0_init_8 : decode cX0_init 8 = .ok (.newarray .int, 2) := by decide +kernel
theorem dX0_init_10 : decode cX0_init 10 = .ok (.putfield 9, 3) := by decide +kernel
theorem dX0_init_13 : decode cX0_init 13 = .ok (.aload_n 0, 1) := by decide +kernel
theorem dX0_init_14 : decode cX0_init 14 = .ok (.sipush 186, 3) := by decide +kernel
theorem dX0_init_17 : decode cX0_init 17 = .ok (.newarray .int, 2) := by decide +kernel
theorem dX0_init_19 : decode cX0_init 19 = .ok (.putfield 15, 3) := by decide +kernel
theorem dX0_init_22 : decode cX0_init 22 = .ok (.return_, 1) := by decide +kernel
theorem dX0_at_0 : decode cX0_at 0 = .ok (.iload_n 0, 1) := by decide +kernel
theorem dX0_at_1 : decode cX0_at 1 = .ok (.iconst 3, 1) := by decide +kernel
theorem dX0_at_2 : decode cX0_at 2 = .ok (.imul, 1) := by decide +kernel
theorem dX0_at_3 : decode cX0_at 3 = .ok (.iload_n 1, 1) := by decide +kernel
theorem dX0_at_4 : decode cX0_at 4 = .ok (.iadd, 1) := by decide +kernel
theorem dX0_at_5 : decode cX0_at 5 = .ok (.ireturn, 1) := by decide +kernel
set_option maxRecDepth 20000 in
theorem ggX0_low_X0_at : GoodIn wsX0_low wsX0_at := goodIn_r _ [5] (by decide +kernel) (by decide +kernel)
set_option maxRecDepth 20000 in
theorem gX0_low_X0_at : GoodIn wsX0_low (va_wsS RX0 18 yX0_at wsX0_at) := goodIn_app (goodIn_of _ (by decide +kernel)) ggX0_low_X0_at
theorem dX0_low_0 : decode cX0_low 0 = .ok (.aload_n 0, 1) := by decide +kernel
theorem dX0_low_1 : decode cX0_low 1 = .ok (.getfield 9, 3) := by decide +kernel
theorem dX0_low_4 : decode cX0_low 4 = .ok (.iload_n 1, 1) := by decide +kernel
theorem dX0_low_5 : decode cX0_low 5 = .ok (.iload_n 2, 1) := by decide +kernel
theorem dX0_low_6 : decode cX0_low 6 = .ok (.invokestatic 18, 3) := by decide +kernel
theorem dX0_low_9 : decode cX0_low 9 = .ok (.iaload, 1) := by decide +kernel
theorem dX0_low_10 : decode cX0_low 10 = .ok (.ireturn, 1) := by decide +kernel
set_option maxRecDepth 20000 in
theorem ggX0_high_X0_at : GoodIn wsX0_high wsX0_at := goodIn_r _ [5] (by decide +kernel) (by decide +kernel)
set_option maxRecDepth 20000 in
theorem gX0_high_X0_at : GoodIn wsX0_high (va_wsS RX0 18 yX0_at wsX0_at) := goodIn_app (goodIn_of _ (by decide +kernel)) ggX0_high_X0_at
theorem dX0_high_0 : decode cX0_high 0 = .ok (.aload_n 0, 1) := by decide +kernel
theorem dX0_high_1 : decode cX0_high 1 = .ok (.getfield 15, 3) := by decide +kernel
theorem dX0_high_4 : decode cX0_high 4 = .ok (.iload_n 1, 1) := by decide +kernel
theorem dX0_high_5 : decode cX0_high 5 = .ok (.iload_n 2, 1) := by decide +kernel
theorem dX0_high_6 : decode cX0_high 6 = .ok (.invokestatic 18, 3) := by decide +kernel
theorem dX0_high_9 : decode cX0_high 9 = .ok (.iaload, 1) := by decide +kernel
theorem dX0_high_10 : decode cX0_high 10 = .ok (.ireturn, 1) := by decide +kernel
set_option maxRecDepth 20000 in
theorem ggX0_put_X0_at : GoodIn wsX0_put wsX0_at := goodIn_r _ [6] (by decide +kernel) (by decide +kernel)
set_option maxRecDepth 20000 in
theorem gX0_put_X0_at : GoodIn wsX0_put (va_wsS RX0 18 yX0_at wsX0_at) := goodIn_app (goodIn_of _ (by decide +kernel)) ggX0_put_X0_at
theorem dX0_put_0 : decode cX0_put 0 = .ok (.iload_n 1, 1) := by decide +kernel
theorem dX0_put_1 : decode cX0_put 1 = .ok (.iload_n 2, 1) := by decide +kernel
theorem dX0_put_2 : decode cX0_put 2 = .ok (.invokestatic 18, 3) := by decide +kernel
theorem dX0_put_5 : decode cX0_put 5 = .ok (.istore 5, 2) := by decide +kernel
theorem dX0_put_7 : decode cX0_put 7 = .ok (.aload_n 0, 1) := by decide +kernel
theorem dX0_put_8 : decode cX0_put 8 = .ok (.getfield 9, 3) := by decide +kernel
theorem dX0_put_11 : decode cX0_put 11 = .ok (.iload 5, 2) := by decide +kernel
theorem dX0_put_13 : decode cX0_put 13 = .ok (.iload_n 3, 1) := by decide +kernel
theorem dX0_put_14 : decode cX0_put 14 = .ok (.iastore, 1) := by decide +kernel
theorem dX0_put_15 : decode cX0_put 15 = .ok (.aload_n 0, 1) := by decide +kernel
theorem dX0_put_16 : decode cX0_put 16 = .ok (.getfield 15, 3) := by decide +kernel
theorem dX0_put_19 : decode cX0_put 19 = .ok (.iload 5, 2) := by decide +kernel
theorem dX0_put_21 : decode cX0_put 21 = .ok (.iload 4, 2) := by decide +kernel
theorem dX0_put_23 : decode cX0_put 23 = .ok (.iastore, 1) := by decide +kernel
theorem dX0_put_24 : decode cX0_put 24 = .ok (.return_, 1) := by decide +kernel
set_option maxRecDepth 20000 in
theorem ggX0_widen_X0_at : GoodIn wsX0_widen wsX0_at := goodIn_r _ [6] (by decide +kernel) (by decide +kernel)
set_option maxRecDepth 20000 in
theorem gX0_widen_X0_at : GoodIn wsX0_widen (va_wsS RX0 18 yX0_at wsX0_at) := goodIn_app (goodIn_of _ (by decide +kernel)) ggX0_widen_X0_at
theorem dX0_widen_0 : decode cX0_widen 0 = .ok (.iload_n 1, 1) := by decide +kernel
theorem dX0_widen_1 : decode cX0_widen 1 = .ok (.iload_n 2, 1) := by decide +kernel
theorem dX0_widen_2 : decode cX0_widen 2 = .ok (.invokestatic 18, 3) := by decide +kernel
theorem dX0_widen_5 : decode cX0_widen 5 = .ok (.istore 5, 2) := by decide +kernel
theorem dX0_widen_7 : decode cX0_widen 7 = .ok (.aload_n 0, 1) := by decide +kernel
theorem dX0_widen_8 : decode cX0_widen 8 = .ok (.getfield 9, 3) := by decide +kernel
theorem dX0_widen_11 : decode cX0_widen 11 = .ok (.iload 5, 2) := by decide +kernel
theorem dX0_widen_13 : decode cX0_widen 13 = .ok (.dup2, 1) := by decide +kernel
theorem dX0_widen_14 : decode cX0_widen 14 = .ok (.iaload, 1) := by decide +kernel
theorem dX0_widen_15 : decode cX0_widen 15 = .ok (.iload_n 3, 1) := by decide +kernel
theorem dX0_widen_16 : decode cX0_widen 16 = .ok (.iadd, 1) := by decide +kernel
theorem dX0_widen_17 : decode cX0_widen 17 = .ok (.iastore, 1) := by decide +kernel
theorem dX0_widen_18 : decode cX0_widen 18 = .ok (.aload_n 0, 1) := by decide +kernel
theorem dX0_widen_19 : decode cX0_widen 19 = .ok (.getfield 15, 3) := by decide +kernel
theorem dX0_widen_22 : decode cX0_widen 22 = .ok (.iload 5, 2) := by decide +kernel
theorem dX0_widen_24 : decode cX0_widen 24 = .ok (.dup2, 1) := by decide +kernel
theorem dX0_widen_25 : decode cX0_widen 25 = .ok (.iaload, 1) := by decide +kernel
theorem dX0_widen_26 : decode cX0_widen 26 = .ok (.iload 4, 2) := by decide +kernel
theorem dX0_widen_28 : decode cX0_widen 28 = .ok (.iadd, 1) := by decide +kernel
theorem dX0_widen_29 : decode cX0_widen 29 = .ok (.iastore, 1) := by decide +kernel
theorem dX0_widen_30 : decode cX0_widen 30 = .ok (.return_, 1) := by decide +kernel
set_option maxRecDepth 20000 in
theorem ggX0_cut_X0_at : GoodIn wsX0_cut wsX0_at := goodIn_r _ [13] (by decide +kernel) (by decide +kernel)
set_option maxRecDepth 20000 in
theorem gX0_cut_X0_at : GoodIn wsX0_cut (va_wsS RX0 18 yX0_at wsX0_at) := goodIn_app (goodIn_of _ (by decide +kernel)) ggX0_cut_X0_at
theorem dX0_cut_0 : decode cX0_cut 0 = .ok (.iload_n 1, 1) := by decide +kernel
theorem dX0_cut_1 : decode cX0_cut 1 = .ok (.iload_n 2, 1) := by decide +kernel
theorem dX0_cut_2 : decode cX0_cut 2 = .ok (.invokestatic 18, 3) := by decide +kernel
theorem dX0_cut_5 : decode cX0_cut 5 = .ok (.istore 5, 2) := by decide +kernel
theorem dX0_cut_7 : decode cX0_cut 7 = .ok (.aload_n 0, 1) := by decide +kernel
theorem dX0_cut_8 : decode cX0_cut 8 = .ok (.getfield 9, 3) := by decide +kernel
theorem dX0_cut_11 : decode cX0_cut 11 = .ok (.iload 5, 2) := by decide +kernel
theorem dX0_cut_13 : decode cX0_cut 13 = .ok (.aload_n 0, 1) := by decide +kernel
theorem dX0_cut_14 : decode cX0_cut 14 = .ok (.getfield 9, 3) := by decide +kernel
theorem dX0_cut_17 : decode cX0_cut 17 = .ok (.iload 5, 2) := by decide +kernel
theorem dX0_cut_19 : decode cX0_cut 19 = .ok (.iaload, 1) := by decide +kernel
theorem dX0_cut_20 : decode cX0_cut 20 = .ok (.iload_n 3, 1) := by decide +kernel
theorem dX0_cut_21 : decode cX0_cut 21 = .ok (.invokestatic 22, 3) := by decide +kernel
theorem dX0_cut_24 : decode cX0_cut 24 = .ok (.iastore, 1) := by decide +kernel
theorem dX0_cut_25 : decode cX0_cut 25 = .ok (.aload_n 0, 1) := by decide +kernel
theorem dX0_cut_26 : decode cX0_cut 26 = .ok (.getfield 15, 3) := by decide +kernel
theorem dX0_cut_29 : decode cX0_cut 29 = .ok (.iload 5, 2) := by decide +kernel
theorem dX0_cut_31 : decode cX0_cut 31 = .ok (.aload_n 0, 1) := by decide +kernel
theorem dX0_cut_32 : decode cX0_cut 32 = .ok (.getfield 15, 3) := by decide +kernel
theorem dX0_cut_35 : decode cX0_cut 35 = .ok (.iload 5, 2) := by decide +kernel
theorem dX0_cut_37 : decode cX0_cut 37 = .ok (.iaload, 1) := by decide +kernel
theorem dX0_cut_38 : decode cX0_cut 38 = .ok (.iload 4, 2) := by decide +kernel
theorem dX0_cut_40 : decode cX0_cut 40 = .ok (.invokestatic 27, 3) := by decide +kernel
theorem dX0_cut_43 : decode cX0_cut 43 = .ok (.iastore, 1) := by decide +kernel
theorem dX0_cut_44 : decode cX0_cut 44 = .ok (.return_, 1) := by decide +kernel
set_option maxRecDepth 20000 in
theorem ggX0_putSum_X0_low : GoodIn wsX0_putSum wsX0_low := goodIn_r _ [5, 6, 7, 8, 4, 9, 19, 20] (by decide +kernel) (by decide +kernel)
set_option maxRecDepth 20000 in
theorem gX0_putSum_X0_low : GoodIn wsX0_putSum (wsV RX0 30 RX0 yX0_low wsX0_low) := goodIn_app (goodIn_of _ (by decide +kernel)) ggX0_putSum_X0_low
set_option maxRecDepth 20000 in
theorem ggX0_putSum_X0_high : GoodIn wsX0_putSum wsX0_high := goodIn_r _ [13, 14, 7, 8, 4, 9, 19, 20] (by decide +kernel) (by decide +kernel)
set_option maxRecDepth 20000 in
theorem gX0_putSum_X0_high : GoodIn wsX0_putSum (wsV RX0 33 RX0 yX0_high wsX0_high) := goodIn_app (goodIn_of _ (by decide +kernel)) ggX0_putSum_X0_high
set_option maxRecDepth 20000 in
theorem ggX0_putSum_X0_put : GoodIn wsX0_putSum wsX0_put := goodIn_r _ [18, 6, 14, 7, 8, 4, 9, 19, 20] (by decide +kernel) (by decide +kernel)
set_option maxRecDepth 20000 in
theorem gX0_putSum_X0_put : GoodIn wsX0_putSum (wsV RX0 36 RX0 yX0_put wsX0_put) := goodIn_app (goodIn_of _ (by decide +kernel)) ggX0_putSum_X0_put
theorem dX0_putSum_0 : decode cX0_putSum 0 = .ok (.iconst 0, 1) := by decide +kernel
theorem dX0_putSum_1 : decode cX0_putSum 1 = .ok (.istore 4, 2) := by decide +kernel
theorem dX0_putSum_3 : decode cX0_putSum 3 = .ok (.iload 4, 2) := by decide +kernel
theorem dX0_putSum_5 : decode cX0_putSum 5 = .ok (.iconst 3, 1) := by decide +kernel
theorem dX0_putSum_6 : decode cX0_putSum 6 = .ok (.if_icmp .ge 46, 3) := by decide +kernel
theorem dX0_putSum_9 : decode cX0_putSum 9 = .ok (.aload_n 0, 1) := by decide +kernel
theorem dX0_putSum_10 : decode cX0_putSum 10 = .ok (.iload_n 1, 1) := by decide +kernel
theorem dX0_putSum_11 : decode cX0_putSum 11 = .ok (.iload 4, 2) := by decide +kernel
theorem dX0_putSum_13 : decode cX0_putSum 13 = .ok (.aload_n 0, 1) := by decide +kernel
theorem dX0_putSum_14 : decode cX0_putSum 14 = .ok (.iload_n 2, 1) := by decide +kernel
theorem dX0_putSum_15 : decode cX0_putSum 15 = .ok (.iload 4, 2) := by decide +kernel
theorem dX0_putSum_17 : decode cX0_putSum 17 = .ok (.invokevirtual 30, 3) := by decide +kernel
theorem dX0_putSum_20 : decode cX0_putSum 20 = .ok (.aload_n 0, 1) := by decide +kernel
theorem dX0_putSum_21 : decode cX0_putSum 21 = .ok (.iload_n 3, 1) := by decide +kernel
theorem dX0_putSum_22 : decode cX0_putSum 22 = .ok (.iload 4, 2) := by decide +kernel
theorem dX0_putSum_24 : decode cX0_putSum 24 = .ok (.invokevirtual 30, 3) := by decide +kernel
theorem dX0_putSum_27 : decode cX0_putSum 27 = .ok (.iadd, 1) := by decide +kernel
theorem dX0_putSum_28 : decode cX0_putSum 28 = .ok (.aload_n 0, 1) := by decide +kernel
theorem dX0_putSum_29 : decode cX0_putSum 29 = .ok (.iload_n 2, 1) := by decide +kernel
theorem dX0_putSum_30 : decode cX0_putSum 30 = .ok (.iload 4, 2) := by decide +kernel
theorem dX0_putSum_32 : decode cX0_putSum 32 = .ok (.invokevirtual 33, 3) := by decide +kernel
theorem dX0_putSum_35 : decode cX0_putSum 35 = .ok (.aload_n 0, 1) := by decide +kernel
theorem dX0_putSum_36 : decode cX0_putSum 36 = .ok (.iload_n 3, 1) := by decide +kernel
theorem dX0_putSum_37 : decode cX0_putSum 37 = .ok (.iload 4, 2) := by decide +kernel
theorem dX0_putSum_39 : decode cX0_putSum 39 = .ok (.invokevirtual 33, 3) := by decide +kernel
theorem dX0_putSum_42 : decode cX0_putSum 42 = .ok (.iadd, 1) := by decide +kernel
theorem dX0_putSum_43 : decode cX0_putSum 43 = .ok (.invokevirtual 36, 3) := by decide +kernel
theorem dX0_putSum_46 : decode cX0_putSum 46 = .ok (.iinc 4 1, 3) := by decide +kernel
theorem dX0_putSum_49 : decode cX0_putSum 49 = .ok (.goto (-46), 3) := by decide +kernel
theorem dX0_putSum_52 : decode cX0_putSum 52 = .ok (.return_, 1) := by decide +kernel
set_option maxRecDepth 20000 in
theorem ggX0_cutByDifference_X0_low : GoodIn wsX0_cutByDifference wsX0_low := goodIn_r _ [5, 6, 7, 8, 4, 9, 26, 27] (by decide +kernel) (by decide +kernel)
set_option maxRecDepth 20000 in
theorem gX0_cutByDifference_X0_low : GoodIn wsX0_cutByDifference (wsV RX0 30 RX0 yX0_low wsX0_low) := goodIn_app (goodIn_of _ (by decide +kernel)) ggX0_cutByDifference_X0_low
set_option maxRecDepth 20000 in
theorem ggX0_cutByDifference_X0_high : GoodIn wsX0_cutByDifference wsX0_high := goodIn_r _ [13, 14, 7, 8, 4, 9, 26, 27] (by decide +kernel) (by decide +kernel)
set_option maxRecDepth 20000 in
theorem gX0_cutByDifference_X0_high : GoodIn wsX0_cutByDifference (wsV RX0 33 RX0 yX0_high wsX0_high) := goodIn_app (goodIn_of _ (by decide +kernel)) ggX0_cutByDifference_X0_high
set_option maxRecDepth 20000 in
theorem ggX0_cutByDifference_X0_cut : GoodIn wsX0_cutByDifference wsX0_cut := goodIn_r _ [18, 6, 19, 20, 21, 22, 14, 23, 24, 25, 7, 8, 4, 9, 26, 27] (by decide +kernel) (by decide +kernel)
set_option maxRecDepth 20000 in
theorem gX0_cutByDifference_X0_cut : GoodIn wsX0_cutByDifference (wsV RX0 40 RX0 yX0_cut wsX0_cut) := goodIn_app (goodIn_of _ (by decide +kernel)) ggX0_cutByDifference_X0_cut
theorem dX0_cutByDifference_0 : decode cX0_cutByDifference 0 = .ok (.iconst 0, 1) := by decide +kernel
theorem dX0_cutByDifference_1 : decode cX0_cutByDifference 1 = .ok (.istore 4, 2) := by decide +kernel
theorem dX0_cutByDifference_3 : decode cX0_cutByDifference 3 = .ok (.iload 4, 2) := by decide +kernel
theorem dX0_cutByDifference_5 : decode cX0_cutByDifference 5 = .ok (.iconst 3, 1) := by decide +kernel
theorem dX0_cutByDifference_6 : decode cX0_cutByDifference 6 = .ok (.if_icmp .ge 46, 3) := by decide +kernel
theorem dX0_cutByDifference_9 : decode cX0_cutByDifference 9 = .ok (.aload_n 0, 1) := by decide +kernel
theorem dX0_cutByDifference_10 : decode cX0_cutByDifference 10 = .ok (.iload_n 1, 1) := by decide +kernel
theorem dX0_cutByDifference_11 : decode cX0_cutByDifference 11 = .ok (.iload 4, 2) := by decide +kernel
theorem dX0_cutByDifference_13 : decode cX0_cutByDifference 13 = .ok (.aload_n 0, 1) := by decide +kernel
theorem dX0_cutByDifference_14 : decode cX0_cutByDifference 14 = .ok (.iload_n 2, 1) := by decide +kernel
theorem dX0_cutByDifference_15 : decode cX0_cutByDifference 15 = .ok (.iload 4, 2) := by decide +kernel
theorem dX0_cutByDifference_17 : decode cX0_cutByDifference 17 = .ok (.invokevirtual 30, 3) := by decide +kernel
theorem dX0_cutByDifference_20 : decode cX0_cutByDifference 20 = .ok (.aload_n 0, 1) := by decide +kernel
theorem dX0_cutByDifference_21 : decode cX0_cutByDifference 21 = .ok (.iload_n 3, 1) := by decide +kernel
theorem dX0_cutByDifference_22 : decode cX0_cutByDifference 22 = .ok (.iload 4, 2) := by decide +kernel
theorem dX0_cutByDifference_24 : decode cX0_cutByDifference 24 = .ok (.invokevirtual 33, 3) := by decide +kernel
theorem dX0_cutByDifference_27 : decode cX0_cutByDifference 27 = .ok (.isub, 1) := by decide +kernel
theorem dX0_cutByDifference_28 : decode cX0_cutByDifference 28 = .ok (.aload_n 0, 1) := by decide +kernel
theorem dX0_cutByDifference_29 : decode cX0_cutByDifference 29 = .ok (.iload_n 2, 1) := by decide +kernel
theorem dX0_cutByDifference_30 : decode cX0_cutByDifference 30 = .ok (.iload 4, 2) := by decide +kernel
theorem dX0_cutByDifference_32 : decode cX0_cutByDifference 32 = .ok (.invokevirtual 33, 3) := by decide +kernel
theorem dX0_cutByDifference_35 : decode cX0_cutByDifference 35 = .ok (.aload_n 0, 1) := by decide +kernel
theorem dX0_cutByDifference_36 : decode cX0_cutByDifference 36 = .ok (.iload_n 3, 1) := by decide +kernel
theorem dX0_cutByDifference_37 : decode cX0_cutByDifference 37 = .ok (.iload 4, 2) := by decide +kernel
theorem dX0_cutByDifference_39 : decode cX0_cutByDifference 39 = .ok (.invokevirtual 30, 3) := by decide +kernel
theorem dX0_cutByDifference_42 : decode cX0_cutByDifference 42 = .ok (.isub, 1) := by decide +kernel
theorem dX0_cutByDifference_43 : decode cX0_cutByDifference 43 = .ok (.invokevirtual 40, 3) := by decide +kernel
theorem dX0_cutByDifference_46 : decode cX0_cutByDifference 46 = .ok (.iinc 4 1, 3) := by decide +kernel
theorem dX0_cutByDifference_49 : decode cX0_cutByDifference 49 = .ok (.goto (-46), 3) := by decide +kernel
theorem dX0_cutByDifference_52 : decode cX0_cutByDifference 52 = .ok (.return_, 1) := by decide +kernel
set_option maxRecDepth 20000 in
theorem ggX0_tighten_X0_low : GoodIn wsX0_tighten wsX0_low := goodIn_r _ [5, 6, 7, 8, 4, 9, 30, 31] (by decide +kernel) (by decide +kernel)
set_option maxRecDepth 20000 in
theorem gX0_tighten_X0_low : GoodIn wsX0_tighten (wsV RX0 30 RX0 yX0_low wsX0_low) := goodIn_app (goodIn_of _ (by decide +kernel)) ggX0_tighten_X0_low
set_option maxRecDepth 20000 in
theorem ggX0_tighten_X0_high : GoodIn wsX0_tighten wsX0_high := goodIn_r _ [13, 14, 7, 8, 4, 9, 30, 31] (by decide +kernel) (by decide +kernel)
set_option maxRecDepth 20000 in
theorem gX0_tighten_X0_high : GoodIn wsX0_tighten (wsV RX0 33 RX0 yX0_high wsX0_high) := goodIn_app (goodIn_of _ (by decide +kernel)) ggX0_tighten_X0_high
set_option maxRecDepth 20000 in
theorem ggX0_tighten_X0_cut : GoodIn wsX0_tighten wsX0_cut := goodIn_r _ [18, 6, 19, 20, 21, 22, 14, 23, 24, 25, 7, 8, 4, 9, 30, 31] (by decide +kernel) (by decide +kernel)
set_option maxRecDepth 20000 in
theorem gX0_tighten_X0_cut : GoodIn wsX0_tighten (wsV RX0 40 RX0 yX0_cut wsX0_cut) := goodIn_app (goodIn_of _ (by decide +kernel)) ggX0_tighten_X0_cut
set_option maxRecDepth 20000 in
theorem ggX0_tighten_X0_isSpan : GoodIn wsX0_tighten wsX0_isSpan := goodIn_r _ [29, 6, 14, 7, 8, 4, 9, 30, 31] (by decide +kernel) (by decide +kernel)
set_option maxRecDepth 20000 in
theorem gX0_tighten_X0_isSpan : GoodIn wsX0_tighten (wsV RX0 43 RX0 yX0_isSpan wsX0_isSpan) := goodIn_app (goodIn_of _ (by decide +kernel)) ggX0_tighten_X0_isSpan
theorem dX0_tighten_0 : decode cX0_tighten 0 = .ok (.aload_n 0, 1) := by decide +kernel
theorem dX0_tighten_1 : decode cX0_tighten 1 = .ok (.iload_n 1, 1) := by decide +kernel
theorem dX0_tighten_2 : decode cX0_tighten 2 = .ok (.iconst 0, 1) := by decide +kernel
theorem dX0_tighten_3 : decode cX0_tighten 3 = .ok (.invokevirtual 30, 3) := by decide +kernel
theorem dX0_tighten_6 : decode cX0_tighten 6 = .ok (.istore_n 2, 1) := by decide +kernel
theorem dX0_tighten_7 : decode cX0_tighten 7 = .ok (.aload_n 0, 1) := by decide +kernel
theorem dX0_tighten_8 : decode cX0_tighten 8 = .ok (.iload_n 1, 1) := by decide +kernel
theorem dX0_tighten_9 : decode cX0_tighten 9 = .ok (.iconst 0, 1) := by decide +kernel
theorem dX0_tighten_10 : decode cX0_tighten 10 = .ok (.invokevirtual 33, 3) := by decide +kernel
theorem dX0_tighten_13 : decode cX0_tighten 13 = .ok (.istore_n 3, 1) := by decide +kernel
theorem dX0_tighten_14 : decode cX0_tighten 14 = .ok (.aload_n 0, 1) := by decide +kernel
theorem dX0_tighten_15 : decode cX0_tighten 15 = .ok (.iload_n 1, 1) := by decide +kernel
theorem dX0_tighten_16 : decode cX0_tighten 16 = .ok (.iconst 1, 1) := by decide +kernel
theorem dX0_tighten_17 : decode cX0_tighten 17 = .ok (.invokevirtual 30, 3) := by decide +kernel
theorem dX0_tighten_20 : decode cX0_tighten 20 = .ok (.istore 4, 2) := by decide +kernel
theorem dX0_tighten_22 : decode cX0_tighten 22 = .ok (.aload_n 0, 1) := by decide +kernel
theorem dX0_tighten_23 : decode cX0_tighten 23 = .ok (.iload_n 1, 1) := by decide +kernel
theorem dX0_tighten_24 : decode cX0_tighten 24 = .ok (.iconst 1, 1) := by decide +kernel
theorem dX0_tighten_25 : decode cX0_tighten 25 = .ok (.invokevirtual 33, 3) := by decide +kernel
theorem dX0_tighten_28 : decode cX0_tighten 28 = .ok (.istore 5, 2) := by decide +kernel
theorem dX0_tighten_30 : decode cX0_tighten 30 = .ok (.aload_n 0, 1) := by decide +kernel
theorem dX0_tighten_31 : decode cX0_tighten 31 = .ok (.iload_n 1, 1) := by decide +kernel
theorem dX0_tighten_32 : decode cX0_tighten 32 = .ok (.iconst 2, 1) := by decide +kernel
theorem dX0_tighten_33 : decode cX0_tighten 33 = .ok (.invokevirtual 30, 3) := by decide +kernel
theorem dX0_tighten_36 : decode cX0_tighten 36 = .ok (.istore 6, 2) := by decide +kernel
theorem dX0_tighten_38 : decode cX0_tighten 38 = .ok (.aload_n 0, 1) := by decide +kernel
theorem dX0_tighten_39 : decode cX0_tighten 39 = .ok (.iload_n 1, 1) := by decide +kernel
theorem dX0_tighten_40 : decode cX0_tighten 40 = .ok (.iconst 2, 1) := by decide +kernel
theorem dX0_tighten_41 : decode cX0_tighten 41 = .ok (.invokevirtual 33, 3) := by decide +kernel
theorem dX0_tighten_44 : decode cX0_tighten 44 = .ok (.istore 7, 2) := by decide +kernel
theorem dX0_tighten_46 : decode cX0_tighten 46 = .ok (.aload_n 0, 1) := by decide +kernel
theorem dX0_tighten_47 : decode cX0_tighten 47 = .ok (.iload_n 1, 1) := by decide +kernel
theorem dX0_tighten_48 : decode cX0_tighten 48 = .ok (.iconst 0, 1) := by decide +kernel
theorem dX0_tighten_49 : decode cX0_tighten 49 = .ok (.iload 6, 2) := by decide +kernel
theorem dX0_tighten_51 : decode cX0_tighten 51 = .ok (.iload 5, 2) := by decide +kernel
theorem dX0_tighten_53 : decode cX0_tighten 53 = .ok (.isub, 1) := by decide +kernel
theorem dX0_tighten_54 : decode cX0_tighten 54 = .ok (.iload 7, 2) := by decide +kernel
theorem dX0_tighten_56 : decode cX0_tighten 56 = .ok (.iload 4, 2) := by decide +kernel
theorem dX0_tighten_58 : decode cX0_tighten 58 = .ok (.isub, 1) := by decide +kernel
theorem dX0_tighten_59 : decode cX0_tighten 59 = .ok (.invokevirtual 40, 3) := by decide +kernel
theorem dX0_tighten_62 : decode cX0_tighten 62 = .ok (.aload_n 0, 1) := by decide +kernel
theorem dX0_tighten_63 : decode cX0_tighten 63 = .ok (.iload_n 1, 1) := by decide +kernel
theorem dX0_tighten_64 : decode cX0_tighten 64 = .ok (.iconst 1, 1) := by decide +kernel
theorem dX0_tighten_65 : decode cX0_tighten 65 = .ok (.iload 6, 2) := by decide +kernel
theorem dX0_tighten_67 : decode cX0_tighten 67 = .ok (.iload_n 3, 1) := by decide +kernel
theorem dX0_tighten_68 : decode cX0_tighten 68 = .ok (.isub, 1) := by decide +kernel
theorem dX0_tighten_69 : decode cX0_tighten 69 = .ok (.iload 7, 2) := by decide +kernel
theorem dX0_tighten_71 : decode cX0_tighten 71 = .ok (.iload_n 2, 1) := by decide +kernel
theorem dX0_tighten_72 : decode cX0_tighten 72 = .ok (.isub, 1) := by decide +kernel
theorem dX0_tighten_73 : decode cX0_tighten 73 = .ok (.invokevirtual 40, 3) := by decide +kernel
theorem dX0_tighten_76 : decode cX0_tighten 76 = .ok (.aload_n 0, 1) := by decide +kernel
theorem dX0_tighten_77 : decode cX0_tighten 77 = .ok (.iload_n 1, 1) := by decide +kernel
theorem dX0_tighten_78 : decode cX0_tighten 78 = .ok (.iconst 2, 1) := by decide +kernel
theorem dX0_tighten_79 : decode cX0_tighten 79 = .ok (.iload_n 2, 1) := by decide +kernel
theorem dX0_tighten_80 : decode cX0_tighten 80 = .ok (.iload 4, 2) := by decide +kernel
theorem dX0_tighten_82 : decode cX0_tighten 82 = .ok (.iadd, 1) := by decide +kernel
theorem dX0_tighten_83 : decode cX0_tighten 83 = .ok (.iload_n 3, 1) := by decide +kernel
theorem dX0_tighten_84 : decode cX0_tighten 84 = .ok (.iload 5, 2) := by decide +kernel
theorem dX0_tighten_86 : decode cX0_tighten 86 = .ok (.iadd, 1) := by decide +kernel
theorem dX0_tighten_87 : decode cX0_tighten 87 = .ok (.invokevirtual 40, 3) := by decide +kernel
theorem dX0_tighten_90 : decode cX0_tighten 90 = .ok (.aload_n 0, 1) := by decide +kernel
theorem dX0_tighten_91 : decode cX0_tighten 91 = .ok (.iload_n 1, 1) := by decide +kernel
theorem dX0_tighten_92 : decode cX0_tighten 92 = .ok (.iconst 0, 1) := by decide +kernel
theorem dX0_tighten_93 : decode cX0_tighten 93 = .ok (.invokevirtual 43, 3) := by decide +kernel
theorem dX0_tighten_96 : decode cX0_tighten 96 = .ok (.ifCond .eq 25, 3) := by decide +kernel
theorem dX0_tighten_99 : decode cX0_tighten 99 = .ok (.aload_n 0, 1) := by decide +kernel
theorem dX0_tighten_100 : decode cX0_tighten 100 = .ok (.iload_n 1, 1) := by decide +kernel
theorem dX0_tighten_101 : decode cX0_tighten 101 = .ok (.iconst 1, 1) := by decide +kernel
theorem dX0_tighten_102 : decode cX0_tighten 102 = .ok (.invokevirtual 43, 3) := by decide +kernel
theorem dX0_tighten_105 : decode cX0_tighten 105 = .ok (.ifCond .eq 16, 3) := by decide +kernel
theorem dX0_tighten_108 : decode cX0_tighten 108 = .ok (.aload_n 0, 1) := by decide +kernel
theorem dX0_tighten_109 : decode cX0_tighten 109 = .ok (.iload_n 1, 1) := by decide +kernel
theorem dX0_tighten_110 : decode cX0_tighten 110 = .ok (.iconst 2, 1) := by decide +kernel
theorem dX0_tighten_111 : decode cX0_tighten 111 = .ok (.invokevirtual 43, 3) := by decide +kernel
theorem dX0_tighten_114 : decode cX0_tighten 114 = .ok (.ifCond .eq 7, 3) := by decide +kernel
theorem dX0_tighten_117 : decode cX0_tighten 117 = .ok (.iconst 1, 1) := by decide +kernel
theorem dX0_tighten_118 : decode cX0_tighten 118 = .ok (.goto 4, 3) := by decide +kernel
theorem dX0_tighten_121 : decode cX0_tighten 121 = .ok (.iconst 0, 1) := by decide +kernel
theorem dX0_tighten_122 : decode cX0_tighten 122 = .ok (.ireturn, 1) := by decide +kernel
set_option maxRecDepth 20000 in
theorem ggX0_isSpan_X0_at : GoodIn wsX0_isSpan wsX0_at := goodIn_r _ [6] (by decide +kernel) (by decide +kernel)
set_option maxRecDepth 20000 in
theorem gX0_isSpan_X0_at : GoodIn wsX0_isSpan (va_wsS RX0 18 yX0_at wsX0_at) := goodIn_app (goodIn_of _ (by decide +kernel)) ggX0_isSpan_X0_at
theorem dX0_isSpan_0 : decode cX0_isSpan 0 = .ok (.iload_n 1, 1) := by decide +kernel
theorem dX0_isSpan_1 : decode cX0_isSpan 1 = .ok (.iload_n 2, 1) := by decide +kernel
theorem dX0_isSpan_2 : decode cX0_isSpan 2 = .ok (.invokestatic 18, 3) := by decide +kernel
theorem dX0_isSpan_5 : decode cX0_isSpan 5 = .ok (.istore_n 3, 1) := by decide +kernel
theorem dX0_isSpan_6 : decode cX0_isSpan 6 = .ok (.aload_n 0, 1) := by decide +kernel
theorem dX0_isSpan_7 : decode cX0_isSpan 7 = .ok (.getfield 9, 3) := by decide +kernel
theorem dX0_isSpan_10 : decode cX0_isSpan 10 = .ok (.iload_n 3, 1) := by decide +kernel
theorem dX0_isSpan_11 : decode cX0_isSpan 11 = .ok (.iaload, 1) := by decide +kernel
theorem dX0_isSpan_12 : decode cX0_isSpan 12 = .ok (.aload_n 0, 1) := by decide +kernel
theorem dX0_isSpan_13 : decode cX0_isSpan 13 = .ok (.getfield 15, 3) := by decide +kernel
theorem dX0_isSpan_16 : decode cX0_isSpan 16 = .ok (.iload_n 3, 1) := by decide +kernel
theorem dX0_isSpan_17 : decode cX0_isSpan 17 = .ok (.iaload, 1) := by decide +kernel
theorem dX0_isSpan_18 : decode cX0_isSpan 18 = .ok (.if_icmp .gt 7, 3) := by decide +kernel
theorem dX0_isSpan_21 : decode cX0_isSpan 21 = .ok (.iconst 1, 1) := by decide +kernel
theorem dX0_isSpan_22 : decode cX0_isSpan 22 = .ok (.goto 4, 3) := by decide +kernel
theorem dX0_isSpan_25 : decode cX0_isSpan 25 = .ok (.iconst 0, 1) := by decide +kernel
theorem dX0_isSpan_26 : decode cX0_isSpan 26 = .ok (.ireturn, 1) := by decide +kernel
set_option maxRecDepth 20000 in
theorem ggX1_init_X0_init : GoodIn wsX1_init wsX0_init := goodIn_r _ [23, 24, 2, 3, 4, 25, 26, 55, 56] (by decide +kernel) (by decide +kernel)
set_option maxRecDepth 20000 in
theorem gX1_init_X0_init : GoodIn wsX1_init (wsX0_init) := ggX1_init_X0_init
set_option maxRecDepth 20000 in
theorem ggX1_init_X1_beginDay : GoodIn wsX1_init wsX1_beginDay := goodIn_r _ [31, 32, 33, 34, 9, 10, 11, 12, 35, 36, 37, 38, 39, 40, 41, 42, 43, 44, 45, 46, 47, 48, 49, 50, 51, 52, 53, 54] (by decide +kernel) (by decide +kernel)
set_option maxRecDepth 20000 in
theorem gX1_init_X1_beginDay : GoodIn wsX1_init (wsV RX1 53 RX1 yX1_beginDay wsX1_beginDay) := goodIn_app (goodIn_of _ (by decide +kernel)) ggX1_init_X1_beginDay
theorem dX1_init_0 : decode cX1_init 0 = .ok (.aload_n 0, 1) := by decide +kernel
theorem dX1_init_1 : decode cX1_init 1 = .ok (.invokespecial 3, 3) := by decide +kernel
theorem dX1_init_4 : decode cX1_init 4 = .ok (.aload_n 0, 1) := by decide +kernel
theorem dX1_init_5 : decode cX1_init 5 = .ok (.bipush 6, 2) := by decide +kernel
theorem dX1_init_7 : decode cX1_init 7 = .ok (.newarray .int, 2) := by decide +kernel
theorem dX1_init_9 : decode cX1_init 9 = .ok (.putfield 9, 3) := by decide +kernel
theorem dX1_init_12 : decode cX1_init 12 = .ok (.aload_n 0, 1) := by decide +kernel
theorem dX1_init_13 : decode cX1_init 13 = .ok (.bipush 6, 2) := by decide +kernel
theorem dX1_init_15 : decode cX1_init 15 = .ok (.newarray .int, 2) := by decide +kernel
theorem dX1_init_17 : decode cX1_init 17 = .ok (.putfield 13, 3) := by decide +kernel
theorem dX1_init_20 : decode cX1_init 20 = .ok (.aload_n 0, 1) := by decide +kernel
theorem dX1_init_21 : decode cX1_init 21 = .ok (.bipush 6, 2) := by decide +kernel
theorem dX1_init_23 : decode cX1_init 23 = .ok (.newarray .int, 2) := by decide +kernel
theorem dX1_init_25 : decode cX1_init 25 = .ok (.putfield 16, 3) := by decide +kernel
theorem dX1_init_28 : decode cX1_init 28 = .ok (.aload_n 0, 1) := by decide +kernel
theorem dX1_init_29 : decode cX1_init 29 = .ok (.bipush 6, 2) := by decide +kernel
theorem dX1_init_31 : decode cX1_init 31 = .ok (.newarray .int, 2) := by decide +kernel
theorem dX1_init_33 : decode cX1_init 33 = .ok (.putfield 19, 3) := by decide +kernel
theorem dX1_init_36 : decode cX1_init 36 = .ok (.aload_n 0, 1) := by decide +kernel
theorem dX1_init_37 : decode cX1_init 37 = .ok (.sipush 360, 3) := by decide +kernel
theorem dX1_init_40 : decode cX1_init 40 = .ok (.newarray .int, 2) := by decide +kernel
theorem dX1_init_42 : decode cX1_init 42 = .ok (.putfield 22, 3) := by decide +kernel
theorem dX1_init_45 : decode cX1_init 45 = .ok (.aload_n 0, 1) := by decide +kernel
theorem dX1_init_46 : decode cX1_init 46 = .ok (.sipush 360, 3) := by decide +kernel
theorem dX1_init_49 : decode cX1_init 49 = .ok (.newarray .int, 2) := by decide +kernel
theorem dX1_init_51 : decode cX1_init 51 = .ok (.putfield 25, 3) := by decide +kernel
theorem dX1_init_54 : decode cX1_init 54 = .ok (.aload_n 0, 1) := by decide +kernel
theorem dX1_init_55 : decode cX1_init 55 = .ok (.iconst 2, 1) := by decide +kernel
theorem dX1_init_56 : decode cX1_init 56 = .ok (.newarray .int, 2) := by decide +kernel
theorem dX1_init_58 : decode cX1_init 58 = .ok (.putfield 28, 3) := by decide +kernel
theorem dX1_init_61 : decode cX1_init 61 = .ok (.aload_n 0, 1) := by decide +kernel
theorem dX1_init_62 : decode cX1_init 62 = .ok (.iconst 2, 1) := by decide +kernel
theorem dX1_init_63 : decode cX1_init 63 = .ok (.newarray .int, 2) := by decide +kernel
theorem dX1_init_65 : decode cX1_init 65 = .ok (.putfield 31, 3) := by decide +kernel
theorem dX1_init_68 : decode cX1_init 68 = .ok (.aload_n 0, 1) := by decide +kernel
theorem dX1_init_69 : decode cX1_init 69 = .ok (.bipush 20, 2) := by decide +kernel
theorem dX1_init_71 : decode cX1_init 71 = .ok (.newarray .int, 2) := by decide +kernel
theorem dX1_init_73 : decode cX1_init 73 = .ok (.putfield 34, 3) := by decide +kernel
theorem dX1_init_76 : decode cX1_init 76 = .ok (.aload_n 0, 1) := by decide +kernel
theorem dX1_init_77 : decode cX1_init 77 = .ok (.bipush 20, 2) := by decide +kernel
theorem dX1_init_79 : decode cX1_init 79 = .ok (.newarray .int, 2) := by decide +kernel
theorem dX1_init_81 : decode cX1_init 81 = .ok (.putfield 37, 3) := by decide +kernel
theorem dX1_init_84 : decode cX1_init 84 = .ok (.aload_n 0, 1) := by decide +kernel
theorem dX1_init_85 : decode cX1_init 85 = .ok (.bipush 20, 2) := by decide +kernel
theorem dX1_init_87 : decode cX1_init 87 = .ok (.newarray .int, 2) := by decide +kernel
theorem dX1_init_89 : decode cX1_init 89 = .ok (.putfield 40, 3) := by decide +kernel
theorem dX1_init_92 : decode cX1_init 92 = .ok (.aload_n 0, 1) := by decide +kernel
theorem dX1_init_93 : decode cX1_init 93 = .ok (.bipush 20, 2) := by decide +kernel
theorem dX1_init_95 : decode cX1_init 95 = .ok (.newarray .int, 2) := by decide +kernel
theorem dX1_init_97 : decode cX1_init 97 = .ok (.putfield 43, 3) := by decide +kernel
theorem dX1_init_100 : decode cX1_init 100 = .ok (.aload_n 0, 1) := by decide +kernel
theorem dX1_init_101 : decode cX1_init 101 = .ok (.new 46, 3) := by decide +kernel
theorem dX1_init_104 : decode cX1_init 104 = .ok (.dup, 1) := by decide +kernel
theorem dX1_init_105 : decode cX1_init 105 = .ok (.invokespecial 48, 3) := by decide +kernel
theorem dX1_init_108 : decode cX1_init 108 = .ok (.putfield 49, 3) := by decide +kernel
theorem dX1_init_111 : decode cX1_init 111 = .ok (.aload_n 0, 1) := by decide +kernel
theorem dX1_init_112 : decode cX1_init 112 = .ok (.iconst 1, 1) := by decide +kernel
theorem dX1_init_113 : decode cX1_init 113 = .ok (.invokevirtual 53, 3) := by decide +kernel
theorem dX1_init_116 : decode cX1_init 116 = .ok (.return_, 1) := by decide +kernel
set_option maxRecDepth 20000 in
theorem ggX1_day_X1_within : GoodIn wsX1_day wsX1_within := goodIn_r _ [4] (by decide +kernel) (by decide +kernel)
set_option maxRecDepth 20000 in
theorem gX1_day_X1_within : GoodIn wsX1_day (va_wsS RX1 57 yX1_within wsX1_within) := goodIn_app (goodIn_of _ (by decide +kernel)) ggX1_day_X1_within
set_option maxRecDepth 20000 in
theorem ggX1_day_X1_beginDay : GoodIn wsX1_day wsX1_beginDay := goodIn_r _ [8, 9, 10, 11, 12, 13, 14, 15, 16, 17, 18, 19, 20, 21, 22, 23, 24, 25, 26, 27, 28, 29, 30, 31, 32, 33, 34, 35] (by decide +kernel) (by decide +kernel)
set_option maxRecDepth 20000 in
theorem gX1_day_X1_beginDay : GoodIn wsX1_day (wsV RX1 53 RX1 yX1_beginDay wsX1_beginDay) := goodIn_app (goodIn_of _ (by decide +kernel)) ggX1_day_X1_beginDay
theorem dX1_day_0 : decode cX1_day 0 = .ok (.iload_n 1, 1) := by decide +kernel
theorem dX1_day_1 : decode cX1_day 1 = .ok (.iconst 1, 1) := by decide +kernel
theorem dX1_day_2 : decode cX1_day 2 = .ok (.bipush 60, 2) := by decide +kernel
theorem dX1_day_4 : decode cX1_day 4 = .ok (.invokestatic 57, 3) := by decide +kernel
theorem dX1_day_7 : decode cX1_day 7 = .ok (.ifCond .ne 5, 3) := by decide +kernel
theorem dX1_day_10 : decode cX1_day 10 = .ok (.iconst 0, 1) := by decide +kernel
theorem dX1_day_11 : decode cX1_day 11 = .ok (.ireturn, 1) := by decide +kernel
theorem dX1_day_12 : decode cX1_day 12 = .ok (.aload_n 0, 1) := by decide +kernel
theorem dX1_day_13 : decode cX1_day 13 = .ok (.iload_n 1, 1) := by decide +kernel
theorem dX1_day_14 : decode cX1_day 14 = .ok (.invokevirtual 53, 3) := by decide +kernel
theorem dX1_day_17 : decode cX1_day 17 = .ok (.iconst 1, 1) := by decide +kernel
theorem dX1_day_18 : decode cX1_day 18 = .ok (.ireturn, 1) := by decide +kernel
set_option maxRecDepth 20000 in
theorem ggX1_door_X1_within : GoodIn wsX1_door wsX1_within := goodIn_r _ [9] (by decide +kernel) (by decide +kernel)
set_option maxRecDepth 20000 in
theorem gX1_door_X1_within : GoodIn wsX1_door (va_wsS RX1 57 yX1_within wsX1_within) := goodIn_app (goodIn_of _ (by decide +kernel)) ggX1_door_X1_within
theorem dX1_door_0 : decode cX1_door 0 = .ok (.iload_n 1, 1) := by decide +kernel
theorem dX1_door_1 : decode cX1_door 1 = .ok (.iconst 0, 1) := by decide +kernel
theorem dX1_door_2 : decode cX1_door 2 = .ok (.iconst 2, 1) := by decide +kernel
theorem dX1_door_3 : decode cX1_door 3 = .ok (.invokestatic 57, 3) := by decide +kernel
theorem dX1_door_6 : decode cX1_door 6 = .ok (.ifCond .eq 36, 3) := by decide +kernel
theorem dX1_door_9 : decode cX1_door 9 = .ok (.iload_n 2, 1) := by decide +kernel
theorem dX1_door_10 : decode cX1_door 10 = .ok (.iconst 0, 1) := by decide +kernel
theorem dX1_door_11 : decode cX1_door 11 = .ok (.iconst 5, 1) := by decide +kernel
theorem dX1_door_12 : decode cX1_door 12 = .ok (.invokestatic 57, 3) := by decide +kernel
theorem dX1_door_15 : decode cX1_door 15 = .ok (.ifCond .eq 27, 3) := by decide +kernel
theorem dX1_door_18 : decode cX1_door 18 = .ok (.iload_n 3, 1) := by decide +kernel
theorem dX1_door_19 : decode cX1_door 19 = .ok (.iconst 0, 1) := by decide +kernel
theorem dX1_door_20 : decode cX1_door 20 = .ok (.iconst 5, 1) := by decide +kernel
theorem dX1_door_21 : decode cX1_door 21 = .ok (.invokestatic 57, 3) := by decide +kernel
theorem dX1_door_24 : decode cX1_door 24 = .ok (.ifCond .eq 18, 3) := by decide +kernel
theorem dX1_door_27 : decode cX1_door 27 = .ok (.iload 4, 2) := by decide +kernel
theorem dX1_door_29 : decode cX1_door 29 = .ok (.iconst 0, 1) := by decide +kernel
theorem dX1_door_30 : decode cX1_door 30 = .ok (.bipush 20, 2) := by decide +kernel
theorem dX1_door_32 : decode cX1_door 32 = .ok (.invokestatic 57, 3) := by decide +kernel
theorem dX1_door_35 : decode cX1_door 35 = .ok (.ifCond .eq 7, 3) := by decide +kernel
theorem dX1_door_38 : decode cX1_door 38 = .ok (.iconst 1, 1) := by decide +kernel
theorem dX1_door_39 : decode cX1_door 39 = .ok (.goto 4, 3) := by decide +kernel
theorem dX1_door_42 : decode cX1_door 42 = .ok (.iconst 0, 1) := by decide +kernel
theorem dX1_door_43 : decode cX1_door 43 = .ok (.istore 5, 2) := by decide +kernel
theorem dX1_door_45 : decode cX1_door 45 = .ok (.iload 5, 2) := by decide +kernel
theorem dX1_door_47 : decode cX1_door 47 = .ok (.ifCond .eq 12, 3) := by decide +kernel
theorem dX1_door_50 : decode cX1_door 50 = .ok (.aload_n 0, 1) := by decide +kernel
theorem dX1_door_51 : decode cX1_door 51 = .ok (.getfield 61, 3) := by decide +kernel
theorem dX1_door_54 : decode cX1_door 54 = .ok (.bipush 6, 2) := by decide +kernel
theorem dX1_door_56 : decode cX1_door 56 = .ok (.if_icmp .lt 5, 3) := by decide +kernel
theorem dX1_door_59 : decode cX1_door 59 = .ok (.iconst (-1), 1) := by decide +kernel
theorem dX1_door_60 : decode cX1_door 60 = .ok (.ireturn, 1) := by decide +kernel
theorem dX1_door_61 : decode cX1_door 61 = .ok (.aload_n 0, 1) := by decide +kernel
theorem dX1_door_62 : decode cX1_door 62 = .ok (.getfield 61, 3) := by decide +kernel
theorem dX1_door_65 : decode cX1_door 65 = .ok (.istore 6, 2) := by decide +kernel
theorem dX1_door_67 : decode cX1_door 67 = .ok (.aload_n 0, 1) := by decide +kernel
theorem dX1_door_68 : decode cX1_door 68 = .ok (.getfield 9, 3) := by decide +kernel
theorem dX1_door_71 : decode cX1_door 71 = .ok (.iload 6, 2) := by decide +kernel
theorem dX1_door_73 : decode cX1_door 73 = .ok (.iload_n 1, 1) := by decide +kernel
theorem dX1_door_74 : decode cX1_door 74 = .ok (.iastore, 1) := by decide +kernel
theorem dX1_door_75 : decode cX1_door 75 = .ok (.aload_n 0, 1) := by decide +kernel
theorem dX1_door_76 : decode cX1_door 76 = .ok (.getfield 13, 3) := by decide +kernel
theorem dX1_door_79 : decode cX1_door 79 = .ok (.iload 6, 2) := by decide +kernel
theorem dX1_door_81 : decode cX1_door 81 = .ok (.iload_n 2, 1) := by decide +kernel
theorem dX1_door_82 : decode cX1_door 82 = .ok (.iastore, 1) := by decide +kernel
theorem dX1_door_83 : decode cX1_door 83 = .ok (.aload_n 0, 1) := by decide +kernel
theorem dX1_door_84 : decode cX1_door 84 = .ok (.getfield 16, 3) := by decide +kernel
theorem dX1_door_87 : decode cX1_door 87 = .ok (.iload 6, 2) := by decide +kernel
theorem dX1_door_89 : decode cX1_door 89 = .ok (.iload_n 3, 1) := by decide +kernel
theorem dX1_door_90 : decode cX1_door 90 = .ok (.iastore, 1) := by decide +kernel
theorem dX1_door_91 : decode cX1_door 91 = .ok (.aload_n 0, 1) := by decide +kernel
theorem dX1_door_92 : decode cX1_door 92 = .ok (.getfield 19, 3) := by decide +kernel
theorem dX1_door_95 : decode cX1_door 95 = .ok (.iload 6, 2) := by decide +kernel
theorem dX1_door_97 : decode cX1_door 97 = .ok (.iload 4, 2) := by decide +kernel
theorem dX1_door_99 : decode cX1_door 99 = .ok (.iastore, 1) := by decide +kernel
theorem dX1_door_100 : decode cX1_door 100 = .ok (.aload_n 0, 1) := by decide +kernel
theorem dX1_door_101 : decode cX1_door 101 = .ok (.iload 6, 2) := by decide +kernel
theorem dX1_door_103 : decode cX1_door 103 = .ok (.iconst 1, 1) := by decide +kernel
theorem dX1_door_104 : decode cX1_door 104 = .ok (.iadd, 1) := by decide +kernel
theorem dX1_door_105 : decode cX1_door 105 = .ok (.putfield 61, 3) := by decide +kernel
theorem dX1_door_108 : decode cX1_door 108 = .ok (.iload 6, 2) := by decide +kernel
theorem dX1_door_110 : decode cX1_door 110 = .ok (.ireturn, 1) := by decide +kernel
set_option maxRecDepth 20000 in
theorem ggX1_row_X1_isDoor : GoodIn wsX1_row wsX1_isDoor := goodIn_r _ [7, 8, 9, 10, 6, 11, 20, 21, 22, 23, 24, 25, 26, 27, 28, 29, 30, 31, 32, 33, 34, 35] (by decide +kernel) (by decide +kernel)
set_option maxRecDepth 20000 in
theorem gX1_row_X1_isDoor : GoodIn wsX1_row (wsV RX1 65 RX1 yX1_isDoor wsX1_isDoor) := goodIn_app (goodIn_of _ (by decide +kernel)) ggX1_row_X1_isDoor
set_option maxRecDepth 20000 in
theorem ggX1_row_X1_isTick : GoodIn wsX1_row wsX1_isTick := goodIn_r _ [15, 16, 9, 10, 6, 11, 20, 21, 22, 23, 24, 25, 26, 27, 28, 29, 30, 31, 32, 33, 34, 35] (by decide +kernel) (by decide +kernel)
set_option maxRecDepth 20000 in
theorem gX1_row_X1_isTick : GoodIn wsX1_row (wsV RX1 69 RX1 yX1_isTick wsX1_isTick) := goodIn_app (goodIn_of _ (by decide +kernel)) ggX1_row_X1_isTick
set_option maxRecDepth 20000 in
theorem ggX1_row_X1_within : GoodIn wsX1_row wsX1_within := goodIn_r _ [11] (by decide +kernel) (by decide +kernel)
set_option maxRecDepth 20000 in
theorem gX1_row_X1_within : GoodIn wsX1_row (va_wsS RX1 57 yX1_within wsX1_within) := goodIn_app (goodIn_of _ (by decide +kernel)) ggX1_row_X1_within
set_option maxRecDepth 20000 in
theorem ggX1_row_X1_place : GoodIn wsX1_row wsX1_place := goodIn_r _ [19] (by decide +kernel) (by decide +kernel)
