set_option maxRecDepth 20000 in
theorem ggX3_price_X3_rank : GoodIn wsX3_price wsX3_rank := goodIn_r _ [7, 1, 2, 8, 9, 10, 11, 12, 13, 14, 15, 16, 17, 18, 19, 20, 21, 22, 23, 24] (by decide +kernel) (by decide +kernel)
set_option maxRecDepth 20000 in
theorem gX3_price_X3_rank : GoodIn wsX3_price (wsV RX3 79 RX3 yX3_rank wsX3_rank) := goodIn_app (goodIn_of _ (by decide +kernel)) ggX3_price_X3_rank
theorem dX3_price_0 : decode cX3_price 0 = .ok (.iconst 0, 1) := by decide +kernel
theorem dX3_price_1 : decode cX3_price 1 = .ok (.istore_n 2, 1) := by decide +kernel
theorem dX3_price_2 : decode cX3_price 2 = .ok (.iconst 0, 1) := by decide +kernel
theorem dX3_price_3 : decode cX3_price 3 = .ok (.istore_n 3, 1) := by decide +kernel
theorem dX3_price_4 : decode cX3_price 4 = .ok (.iload_n 3, 1) := by decide +kernel
theorem dX3_price_5 : decode cX3_price 5 = .ok (.aload_n 0, 1) := by decide +kernel
theorem dX3_price_6 : decode cX3_price 6 = .ok (.getfield 76, 3) := by decide +kernel
theorem dX3_price_9 : decode cX3_price 9 = .ok (.if_icmp .ge 39, 3) := by decide +kernel
theorem dX3_price_12 : decode cX3_price 12 = .ok (.aload_n 0, 1) := by decide +kernel
theorem dX3_price_13 : decode cX3_price 13 = .ok (.iload_n 3, 1) := by decide +kernel
theorem dX3_price_14 : decode cX3_price 14 = .ok (.invokevirtual 79, 3) := by decide +kernel
theorem dX3_price_17 : decode cX3_price 17 = .ok (.iload_n 1, 1) := by decide +kernel
theorem dX3_price_18 : decode cX3_price 18 = .ok (.if_icmp .ge 22, 3) := by decide +kernel
theorem dX3_price_21 : decode cX3_price 21 = .ok (.aload_n 0, 1) := by decide +kernel
theorem dX3_price_22 : decode cX3_price 22 = .ok (.getfield 26, 3) := by decide +kernel
theorem dX3_price_25 : decode cX3_price 25 = .ok (.iload_n 3, 1) := by decide +kernel
theorem dX3_price_26 : decode cX3_price 26 = .ok (.iaload, 1) := by decide +kernel
theorem dX3_price_27 : decode cX3_price 27 = .ok (.iload_n 2, 1) := by decide +kernel
theorem dX3_price_28 : decode cX3_price 28 = .ok (.if_icmp .le 12, 3) := by decide +kernel
theorem dX3_price_31 : decode cX3_price 31 = .ok (.aload_n 0, 1) := by decide +kernel
theorem dX3_price_32 : decode cX3_price 32 = .ok (.getfield 26, 3) := by decide +kernel
theorem dX3_price_35 : decode cX3_price 35 = .ok (.iload_n 3, 1) := by decide +kernel
theorem dX3_price_36 : decode cX3_price 36 = .ok (.iaload, 1) := by decide +kernel
theorem dX3_price_37 : decode cX3_price 37 = .ok (.goto 4, 3) := by decide +kernel
theorem dX3_price_40 : decode cX3_price 40 = .ok (.iload_n 2, 1) := by decide +kernel
theorem dX3_price_41 : decode cX3_price 41 = .ok (.istore_n 2, 1) := by decide +kernel
theorem dX3_price_42 : decode cX3_price 42 = .ok (.iinc 3 1, 3) := by decide +kernel
theorem dX3_price_45 : decode cX3_price 45 = .ok (.goto (-41), 3) := by decide +kernel
theorem dX3_price_48 : decode cX3_price 48 = .ok (.iload_n 2, 1) := by decide +kernel
theorem dX3_price_49 : decode cX3_price 49 = .ok (.ireturn, 1) := by decide +kernel
set_option maxRecDepth 20000 in
theorem ggX3_clearing_X3_isYear : GoodIn wsX3_clearing wsX3_isYear := goodIn_r _ [4] (by decide +kernel) (by decide +kernel)
set_option maxRecDepth 20000 in
theorem gX3_clearing_X3_isYear : GoodIn wsX3_clearing (va_wsS RX3 82 yX3_isYear wsX3_isYear) := goodIn_app (goodIn_of _ (by decide +kernel)) ggX3_clearing_X3_isYear
set_option maxRecDepth 20000 in
theorem ggX3_clearing_X3_goes : GoodIn wsX3_clearing wsX3_goes := goodIn_r _ [8, 9, 37, 38, 39, 40, 41, 42, 43, 44, 45, 46, 47, 48, 49, 50, 51, 52, 53] (by decide +kernel) (by decide +kernel)
set_option maxRecDepth 20000 in
theorem gX3_clearing_X3_goes : GoodIn wsX3_clearing (wsV RX3 61 RX3 yX3_goes wsX3_goes) := goodIn_app (goodIn_of _ (by decide +kernel)) ggX3_clearing_X3_goes
set_option maxRecDepth 20000 in
theorem ggX3_clearing_X3_taken : GoodIn wsX3_clearing wsX3_taken := goodIn_r _ [13, 14, 15, 16, 17, 18, 19, 20, 3, 21, 22, 23, 24, 25, 26, 27, 28, 29, 30, 31, 32, 37, 38, 39, 40, 41, 42, 43, 44, 45, 46, 47, 48, 49, 50, 51, 52, 53] (by decide +kernel) (by decide +kernel)
set_option maxRecDepth 20000 in
theorem gX3_clearing_X3_taken : GoodIn wsX3_clearing (wsV RX3 85 RX3 yX3_taken wsX3_taken) := goodIn_app (goodIn_of _ (by decide +kernel)) ggX3_clearing_X3_taken
set_option maxRecDepth 20000 in
theorem ggX3_clearing_X3_price : GoodIn wsX3_clearing wsX3_price := goodIn_r _ [36, 15, 17, 29, 30, 31, 3, 32, 37, 38, 39, 40, 41, 42, 43, 44, 45, 46, 47, 48, 49, 50, 51, 52, 53] (by decide +kernel) (by decide +kernel)
set_option maxRecDepth 20000 in
theorem gX3_clearing_X3_price : GoodIn wsX3_clearing (wsV RX3 88 RX3 yX3_price wsX3_price) := goodIn_app (goodIn_of _ (by decide +kernel)) ggX3_clearing_X3_price
theorem dX3_clearing_0 : decode cX3_clearing 0 = .ok (.aload_n 0, 1) := by decide +kernel
theorem dX3_clearing_1 : decode cX3_clearing 1 = .ok (.iload_n 1, 1) := by decide +kernel
theorem dX3_clearing_2 : decode cX3_clearing 2 = .ok (.invokestatic 82, 3) := by decide +kernel
theorem dX3_clearing_5 : decode cX3_clearing 5 = .ok (.iconst 1, 1) := by decide +kernel
theorem dX3_clearing_6 : decode cX3_clearing 6 = .ok (.iconst 1, 1) := by decide +kernel
theorem dX3_clearing_7 : decode cX3_clearing 7 = .ok (.invokevirtual 61, 3) := by decide +kernel
theorem dX3_clearing_10 : decode cX3_clearing 10 = .ok (.ifCond .eq 15, 3) := by decide +kernel
theorem dX3_clearing_13 : decode cX3_clearing 13 = .ok (.aload_n 0, 1) := by decide +kernel
theorem dX3_clearing_14 : decode cX3_clearing 14 = .ok (.aload_n 0, 1) := by decide +kernel
theorem dX3_clearing_15 : decode cX3_clearing 15 = .ok (.iload_n 1, 1) := by decide +kernel
theorem dX3_clearing_16 : decode cX3_clearing 16 = .ok (.invokevirtual 85, 3) := by decide +kernel
theorem dX3_clearing_19 : decode cX3_clearing 19 = .ok (.invokevirtual 88, 3) := by decide +kernel
theorem dX3_clearing_22 : decode cX3_clearing 22 = .ok (.goto 4, 3) := by decide +kernel
theorem dX3_clearing_25 : decode cX3_clearing 25 = .ok (.iconst 0, 1) := by decide +kernel
theorem dX3_clearing_26 : decode cX3_clearing 26 = .ok (.ireturn, 1) := by decide +kernel
set_option maxRecDepth 20000 in
theorem ggX3_clearingByClock_X3_clearing : GoodIn wsX3_clearingByClock wsX3_clearing := goodIn_r _ [5, 6, 7, 4, 8, 9, 10, 11, 12, 13, 14, 15, 16, 17, 18, 19, 20, 21, 22, 23, 24, 25, 26, 27, 28, 29, 30, 31, 32, 33, 34, 35, 36, 37, 38, 39, 40, 41, 42, 43, 44, 45, 46, 47, 48, 49, 50, 51, 52, 53, 54, 55, 56, 57] (by decide +kernel) (by decide +kernel)
set_option maxRecDepth 20000 in
theorem gX3_clearingByClock_X3_clearing : GoodIn wsX3_clearingByClock (wsV RX3 91 RX3 yX3_clearing wsX3_clearing) := goodIn_app (goodIn_of _ (by decide +kernel)) ggX3_clearingByClock_X3_clearing
theorem dX3_clearingByClock_0 : decode cX3_clearingByClock 0 = .ok (.aload_n 0, 1) := by decide +kernel
theorem dX3_clearingByClock_1 : decode cX3_clearingByClock 1 = .ok (.iload_n 1, 1) := by decide +kernel
theorem dX3_clearingByClock_2 : decode cX3_clearingByClock 2 = .ok (.invokevirtual 91, 3) := by decide +kernel
theorem dX3_clearingByClock_5 : decode cX3_clearingByClock 5 = .ok (.ireturn, 1) := by decide +kernel
set_option maxRecDepth 20000 in
theorem ggX3_wouldTake_X3_isYear : GoodIn wsX3_wouldTake wsX3_isYear := goodIn_r _ [5] (by decide +kernel) (by decide +kernel)
set_option maxRecDepth 20000 in
theorem gX3_wouldTake_X3_isYear : GoodIn wsX3_wouldTake (va_wsS RX3 82 yX3_isYear wsX3_isYear) := goodIn_app (goodIn_of _ (by decide +kernel)) ggX3_wouldTake_X3_isYear
set_option maxRecDepth 20000 in
theorem ggX3_wouldTake_X3_goes : GoodIn wsX3_wouldTake wsX3_goes := goodIn_r _ [9, 10, 33, 34, 35, 36, 37, 38, 39, 40, 41, 42, 43, 44, 45, 46, 47, 48, 49] (by decide +kernel) (by decide +kernel)
set_option maxRecDepth 20000 in
theorem gX3_wouldTake_X3_goes : GoodIn wsX3_wouldTake (wsV RX3 61 RX3 yX3_goes wsX3_goes) := goodIn_app (goodIn_of _ (by decide +kernel)) ggX3_wouldTake_X3_goes
set_option maxRecDepth 20000 in
theorem ggX3_wouldTake_X3_rank : GoodIn wsX3_wouldTake wsX3_rank := goodIn_r _ [14, 1, 15, 33, 34, 35, 36, 37, 38, 39, 40, 41, 42, 43, 44, 45, 46, 47, 48, 49] (by decide +kernel) (by decide +kernel)
set_option maxRecDepth 20000 in
theorem gX3_wouldTake_X3_rank : GoodIn wsX3_wouldTake (wsV RX3 79 RX3 yX3_rank wsX3_rank) := goodIn_app (goodIn_of _ (by decide +kernel)) ggX3_wouldTake_X3_rank
set_option maxRecDepth 20000 in
theorem ggX3_wouldTake_X3_taken : GoodIn wsX3_wouldTake wsX3_taken := goodIn_r _ [19, 20, 1, 21, 15, 22, 23, 24, 4, 25, 26, 27, 28, 29, 30, 31, 32, 11, 12, 13, 14, 33, 34, 35, 36, 37, 38, 39, 40, 41, 42, 43, 44, 45, 46, 47, 48, 49] (by decide +kernel) (by decide +kernel)
set_option maxRecDepth 20000 in
theorem gX3_wouldTake_X3_taken : GoodIn wsX3_wouldTake (wsV RX3 85 RX3 yX3_taken wsX3_taken) := goodIn_app (goodIn_of _ (by decide +kernel)) ggX3_wouldTake_X3_taken
theorem dX3_wouldTake_0 : decode cX3_wouldTake 0 = .ok (.aload_n 0, 1) := by decide +kernel
theorem dX3_wouldTake_1 : decode cX3_wouldTake 1 = .ok (.iload_n 1, 1) := by decide +kernel
theorem dX3_wouldTake_2 : decode cX3_wouldTake 2 = .ok (.ifCond .lt 22, 3) := by decide +kernel
theorem dX3_wouldTake_5 : decode cX3_wouldTake 5 = .ok (.iload_n 1, 1) := by decide +kernel
theorem dX3_wouldTake_6 : decode cX3_wouldTake 6 = .ok (.aload_n 0, 1) := by decide +kernel
theorem dX3_wouldTake_7 : decode cX3_wouldTake 7 = .ok (.getfield 76, 3) := by decide +kernel
theorem dX3_wouldTake_10 : decode cX3_wouldTake 10 = .ok (.if_icmp .ge 14, 3) := by decide +kernel
theorem dX3_wouldTake_13 : decode cX3_wouldTake 13 = .ok (.iload_n 2, 1) := by decide +kernel
theorem dX3_wouldTake_14 : decode cX3_wouldTake 14 = .ok (.invokestatic 82, 3) := by decide +kernel
theorem dX3_wouldTake_17 : decode cX3_wouldTake 17 = .ok (.ifCond .eq 7, 3) := by decide +kernel
theorem dX3_wouldTake_20 : decode cX3_wouldTake 20 = .ok (.iconst 1, 1) := by decide +kernel
theorem dX3_wouldTake_21 : decode cX3_wouldTake 21 = .ok (.goto 4, 3) := by decide +kernel
theorem dX3_wouldTake_24 : decode cX3_wouldTake 24 = .ok (.iconst 0, 1) := by decide +kernel
theorem dX3_wouldTake_25 : decode cX3_wouldTake 25 = .ok (.iconst 1, 1) := by decide +kernel
theorem dX3_wouldTake_26 : decode cX3_wouldTake 26 = .ok (.iconst 1, 1) := by decide +kernel
theorem dX3_wouldTake_27 : decode cX3_wouldTake 27 = .ok (.invokevirtual 61, 3) := by decide +kernel
theorem dX3_wouldTake_30 : decode cX3_wouldTake 30 = .ok (.ifCond .eq 20, 3) := by decide +kernel
theorem dX3_wouldTake_33 : decode cX3_wouldTake 33 = .ok (.aload_n 0, 1) := by decide +kernel
theorem dX3_wouldTake_34 : decode cX3_wouldTake 34 = .ok (.iload_n 1, 1) := by decide +kernel
theorem dX3_wouldTake_35 : decode cX3_wouldTake 35 = .ok (.invokevirtual 79, 3) := by decide +kernel
theorem dX3_wouldTake_38 : decode cX3_wouldTake 38 = .ok (.aload_n 0, 1) := by decide +kernel
theorem dX3_wouldTake_39 : decode cX3_wouldTake 39 = .ok (.iload_n 2, 1) := by decide +kernel
theorem dX3_wouldTake_40 : decode cX3_wouldTake 40 = .ok (.invokevirtual 85, 3) := by decide +kernel
theorem dX3_wouldTake_43 : decode cX3_wouldTake 43 = .ok (.if_icmp .ge 7, 3) := by decide +kernel
theorem dX3_wouldTake_46 : decode cX3_wouldTake 46 = .ok (.iconst 1, 1) := by decide +kernel
theorem dX3_wouldTake_47 : decode cX3_wouldTake 47 = .ok (.goto 4, 3) := by decide +kernel
theorem dX3_wouldTake_50 : decode cX3_wouldTake 50 = .ok (.iconst 0, 1) := by decide +kernel
theorem dX3_wouldTake_51 : decode cX3_wouldTake 51 = .ok (.ireturn, 1) := by decide +kernel
set_option maxRecDepth 20000 in
theorem ggX3_run_X3_isYear : GoodIn wsX3_run wsX3_isYear := goodIn_r _ [11] (by decide +kernel) (by decide +kernel)
set_option maxRecDepth 20000 in
theorem gX3_run_X3_isYear : GoodIn wsX3_run (va_wsS RX3 82 yX3_isYear wsX3_isYear) := goodIn_app (goodIn_of _ (by decide +kernel)) ggX3_run_X3_isYear
set_option maxRecDepth 20000 in
theorem ggX3_run_X3_goes : GoodIn wsX3_run wsX3_goes := goodIn_r _ [15, 16, 44, 45, 46, 47, 48, 49, 50, 51, 52, 53, 54, 55, 56, 57, 58, 59, 60] (by decide +kernel) (by decide +kernel)
set_option maxRecDepth 20000 in
theorem gX3_run_X3_goes : GoodIn wsX3_run (wsV RX3 61 RX3 yX3_goes wsX3_goes) := goodIn_app (goodIn_of _ (by decide +kernel)) ggX3_run_X3_goes
set_option maxRecDepth 20000 in
theorem ggX3_run_X3_taken : GoodIn wsX3_run wsX3_taken := goodIn_r _ [20, 3, 1, 4, 21, 22, 23, 24, 10, 25, 26, 27, 28, 29, 30, 31, 32, 33, 34, 35, 36, 44, 45, 46, 47, 48, 49, 50, 51, 52, 53, 54, 55, 56, 57, 58, 59, 60] (by decide +kernel) (by decide +kernel)
set_option maxRecDepth 20000 in
theorem gX3_run_X3_taken : GoodIn wsX3_run (wsV RX3 85 RX3 yX3_taken wsX3_taken) := goodIn_app (goodIn_of _ (by decide +kernel)) ggX3_run_X3_taken
set_option maxRecDepth 20000 in
theorem ggX3_run_X3_price : GoodIn wsX3_run wsX3_price := goodIn_r _ [40, 1, 21, 33, 34, 35, 10, 36, 44, 45, 46, 47, 48, 49, 50, 51, 52, 53, 54, 55, 56, 57, 58, 59, 60] (by decide +kernel) (by decide +kernel)
set_option maxRecDepth 20000 in
theorem gX3_run_X3_price : GoodIn wsX3_run (wsV RX3 88 RX3 yX3_price wsX3_price) := goodIn_app (goodIn_of _ (by decide +kernel)) ggX3_run_X3_price
set_option maxRecDepth 20000 in
theorem ggX3_run_X3_rank : GoodIn wsX3_run wsX3_rank := goodIn_r _ [36, 1, 21, 44, 45, 46, 47, 48, 49, 50, 51, 52, 53, 54, 55, 56, 57, 58, 59, 60] (by decide +kernel) (by decide +kernel)
set_option maxRecDepth 20000 in
theorem gX3_run_X3_rank : GoodIn wsX3_run (wsV RX3 79 RX3 yX3_rank wsX3_rank) := goodIn_app (goodIn_of _ (by decide +kernel)) ggX3_run_X3_rank
set_option maxRecDepth 20000 in
theorem ggX3_run_X3_place : GoodIn wsX3_run wsX3_place := goodIn_r _ [43] (by decide +kernel) (by decide +kernel)
set_option maxRecDepth 20000 in
theorem gX3_run_X3_place : GoodIn wsX3_run (va_wsS RX3 94 yX3_place wsX3_place) := goodIn_app (goodIn_of _ (by decide +kernel)) ggX3_run_X3_place
theorem dX3_run_0 : decode cX3_run 0 = .ok (.aload_n 0, 1) := by decide +kernel
theorem dX3_run_1 : decode cX3_run 1 = .ok (.iload_n 1, 1) := by decide +kernel
theorem dX3_run_2 : decode cX3_run 2 = .ok (.invokestatic 82, 3) := by decide +kernel
theorem dX3_run_5 : decode cX3_run 5 = .ok (.aload_n 0, 1) := by decide +kernel
theorem dX3_run_6 : decode cX3_run 6 = .ok (.getfield 76, 3) := by decide +kernel
theorem dX3_run_9 : decode cX3_run 9 = .ok (.ifCond .le 7, 3) := by decide +kernel
theorem dX3_run_12 : decode cX3_run 12 = .ok (.iconst 1, 1) := by decide +kernel
theorem dX3_run_13 : decode cX3_run 13 = .ok (.goto 4, 3) := by decide +kernel
theorem dX3_run_16 : decode cX3_run 16 = .ok (.iconst 0, 1) := by decide +kernel
theorem dX3_run_17 : decode cX3_run 17 = .ok (.iconst 1, 1) := by decide +kernel
theorem dX3_run_18 : decode cX3_run 18 = .ok (.invokevirtual 61, 3) := by decide +kernel
theorem dX3_run_21 : decode cX3_run 21 = .ok (.ifCond .ne 5, 3) := by decide +kernel
theorem dX3_run_24 : decode cX3_run 24 = .ok (.iconst 0, 1) := by decide +kernel
theorem dX3_run_25 : decode cX3_run 25 = .ok (.ireturn, 1) := by decide +kernel
theorem dX3_run_26 : decode cX3_run 26 = .ok (.aload_n 0, 1) := by decide +kernel
theorem dX3_run_27 : decode cX3_run 27 = .ok (.iload_n 1, 1) := by decide +kernel
theorem dX3_run_28 : decode cX3_run 28 = .ok (.invokevirtual 85, 3) := by decide +kernel
theorem dX3_run_31 : decode cX3_run 31 = .ok (.istore_n 2, 1) := by decide +kernel
theorem dX3_run_32 : decode cX3_run 32 = .ok (.aload_n 0, 1) := by decide +kernel
theorem dX3_run_33 : decode cX3_run 33 = .ok (.iload_n 2, 1) := by decide +kernel
theorem dX3_run_34 : decode cX3_run 34 = .ok (.invokevirtual 88, 3) := by decide +kernel
theorem dX3_run_37 : decode cX3_run 37 = .ok (.istore_n 3, 1) := by decide +kernel
theorem dX3_run_38 : decode cX3_run 38 = .ok (.iconst 0, 1) := by decide +kernel
theorem dX3_run_39 : decode cX3_run 39 = .ok (.istore 4, 2) := by decide +kernel
theorem dX3_run_41 : decode cX3_run 41 = .ok (.iload 4, 2) := by decide +kernel
theorem dX3_run_43 : decode cX3_run 43 = .ok (.aload_n 0, 1) := by decide +kernel
theorem dX3_run_44 : decode cX3_run 44 = .ok (.getfield 76, 3) := by decide +kernel
theorem dX3_run_47 : decode cX3_run 47 = .ok (.if_icmp .ge 141, 3) := by decide +kernel
theorem dX3_run_50 : decode cX3_run 50 = .ok (.iload_n 1, 1) := by decide +kernel
theorem dX3_run_51 : decode cX3_run 51 = .ok (.istore 5, 2) := by decide +kernel
theorem dX3_run_53 : decode cX3_run 53 = .ok (.iload 5, 2) := by decide +kernel
theorem dX3_run_55 : decode cX3_run 55 = .ok (.bipush 8, 2) := by decide +kernel
theorem dX3_run_57 : decode cX3_run 57 = .ok (.if_icmp .ge 125, 3) := by decide +kernel
theorem dX3_run_60 : decode cX3_run 60 = .ok (.iload 5, 2) := by decide +kernel
theorem dX3_run_62 : decode cX3_run 62 = .ok (.iload_n 1, 1) := by decide +kernel
theorem dX3_run_63 : decode cX3_run 63 = .ok (.aload_n 0, 1) := by decide +kernel
theorem dX3_run_64 : decode cX3_run 64 = .ok (.getfield 29, 3) := by decide +kernel
theorem dX3_run_67 : decode cX3_run 67 = .ok (.iload 4, 2) := by decide +kernel
theorem dX3_run_69 : decode cX3_run 69 = .ok (.iaload, 1) := by decide +kernel
theorem dX3_run_70 : decode cX3_run 70 = .ok (.iadd, 1) := by decide +kernel
theorem dX3_run_71 : decode cX3_run 71 = .ok (.if_icmp .ge 111, 3) := by decide +kernel
theorem dX3_run_74 : decode cX3_run 74 = .ok (.aload_n 0, 1) := by decide +kernel
theorem dX3_run_75 : decode cX3_run 75 = .ok (.iload 4, 2) := by decide +kernel
theorem dX3_run_77 : decode cX3_run 77 = .ok (.invokevirtual 79, 3) := by decide +kernel
theorem dX3_run_80 : decode cX3_run 80 = .ok (.iload_n 2, 1) := by decide +kernel
theorem dX3_run_81 : decode cX3_run 81 = .ok (.if_icmp .ge 101, 3) := by decide +kernel
theorem dX3_run_84 : decode cX3_run 84 = .ok (.aload_n 0, 1) := by decide +kernel
theorem dX3_run_85 : decode cX3_run 85 = .ok (.getfield 32, 3) := by decide +kernel
theorem dX3_run_88 : decode cX3_run 88 = .ok (.iload 5, 2) := by decide +kernel
theorem dX3_run_90 : decode cX3_run 90 = .ok (.dup2, 1) := by decide +kernel
theorem dX3_run_91 : decode cX3_run 91 = .ok (.iaload, 1) := by decide +kernel
theorem dX3_run_92 : decode cX3_run 92 = .ok (.aload_n 0, 1) := by decide +kernel
theorem dX3_run_93 : decode cX3_run 93 = .ok (.getfield 23, 3) := by decide +kernel
theorem dX3_run_96 : decode cX3_run 96 = .ok (.iload 4, 2) := by decide +kernel
theorem dX3_run_98 : decode cX3_run 98 = .ok (.iaload, 1) := by decide +kernel
theorem dX3_run_99 : decode cX3_run 99 = .ok (.iadd, 1) := by decide +kernel
theorem dX3_run_100 : decode cX3_run 100 = .ok (.iastore, 1) := by decide +kernel
theorem dX3_run_101 : decode cX3_run 101 = .ok (.aload_n 0, 1) := by decide +kernel
theorem dX3_run_102 : decode cX3_run 102 = .ok (.getfield 35, 3) := by decide +kernel
theorem dX3_run_105 : decode cX3_run 105 = .ok (.aload_n 0, 1) := by decide +kernel
theorem dX3_run_106 : decode cX3_run 106 = .ok (.getfield 19, 3) := by decide +kernel
theorem dX3_run_109 : decode cX3_run 109 = .ok (.iload 4, 2) := by decide +kernel
theorem dX3_run_111 : decode cX3_run 111 = .ok (.iaload, 1) := by decide +kernel
theorem dX3_run_112 : decode cX3_run 112 = .ok (.bipush 8, 2) := by decide +kernel
theorem dX3_run_114 : decode cX3_run 114 = .ok (.imul, 1) := by decide +kernel
theorem dX3_run_115 : decode cX3_run 115 = .ok (.iload 5, 2) := by decide +kernel
theorem dX3_run_117 : decode cX3_run 117 = .ok (.iadd, 1) := by decide +kernel
theorem dX3_run_118 : decode cX3_run 118 = .ok (.dup2, 1) := by decide +kernel
theorem dX3_run_119 : decode cX3_run 119 = .ok (.iaload, 1) := by decide +kernel
theorem dX3_run_120 : decode cX3_run 120 = .ok (.aload_n 0, 1) := by decide +kernel
theorem dX3_run_121 : decode cX3_run 121 = .ok (.getfield 23, 3) := by decide +kernel
theorem dX3_run_124 : decode cX3_run 124 = .ok (.iload 4, 2) := by decide +kernel
theorem dX3_run_126 : decode cX3_run 126 = .ok (.iaload, 1) := by decide +kernel
theorem dX3_run_127 : decode cX3_run 127 = .ok (.iload_n 3, 1) := by decide +kernel
theorem dX3_run_128 : decode cX3_run 128 = .ok (.imul, 1) := by decide +kernel
theorem dX3_run_129 : decode cX3_run 129 = .ok (.iadd, 1) := by decide +kernel
theorem dX3_run_130 : decode cX3_run 130 = .ok (.iastore, 1) := by decide +kernel
theorem dX3_run_131 : decode cX3_run 131 = .ok (.iconst 0, 1) := by decide +kernel
theorem dX3_run_132 : decode cX3_run 132 = .ok (.istore 6, 2) := by decide +kernel
theorem dX3_run_134 : decode cX3_run 134 = .ok (.iload 6, 2) := by decide +kernel
theorem dX3_run_136 : decode cX3_run 136 = .ok (.bipush 12, 2) := by decide +kernel
theorem dX3_run_138 : decode cX3_run 138 = .ok (.if_icmp .ge 38, 3) := by decide +kernel
theorem dX3_run_141 : decode cX3_run 141 = .ok (.aload_n 0, 1) := by decide +kernel
theorem dX3_run_142 : decode cX3_run 142 = .ok (.getfield 38, 3) := by decide +kernel
theorem dX3_run_145 : decode cX3_run 145 = .ok (.aload_n 0, 1) := by decide +kernel
theorem dX3_run_146 : decode cX3_run 146 = .ok (.getfield 19, 3) := by decide +kernel
theorem dX3_run_149 : decode cX3_run 149 = .ok (.iload 4, 2) := by decide +kernel
theorem dX3_run_151 : decode cX3_run 151 = .ok (.iaload, 1) := by decide +kernel
theorem dX3_run_152 : decode cX3_run 152 = .ok (.iload 5, 2) := by decide +kernel
theorem dX3_run_154 : decode cX3_run 154 = .ok (.iload 6, 2) := by decide +kernel
theorem dX3_run_156 : decode cX3_run 156 = .ok (.invokestatic 94, 3) := by decide +kernel
theorem dX3_run_159 : decode cX3_run 159 = .ok (.dup2, 1) := by decide +kernel
theorem dX3_run_160 : decode cX3_run 160 = .ok (.iaload, 1) := by decide +kernel
theorem dX3_run_161 : decode cX3_run 161 = .ok (.aload_n 0, 1) := by decide +kernel
theorem dX3_run_162 : decode cX3_run 162 = .ok (.getfield 23, 3) := by decide +kernel
theorem dX3_run_165 : decode cX3_run 165 = .ok (.iload 4, 2) := by decide +kernel
theorem dX3_run_167 : decode cX3_run 167 = .ok (.iaload, 1) := by decide +kernel
theorem dX3_run_168 : decode cX3_run 168 = .ok (.iadd, 1) := by decide +kernel
theorem dX3_run_169 : decode cX3_run 169 = .ok (.iastore, 1) := by decide +kernel
theorem dX3_run_170 : decode cX3_run 170 = .ok (.iinc 6 1, 3) := by decide +kernel
theorem dX3_run_173 : decode cX3_run 173 = .ok (.goto (-39), 3) := by decide +kernel
theorem dX3_run_176 : decode cX3_run 176 = .ok (.iinc 5 1, 3) := by decide +kernel
theorem dX3_run_179 : decode cX3_run 179 = .ok (.goto (-126), 3) := by decide +kernel
theorem dX3_run_182 : decode cX3_run 182 = .ok (.iinc 4 1, 3) := by decide +kernel
theorem dX3_run_185 : decode cX3_run 185 = .ok (.goto (-144), 3) := by decide +kernel
theorem dX3_run_188 : decode cX3_run 188 = .ok (.aload_n 0, 1) := by decide +kernel
theorem dX3_run_189 : decode cX3_run 189 = .ok (.iconst 0, 1) := by decide +kernel
theorem dX3_run_190 : decode cX3_run 190 = .ok (.putfield 76, 3) := by decide +kernel
theorem dX3_run_193 : decode cX3_run 193 = .ok (.iload_n 2, 1) := by decide +kernel
theorem dX3_run_194 : decode cX3_run 194 = .ok (.ireturn, 1) := by decide +kernel
set_option maxRecDepth 20000 in
theorem ggX3_bought_X3_isYear : GoodIn wsX3_bought wsX3_isYear := goodIn_r _ [5] (by decide +kernel) (by decide +kernel)
set_option maxRecDepth 20000 in
theorem gX3_bought_X3_isYear : GoodIn wsX3_bought (va_wsS RX3 82 yX3_isYear wsX3_isYear) := goodIn_app (goodIn_of _ (by decide +kernel)) ggX3_bought_X3_isYear
set_option maxRecDepth 20000 in
theorem ggX3_bought_X3_goes : GoodIn wsX3_bought wsX3_goes := goodIn_r _ [9, 10, 11, 12, 13, 14, 15, 16, 17, 18, 19, 20, 21, 22, 23, 24, 25, 26, 27] (by decide +kernel) (by decide +kernel)
set_option maxRecDepth 20000 in
theorem gX3_bought_X3_goes : GoodIn wsX3_bought (wsV RX3 61 RX3 yX3_goes wsX3_goes) := goodIn_app (goodIn_of _ (by decide +kernel)) ggX3_bought_X3_goes
theorem dX3_bought_0 : decode cX3_bought 0 = .ok (.aload_n 0, 1) := by decide +kernel
theorem dX3_bought_1 : decode cX3_bought 1 = .ok (.iload_n 1, 1) := by decide +kernel
theorem dX3_bought_2 : decode cX3_bought 2 = .ok (.invokestatic 82, 3) := by decide +kernel
theorem dX3_bought_5 : decode cX3_bought 5 = .ok (.iconst 1, 1) := by decide +kernel
theorem dX3_bought_6 : decode cX3_bought 6 = .ok (.iconst 1, 1) := by decide +kernel
theorem dX3_bought_7 : decode cX3_bought 7 = .ok (.invokevirtual 61, 3) := by decide +kernel
theorem dX3_bought_10 : decode cX3_bought 10 = .ok (.ifCond .eq 12, 3) := by decide +kernel
theorem dX3_bought_13 : decode cX3_bought 13 = .ok (.aload_n 0, 1) := by decide +kernel
theorem dX3_bought_14 : decode cX3_bought 14 = .ok (.getfield 32, 3) := by decide +kernel
theorem dX3_bought_17 : decode cX3_bought 17 = .ok (.iload_n 1, 1) := by decide +kernel
theorem dX3_bought_18 : decode cX3_bought 18 = .ok (.iaload, 1) := by decide +kernel
theorem dX3_bought_19 : decode cX3_bought 19 = .ok (.goto 4, 3) := by decide +kernel
theorem dX3_bought_22 : decode cX3_bought 22 = .ok (.iconst 0, 1) := by decide +kernel
theorem dX3_bought_23 : decode cX3_bought 23 = .ok (.ireturn, 1) := by decide +kernel
set_option maxRecDepth 20000 in
theorem ggX3_income_X3_isParty : GoodIn wsX3_income wsX3_isParty := goodIn_r _ [5] (by decide +kernel) (by decide +kernel)
set_option maxRecDepth 20000 in
theorem gX3_income_X3_isParty : GoodIn wsX3_income (va_wsS RX3 72 yX3_isParty wsX3_isParty) := goodIn_app (goodIn_of _ (by decide +kernel)) ggX3_income_X3_isParty
set_option maxRecDepth 20000 in
theorem ggX3_income_X3_isYear : GoodIn wsX3_income wsX3_isYear := goodIn_r _ [8] (by decide +kernel) (by decide +kernel)
set_option maxRecDepth 20000 in
theorem gX3_income_X3_isYear : GoodIn wsX3_income (va_wsS RX3 82 yX3_isYear wsX3_isYear) := goodIn_app (goodIn_of _ (by decide +kernel)) ggX3_income_X3_isYear
set_option maxRecDepth 20000 in
theorem ggX3_income_X3_goes : GoodIn wsX3_income wsX3_goes := goodIn_r _ [12, 13, 14, 15, 16, 17, 18, 19, 20, 21, 22, 23, 24, 25, 26, 27, 28, 29, 30] (by decide +kernel) (by decide +kernel)
set_option maxRecDepth 20000 in
theorem gX3_income_X3_goes : GoodIn wsX3_income (wsV RX3 61 RX3 yX3_goes wsX3_goes) := goodIn_app (goodIn_of _ (by decide +kernel)) ggX3_income_X3_goes
theorem dX3_income_0 : decode cX3_income 0 = .ok (.aload_n 0, 1) := by decide +kernel
theorem dX3_income_1 : decode cX3_income 1 = .ok (.iload_n 1, 1) := by decide +kernel
theorem dX3_income_2 : decode cX3_income 2 = .ok (.invokestatic 72, 3) := by decide +kernel
theorem dX3_income_5 : decode cX3_income 5 = .ok (.ifCond .eq 14, 3) := by decide +kernel
theorem dX3_income_8 : decode cX3_income 8 = .ok (.iload_n 2, 1) := by decide +kernel
theorem dX3_income_9 : decode cX3_income 9 = .ok (.invokestatic 82, 3) := by decide +kernel
theorem dX3_income_12 : decode cX3_income 12 = .ok (.ifCond .eq 7, 3) := by decide +kernel
theorem dX3_income_15 : decode cX3_income 15 = .ok (.iconst 1, 1) := by decide +kernel
theorem dX3_income_16 : decode cX3_income 16 = .ok (.goto 4, 3) := by decide +kernel
theorem dX3_income_19 : decode cX3_income 19 = .ok (.iconst 0, 1) := by decide +kernel
theorem dX3_income_20 : decode cX3_income 20 = .ok (.iconst 1, 1) := by decide +kernel
theorem dX3_income_21 : decode cX3_income 21 = .ok (.iconst 1, 1) := by decide +kernel
theorem dX3_income_22 : decode cX3_income 22 = .ok (.invokevirtual 61, 3) := by decide +kernel
theorem dX3_income_25 : decode cX3_income 25 = .ok (.ifCond .eq 17, 3) := by decide +kernel
theorem dX3_income_28 : decode cX3_income 28 = .ok (.aload_n 0, 1) := by decide +kernel
theorem dX3_income_29 : decode cX3_income 29 = .ok (.getfield 35, 3) := by decide +kernel
theorem dX3_income_32 : decode cX3_income 32 = .ok (.iload_n 1, 1) := by decide +kernel
theorem dX3_income_33 : decode cX3_income 33 = .ok (.bipush 8, 2) := by decide +kernel
theorem dX3_income_35 : decode cX3_income 35 = .ok (.imul, 1) := by decide +kernel
theorem dX3_income_36 : decode cX3_income 36 = .ok (.iload_n 2, 1) := by decide +kernel
theorem dX3_income_37 : decode cX3_income 37 = .ok (.iadd, 1) := by decide +kernel
theorem dX3_income_38 : decode cX3_income 38 = .ok (.iaload, 1) := by decide +kernel
theorem dX3_income_39 : decode cX3_income 39 = .ok (.goto 4, 3) := by decide +kernel
theorem dX3_income_42 : decode cX3_income 42 = .ok (.iconst 0, 1) := by decide +kernel
theorem dX3_income_43 : decode cX3_income 43 = .ok (.ireturn, 1) := by decide +kernel
set_option maxRecDepth 20000 in
theorem ggX3_obligation_X3_isParty : GoodIn wsX3_obligation wsX3_isParty := goodIn_r _ [5] (by decide +kernel) (by decide +kernel)
set_option maxRecDepth 20000 in
theorem gX3_obligation_X3_isParty : GoodIn wsX3_obligation (va_wsS RX3 72 yX3_isParty wsX3_isParty) := goodIn_app (goodIn_of _ (by decide +kernel)) ggX3_obligation_X3_isParty
set_option maxRecDepth 20000 in
theorem ggX3_obligation_X3_isYear : GoodIn wsX3_obligation wsX3_isYear := goodIn_r _ [8] (by decide +kernel) (by decide +kernel)
set_option maxRecDepth 20000 in
theorem gX3_obligation_X3_isYear : GoodIn wsX3_obligation (va_wsS RX3 82 yX3_isYear wsX3_isYear) := goodIn_app (goodIn_of _ (by decide +kernel)) ggX3_obligation_X3_isYear
set_option maxRecDepth 20000 in
theorem ggX3_obligation_X3_isHour : GoodIn wsX3_obligation wsX3_isHour := goodIn_r _ [11] (by decide +kernel) (by decide +kernel)
set_option maxRecDepth 20000 in
theorem gX3_obligation_X3_isHour : GoodIn wsX3_obligation (va_wsS RX3 98 yX3_isHour wsX3_isHour) := goodIn_app (goodIn_of _ (by decide +kernel)) ggX3_obligation_X3_isHour
set_option maxRecDepth 20000 in
theorem ggX3_obligation_X3_goes : GoodIn wsX3_obligation wsX3_goes := goodIn_r _ [15, 16, 20, 21, 22, 23, 24, 25, 26, 27, 28, 29, 30, 31, 32, 33, 34, 35, 36] (by decide +kernel) (by decide +kernel)
set_option maxRecDepth 20000 in
theorem gX3_obligation_X3_goes : GoodIn wsX3_obligation (wsV RX3 61 RX3 yX3_goes wsX3_goes) := goodIn_app (goodIn_of _ (by decide +kernel)) ggX3_obligation_X3_goes
set_option maxRecDepth 20000 in
theorem ggX3_obligation_X3_place : GoodIn wsX3_obligation wsX3_place := goodIn_r _ [19] (by decide +kernel) (by decide +kernel)
set_option maxRecDepth 20000 in
theorem gX3_obligation_X3_place : GoodIn wsX3_obligation (va_wsS RX3 94 yX3_place wsX3_place) := goodIn_app (goodIn_of _ (by decide +kernel)) ggX3_obligation_X3_place
theorem dX3_obligation_0 : decode cX3_obligation 0 = .ok (.aload_n 0, 1) := by decide +kernel
theorem dX3_obligation_1 : decode cX3_obligation 1 = .ok (.iload_n 1, 1) := by decide +kernel
theorem dX3_obligation_2 : decode cX3_obligation 2 = .ok (.invokestatic 72, 3) := by decide +kernel
theorem dX3_obligation_5 : decode cX3_obligation 5 = .ok (.ifCond .eq 21, 3) := by decide +kernel
theorem dX3_obligation_8 : decode cX3_obligation 8 = .ok (.iload_n 2, 1) := by decide +kernel
theorem dX3_obligation_9 : decode cX3_obligation 9 = .ok (.invokestatic 82, 3) := by decide +kernel
theorem dX3_obligation_12 : decode cX3_obligation 12 = .ok (.ifCond .eq 14, 3) := by decide +kernel
theorem dX3_obligation_15 : decode cX3_obligation 15 = .ok (.iload_n 3, 1) := by decide +kernel
theorem dX3_obligation_16 : decode cX3_obligation 16 = .ok (.invokestatic 98, 3) := by decide +kernel
theorem dX3_obligation_19 : decode cX3_obligation 19 = .ok (.ifCond .eq 7, 3) := by decide +kernel
theorem dX3_obligation_22 : decode cX3_obligation 22 = .ok (.iconst 1, 1) := by decide +kernel
theorem dX3_obligation_23 : decode cX3_obligation 23 = .ok (.goto 4, 3) := by decide +kernel
theorem dX3_obligation_26 : decode cX3_obligation 26 = .ok (.iconst 0, 1) := by decide +kernel
theorem dX3_obligation_27 : decode cX3_obligation 27 = .ok (.iconst 1, 1) := by decide +kernel
theorem dX3_obligation_28 : decode cX3_obligation 28 = .ok (.iconst 1, 1) := by decide +kernel
theorem dX3_obligation_29 : decode cX3_obligation 29 = .ok (.invokevirtual 61, 3) := by decide +kernel
theorem dX3_obligation_32 : decode cX3_obligation 32 = .ok (.ifCond .eq 17, 3) := by decide +kernel
theorem dX3_obligation_35 : decode cX3_obligation 35 = .ok (.aload_n 0, 1) := by decide +kernel
theorem dX3_obligation_36 : decode cX3_obligation 36 = .ok (.getfield 38, 3) := by decide +kernel
theorem dX3_obligation_39 : decode cX3_obligation 39 = .ok (.iload_n 1, 1) := by decide +kernel
theorem dX3_obligation_40 : decode cX3_obligation 40 = .ok (.iload_n 2, 1) := by decide +kernel
theorem dX3_obligation_41 : decode cX3_obligation 41 = .ok (.iload_n 3, 1) := by decide +kernel
theorem dX3_obligation_42 : decode cX3_obligation 42 = .ok (.invokestatic 94, 3) := by decide +kernel
theorem dX3_obligation_45 : decode cX3_obligation 45 = .ok (.iaload, 1) := by decide +kernel
theorem dX3_obligation_46 : decode cX3_obligation 46 = .ok (.goto 4, 3) := by decide +kernel
theorem dX3_obligation_49 : decode cX3_obligation 49 = .ok (.iconst 0, 1) := by decide +kernel
theorem dX3_obligation_50 : decode cX3_obligation 50 = .ok (.ireturn, 1) := by decide +kernel
set_option maxRecDepth 20000 in
theorem ggX3_least_X3_place : GoodIn wsX3_least wsX3_place := goodIn_r _ [5] (by decide +kernel) (by decide +kernel)
set_option maxRecDepth 20000 in
theorem gX3_least_X3_place : GoodIn wsX3_least (va_wsS RX3 94 yX3_place wsX3_place) := goodIn_app (goodIn_of _ (by decide +kernel)) ggX3_least_X3_place
theorem dX3_least_0 : decode cX3_least 0 = .ok (.aload_n 0, 1) := by decide +kernel
theorem dX3_least_1 : decode cX3_least 1 = .ok (.getfield 38, 3) := by decide +kernel
theorem dX3_least_4 : decode cX3_least 4 = .ok (.iload_n 1, 1) := by decide +kernel
theorem dX3_least_5 : decode cX3_least 5 = .ok (.iload_n 2, 1) := by decide +kernel
theorem dX3_least_6 : decode cX3_least 6 = .ok (.iload_n 3, 1) := by decide +kernel
theorem dX3_least_7 : decode cX3_least 7 = .ok (.invokestatic 94, 3) := by decide +kernel
theorem dX3_least_10 : decode cX3_least 10 = .ok (.iaload, 1) := by decide +kernel
theorem dX3_least_11 : decode cX3_least 11 = .ok (.istore 5, 2) := by decide +kernel
theorem dX3_least_13 : decode cX3_least 13 = .ok (.iload_n 3, 1) := by decide +kernel
theorem dX3_least_14 : decode cX3_least 14 = .ok (.istore 6, 2) := by decide +kernel
theorem dX3_least_16 : decode cX3_least 16 = .ok (.iload 6, 2) := by decide +kernel
theorem dX3_least_18 : decode cX3_least 18 = .ok (.iload 4, 2) := by decide +kernel
theorem dX3_least_20 : decode cX3_least 20 = .ok (.if_icmp .gt 39, 3) := by decide +kernel
theorem dX3_least_23 : decode cX3_least 23 = .ok (.aload_n 0, 1) := by decide +kernel
theorem dX3_least_24 : decode cX3_least 24 = .ok (.getfield 38, 3) := by decide +kernel
theorem dX3_least_27 : decode cX3_least 27 = .ok (.iload_n 1, 1) := by decide +kernel
theorem dX3_least_28 : decode cX3_least 28 = .ok (.iload_n 2, 1) := by decide +kernel
theorem dX3_least_29 : decode cX3_least 29 = .ok (.iload 6, 2) := by decide +kernel
theorem dX3_least_31 : decode cX3_least 31 = .ok (.invokestatic 94, 3) := by decide +kernel
theorem dX3_least_34 : decode cX3_least 34 = .ok (.iaload, 1) := by decide +kernel
theorem dX3_least_35 : decode cX3_least 35 = .ok (.istore 7, 2) := by decide +kernel
theorem dX3_least_37 : decode cX3_least 37 = .ok (.iload 7, 2) := by decide +kernel
theorem dX3_least_39 : decode cX3_least 39 = .ok (.iload 5, 2) := by decide +kernel
theorem dX3_least_41 : decode cX3_least 41 = .ok (.if_icmp .ge 8, 3) := by decide +kernel
theorem dX3_least_44 : decode cX3_least 44 = .ok (.iload 7, 2) := by decide +kernel
theorem dX3_least_46 : decode cX3_least 46 = .ok (.goto 5, 3) := by decide +kernel
theorem dX3_least_49 : decode cX3_least 49 = .ok (.iload 5, 2) := by decide +kernel
theorem dX3_least_51 : decode cX3_least 51 = .ok (.istore 5, 2) := by decide +kernel
theorem dX3_least_53 : decode cX3_least 53 = .ok (.iinc 6 1, 3) := by decide +kernel
theorem dX3_least_56 : decode cX3_least 56 = .ok (.goto (-40), 3) := by decide +kernel
theorem dX3_least_59 : decode cX3_least 59 = .ok (.iload 5, 2) := by decide +kernel
theorem dX3_least_61 : decode cX3_least 61 = .ok (.ireturn, 1) := by decide +kernel
set_option maxRecDepth 20000 in
theorem ggX3_trade_X3_isParty : GoodIn wsX3_trade wsX3_isParty := goodIn_r _ [6] (by decide +kernel) (by decide +kernel)
set_option maxRecDepth 20000 in
theorem gX3_trade_X3_isParty : GoodIn wsX3_trade (va_wsS RX3 72 yX3_isParty wsX3_isParty) := goodIn_app (goodIn_of _ (by decide +kernel)) ggX3_trade_X3_isParty
set_option maxRecDepth 20000 in
theorem ggX3_trade_X3_isYear : GoodIn wsX3_trade wsX3_isYear := goodIn_r _ [9] (by decide +kernel) (by decide +kernel)
set_option maxRecDepth 20000 in
theorem gX3_trade_X3_isYear : GoodIn wsX3_trade (va_wsS RX3 82 yX3_isYear wsX3_isYear) := goodIn_app (goodIn_of _ (by decide +kernel)) ggX3_trade_X3_isYear
set_option maxRecDepth 20000 in
theorem ggX3_trade_X3_isHour : GoodIn wsX3_trade wsX3_isHour := goodIn_r _ [12] (by decide +kernel) (by decide +kernel)
set_option maxRecDepth 20000 in
theorem gX3_trade_X3_isHour : GoodIn wsX3_trade (va_wsS RX3 98 yX3_isHour wsX3_isHour) := goodIn_app (goodIn_of _ (by decide +kernel)) ggX3_trade_X3_isHour
set_option maxRecDepth 20000 in
theorem ggX3_trade_X3_isWithin : GoodIn wsX3_trade wsX3_isWithin := goodIn_r _ [15] (by decide +kernel) (by decide +kernel)
set_option maxRecDepth 20000 in
theorem gX3_trade_X3_isWithin : GoodIn wsX3_trade (va_wsS RX3 57 yX3_isWithin wsX3_isWithin) := goodIn_app (goodIn_of _ (by decide +kernel)) ggX3_trade_X3_isWithin
set_option maxRecDepth 20000 in
theorem ggX3_trade_X3_least : GoodIn wsX3_trade wsX3_least := goodIn_r _ [19, 1, 20, 21, 5, 22, 28, 29, 30, 31, 32, 33, 34, 35, 36, 37, 38, 39, 40, 41, 42, 43, 44] (by decide +kernel) (by decide +kernel)
set_option maxRecDepth 20000 in
theorem gX3_trade_X3_least : GoodIn wsX3_trade (wsV RX3 101 RX3 yX3_least wsX3_least) := goodIn_app (goodIn_of _ (by decide +kernel)) ggX3_trade_X3_least
set_option maxRecDepth 20000 in
theorem ggX3_trade_X3_goes : GoodIn wsX3_trade wsX3_goes := goodIn_r _ [26, 27, 28, 29, 30, 31, 32, 33, 34, 35, 36, 37, 38, 39, 40, 41, 42, 43, 44] (by decide +kernel) (by decide +kernel)
set_option maxRecDepth 20000 in
theorem gX3_trade_X3_goes : GoodIn wsX3_trade (wsV RX3 61 RX3 yX3_goes wsX3_goes) := goodIn_app (goodIn_of _ (by decide +kernel)) ggX3_trade_X3_goes
set_option maxRecDepth 20000 in
theorem ggX3_trade_X3_place : GoodIn wsX3_trade wsX3_place := goodIn_r _ [22] (by decide +kernel) (by decide +kernel)
set_option maxRecDepth 20000 in
theorem gX3_trade_X3_place : GoodIn wsX3_trade (va_wsS RX3 94 yX3_place wsX3_place) := goodIn_app (goodIn_of _ (by decide +kernel)) ggX3_trade_X3_place
theorem dX3_trade_0 : decode cX3_trade 0 = .ok (.iload_n 1, 1) := by decide +kernel
theorem dX3_trade_1 : decode cX3_trade 1 = .ok (.invokestatic 72, 3) := by decide +kernel
theorem dX3_trade_4 : decode cX3_trade 4 = .ok (.ifCond .eq 37, 3) := by decide +kernel
theorem dX3_trade_7 : decode cX3_trade 7 = .ok (.iload_n 2, 1) := by decide +kernel
theorem dX3_trade_8 : decode cX3_trade 8 = .ok (.invokestatic 72, 3) := by decide +kernel
theorem dX3_trade_11 : decode cX3_trade 11 = .ok (.ifCond .eq 30, 3) := by decide +kernel
theorem dX3_trade_14 : decode cX3_trade 14 = .ok (.iload_n 3, 1) := by decide +kernel
theorem dX3_trade_15 : decode cX3_trade 15 = .ok (.invokestatic 82, 3) := by decide +kernel
theorem dX3_trade_18 : decode cX3_trade 18 = .ok (.ifCond .eq 23, 3) := by decide +kernel
theorem dX3_trade_21 : decode cX3_trade 21 = .ok (.iload 4, 2) := by decide +kernel
theorem dX3_trade_23 : decode cX3_trade 23 = .ok (.invokestatic 98, 3) := by decide +kernel
theorem dX3_trade_26 : decode cX3_trade 26 = .ok (.ifCond .eq 15, 3) := by decide +kernel
theorem dX3_trade_29 : decode cX3_trade 29 = .ok (.iload 5, 2) := by decide +kernel
theorem dX3_trade_31 : decode cX3_trade 31 = .ok (.invokestatic 98, 3) := by decide +kernel
theorem dX3_trade_34 : decode cX3_trade 34 = .ok (.ifCond .eq 7, 3) := by decide +kernel
theorem dX3_trade_37 : decode cX3_trade 37 = .ok (.iconst 1, 1) := by decide +kernel
theorem dX3_trade_38 : decode cX3_trade 38 = .ok (.goto 4, 3) := by decide +kernel
theorem dX3_trade_41 : decode cX3_trade 41 = .ok (.iconst 0, 1) := by decide +kernel
theorem dX3_trade_42 : decode cX3_trade 42 = .ok (.istore 7, 2) := by decide +kernel
theorem dX3_trade_44 : decode cX3_trade 44 = .ok (.iload_n 1, 1) := by decide +kernel
theorem dX3_trade_45 : decode cX3_trade 45 = .ok (.iload_n 2, 1) := by decide +kernel
theorem dX3_trade_46 : decode cX3_trade 46 = .ok (.if_icmp .eq 26, 3) := by decide +kernel
theorem dX3_trade_49 : decode cX3_trade 49 = .ok (.iload 4, 2) := by decide +kernel
theorem dX3_trade_51 : decode cX3_trade 51 = .ok (.iload 5, 2) := by decide +kernel
theorem dX3_trade_53 : decode cX3_trade 53 = .ok (.if_icmp .gt 19, 3) := by decide +kernel
theorem dX3_trade_56 : decode cX3_trade 56 = .ok (.iload 6, 2) := by decide +kernel
theorem dX3_trade_58 : decode cX3_trade 58 = .ok (.iconst 1, 1) := by decide +kernel
theorem dX3_trade_59 : decode cX3_trade 59 = .ok (.sipush 1000, 3) := by decide +kernel
theorem dX3_trade_62 : decode cX3_trade 62 = .ok (.invokestatic 57, 3) := by decide +kernel
theorem dX3_trade_65 : decode cX3_trade 65 = .ok (.ifCond .eq 7, 3) := by decide +kernel
theorem dX3_trade_68 : decode cX3_trade 68 = .ok (.iconst 1, 1) := by decide +kernel
theorem dX3_trade_69 : decode cX3_trade 69 = .ok (.goto 4, 3) := by decide +kernel
theorem dX3_trade_72 : decode cX3_trade 72 = .ok (.iconst 0, 1) := by decide +kernel
theorem dX3_trade_73 : decode cX3_trade 73 = .ok (.istore 8, 2) := by decide +kernel
theorem dX3_trade_75 : decode cX3_trade 75 = .ok (.aload_n 0, 1) := by decide +kernel
theorem dX3_trade_76 : decode cX3_trade 76 = .ok (.iload 7, 2) := by decide +kernel
theorem dX3_trade_78 : decode cX3_trade 78 = .ok (.iload 8, 2) := by decide +kernel
theorem dX3_trade_80 : decode cX3_trade 80 = .ok (.iload 7, 2) := by decide +kernel
theorem dX3_trade_82 : decode cX3_trade 82 = .ok (.ifCond .eq 27, 3) := by decide +kernel
theorem dX3_trade_85 : decode cX3_trade 85 = .ok (.iload 8, 2) := by decide +kernel
theorem dX3_trade_87 : decode cX3_trade 87 = .ok (.ifCond .eq 22, 3) := by decide +kernel
theorem dX3_trade_90 : decode cX3_trade 90 = .ok (.aload_n 0, 1) := by decide +kernel
theorem dX3_trade_91 : decode cX3_trade 91 = .ok (.iload_n 1, 1) := by decide +kernel
theorem dX3_trade_92 : decode cX3_trade 92 = .ok (.iload_n 3, 1) := by decide +kernel
theorem dX3_trade_93 : decode cX3_trade 93 = .ok (.iload 4, 2) := by decide +kernel
theorem dX3_trade_95 : decode cX3_trade 95 = .ok (.iload 5, 2) := by decide +kernel
theorem dX3_trade_97 : decode cX3_trade 97 = .ok (.invokevirtual 101, 3) := by decide +kernel
theorem dX3_trade_100 : decode cX3_trade 100 = .ok (.iload 6, 2) := by decide +kernel
theorem dX3_trade_102 : decode cX3_trade 102 = .ok (.if_icmp .lt 7, 3) := by decide +kernel
theorem dX3_trade_105 : decode cX3_trade 105 = .ok (.iconst 1, 1) := by decide +kernel
theorem dX3_trade_106 : decode cX3_trade 106 = .ok (.goto 4, 3) := by decide +kernel
theorem dX3_trade_109 : decode cX3_trade 109 = .ok (.iconst 0, 1) := by decide +kernel
theorem dX3_trade_110 : decode cX3_trade 110 = .ok (.invokevirtual 61, 3) := by decide +kernel
theorem dX3_trade_113 : decode cX3_trade 113 = .ok (.ifCond .ne 5, 3) := by decide +kernel
theorem dX3_trade_116 : decode cX3_trade 116 = .ok (.iconst 0, 1) := by decide +kernel
theorem dX3_trade_117 : decode cX3_trade 117 = .ok (.ireturn, 1) := by decide +kernel
theorem dX3_trade_118 : decode cX3_trade 118 = .ok (.iload 4, 2) := by decide +kernel
theorem dX3_trade_120 : decode cX3_trade 120 = .ok (.istore 9, 2) := by decide +kernel
theorem dX3_trade_122 : decode cX3_trade 122 = .ok (.iload 9, 2) := by decide +kernel
theorem dX3_trade_124 : decode cX3_trade 124 = .ok (.iload 5, 2) := by decide +kernel
theorem dX3_trade_126 : decode cX3_trade 126 = .ok (.if_icmp .gt 43, 3) := by decide +kernel
theorem dX3_trade_129 : decode cX3_trade 129 = .ok (.aload_n 0, 1) := by decide +kernel
theorem dX3_trade_130 : decode cX3_trade 130 = .ok (.getfield 38, 3) := by decide +kernel
theorem dX3_trade_133 : decode cX3_trade 133 = .ok (.iload_n 1, 1) := by decide +kernel
theorem dX3_trade_134 : decode cX3_trade 134 = .ok (.iload_n 3, 1) := by decide +kernel
theorem dX3_trade_135 : decode cX3_trade 135 = .ok (.iload 9, 2) := by decide +kernel
theorem dX3_trade_137 : decode cX3_trade 137 = .ok (.invokestatic 94, 3) := by decide +kernel
theorem dX3_trade_140 : decode cX3_trade 140 = .ok (.dup2, 1) := by decide +kernel
theorem dX3_trade_141 : decode cX3_trade 141 = .ok (.iaload, 1) := by decide +kernel
theorem dX3_trade_142 : decode cX3_trade 142 = .ok (.iload 6, 2) := by decide +kernel
theorem dX3_trade_144 : decode cX3_trade 144 = .ok (.isub, 1) := by decide +kernel
theorem dX3_trade_145 : decode cX3_trade 145 = .ok (.iastore, 1) := by decide +kernel
theorem dX3_trade_146 : decode cX3_trade 146 = .ok (.aload_n 0, 1) := by decide +kernel
theorem dX3_trade_147 : decode cX3_trade 147 = .ok (.getfield 38, 3) := by decide +kernel
theorem dX3_trade_150 : decode cX3_trade 150 = .ok (.iload_n 2, 1) := by decide +kernel
theorem dX3_trade_151 : decode cX3_trade 151 = .ok (.iload_n 3, 1) := by decide +kernel
theorem dX3_trade_152 : decode cX3_trade 152 = .ok (.iload 9, 2) := by decide +kernel
theorem dX3_trade_154 : decode cX3_trade 154 = .ok (.invokestatic 94, 3) := by decide +kernel
theorem dX3_trade_157 : decode cX3_trade 157 = .ok (.dup2, 1) := by decide +kernel
theorem dX3_trade_158 : decode cX3_trade 158 = .ok (.iaload, 1) := by decide +kernel
theorem dX3_trade_159 : decode cX3_trade 159 = .ok (.iload 6, 2) := by decide +kernel
theorem dX3_trade_161 : decode cX3_trade 161 = .ok (.iadd, 1) := by decide +kernel
theorem dX3_trade_162 : decode cX3_trade 162 = .ok (.iastore, 1) := by decide +kernel
theorem dX3_trade_163 : decode cX3_trade 163 = .ok (.iinc 9 1, 3) := by decide +kernel
theorem dX3_trade_166 : decode cX3_trade 166 = .ok (.goto (-44), 3) := by decide +kernel
theorem dX3_trade_169 : decode cX3_trade 169 = .ok (.aload_n 0, 1) := by decide +kernel
theorem dX3_trade_170 : decode cX3_trade 170 = .ok (.dup, 1) := by decide +kernel
theorem dX3_trade_171 : decode cX3_trade 171 = .ok (.getfield 105, 3) := by decide +kernel
theorem dX3_trade_174 : decode cX3_trade 174 = .ok (.iconst 1, 1) := by decide +kernel
theorem dX3_trade_175 : decode cX3_trade 175 = .ok (.iadd, 1) := by decide +kernel
theorem dX3_trade_176 : decode cX3_trade 176 = .ok (.putfield 105, 3) := by decide +kernel
theorem dX3_trade_179 : decode cX3_trade 179 = .ok (.aload_n 0, 1) := by decide +kernel
theorem dX3_trade_180 : decode cX3_trade 180 = .ok (.iload_n 1, 1) := by decide +kernel
theorem dX3_trade_181 : decode cX3_trade 181 = .ok (.iload_n 3, 1) := by decide +kernel
theorem dX3_trade_182 : decode cX3_trade 182 = .ok (.iload 4, 2) := by decide +kernel
theorem dX3_trade_184 : decode cX3_trade 184 = .ok (.iload 5, 2) := by decide +kernel
theorem dX3_trade_186 : decode cX3_trade 186 = .ok (.invokevirtual 101, 3) := by decide +kernel
theorem dX3_trade_189 : decode cX3_trade 189 = .ok (.ireturn, 1) := by decide +kernel
theorem dX3_trades_0 : decode cX3_trades 0 = .ok (.aload_n 0, 1) := by decide +kernel
theorem dX3_trades_1 : decode cX3_trades 1 = .ok (.iconst 0, 1) := by decide +kernel
theorem dX3_trades_2 : decode cX3_trades 2 = .ok (.putfield 54, 3) := by decide +kernel
theorem dX3_trades_5 : decode cX3_trades 5 = .ok (.aload_n 0, 1) := by decide +kernel
theorem dX3_trades_6 : decode cX3_trades 6 = .ok (.getfield 105, 3) := by decide +kernel
theorem dX3_trades_9 : decode cX3_trades 9 = .ok (.ireturn, 1) := by decide +kernel
