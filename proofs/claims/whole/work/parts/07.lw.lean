set_option maxRecDepth 20000 in
theorem ggL_setDemand_X2_setDemand : GoodIn wsL_setDemand wsX2_setDemand := goodIn_ca (goodIn_r _ [6, 7, 8, 9, 10, 11, 5, 12, 13, 14, 15, 16, 17, 18, 19, 20, 21, 22, 23, 24, 25, 26, 27, 28, 29, 30, 31, 32, 33, 34, 35, 36, 37, 38, 39] (by decide +kernel) (by decide +kernel)) (goodIn_sub (fun _ h => List.mem_cons_of_mem _ (List.mem_append_right _ h)) (by decide +kernel))
set_option maxRecDepth 20000 in
theorem gL_setDemand_X2_setDemand : GoodIn wsL_setDemand (wsV RL 7 RX2 yX2_setDemand wsX2_setDemand) := goodIn_app (goodIn_of _ (by decide +kernel)) ggL_setDemand_X2_setDemand
theorem dL_setDemand_0 : decode cL_setDemand 0 = .ok (.aload_n 0, 1) := by decide +kernel
theorem dL_setDemand_1 : decode cL_setDemand 1 = .ok (.iload_n 1, 1) := by decide +kernel
theorem dL_setDemand_2 : decode cL_setDemand 2 = .ok (.iload_n 2, 1) := by decide +kernel
theorem dL_setDemand_3 : decode cL_setDemand 3 = .ok (.iload_n 3, 1) := by decide +kernel
theorem dL_setDemand_4 : decode cL_setDemand 4 = .ok (.invokevirtual 7, 3) := by decide +kernel
theorem dL_setDemand_7 : decode cL_setDemand 7 = .ok (.goto 7, 3) := by decide +kernel
theorem dL_setDemand_10 : decode cL_setDemand 10 = .ok (.astore 4, 2) := by decide +kernel
theorem dL_setDemand_12 : decode cL_setDemand 12 = .ok (.iconst 1, 1) := by decide +kernel
theorem dL_setDemand_13 : decode cL_setDemand 13 = .ok (.ireturn, 1) := by decide +kernel
theorem dL_setDemand_14 : decode cL_setDemand 14 = .ok (.iconst 0, 1) := by decide +kernel
theorem dL_setDemand_15 : decode cL_setDemand 15 = .ok (.ireturn, 1) := by decide +kernel
set_option maxRecDepth 20000 in
theorem ggL_value_X2_value : GoodIn wsL_value wsX2_value := goodIn_ca (goodIn_r _ [6, 7, 8, 9, 10, 11, 5, 12, 13, 14, 15, 16, 17, 18, 19, 20, 21, 22, 23, 24, 25, 26, 27, 28, 29, 30, 31, 32, 33, 34] (by decide +kernel) (by decide +kernel)) (goodIn_sub (fun _ h => List.mem_cons_of_mem _ (List.mem_append_right _ h)) (by decide +kernel))
set_option maxRecDepth 20000 in
theorem gL_value_X2_value : GoodIn wsL_value (wsV RL 15 RX2 yX2_value wsX2_value) := goodIn_app (goodIn_of _ (by decide +kernel)) ggL_value_X2_value
theorem dL_value_0 : decode cL_value 0 = .ok (.aload_n 2, 1) := by decide +kernel
theorem dL_value_1 : decode cL_value 1 = .ok (.iconst 0, 1) := by decide +kernel
theorem dL_value_2 : decode cL_value 2 = .ok (.aload_n 0, 1) := by decide +kernel
theorem dL_value_3 : decode cL_value 3 = .ok (.iload_n 1, 1) := by decide +kernel
theorem dL_value_4 : decode cL_value 4 = .ok (.invokevirtual 15, 3) := by decide +kernel
theorem dL_value_7 : decode cL_value 7 = .ok (.i2l, 1) := by decide +kernel
theorem dL_value_8 : decode cL_value 8 = .ok (.lastore, 1) := by decide +kernel
theorem dL_value_9 : decode cL_value 9 = .ok (.goto 6, 3) := by decide +kernel
theorem dL_value_12 : decode cL_value 12 = .ok (.astore_n 3, 1) := by decide +kernel
theorem dL_value_13 : decode cL_value 13 = .ok (.iconst 1, 1) := by decide +kernel
theorem dL_value_14 : decode cL_value 14 = .ok (.ireturn, 1) := by decide +kernel
theorem dL_value_15 : decode cL_value 15 = .ok (.iconst 0, 1) := by decide +kernel
theorem dL_value_16 : decode cL_value 16 = .ok (.ireturn, 1) := by decide +kernel
set_option maxRecDepth 20000 in
theorem ggL_worth_X2_worth : GoodIn wsL_worth wsX2_worth := goodIn_ca (goodIn_r _ [6, 7, 8, 9, 10, 11, 5, 12, 13, 14, 15, 16, 17, 18, 19, 20, 21, 22, 23, 24, 25, 26, 27, 28, 29, 30, 31, 32, 33, 34, 35, 36, 37, 38, 39] (by decide +kernel) (by decide +kernel)) (goodIn_sub (fun _ h => List.mem_cons_of_mem _ (List.mem_append_right _ h)) (by decide +kernel))
set_option maxRecDepth 20000 in
theorem gL_worth_X2_worth : GoodIn wsL_worth (wsV RL 19 RX2 yX2_worth wsX2_worth) := goodIn_app (goodIn_of _ (by decide +kernel)) ggL_worth_X2_worth
theorem dL_worth_0 : decode cL_worth 0 = .ok (.aload_n 2, 1) := by decide +kernel
theorem dL_worth_1 : decode cL_worth 1 = .ok (.iconst 0, 1) := by decide +kernel
theorem dL_worth_2 : decode cL_worth 2 = .ok (.aload_n 0, 1) := by decide +kernel
theorem dL_worth_3 : decode cL_worth 3 = .ok (.iload_n 1, 1) := by decide +kernel
theorem dL_worth_4 : decode cL_worth 4 = .ok (.invokevirtual 19, 3) := by decide +kernel
theorem dL_worth_7 : decode cL_worth 7 = .ok (.i2l, 1) := by decide +kernel
theorem dL_worth_8 : decode cL_worth 8 = .ok (.lastore, 1) := by decide +kernel
theorem dL_worth_9 : decode cL_worth 9 = .ok (.goto 6, 3) := by decide +kernel
theorem dL_worth_12 : decode cL_worth 12 = .ok (.astore_n 3, 1) := by decide +kernel
theorem dL_worth_13 : decode cL_worth 13 = .ok (.iconst 1, 1) := by decide +kernel
theorem dL_worth_14 : decode cL_worth 14 = .ok (.ireturn, 1) := by decide +kernel
theorem dL_worth_15 : decode cL_worth 15 = .ok (.iconst 0, 1) := by decide +kernel
theorem dL_worth_16 : decode cL_worth 16 = .ok (.ireturn, 1) := by decide +kernel
set_option maxRecDepth 20000 in
theorem ggL_offer_X2_offer : GoodIn wsL_offer wsX2_offer := goodIn_ca (goodIn_ca (goodIn_ca (goodIn_r _ [8, 9, 10, 11, 12, 13, 14, 15, 16, 17, 7, 18, 19, 20, 21, 22, 23, 24, 25, 26, 27, 28, 29, 30, 31, 32, 33, 34, 35, 36, 37, 38, 39, 40, 41, 42, 43, 44, 45, 46, 47, 48, 49, 50, 51, 52, 53] (by decide +kernel) (by decide +kernel)) (goodIn_sub (fun _ h => List.mem_cons_of_mem _ (List.mem_append_left _ (List.mem_append_left _ (List.mem_append_right _ h)))) (by decide +kernel))) (goodIn_sub (fun _ h => List.mem_cons_of_mem _ (List.mem_append_left _ (List.mem_append_right _ h))) (by decide +kernel))) (goodIn_sub (fun _ h => List.mem_cons_of_mem _ (List.mem_append_right _ h)) (by decide +kernel))
set_option maxRecDepth 20000 in
theorem gL_offer_X2_offer : GoodIn wsL_offer (wsV RL 22 RX2 yX2_offer wsX2_offer) := goodIn_app (goodIn_of _ (by decide +kernel)) ggL_offer_X2_offer
theorem dL_offer_0 : decode cL_offer 0 = .ok (.aload 6, 2) := by decide +kernel
theorem dL_offer_2 : decode cL_offer 2 = .ok (.iconst 0, 1) := by decide +kernel
theorem dL_offer_3 : decode cL_offer 3 = .ok (.aload_n 0, 1) := by decide +kernel
theorem dL_offer_4 : decode cL_offer 4 = .ok (.iload_n 1, 1) := by decide +kernel
theorem dL_offer_5 : decode cL_offer 5 = .ok (.iload_n 2, 1) := by decide +kernel
theorem dL_offer_6 : decode cL_offer 6 = .ok (.iload_n 3, 1) := by decide +kernel
theorem dL_offer_7 : decode cL_offer 7 = .ok (.iload 4, 2) := by decide +kernel
theorem dL_offer_9 : decode cL_offer 9 = .ok (.iload 5, 2) := by decide +kernel
theorem dL_offer_11 : decode cL_offer 11 = .ok (.invokevirtual 22, 3) := by decide +kernel
theorem dL_offer_14 : decode cL_offer 14 = .ok (.i2l, 1) := by decide +kernel
theorem dL_offer_15 : decode cL_offer 15 = .ok (.lastore, 1) := by decide +kernel
theorem dL_offer_16 : decode cL_offer 16 = .ok (.goto 15, 3) := by decide +kernel
theorem dL_offer_19 : decode cL_offer 19 = .ok (.astore 7, 2) := by decide +kernel
theorem dL_offer_21 : decode cL_offer 21 = .ok (.iconst 1, 1) := by decide +kernel
theorem dL_offer_22 : decode cL_offer 22 = .ok (.ireturn, 1) := by decide +kernel
theorem dL_offer_23 : decode cL_offer 23 = .ok (.astore 7, 2) := by decide +kernel
theorem dL_offer_25 : decode cL_offer 25 = .ok (.iconst 2, 1) := by decide +kernel
theorem dL_offer_26 : decode cL_offer 26 = .ok (.ireturn, 1) := by decide +kernel
theorem dL_offer_27 : decode cL_offer 27 = .ok (.astore 7, 2) := by decide +kernel
theorem dL_offer_29 : decode cL_offer 29 = .ok (.iconst 3, 1) := by decide +kernel
theorem dL_offer_30 : decode cL_offer 30 = .ok (.ireturn, 1) := by decide +kernel
theorem dL_offer_31 : decode cL_offer 31 = .ok (.iconst 0, 1) := by decide +kernel
theorem dL_offer_32 : decode cL_offer 32 = .ok (.ireturn, 1) := by decide +kernel
set_option maxRecDepth 20000 in
theorem ggL_supply_X2_supply : GoodIn wsL_supply wsX2_supply := goodIn_ca (goodIn_r _ [6, 7, 8, 9, 10, 11, 5, 12, 13, 14, 15, 16, 17, 18, 19, 20, 21, 22, 23, 24, 25, 26, 27, 28, 29, 30, 31, 32, 33, 34, 35, 36, 37] (by decide +kernel) (by decide +kernel)) (goodIn_sub (fun _ h => List.mem_cons_of_mem _ (List.mem_append_right _ h)) (by decide +kernel))
set_option maxRecDepth 20000 in
theorem gL_supply_X2_supply : GoodIn wsL_supply (wsV RL 30 RX2 yX2_supply wsX2_supply) := goodIn_app (goodIn_of _ (by decide +kernel)) ggL_supply_X2_supply
theorem dL_supply_0 : decode cL_supply 0 = .ok (.aload_n 2, 1) := by decide +kernel
theorem dL_supply_1 : decode cL_supply 1 = .ok (.iconst 0, 1) := by decide +kernel
theorem dL_supply_2 : decode cL_supply 2 = .ok (.aload_n 0, 1) := by decide +kernel
theorem dL_supply_3 : decode cL_supply 3 = .ok (.iload_n 1, 1) := by decide +kernel
theorem dL_supply_4 : decode cL_supply 4 = .ok (.invokevirtual 30, 3) := by decide +kernel
theorem dL_supply_7 : decode cL_supply 7 = .ok (.i2l, 1) := by decide +kernel
theorem dL_supply_8 : decode cL_supply 8 = .ok (.lastore, 1) := by decide +kernel
theorem dL_supply_9 : decode cL_supply 9 = .ok (.goto 6, 3) := by decide +kernel
theorem dL_supply_12 : decode cL_supply 12 = .ok (.astore_n 3, 1) := by decide +kernel
theorem dL_supply_13 : decode cL_supply 13 = .ok (.iconst 1, 1) := by decide +kernel
theorem dL_supply_14 : decode cL_supply 14 = .ok (.ireturn, 1) := by decide +kernel
theorem dL_supply_15 : decode cL_supply 15 = .ok (.iconst 0, 1) := by decide +kernel
theorem dL_supply_16 : decode cL_supply 16 = .ok (.ireturn, 1) := by decide +kernel
set_option maxRecDepth 20000 in
theorem ggL_clearing_X2_clearing : GoodIn wsL_clearing wsX2_clearing := goodIn_ca (goodIn_r _ [6, 7, 8, 9, 10, 11, 12, 13, 5, 14, 15, 16, 17, 18, 19, 20, 21, 22, 23, 24, 25, 26, 27, 28, 29, 30, 31, 32, 33, 34, 35, 36, 37, 38, 39, 40, 41, 42, 43, 44, 45, 46, 47, 48, 49, 50, 51, 52, 53, 54, 55, 56, 57, 58, 59, 60, 61, 62, 63, 64] (by decide +kernel) (by decide +kernel)) (goodIn_sub (fun _ h => List.mem_cons_of_mem _ (List.mem_append_right _ h)) (by decide +kernel))
set_option maxRecDepth 20000 in
theorem gL_clearing_X2_clearing : GoodIn wsL_clearing (wsV RL 33 RX2 yX2_clearing wsX2_clearing) := goodIn_app (goodIn_of _ (by decide +kernel)) ggL_clearing_X2_clearing
theorem dL_clearing_0 : decode cL_clearing 0 = .ok (.aload_n 2, 1) := by decide +kernel
theorem dL_clearing_1 : decode cL_clearing 1 = .ok (.iconst 0, 1) := by decide +kernel
theorem dL_clearing_2 : decode cL_clearing 2 = .ok (.aload_n 0, 1) := by decide +kernel
theorem dL_clearing_3 : decode cL_clearing 3 = .ok (.iload_n 1, 1) := by decide +kernel
theorem dL_clearing_4 : decode cL_clearing 4 = .ok (.invokevirtual 33, 3) := by decide +kernel
theorem dL_clearing_7 : decode cL_clearing 7 = .ok (.i2l, 1) := by decide +kernel
theorem dL_clearing_8 : decode cL_clearing 8 = .ok (.lastore, 1) := by decide +kernel
theorem dL_clearing_9 : decode cL_clearing 9 = .ok (.goto 6, 3) := by decide +kernel
theorem dL_clearing_12 : decode cL_clearing 12 = .ok (.astore_n 3, 1) := by decide +kernel
theorem dL_clearing_13 : decode cL_clearing 13 = .ok (.iconst 1, 1) := by decide +kernel
theorem dL_clearing_14 : decode cL_clearing 14 = .ok (.ireturn, 1) := by decide +kernel
theorem dL_clearing_15 : decode cL_clearing 15 = .ok (.iconst 0, 1) := by decide +kernel
theorem dL_clearing_16 : decode cL_clearing 16 = .ok (.ireturn, 1) := by decide +kernel
set_option maxRecDepth 20000 in
theorem ggL_clearingByClock_X2_clearingByClock : GoodIn wsL_clearingByClock wsX2_clearingByClock := goodIn_ca (goodIn_r _ [6, 7, 8, 9, 10, 11, 12, 13, 5, 14, 15, 16, 17, 18, 19, 20, 21, 22, 23, 24, 25, 26, 27, 28, 29, 30, 31, 32, 33, 34, 35, 36, 37, 38, 39, 40, 41, 42, 43, 44, 45, 46, 47, 48, 49, 50, 51, 52, 53, 54, 55, 56, 57, 58, 59, 60, 61, 62, 63, 64, 65, 66, 67, 68] (by decide +kernel) (by decide +kernel)) (goodIn_sub (fun _ h => List.mem_cons_of_mem _ (List.mem_append_right _ h)) (by decide +kernel))
set_option maxRecDepth 20000 in
theorem gL_clearingByClock_X2_clearingByClock : GoodIn wsL_clearingByClock (wsV RL 36 RX2 yX2_clearingByClock wsX2_clearingByClock) := goodIn_app (goodIn_of _ (by decide +kernel)) ggL_clearingByClock_X2_clearingByClock
theorem dL_clearingByClock_0 : decode cL_clearingByClock 0 = .ok (.aload_n 2, 1) := by decide +kernel
theorem dL_clearingByClock_1 : decode cL_clearingByClock 1 = .ok (.iconst 0, 1) := by decide +kernel
theorem dL_clearingByClock_2 : decode cL_clearingByClock 2 = .ok (.aload_n 0, 1) := by decide +kernel
theorem dL_clearingByClock_3 : decode cL_clearingByClock 3 = .ok (.iload_n 1, 1) := by decide +kernel
theorem dL_clearingByClock_4 : decode cL_clearingByClock 4 = .ok (.invokevirtual 36, 3) := by decide +kernel
theorem dL_clearingByClock_7 : decode cL_clearingByClock 7 = .ok (.i2l, 1) := by decide +kernel
theorem dL_clearingByClock_8 : decode cL_clearingByClock 8 = .ok (.lastore, 1) := by decide +kernel
theorem dL_clearingByClock_9 : decode cL_clearingByClock 9 = .ok (.goto 6, 3) := by decide +kernel
theorem dL_clearingByClock_12 : decode cL_clearingByClock 12 = .ok (.astore_n 3, 1) := by decide +kernel
theorem dL_clearingByClock_13 : decode cL_clearingByClock 13 = .ok (.iconst 1, 1) := by decide +kernel
theorem dL_clearingByClock_14 : decode cL_clearingByClock 14 = .ok (.ireturn, 1) := by decide +kernel
theorem dL_clearingByClock_15 : decode cL_clearingByClock 15 = .ok (.iconst 0, 1) := by decide +kernel
theorem dL_clearingByClock_16 : decode cL_clearingByClock 16 = .ok (.ireturn, 1) := by decide +kernel
set_option maxRecDepth 20000 in
theorem ggL_wouldTake_X2_wouldTake : GoodIn wsL_wouldTake wsX2_wouldTake := goodIn_ca (goodIn_r _ [6, 7, 8, 9, 10, 11, 12, 13, 14, 15, 16, 17, 18, 19, 5, 20, 21, 22, 23, 24, 25, 26, 27, 28, 29, 30, 31, 32, 33, 34, 35, 36, 37, 38, 39, 40, 41, 42, 43, 44, 45, 46, 47, 48, 49, 50, 51, 52, 53, 54, 55, 56, 57, 58, 59, 60, 61, 62, 63, 64, 65, 66, 67, 68] (by decide +kernel) (by decide +kernel)) (goodIn_sub (fun _ h => List.mem_cons_of_mem _ (List.mem_append_right _ h)) (by decide +kernel))
set_option maxRecDepth 20000 in
theorem gL_wouldTake_X2_wouldTake : GoodIn wsL_wouldTake (wsV RL 39 RX2 yX2_wouldTake wsX2_wouldTake) := goodIn_app (goodIn_of _ (by decide +kernel)) ggL_wouldTake_X2_wouldTake
theorem dL_wouldTake_0 : decode cL_wouldTake 0 = .ok (.aload_n 3, 1) := by decide +kernel
theorem dL_wouldTake_1 : decode cL_wouldTake 1 = .ok (.iconst 0, 1) := by decide +kernel
theorem dL_wouldTake_2 : decode cL_wouldTake 2 = .ok (.aload_n 0, 1) := by decide +kernel
theorem dL_wouldTake_3 : decode cL_wouldTake 3 = .ok (.iload_n 1, 1) := by decide +kernel
theorem dL_wouldTake_4 : decode cL_wouldTake 4 = .ok (.iload_n 2, 1) := by decide +kernel
theorem dL_wouldTake_5 : decode cL_wouldTake 5 = .ok (.invokevirtual 39, 3) := by decide +kernel
theorem dL_wouldTake_8 : decode cL_wouldTake 8 = .ok (.ifCond .eq 7, 3) := by decide +kernel
theorem dL_wouldTake_11 : decode cL_wouldTake 11 = .ok (.lconst 1, 1) := by decide +kernel
theorem dL_wouldTake_12 : decode cL_wouldTake 12 = .ok (.goto 4, 3) := by decide +kernel
theorem dL_wouldTake_15 : decode cL_wouldTake 15 = .ok (.lconst 0, 1) := by decide +kernel
theorem dL_wouldTake_16 : decode cL_wouldTake 16 = .ok (.lastore, 1) := by decide +kernel
theorem dL_wouldTake_17 : decode cL_wouldTake 17 = .ok (.goto 7, 3) := by decide +kernel
theorem dL_wouldTake_20 : decode cL_wouldTake 20 = .ok (.astore 4, 2) := by decide +kernel
theorem dL_wouldTake_22 : decode cL_wouldTake 22 = .ok (.iconst 1, 1) := by decide +kernel
theorem dL_wouldTake_23 : decode cL_wouldTake 23 = .ok (.ireturn, 1) := by decide +kernel
theorem dL_wouldTake_24 : decode cL_wouldTake 24 = .ok (.iconst 0, 1) := by decide +kernel
theorem dL_wouldTake_25 : decode cL_wouldTake 25 = .ok (.ireturn, 1) := by decide +kernel
set_option maxRecDepth 20000 in
theorem ggL_run_X2_run : GoodIn wsL_run wsX2_run := goodIn_ca (goodIn_ca (goodIn_r _ [7, 8, 9, 10, 11, 12, 13, 14, 15, 16, 17, 18, 6, 19, 20, 21, 22, 23, 24, 25, 26, 27, 28, 29, 30, 31, 32, 33, 34, 35, 36, 37, 38, 39, 40, 41, 42, 43, 44, 45, 46, 47, 48, 49, 50, 51, 52, 53, 54, 55, 56, 57, 58, 59, 60, 61, 62, 63, 64, 65, 66, 67, 68, 69, 70, 71, 72, 73, 74, 75, 76, 77, 78, 79, 80, 81, 82, 83, 84, 85, 86, 87, 88, 89] (by decide +kernel) (by decide +kernel)) (goodIn_sub (fun _ h => List.mem_cons_of_mem _ (List.mem_append_left _ (List.mem_append_right _ h))) (by decide +kernel))) (goodIn_sub (fun _ h => List.mem_cons_of_mem _ (List.mem_append_right _ h)) (by decide +kernel))
set_option maxRecDepth 20000 in
theorem gL_run_X2_run : GoodIn wsL_run (wsV RL 43 RX2 yX2_run wsX2_run) := goodIn_app (goodIn_of _ (by decide +kernel)) ggL_run_X2_run
theorem dL_run_0 : decode cL_run 0 = .ok (.aload_n 2, 1) := by decide +kernel
theorem dL_run_1 : decode cL_run 1 = .ok (.iconst 0, 1) := by decide +kernel
theorem dL_run_2 : decode cL_run 2 = .ok (.aload_n 0, 1) := by decide +kernel
theorem dL_run_3 : decode cL_run 3 = .ok (.iload_n 1, 1) := by decide +kernel
theorem dL_run_4 : decode cL_run 4 = .ok (.invokevirtual 43, 3) := by decide +kernel
theorem dL_run_7 : decode cL_run 7 = .ok (.i2l, 1) := by decide +kernel
theorem dL_run_8 : decode cL_run 8 = .ok (.lastore, 1) := by decide +kernel
theorem dL_run_9 : decode cL_run 9 = .ok (.goto 9, 3) := by decide +kernel
theorem dL_run_12 : decode cL_run 12 = .ok (.astore_n 3, 1) := by decide +kernel
theorem dL_run_13 : decode cL_run 13 = .ok (.iconst 1, 1) := by decide +kernel
theorem dL_run_14 : decode cL_run 14 = .ok (.ireturn, 1) := by decide +kernel
theorem dL_run_15 : decode cL_run 15 = .ok (.astore_n 3, 1) := by decide +kernel
theorem dL_run_16 : decode cL_run 16 = .ok (.iconst 2, 1) := by decide +kernel
theorem dL_run_17 : decode cL_run 17 = .ok (.ireturn, 1) := by decide +kernel
theorem dL_run_18 : decode cL_run 18 = .ok (.iconst 0, 1) := by decide +kernel
theorem dL_run_19 : decode cL_run 19 = .ok (.ireturn, 1) := by decide +kernel
set_option maxRecDepth 20000 in
theorem ggL_bought_X2_bought : GoodIn wsL_bought wsX2_bought := goodIn_ca (goodIn_r _ [6, 7, 8, 9, 10, 11, 5, 12, 13, 14, 15, 16, 17, 18, 19, 20, 21, 22, 23, 24, 25] (by decide +kernel) (by decide +kernel)) (goodIn_sub (fun _ h => List.mem_cons_of_mem _ (List.mem_append_right _ h)) (by decide +kernel))
set_option maxRecDepth 20000 in
theorem gL_bought_X2_bought : GoodIn wsL_bought (wsV RL 46 RX2 yX2_bought wsX2_bought) := goodIn_app (goodIn_of _ (by decide +kernel)) ggL_bought_X2_bought
theorem dL_bought_0 : decode cL_bought 0 = .ok (.aload_n 2, 1) := by decide +kernel
theorem dL_bought_1 : decode cL_bought 1 = .ok (.iconst 0, 1) := by decide +kernel
theorem dL_bought_2 : decode cL_bought 2 = .ok (.aload_n 0, 1) := by decide +kernel
theorem dL_bought_3 : decode cL_bought 3 = .ok (.iload_n 1, 1) := by decide +kernel
theorem dL_bought_4 : decode cL_bought 4 = .ok (.invokevirtual 46, 3) := by decide +kernel
theorem dL_bought_7 : decode cL_bought 7 = .ok (.i2l, 1) := by decide +kernel
theorem dL_bought_8 : decode cL_bought 8 = .ok (.lastore, 1) := by decide +kernel
theorem dL_bought_9 : decode cL_bought 9 = .ok (.goto 6, 3) := by decide +kernel
theorem dL_bought_12 : decode cL_bought 12 = .ok (.astore_n 3, 1) := by decide +kernel
theorem dL_bought_13 : decode cL_bought 13 = .ok (.iconst 1, 1) := by decide +kernel
theorem dL_bought_14 : decode cL_bought 14 = .ok (.ireturn, 1) := by decide +kernel
theorem dL_bought_15 : decode cL_bought 15 = .ok (.iconst 0, 1) := by decide +kernel
theorem dL_bought_16 : decode cL_bought 16 = .ok (.ireturn, 1) := by decide +kernel
set_option maxRecDepth 20000 in
theorem ggL_income_X2_income : GoodIn wsL_income wsX2_income := goodIn_ca (goodIn_r _ [6, 7, 8, 9, 10, 11, 5, 12, 13, 14, 15, 16, 17, 18, 19, 20, 21, 22, 23, 24, 25, 26, 27, 28, 29, 30, 31] (by decide +kernel) (by decide +kernel)) (goodIn_sub (fun _ h => List.mem_cons_of_mem _ (List.mem_append_right _ h)) (by decide +kernel))
set_option maxRecDepth 20000 in
theorem gL_income_X2_income : GoodIn wsL_income (wsV RL 49 RX2 yX2_income wsX2_income) := goodIn_app (goodIn_of _ (by decide +kernel)) ggL_income_X2_income
theorem dL_income_0 : decode cL_income 0 = .ok (.aload_n 3, 1) := by decide +kernel
theorem dL_income_1 : decode cL_income 1 = .ok (.iconst 0, 1) := by decide +kernel
theorem dL_income_2 : decode cL_income 2 = .ok (.aload_n 0, 1) := by decide +kernel
theorem dL_income_3 : decode cL_income 3 = .ok (.iload_n 1, 1) := by decide +kernel
theorem dL_income_4 : decode cL_income 4 = .ok (.iload_n 2, 1) := by decide +kernel
theorem dL_income_5 : decode cL_income 5 = .ok (.invokevirtual 49, 3) := by decide +kernel
theorem dL_income_8 : decode cL_income 8 = .ok (.i2l, 1) := by decide +kernel
theorem dL_income_9 : decode cL_income 9 = .ok (.lastore, 1) := by decide +kernel
theorem dL_income_10 : decode cL_income 10 = .ok (.goto 7, 3) := by decide +kernel
theorem dL_income_13 : decode cL_income 13 = .ok (.astore 4, 2) := by decide +kernel
theorem dL_income_15 : decode cL_income 15 = .ok (.iconst 1, 1) := by decide +kernel
theorem dL_income_16 : decode cL_income 16 = .ok (.ireturn, 1) := by decide +kernel
theorem dL_income_17 : decode cL_income 17 = .ok (.iconst 0, 1) := by decide +kernel
theorem dL_income_18 : decode cL_income 18 = .ok (.ireturn, 1) := by decide +kernel
set_option maxRecDepth 20000 in
theorem ggL_obligation_X2_obligation : GoodIn wsL_obligation wsX2_obligation := goodIn_ca (goodIn_r _ [6, 7, 8, 9, 10, 11, 5, 12, 13, 14, 15, 16, 17, 18, 19, 20, 21, 22, 23, 24, 25, 26, 27, 28, 29, 30, 31, 32, 33, 34, 35, 36, 37] (by decide +kernel) (by decide +kernel)) (goodIn_sub (fun _ h => List.mem_cons_of_mem _ (List.mem_append_right _ h)) (by decide +kernel))
set_option maxRecDepth 20000 in
theorem gL_obligation_X2_obligation : GoodIn wsL_obligation (wsV RL 53 RX2 yX2_obligation wsX2_obligation) := goodIn_app (goodIn_of _ (by decide +kernel)) ggL_obligation_X2_obligation
theorem dL_obligation_0 : decode cL_obligation 0 = .ok (.aload 4, 2) := by decide +kernel
theorem dL_obligation_2 : decode cL_obligation 2 = .ok (.iconst 0, 1) := by decide +kernel
theorem dL_obligation_3 : decode cL_obligation 3 = .ok (.aload_n 0, 1) := by decide +kernel
theorem dL_obligation_4 : decode cL_obligation 4 = .ok (.iload_n 1, 1) := by decide +kernel
theorem dL_obligation_5 : decode cL_obligation 5 = .ok (.iload_n 2, 1) := by decide +kernel
theorem dL_obligation_6 : decode cL_obligation 6 = .ok (.iload_n 3, 1) := by decide +kernel
theorem dL_obligation_7 : decode cL_obligation 7 = .ok (.invokevirtual 53, 3) := by decide +kernel
theorem dL_obligation_10 : decode cL_obligation 10 = .ok (.i2l, 1) := by decide +kernel
theorem dL_obligation_11 : decode cL_obligation 11 = .ok (.lastore, 1) := by decide +kernel
theorem dL_obligation_12 : decode cL_obligation 12 = .ok (.goto 7, 3) := by decide +kernel
theorem dL_obligation_15 : decode cL_obligation 15 = .ok (.astore 5, 2) := by decide +kernel
theorem dL_obligation_17 : decode cL_obligation 17 = .ok (.iconst 1, 1) := by decide +kernel
theorem dL_obligation_18 : decode cL_obligation 18 = .ok (.ireturn, 1) := by decide +kernel
theorem dL_obligation_19 : decode cL_obligation 19 = .ok (.iconst 0, 1) := by decide +kernel
theorem dL_obligation_20 : decode cL_obligation 20 = .ok (.ireturn, 1) := by decide +kernel
set_option maxRecDepth 20000 in
theorem ggL_trade_X2_trade : GoodIn wsL_trade wsX2_trade := goodIn_ca (goodIn_ca (goodIn_ca (goodIn_r _ [8, 9, 10, 11, 12, 13, 14, 15, 16, 17, 18, 7, 19, 20, 21, 22, 23, 24, 25, 26, 27, 28, 29, 30, 31, 32, 33, 34, 35, 36, 37, 38, 39, 40, 41, 42, 43, 44, 45, 46, 47, 48, 49, 50, 51, 52] (by decide +kernel) (by decide +kernel)) (goodIn_sub (fun _ h => List.mem_cons_of_mem _ (List.mem_append_left _ (List.mem_append_left _ (List.mem_append_right _ h)))) (by decide +kernel))) (goodIn_sub (fun _ h => List.mem_cons_of_mem _ (List.mem_append_left _ (List.mem_append_right _ h))) (by decide +kernel))) (goodIn_sub (fun _ h => List.mem_cons_of_mem _ (List.mem_append_right _ h)) (by decide +kernel))
set_option maxRecDepth 20000 in
theorem gL_trade_X2_trade : GoodIn wsL_trade (wsV RL 57 RX2 yX2_trade wsX2_trade) := goodIn_app (goodIn_of _ (by decide +kernel)) ggL_trade_X2_trade
theorem dL_trade_0 : decode cL_trade 0 = .ok (.aload 7, 2) := by decide +kernel
theorem dL_trade_2 : decode cL_trade 2 = .ok (.iconst 0, 1) := by decide +kernel
theorem dL_trade_3 : decode cL_trade 3 = .ok (.aload_n 0, 1) := by decide +kernel
theorem dL_trade_4 : decode cL_trade 4 = .ok (.iload_n 1, 1) := by decide +kernel
theorem dL_trade_5 : decode cL_trade 5 = .ok (.iload_n 2, 1) := by decide +kernel
theorem dL_trade_6 : decode cL_trade 6 = .ok (.iload_n 3, 1) := by decide +kernel
theorem dL_trade_7 : decode cL_trade 7 = .ok (.iload 4, 2) := by decide +kernel
theorem dL_trade_9 : decode cL_trade 9 = .ok (.iload 5, 2) := by decide +kernel
theorem dL_trade_11 : decode cL_trade 11 = .ok (.iload 6, 2) := by decide +kernel
theorem dL_trade_13 : decode cL_trade 13 = .ok (.invokevirtual 57, 3) := by decide +kernel
theorem dL_trade_16 : decode cL_trade 16 = .ok (.i2l, 1) := by decide +kernel
theorem dL_trade_17 : decode cL_trade 17 = .ok (.lastore, 1) := by decide +kernel
theorem dL_trade_18 : decode cL_trade 18 = .ok (.goto 15, 3) := by decide +kernel
theorem dL_trade_21 : decode cL_trade 21 = .ok (.astore 8, 2) := by decide +kernel
theorem dL_trade_23 : decode cL_trade 23 = .ok (.iconst 1, 1) := by decide +kernel
theorem dL_trade_24 : decode cL_trade 24 = .ok (.ireturn, 1) := by decide +kernel
theorem dL_trade_25 : decode cL_trade 25 = .ok (.astore 8, 2) := by decide +kernel
theorem dL_trade_27 : decode cL_trade 27 = .ok (.iconst 2, 1) := by decide +kernel
theorem dL_trade_28 : decode cL_trade 28 = .ok (.ireturn, 1) := by decide +kernel
theorem dL_trade_29 : decode cL_trade 29 = .ok (.astore 8, 2) := by decide +kernel
theorem dL_trade_31 : decode cL_trade 31 = .ok (.iconst 3, 1) := by decide +kernel
theorem dL_trade_32 : decode cL_trade 32 = .ok (.ireturn, 1) := by decide +kernel
theorem dL_trade_33 : decode cL_trade 33 = .ok (.iconst 0, 1) := by decide +kernel
theorem dL_trade_34 : decode cL_trade 34 = .ok (.ireturn, 1) := by decide +kernel
set_option maxRecDepth 20000 in
theorem ggL_stress_X2_stress : GoodIn wsL_stress wsX2_stress := goodIn_ca (goodIn_r _ [6, 7, 8, 9, 10, 11, 5, 12, 13, 14, 15, 16, 17, 18, 19, 20, 21, 22, 23, 24, 25, 26, 27, 28] (by decide +kernel) (by decide +kernel)) (goodIn_sub (fun _ h => List.mem_cons_of_mem _ (List.mem_append_right _ h)) (by decide +kernel))
set_option maxRecDepth 20000 in
theorem gL_stress_X2_stress : GoodIn wsL_stress (wsV RL 61 RX2 yX2_stress wsX2_stress) := goodIn_app (goodIn_of _ (by decide +kernel)) ggL_stress_X2_stress
theorem dL_stress_0 : decode cL_stress 0 = .ok (.aload_n 3, 1) := by decide +kernel
theorem dL_stress_1 : decode cL_stress 1 = .ok (.iconst 0, 1) := by decide +kernel
theorem dL_stress_2 : decode cL_stress 2 = .ok (.aload_n 0, 1) := by decide +kernel
theorem dL_stress_3 : decode cL_stress 3 = .ok (.iload_n 1, 1) := by decide +kernel
theorem dL_stress_4 : decode cL_stress 4 = .ok (.iload_n 2, 1) := by decide +kernel
theorem dL_stress_5 : decode cL_stress 5 = .ok (.invokevirtual 61, 3) := by decide +kernel
theorem dL_stress_8 : decode cL_stress 8 = .ok (.ifCond .eq 7, 3) := by decide +kernel
theorem dL_stress_11 : decode cL_stress 11 = .ok (.lconst 1, 1) := by decide +kernel
theorem dL_stress_12 : decode cL_stress 12 = .ok (.goto 4, 3) := by decide +kernel
theorem dL_stress_15 : decode cL_stress 15 = .ok (.lconst 0, 1) := by decide +kernel
theorem dL_stress_16 : decode cL_stress 16 = .ok (.lastore, 1) := by decide +kernel
theorem dL_stress_17 : decode cL_stress 17 = .ok (.goto 7, 3) := by decide +kernel
theorem dL_stress_20 : decode cL_stress 20 = .ok (.astore 4, 2) := by decide +kernel
theorem dL_stress_22 : decode cL_stress 22 = .ok (.iconst 1, 1) := by decide +kernel
theorem dL_stress_23 : decode cL_stress 23 = .ok (.ireturn, 1) := by decide +kernel
theorem dL_stress_24 : decode cL_stress 24 = .ok (.iconst 0, 1) := by decide +kernel
theorem dL_stress_25 : decode cL_stress 25 = .ok (.ireturn, 1) := by decide +kernel
set_option maxRecDepth 20000 in
theorem ggL_tell_X2_tell : GoodIn wsL_tell wsX2_tell := goodIn_ca (goodIn_ca (goodIn_r _ [7, 8, 9, 10, 11, 12, 13, 14, 6, 15, 16, 17, 18, 19, 20, 21, 22, 23, 24, 25, 26, 27, 28, 29, 30, 31, 32, 33, 34, 35, 36, 37, 38, 39, 40] (by decide +kernel) (by decide +kernel)) (goodIn_sub (fun _ h => List.mem_cons_of_mem _ (List.mem_append_left _ (List.mem_append_right _ h))) (by decide +kernel))) (goodIn_sub (fun _ h => List.mem_cons_of_mem _ (List.mem_append_right _ h)) (by decide +kernel))
set_option maxRecDepth 20000 in
theorem gL_tell_X2_tell : GoodIn wsL_tell (wsV RL 64 RX2 yX2_tell wsX2_tell) := goodIn_app (goodIn_of _ (by decide +kernel)) ggL_tell_X2_tell
theorem dL_tell_0 : decode cL_tell 0 = .ok (.aload 5, 2) := by decide +kernel
theorem dL_tell_2 : decode cL_tell 2 = .ok (.iconst 0, 1) := by decide +kernel
theorem dL_tell_3 : decode cL_tell 3 = .ok (.aload_n 0, 1) := by decide +kernel
theorem dL_tell_4 : decode cL_tell 4 = .ok (.iload_n 1, 1) := by decide +kernel
theorem dL_tell_5 : decode cL_tell 5 = .ok (.iload_n 2, 1) := by decide +kernel
theorem dL_tell_6 : decode cL_tell 6 = .ok (.iload_n 3, 1) := by decide +kernel
theorem dL_tell_7 : decode cL_tell 7 = .ok (.iload 4, 2) := by decide +kernel
theorem dL_tell_9 : decode cL_tell 9 = .ok (.invokevirtual 64, 3) := by decide +kernel
theorem dL_tell_12 : decode cL_tell 12 = .ok (.i2l, 1) := by decide +kernel
theorem dL_tell_13 : decode cL_tell 13 = .ok (.lastore, 1) := by decide +kernel
theorem dL_tell_14 : decode cL_tell 14 = .ok (.goto 11, 3) := by decide +kernel
theorem dL_tell_17 : decode cL_tell 17 = .ok (.astore 6, 2) := by decide +kernel
theorem dL_tell_19 : decode cL_tell 19 = .ok (.iconst 1, 1) := by decide +kernel
theorem dL_tell_20 : decode cL_tell 20 = .ok (.ireturn, 1) := by decide +kernel
theorem dL_tell_21 : decode cL_tell 21 = .ok (.astore 6, 2) := by decide +kernel
theorem dL_tell_23 : decode cL_tell 23 = .ok (.iconst 2, 1) := by decide +kernel
theorem dL_tell_24 : decode cL_tell 24 = .ok (.ireturn, 1) := by decide +kernel
theorem dL_tell_25 : decode cL_tell 25 = .ok (.iconst 0, 1) := by decide +kernel
theorem dL_tell_26 : decode cL_tell 26 = .ok (.ireturn, 1) := by decide +kernel
set_option maxRecDepth 20000 in
theorem ggL_setPenalty_X2_setPenalty : GoodIn wsL_setPenalty wsX2_setPenalty := goodIn_ca (goodIn_r _ [6, 7, 8, 9, 10, 11, 12, 5, 13, 14, 15, 16, 17, 18, 19, 20, 21, 22, 23] (by decide +kernel) (by decide +kernel)) (goodIn_sub (fun _ h => List.mem_cons_of_mem _ (List.mem_append_right _ h)) (by decide +kernel))
set_option maxRecDepth 20000 in
theorem gL_setPenalty_X2_setPenalty : GoodIn wsL_setPenalty (wsV RL 68 RX2 yX2_setPenalty wsX2_setPenalty) := goodIn_app (goodIn_of _ (by decide +kernel)) ggL_setPenalty_X2_setPenalty
theorem dL_setPenalty_0 : decode cL_setPenalty 0 = .ok (.aload_n 0, 1) := by decide +kernel
theorem dL_setPenalty_1 : decode cL_setPenalty 1 = .ok (.iload_n 1, 1) := by decide +kernel
theorem dL_setPenalty_2 : decode cL_setPenalty 2 = .ok (.iload_n 2, 1) := by decide +kernel
theorem dL_setPenalty_3 : decode cL_setPenalty 3 = .ok (.invokevirtual 68, 3) := by decide +kernel
theorem dL_setPenalty_6 : decode cL_setPenalty 6 = .ok (.goto 6, 3) := by decide +kernel
theorem dL_setPenalty_9 : decode cL_setPenalty 9 = .ok (.astore_n 3, 1) := by decide +kernel
theorem dL_setPenalty_10 : decode cL_setPenalty 10 = .ok (.iconst 1, 1) := by decide +kernel
theorem dL_setPenalty_11 : decode cL_setPenalty 11 = .ok (.ireturn, 1) := by decide +kernel
theorem dL_setPenalty_12 : decode cL_setPenalty 12 = .ok (.iconst 0, 1) := by decide +kernel
theorem dL_setPenalty_13 : decode cL_setPenalty 13 = .ok (.ireturn, 1) := by decide +kernel
set_option maxRecDepth 20000 in
theorem ggL_lack_X2_lack : GoodIn wsL_lack wsX2_lack := goodIn_ca (goodIn_r _ [6, 7, 8, 9, 10, 5, 11, 12, 13, 14, 15, 16, 17, 18, 19, 20, 21, 22, 23, 24, 25, 26, 27, 28, 29, 30, 31, 32, 33, 34, 35, 36, 37, 38, 39, 40] (by decide +kernel) (by decide +kernel)) (goodIn_sub (fun _ h => List.mem_cons_of_mem _ (List.mem_append_right _ h)) (by decide +kernel))
set_option maxRecDepth 20000 in
theorem gL_lack_X2_lack : GoodIn wsL_lack (wsV RL 72 RX2 yX2_lack wsX2_lack) := goodIn_app (goodIn_of _ (by decide +kernel)) ggL_lack_X2_lack
theorem dL_lack_0 : decode cL_lack 0 = .ok (.aload_n 3, 1) := by decide +kernel
theorem dL_lack_1 : decode cL_lack 1 = .ok (.iconst 0, 1) := by decide +kernel
theorem dL_lack_2 : decode cL_lack 2 = .ok (.aload_n 0, 1) := by decide +kernel
theorem dL_lack_3 : decode cL_lack 3 = .ok (.iload_n 1, 1) := by decide +kernel
theorem dL_lack_4 : decode cL_lack 4 = .ok (.iload_n 2, 1) := by decide +kernel
theorem dL_lack_5 : decode cL_lack 5 = .ok (.invokevirtual 72, 3) := by decide +kernel
theorem dL_lack_8 : decode cL_lack 8 = .ok (.i2l, 1) := by decide +kernel
theorem dL_lack_9 : decode cL_lack 9 = .ok (.lastore, 1) := by decide +kernel
theorem dL_lack_10 : decode cL_lack 10 = .ok (.goto 7, 3) := by decide +kernel
theorem dL_lack_13 : decode cL_lack 13 = .ok (.astore 4, 2) := by decide +kernel
theorem dL_lack_15 : decode cL_lack 15 = .ok (.iconst 1, 1) := by decide +kernel
theorem dL_lack_16 : decode cL_lack 16 = .ok (.ireturn, 1) := by decide +kernel
theorem dL_lack_17 : decode cL_lack 17 = .ok (.iconst 0, 1) := by decide +kernel
theorem dL_lack_18 : decode cL_lack 18 = .ok (.ireturn, 1) := by decide +kernel
set_option maxRecDepth 20000 in
theorem ggL_penalty_X2_penalty : GoodIn wsL_penalty wsX2_penalty := goodIn_ca (goodIn_r _ [6, 7, 8, 9, 10, 5, 11, 12, 13, 14, 15, 16, 17, 18, 19, 20, 21, 22, 23, 24, 25, 26, 27, 28, 29, 30, 31, 32, 33, 34, 35, 36, 37, 38, 39, 40, 41, 42, 43, 44, 45, 46, 47, 48, 49, 50, 51, 52, 53, 54, 55] (by decide +kernel) (by decide +kernel)) (goodIn_sub (fun _ h => List.mem_cons_of_mem _ (List.mem_append_right _ h)) (by decide +kernel))
set_option maxRecDepth 20000 in
theorem gL_penalty_X2_penalty : GoodIn wsL_penalty (wsV RL 75 RX2 yX2_penalty wsX2_penalty) := goodIn_app (goodIn_of _ (by decide +kernel)) ggL_penalty_X2_penalty
theorem dL_penalty_0 : decode cL_penalty 0 = .ok (.aload_n 3, 1) := by decide +kernel
theorem dL_penalty_1 : decode cL_penalty 1 = .ok (.iconst 0, 1) := by decide +kernel
theorem dL_penalty_2 : decode cL_penalty 2 = .ok (.aload_n 0, 1) := by decide +kernel
theorem dL_penalty_3 : decode cL_penalty 3 = .ok (.iload_n 1, 1) := by decide +kernel
theorem dL_penalty_4 : decode cL_penalty 4 = .ok (.iload_n 2, 1) := by decide +kernel
theorem dL_penalty_5 : decode cL_penalty 5 = .ok (.invokevirtual 75, 3) := by decide +kernel
theorem dL_penalty_8 : decode cL_penalty 8 = .ok (.i2l, 1) := by decide +kernel
theorem dL_penalty_9 : decode cL_penalty 9 = .ok (.lastore, 1) := by decide +kernel
theorem dL_penalty_10 : decode cL_penalty 10 = .ok (.goto 7, 3) := by decide +kernel
theorem dL_penalty_13 : decode cL_penalty 13 = .ok (.astore 4, 2) := by decide +kernel
theorem dL_penalty_15 : decode cL_penalty 15 = .ok (.iconst 1, 1) := by decide +kernel
theorem dL_penalty_16 : decode cL_penalty 16 = .ok (.ireturn, 1) := by decide +kernel
theorem dL_penalty_17 : decode cL_penalty 17 = .ok (.iconst 0, 1) := by decide +kernel
theorem dL_penalty_18 : decode cL_penalty 18 = .ok (.ireturn, 1) := by decide +kernel
