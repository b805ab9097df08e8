theorem dL_cell_0 : decode cL_cell 0 = .ok (.iload_n 1, 1) := by decide +kernel
theorem dL_cell_1 : decode cL_cell 1 = .ok (.aload_n 0, 1) := by decide +kernel
theorem dL_cell_2 : decode cL_cell 2 = .ok (.arraylength, 1) := by decide +kernel
theorem dL_cell_3 : decode cL_cell 3 = .ok (.if_icmp .ge 9, 3) := by decide +kernel
theorem dL_cell_6 : decode cL_cell 6 = .ok (.aload_n 0, 1) := by decide +kernel
theorem dL_cell_7 : decode cL_cell 7 = .ok (.iload_n 1, 1) := by decide +kernel
theorem dL_cell_8 : decode cL_cell 8 = .ok (.iaload, 1) := by decide +kernel
theorem dL_cell_9 : decode cL_cell 9 = .ok (.goto 15, 3) := by decide +kernel
theorem dL_cell_12 : decode cL_cell 12 = .ok (.ldc 7, 2) := by decide +kernel
theorem dL_cell_14 : decode cL_cell 14 = .ok (.iload_n 1, 1) := by decide +kernel
theorem dL_cell_15 : decode cL_cell 15 = .ok (.sipush 6121, 3) := by decide +kernel
theorem dL_cell_18 : decode cL_cell 18 = .ok (.irem, 1) := by decide +kernel
theorem dL_cell_19 : decode cL_cell 19 = .ok (.imul, 1) := by decide +kernel
theorem dL_cell_20 : decode cL_cell 20 = .ok (.sipush 4007, 3) := by decide +kernel
theorem dL_cell_23 : decode cL_cell 23 = .ok (.iadd, 1) := by decide +kernel
theorem dL_cell_24 : decode cL_cell 24 = .ok (.ldc 8, 2) := by decide +kernel
theorem dL_cell_26 : decode cL_cell 26 = .ok (.iand, 1) := by decide +kernel
theorem dL_cell_27 : decode cL_cell 27 = .ok (.ireturn, 1) := by decide +kernel
set_option maxRecDepth 20000 in
theorem ggL_demand_X2_setDemand : GoodIn wsL_demand wsX2_setDemand := goodIn_ca (goodIn_r _ [6, 7, 8, 9, 10, 11, 5, 12, 13, 14, 15, 16, 17, 18, 19, 20, 21, 22, 23, 24, 25, 26, 27, 28, 29, 30, 31, 32, 33, 34, 35, 36, 37, 38, 39] (by decide +kernel) (by decide +kernel)) (goodIn_sub (fun _ h => List.mem_cons_of_mem _ (List.mem_append_right _ h)) (by decide +kernel))
set_option maxRecDepth 20000 in
theorem gL_demand_X2_setDemand : GoodIn wsL_demand (wsV RL 9 RX2 yX2_setDemand wsX2_setDemand) := goodIn_app (goodIn_of _ (by decide +kernel)) ggL_demand_X2_setDemand
theorem dL_demand_0 : decode cL_demand 0 = .ok (.aload_n 0, 1) := by decide +kernel
theorem dL_demand_1 : decode cL_demand 1 = .ok (.iload_n 1, 1) := by decide +kernel
theorem dL_demand_2 : decode cL_demand 2 = .ok (.iload_n 2, 1) := by decide +kernel
theorem dL_demand_3 : decode cL_demand 3 = .ok (.iload_n 3, 1) := by decide +kernel
theorem dL_demand_4 : decode cL_demand 4 = .ok (.invokevirtual 9, 3) := by decide +kernel
theorem dL_demand_7 : decode cL_demand 7 = .ok (.goto 8, 3) := by decide +kernel
theorem dL_demand_10 : decode cL_demand 10 = .ok (.astore 4, 2) := by decide +kernel
theorem dL_demand_12 : decode cL_demand 12 = .ok (.bipush (-102), 2) := by decide +kernel
theorem dL_demand_14 : decode cL_demand 14 = .ok (.ireturn, 1) := by decide +kernel
theorem dL_demand_15 : decode cL_demand 15 = .ok (.iconst 0, 1) := by decide +kernel
theorem dL_demand_16 : decode cL_demand 16 = .ok (.ireturn, 1) := by decide +kernel
set_option maxRecDepth 20000 in
theorem ggL_value_X2_value : GoodIn wsL_value wsX2_value := goodIn_ca (goodIn_r _ [6, 7, 8, 9, 10, 11, 5, 12, 13, 14, 15, 16, 17, 18, 19, 20, 21, 22, 23, 24, 25, 26, 27, 28, 29, 30, 31, 32, 33, 34] (by decide +kernel) (by decide +kernel)) (goodIn_sub (fun _ h => List.mem_cons_of_mem _ (List.mem_append_right _ h)) (by decide +kernel))
set_option maxRecDepth 20000 in
theorem gL_value_X2_value : GoodIn wsL_value (wsV RL 17 RX2 yX2_value wsX2_value) := goodIn_app (goodIn_of _ (by decide +kernel)) ggL_value_X2_value
theorem dL_value_0 : decode cL_value 0 = .ok (.aload_n 0, 1) := by decide +kernel
theorem dL_value_1 : decode cL_value 1 = .ok (.iload_n 1, 1) := by decide +kernel
theorem dL_value_2 : decode cL_value 2 = .ok (.invokevirtual 17, 3) := by decide +kernel
theorem dL_value_5 : decode cL_value 5 = .ok (.ireturn, 1) := by decide +kernel
theorem dL_value_6 : decode cL_value 6 = .ok (.astore_n 2, 1) := by decide +kernel
theorem dL_value_7 : decode cL_value 7 = .ok (.bipush (-102), 2) := by decide +kernel
theorem dL_value_9 : decode cL_value 9 = .ok (.ireturn, 1) := by decide +kernel
set_option maxRecDepth 20000 in
theorem ggL_worth_X2_worth : GoodIn wsL_worth wsX2_worth := goodIn_ca (goodIn_r _ [6, 7, 8, 9, 10, 11, 5, 12, 13, 14, 15, 16, 17, 18, 19, 20, 21, 22, 23, 24, 25, 26, 27, 28, 29, 30, 31, 32, 33, 34, 35, 36, 37, 38, 39] (by decide +kernel) (by decide +kernel)) (goodIn_sub (fun _ h => List.mem_cons_of_mem _ (List.mem_append_right _ h)) (by decide +kernel))
set_option maxRecDepth 20000 in
theorem gL_worth_X2_worth : GoodIn wsL_worth (wsV RL 21 RX2 yX2_worth wsX2_worth) := goodIn_app (goodIn_of _ (by decide +kernel)) ggL_worth_X2_worth
theorem dL_worth_0 : decode cL_worth 0 = .ok (.aload_n 0, 1) := by decide +kernel
theorem dL_worth_1 : decode cL_worth 1 = .ok (.iload_n 1, 1) := by decide +kernel
theorem dL_worth_2 : decode cL_worth 2 = .ok (.invokevirtual 21, 3) := by decide +kernel
theorem dL_worth_5 : decode cL_worth 5 = .ok (.ireturn, 1) := by decide +kernel
theorem dL_worth_6 : decode cL_worth 6 = .ok (.astore_n 2, 1) := by decide +kernel
theorem dL_worth_7 : decode cL_worth 7 = .ok (.bipush (-102), 2) := by decide +kernel
theorem dL_worth_9 : decode cL_worth 9 = .ok (.ireturn, 1) := by decide +kernel
set_option maxRecDepth 20000 in
theorem ggL_offer_X2_offer : GoodIn wsL_offer wsX2_offer := goodIn_ca (goodIn_ca (goodIn_ca (goodIn_r _ [8, 9, 10, 11, 12, 13, 14, 15, 16, 17, 7, 18, 19, 20, 21, 22, 23, 24, 25, 26, 27, 28, 29, 30, 31, 32, 33, 34, 35, 36, 37, 38, 39, 40, 41, 42, 43, 44, 45, 46, 47, 48, 49, 50, 51, 52, 53] (by decide +kernel) (by decide +kernel)) (goodIn_sub (fun _ h => List.mem_cons_of_mem _ (List.mem_append_left _ (List.mem_append_left _ (List.mem_append_right _ h)))) (by decide +kernel))) (goodIn_sub (fun _ h => List.mem_cons_of_mem _ (List.mem_append_left _ (List.mem_append_right _ h))) (by decide +kernel))) (goodIn_sub (fun _ h => List.mem_cons_of_mem _ (List.mem_append_right _ h)) (by decide +kernel))
set_option maxRecDepth 20000 in
theorem gL_offer_X2_offer : GoodIn wsL_offer (wsV RL 24 RX2 yX2_offer wsX2_offer) := goodIn_app (goodIn_of _ (by decide +kernel)) ggL_offer_X2_offer
theorem dL_offer_0 : decode cL_offer 0 = .ok (.aload_n 0, 1) := by decide +kernel
theorem dL_offer_1 : decode cL_offer 1 = .ok (.iload_n 1, 1) := by decide +kernel
theorem dL_offer_2 : decode cL_offer 2 = .ok (.iload_n 2, 1) := by decide +kernel
theorem dL_offer_3 : decode cL_offer 3 = .ok (.iload_n 3, 1) := by decide +kernel
theorem dL_offer_4 : decode cL_offer 4 = .ok (.iload 4, 2) := by decide +kernel
theorem dL_offer_6 : decode cL_offer 6 = .ok (.iload 5, 2) := by decide +kernel
theorem dL_offer_8 : decode cL_offer 8 = .ok (.invokevirtual 24, 3) := by decide +kernel
theorem dL_offer_11 : decode cL_offer 11 = .ok (.ireturn, 1) := by decide +kernel
theorem dL_offer_12 : decode cL_offer 12 = .ok (.astore 6, 2) := by decide +kernel
theorem dL_offer_14 : decode cL_offer 14 = .ok (.bipush (-101), 2) := by decide +kernel
theorem dL_offer_16 : decode cL_offer 16 = .ok (.ireturn, 1) := by decide +kernel
theorem dL_offer_17 : decode cL_offer 17 = .ok (.astore 6, 2) := by decide +kernel
theorem dL_offer_19 : decode cL_offer 19 = .ok (.bipush (-102), 2) := by decide +kernel
theorem dL_offer_21 : decode cL_offer 21 = .ok (.ireturn, 1) := by decide +kernel
theorem dL_offer_22 : decode cL_offer 22 = .ok (.astore 6, 2) := by decide +kernel
theorem dL_offer_24 : decode cL_offer 24 = .ok (.bipush (-103), 2) := by decide +kernel
theorem dL_offer_26 : decode cL_offer 26 = .ok (.ireturn, 1) := by decide +kernel
set_option maxRecDepth 20000 in
theorem ggL_supply_X2_supply : GoodIn wsL_supply wsX2_supply := goodIn_ca (goodIn_r _ [6, 7, 8, 9, 10, 11, 5, 12, 13, 14, 15, 16, 17, 18, 19, 20, 21, 22, 23, 24, 25, 26, 27, 28, 29, 30, 31, 32, 33, 34, 35, 36, 37] (by decide +kernel) (by decide +kernel)) (goodIn_sub (fun _ h => List.mem_cons_of_mem _ (List.mem_append_right _ h)) (by decide +kernel))
set_option maxRecDepth 20000 in
theorem gL_supply_X2_supply : GoodIn wsL_supply (wsV RL 32 RX2 yX2_supply wsX2_supply) := goodIn_app (goodIn_of _ (by decide +kernel)) ggL_supply_X2_supply
theorem dL_supply_0 : decode cL_supply 0 = .ok (.aload_n 0, 1) := by decide +kernel
theorem dL_supply_1 : decode cL_supply 1 = .ok (.iload_n 1, 1) := by decide +kernel
theorem dL_supply_2 : decode cL_supply 2 = .ok (.invokevirtual 32, 3) := by decide +kernel
theorem dL_supply_5 : decode cL_supply 5 = .ok (.ireturn, 1) := by decide +kernel
theorem dL_supply_6 : decode cL_supply 6 = .ok (.astore_n 2, 1) := by decide +kernel
theorem dL_supply_7 : decode cL_supply 7 = .ok (.bipush (-102), 2) := by decide +kernel
theorem dL_supply_9 : decode cL_supply 9 = .ok (.ireturn, 1) := by decide +kernel
set_option maxRecDepth 20000 in
theorem ggL_clearing_X2_clearing : GoodIn wsL_clearing wsX2_clearing := goodIn_ca (goodIn_r _ [6, 7, 8, 9, 10, 11, 12, 13, 5, 14, 15, 16, 17, 18, 19, 20, 21, 22, 23, 24, 25, 26, 27, 28, 29, 30, 31, 32, 33, 34, 35, 36, 37, 38, 39, 40, 41, 42, 43, 44, 45, 46, 47, 48, 49, 50, 51, 52, 53, 54, 55, 56, 57, 58, 59, 60, 61, 62, 63, 64] (by decide +kernel) (by decide +kernel)) (goodIn_sub (fun _ h => List.mem_cons_of_mem _ (List.mem_append_right _ h)) (by decide +kernel))
set_option maxRecDepth 20000 in
theorem gL_clearing_X2_clearing : GoodIn wsL_clearing (wsV RL 35 RX2 yX2_clearing wsX2_clearing) := goodIn_app (goodIn_of _ (by decide +kernel)) ggL_clearing_X2_clearing
theorem dL_clearing_0 : decode cL_clearing 0 = .ok (.aload_n 0, 1) := by decide +kernel
theorem dL_clearing_1 : decode cL_clearing 1 = .ok (.iload_n 1, 1) := by decide +kernel
theorem dL_clearing_2 : decode cL_clearing 2 = .ok (.invokevirtual 35, 3) := by decide +kernel
theorem dL_clearing_5 : decode cL_clearing 5 = .ok (.ireturn, 1) := by decide +kernel
theorem dL_clearing_6 : decode cL_clearing 6 = .ok (.astore_n 2, 1) := by decide +kernel
theorem dL_clearing_7 : decode cL_clearing 7 = .ok (.bipush (-101), 2) := by decide +kernel
theorem dL_clearing_9 : decode cL_clearing 9 = .ok (.ireturn, 1) := by decide +kernel
set_option maxRecDepth 20000 in
theorem ggL_clock_X2_clearingByClock : GoodIn wsL_clock wsX2_clearingByClock := goodIn_ca (goodIn_r _ [6, 7, 8, 9, 10, 11, 12, 13, 5, 14, 15, 16, 17, 18, 19, 20, 21, 22, 23, 24, 25, 26, 27, 28, 29, 30, 31, 32, 33, 34, 35, 36, 37, 38, 39, 40, 41, 42, 43, 44, 45, 46, 47, 48, 49, 50, 51, 52, 53, 54, 55, 56, 57, 58, 59, 60, 61, 62, 63, 64, 65, 66, 67, 68] (by decide +kernel) (by decide +kernel)) (goodIn_sub (fun _ h => List.mem_cons_of_mem _ (List.mem_append_right _ h)) (by decide +kernel))
set_option maxRecDepth 20000 in
theorem gL_clock_X2_clearingByClock : GoodIn wsL_clock (wsV RL 38 RX2 yX2_clearingByClock wsX2_clearingByClock) := goodIn_app (goodIn_of _ (by decide +kernel)) ggL_clock_X2_clearingByClock
theorem dL_clock_0 : decode cL_clock 0 = .ok (.aload_n 0, 1) := by decide +kernel
theorem dL_clock_1 : decode cL_clock 1 = .ok (.iload_n 1, 1) := by decide +kernel
theorem dL_clock_2 : decode cL_clock 2 = .ok (.invokevirtual 38, 3) := by decide +kernel
theorem dL_clock_5 : decode cL_clock 5 = .ok (.ireturn, 1) := by decide +kernel
theorem dL_clock_6 : decode cL_clock 6 = .ok (.astore_n 2, 1) := by decide +kernel
theorem dL_clock_7 : decode cL_clock 7 = .ok (.bipush (-101), 2) := by decide +kernel
theorem dL_clock_9 : decode cL_clock 9 = .ok (.ireturn, 1) := by decide +kernel
set_option maxRecDepth 20000 in
theorem ggL_would_X2_wouldTake : GoodIn wsL_would wsX2_wouldTake := goodIn_ca (goodIn_r _ [6, 7, 8, 9, 10, 11, 12, 13, 14, 15, 16, 17, 18, 19, 5, 20, 21, 22, 23, 24, 25, 26, 27, 28, 29, 30, 31, 32, 33, 34, 35, 36, 37, 38, 39, 40, 41, 42, 43, 44, 45, 46, 47, 48, 49, 50, 51, 52, 53, 54, 55, 56, 57, 58, 59, 60, 61, 62, 63, 64, 65, 66, 67, 68] (by decide +kernel) (by decide +kernel)) (goodIn_sub (fun _ h => List.mem_cons_of_mem _ (List.mem_append_right _ h)) (by decide +kernel))
set_option maxRecDepth 20000 in
theorem gL_would_X2_wouldTake : GoodIn wsL_would (wsV RL 41 RX2 yX2_wouldTake wsX2_wouldTake) := goodIn_app (goodIn_of _ (by decide +kernel)) ggL_would_X2_wouldTake
theorem dL_would_0 : decode cL_would 0 = .ok (.aload_n 0, 1) := by decide +kernel
theorem dL_would_1 : decode cL_would 1 = .ok (.iload_n 1, 1) := by decide +kernel
theorem dL_would_2 : decode cL_would 2 = .ok (.iload_n 2, 1) := by decide +kernel
theorem dL_would_3 : decode cL_would 3 = .ok (.invokevirtual 41, 3) := by decide +kernel
theorem dL_would_6 : decode cL_would 6 = .ok (.ifCond .eq 7, 3) := by decide +kernel
theorem dL_would_9 : decode cL_would 9 = .ok (.iconst 1, 1) := by decide +kernel
theorem dL_would_10 : decode cL_would 10 = .ok (.goto 4, 3) := by decide +kernel
theorem dL_would_13 : decode cL_would 13 = .ok (.iconst 0, 1) := by decide +kernel
theorem dL_would_14 : decode cL_would 14 = .ok (.ireturn, 1) := by decide +kernel
theorem dL_would_15 : decode cL_would 15 = .ok (.astore_n 3, 1) := by decide +kernel
theorem dL_would_16 : decode cL_would 16 = .ok (.bipush (-101), 2) := by decide +kernel
theorem dL_would_18 : decode cL_would 18 = .ok (.ireturn, 1) := by decide +kernel
set_option maxRecDepth 20000 in
theorem ggL_run_X2_run : GoodIn wsL_run wsX2_run := goodIn_ca (goodIn_ca (goodIn_r _ [7, 8, 9, 10, 11, 12, 13, 14, 15, 16, 17, 18, 6, 19, 20, 21, 22, 23, 24, 25, 26, 27, 28, 29, 30, 31, 32, 33, 34, 35, 36, 37, 38, 39, 40, 41, 42, 43, 44, 45, 46, 47, 48, 49, 50, 51, 52, 53, 54, 55, 56, 57, 58, 59, 60, 61, 62, 63, 64, 65, 66, 67, 68, 69, 70, 71, 72, 73, 74, 75, 76, 77, 78, 79, 80, 81, 82, 83, 84, 85, 86, 87, 88, 89] (by decide +kernel) (by decide +kernel)) (goodIn_sub (fun _ h => List.mem_cons_of_mem _ (List.mem_append_left _ (List.mem_append_right _ h))) (by decide +kernel))) (goodIn_sub (fun _ h => List.mem_cons_of_mem _ (List.mem_append_right _ h)) (by decide +kernel))
set_option maxRecDepth 20000 in
theorem gL_run_X2_run : GoodIn wsL_run (wsV RL 45 RX2 yX2_run wsX2_run) := goodIn_app (goodIn_of _ (by decide +kernel)) ggL_run_X2_run
theorem dL_run_0 : decode cL_run 0 = .ok (.aload_n 0, 1) := by decide +kernel
theorem dL_run_1 : decode cL_run 1 = .ok (.iload_n 1, 1) := by decide +kernel
theorem dL_run_2 : decode cL_run 2 = .ok (.invokevirtual 45, 3) := by decide +kernel
theorem dL_run_5 : decode cL_run 5 = .ok (.ireturn, 1) := by decide +kernel
theorem dL_run_6 : decode cL_run 6 = .ok (.astore_n 2, 1) := by decide +kernel
theorem dL_run_7 : decode cL_run 7 = .ok (.bipush (-101), 2) := by decide +kernel
theorem dL_run_9 : decode cL_run 9 = .ok (.ireturn, 1) := by decide +kernel
theorem dL_run_10 : decode cL_run 10 = .ok (.astore_n 2, 1) := by decide +kernel
theorem dL_run_11 : decode cL_run 11 = .ok (.bipush (-103), 2) := by decide +kernel
theorem dL_run_13 : decode cL_run 13 = .ok (.ireturn, 1) := by decide +kernel
set_option maxRecDepth 20000 in
theorem ggL_bought_X2_bought : GoodIn wsL_bought wsX2_bought := goodIn_ca (goodIn_r _ [6, 7, 8, 9, 10, 11, 5, 12, 13, 14, 15, 16, 17, 18, 19, 20, 21, 22, 23, 24, 25] (by decide +kernel) (by decide +kernel)) (goodIn_sub (fun _ h => List.mem_cons_of_mem _ (List.mem_append_right _ h)) (by decide +kernel))
set_option maxRecDepth 20000 in
theorem gL_bought_X2_bought : GoodIn wsL_bought (wsV RL 48 RX2 yX2_bought wsX2_bought) := goodIn_app (goodIn_of _ (by decide +kernel)) ggL_bought_X2_bought
theorem dL_bought_0 : decode cL_bought 0 = .ok (.aload_n 0, 1) := by decide +kernel
theorem dL_bought_1 : decode cL_bought 1 = .ok (.iload_n 1, 1) := by decide +kernel
theorem dL_bought_2 : decode cL_bought 2 = .ok (.invokevirtual 48, 3) := by decide +kernel
theorem dL_bought_5 : decode cL_bought 5 = .ok (.ireturn, 1) := by decide +kernel
theorem dL_bought_6 : decode cL_bought 6 = .ok (.astore_n 2, 1) := by decide +kernel
theorem dL_bought_7 : decode cL_bought 7 = .ok (.bipush (-101), 2) := by decide +kernel
theorem dL_bought_9 : decode cL_bought 9 = .ok (.ireturn, 1) := by decide +kernel
set_option maxRecDepth 20000 in
theorem ggL_income_X2_income : GoodIn wsL_income wsX2_income := goodIn_ca (goodIn_r _ [6, 7, 8, 9, 10, 11, 5, 12, 13, 14, 15, 16, 17, 18, 19, 20, 21, 22, 23, 24, 25, 26, 27, 28, 29, 30, 31] (by decide +kernel) (by decide +kernel)) (goodIn_sub (fun _ h => List.mem_cons_of_mem _ (List.mem_append_right _ h)) (by decide +kernel))
set_option maxRecDepth 20000 in
theorem gL_income_X2_income : GoodIn wsL_income (wsV RL 51 RX2 yX2_income wsX2_income) := goodIn_app (goodIn_of _ (by decide +kernel)) ggL_income_X2_income
theorem dL_income_0 : decode cL_income 0 = .ok (.aload_n 0, 1) := by decide +kernel
theorem dL_income_1 : decode cL_income 1 = .ok (.iload_n 1, 1) := by decide +kernel
theorem dL_income_2 : decode cL_income 2 = .ok (.iload_n 2, 1) := by decide +kernel
theorem dL_income_3 : decode cL_income 3 = .ok (.invokevirtual 51, 3) := by decide +kernel
theorem dL_income_6 : decode cL_income 6 = .ok (.ireturn, 1) := by decide +kernel
theorem dL_income_7 : decode cL_income 7 = .ok (.astore_n 3, 1) := by decide +kernel
theorem dL_income_8 : decode cL_income 8 = .ok (.bipush (-101), 2) := by decide +kernel
theorem dL_income_10 : decode cL_income 10 = .ok (.ireturn, 1) := by decide +kernel
set_option maxRecDepth 20000 in
theorem ggL_obliged_X2_obligation : GoodIn wsL_obliged wsX2_obligation := goodIn_ca (goodIn_r _ [6, 7, 8, 9, 10, 11, 5, 12, 13, 14, 15, 16, 17, 18, 19, 20, 21, 22, 23, 24, 25, 26, 27, 28, 29, 30, 31, 32, 33, 34, 35, 36, 37] (by decide +kernel) (by decide +kernel)) (goodIn_sub (fun _ h => List.mem_cons_of_mem _ (List.mem_append_right _ h)) (by decide +kernel))
set_option maxRecDepth 20000 in
theorem gL_obliged_X2_obligation : GoodIn wsL_obliged (wsV RL 55 RX2 yX2_obligation wsX2_obligation) := goodIn_app (goodIn_of _ (by decide +kernel)) ggL_obliged_X2_obligation
theorem dL_obliged_0 : decode cL_obliged 0 = .ok (.aload_n 0, 1) := by decide +kernel
theorem dL_obliged_1 : decode cL_obliged 1 = .ok (.iload_n 1, 1) := by decide +kernel
theorem dL_obliged_2 : decode cL_obliged 2 = .ok (.iload_n 2, 1) := by decide +kernel
theorem dL_obliged_3 : decode cL_obliged 3 = .ok (.iload_n 3, 1) := by decide +kernel
theorem dL_obliged_4 : decode cL_obliged 4 = .ok (.invokevirtual 55, 3) := by decide +kernel
theorem dL_obliged_7 : decode cL_obliged 7 = .ok (.ireturn, 1) := by decide +kernel
theorem dL_obliged_8 : decode cL_obliged 8 = .ok (.astore 4, 2) := by decide +kernel
theorem dL_obliged_10 : decode cL_obliged 10 = .ok (.bipush (-101), 2) := by decide +kernel
theorem dL_obliged_12 : decode cL_obliged 12 = .ok (.ireturn, 1) := by decide +kernel
set_option maxRecDepth 20000 in
theorem ggL_trade_X2_trade : GoodIn wsL_trade wsX2_trade := goodIn_ca (goodIn_ca (goodIn_ca (goodIn_r _ [8, 9, 10, 11, 12, 13, 14, 15, 16, 17, 18, 7, 19, 20, 21, 22, 23, 24, 25, 26, 27, 28, 29, 30, 31, 32, 33, 34, 35, 36, 37, 38, 39, 40, 41, 42, 43, 44, 45, 46, 47, 48, 49, 50, 51, 52] (by decide +kernel) (by decide +kernel)) (goodIn_sub (fun _ h => List.mem_cons_of_mem _ (List.mem_append_left _ (List.mem_append_left _ (List.mem_append_right _ h)))) (by decide +kernel))) (goodIn_sub (fun _ h => List.mem_cons_of_mem _ (List.mem_append_left _ (List.mem_append_right _ h))) (by decide +kernel))) (goodIn_sub (fun _ h => List.mem_cons_of_mem _ (List.mem_append_right _ h)) (by decide +kernel))
set_option maxRecDepth 20000 in
theorem gL_trade_X2_trade : GoodIn wsL_trade (wsV RL 59 RX2 yX2_trade wsX2_trade) := goodIn_app (goodIn_of _ (by decide +kernel)) ggL_trade_X2_trade
theorem dL_trade_0 : decode cL_trade 0 = .ok (.aload_n 0, 1) := by decide +kernel
theorem dL_trade_1 : decode cL_trade 1 = .ok (.iload_n 1, 1) := by decide +kernel
theorem dL_trade_2 : decode cL_trade 2 = .ok (.iload_n 2, 1) := by decide +kernel
theorem dL_trade_3 : decode cL_trade 3 = .ok (.iload_n 3, 1) := by decide +kernel
theorem dL_trade_4 : decode cL_trade 4 = .ok (.iload 4, 2) := by decide +kernel
theorem dL_trade_6 : decode cL_trade 6 = .ok (.iload 5, 2) := by decide +kernel
theorem dL_trade_8 : decode cL_trade 8 = .ok (.iload 6, 2) := by decide +kernel
theorem dL_trade_10 : decode cL_trade 10 = .ok (.invokevirtual 59, 3) := by decide +kernel
theorem dL_trade_13 : decode cL_trade 13 = .ok (.ireturn, 1) := by decide +kernel
theorem dL_trade_14 : decode cL_trade 14 = .ok (.astore 7, 2) := by decide +kernel
theorem dL_trade_16 : decode cL_trade 16 = .ok (.bipush (-101), 2) := by decide +kernel
theorem dL_trade_18 : decode cL_trade 18 = .ok (.ireturn, 1) := by decide +kernel
theorem dL_trade_19 : decode cL_trade 19 = .ok (.astore 7, 2) := by decide +kernel
theorem dL_trade_21 : decode cL_trade 21 = .ok (.bipush (-102), 2) := by decide +kernel
theorem dL_trade_23 : decode cL_trade 23 = .ok (.ireturn, 1) := by decide +kernel
theorem dL_trade_24 : decode cL_trade 24 = .ok (.astore 7, 2) := by decide +kernel
theorem dL_trade_26 : decode cL_trade 26 = .ok (.bipush (-103), 2) := by decide +kernel
theorem dL_trade_28 : decode cL_trade 28 = .ok (.ireturn, 1) := by decide +kernel
set_option maxRecDepth 20000 in
theorem ggL_stress_X2_stress : GoodIn wsL_stress wsX2_stress := goodIn_ca (goodIn_r _ [6, 7, 8, 9, 10, 11, 5, 12, 13, 14, 15, 16, 17, 18, 19, 20, 21, 22, 23, 24, 25, 26, 27, 28] (by decide +kernel) (by decide +kernel)) (goodIn_sub (fun _ h => List.mem_cons_of_mem _ (List.mem_append_right _ h)) (by decide +kernel))
set_option maxRecDepth 20000 in
theorem gL_stress_X2_stress : GoodIn wsL_stress (wsV RL 63 RX2 yX2_stress wsX2_stress) := goodIn_app (goodIn_of _ (by decide +kernel)) ggL_stress_X2_stress
theorem dL_stress_0 : decode cL_stress 0 = .ok (.aload_n 0, 1) := by decide +kernel
theorem dL_stress_1 : decode cL_stress 1 = .ok (.iload_n 1, 1) := by decide +kernel
theorem dL_stress_2 : decode cL_stress 2 = .ok (.iload_n 2, 1) := by decide +kernel
theorem dL_stress_3 : decode cL_stress 3 = .ok (.invokevirtual 63, 3) := by decide +kernel
theorem dL_stress_6 : decode cL_stress 6 = .ok (.ifCond .eq 7, 3) := by decide +kernel
theorem dL_stress_9 : decode cL_stress 9 = .ok (.iconst 1, 1) := by decide +kernel
theorem dL_stress_10 : decode cL_stress 10 = .ok (.goto 4, 3) := by decide +kernel
theorem dL_stress_13 : decode cL_stress 13 = .ok (.iconst 0, 1) := by decide +kernel
theorem dL_stress_14 : decode cL_stress 14 = .ok (.ireturn, 1) := by decide +kernel
theorem dL_stress_15 : decode cL_stress 15 = .ok (.astore_n 3, 1) := by decide +kernel
theorem dL_stress_16 : decode cL_stress 16 = .ok (.bipush (-101), 2) := by decide +kernel
theorem dL_stress_18 : decode cL_stress 18 = .ok (.ireturn, 1) := by decide +kernel
set_option maxRecDepth 20000 in
theorem ggL_tell_X2_tell : GoodIn wsL_tell wsX2_tell := goodIn_ca (goodIn_ca (goodIn_r _ [7, 8, 9, 10, 11, 12, 13, 14, 6, 15, 16, 17, 18, 19, 20, 21, 22, 23, 24, 25, 26, 27, 28, 29, 30, 31, 32, 33, 34, 35, 36, 37, 38, 39, 40] (by decide +kernel) (by decide +kernel)) (goodIn_sub (fun _ h => List.mem_cons_of_mem _ (List.mem_append_left _ (List.mem_append_right _ h))) (by decide +kernel))) (goodIn_sub (fun _ h => List.mem_cons_of_mem _ (List.mem_append_right _ h)) (by decide +kernel))
set_option maxRecDepth 20000 in
theorem gL_tell_X2_tell : GoodIn wsL_tell (wsV RL 66 RX2 yX2_tell wsX2_tell) := goodIn_app (goodIn_of _ (by decide +kernel)) ggL_tell_X2_tell
theorem dL_tell_0 : decode cL_tell 0 = .ok (.aload_n 0, 1) := by decide +kernel
theorem dL_tell_1 : decode cL_tell 1 = .ok (.iload_n 1, 1) := by decide +kernel
theorem dL_tell_2 : decode cL_tell 2 = .ok (.iload_n 2, 1) := by decide +kernel
theorem dL_tell_3 : decode cL_tell 3 = .ok (.iload_n 3, 1) := by decide +kernel
theorem dL_tell_4 : decode cL_tell 4 = .ok (.iload 4, 2) := by decide +kernel
theorem dL_tell_6 : decode cL_tell 6 = .ok (.invokevirtual 66, 3) := by decide +kernel
theorem dL_tell_9 : decode cL_tell 9 = .ok (.ireturn, 1) := by decide +kernel
theorem dL_tell_10 : decode cL_tell 10 = .ok (.astore 5, 2) := by decide +kernel
theorem dL_tell_12 : decode cL_tell 12 = .ok (.bipush (-101), 2) := by decide +kernel
theorem dL_tell_14 : decode cL_tell 14 = .ok (.ireturn, 1) := by decide +kernel
theorem dL_tell_15 : decode cL_tell 15 = .ok (.astore 5, 2) := by decide +kernel
theorem dL_tell_17 : decode cL_tell 17 = .ok (.bipush (-102), 2) := by decide +kernel
theorem dL_tell_19 : decode cL_tell 19 = .ok (.ireturn, 1) := by decide +kernel
set_option maxRecDepth 20000 in
theorem ggL_setPenalty_X2_setPenalty : GoodIn wsL_setPenalty wsX2_setPenalty := goodIn_ca (goodIn_r _ [6, 7, 8, 9, 10, 11, 12, 5, 13, 14, 15, 16, 17, 18, 19, 20, 21, 22, 23] (by decide +kernel) (by decide +kernel)) (goodIn_sub (fun _ h => List.mem_cons_of_mem _ (List.mem_append_right _ h)) (by decide +kernel))
set_option maxRecDepth 20000 in
theorem gL_setPenalty_X2_setPenalty : GoodIn wsL_setPenalty (wsV RL 70 RX2 yX2_setPenalty wsX2_setPenalty) := goodIn_app (goodIn_of _ (by decide +kernel)) ggL_setPenalty_X2_setPenalty
theorem dL_setPenalty_0 : decode cL_setPenalty 0 = .ok (.aload_n 0, 1) := by decide +kernel
theorem dL_setPenalty_1 : decode cL_setPenalty 1 = .ok (.iload_n 1, 1) := by decide +kernel
theorem dL_setPenalty_2 : decode cL_setPenalty 2 = .ok (.iload_n 2, 1) := by decide +kernel
theorem dL_setPenalty_3 : decode cL_setPenalty 3 = .ok (.invokevirtual 70, 3) := by decide +kernel
theorem dL_setPenalty_6 : decode cL_setPenalty 6 = .ok (.goto 7, 3) := by decide +kernel
theorem dL_setPenalty_9 : decode cL_setPenalty 9 = .ok (.astore_n 3, 1) := by decide +kernel
theorem dL_setPenalty_10 : decode cL_setPenalty 10 = .ok (.bipush (-102), 2) := by decide +kernel
theorem dL_setPenalty_12 : decode cL_setPenalty 12 = .ok (.ireturn, 1) := by decide +kernel
theorem dL_setPenalty_13 : decode cL_setPenalty 13 = .ok (.iconst 0, 1) := by decide +kernel
theorem dL_setPenalty_14 : decode cL_setPenalty 14 = .ok (.ireturn, 1) := by decide +kernel
set_option maxRecDepth 20000 in
theorem ggL_lack_X2_lack : GoodIn wsL_lack wsX2_lack := goodIn_ca (goodIn_r _ [7, 8, 9, 10, 11, 6, 12, 13, 14, 15, 16, 17, 18, 19, 20, 21, 22, 23, 24, 25, 26, 27, 28, 29, 30, 31, 32, 33, 34, 35, 36, 37, 38, 39, 40, 41] (by decide +kernel) (by decide +kernel)) (goodIn_sub (fun _ h => List.mem_cons_of_mem _ (List.mem_append_right _ h)) (by decide +kernel))
set_option maxRecDepth 20000 in
theorem gL_lack_X2_lack : GoodIn wsL_lack (wsV RL 74 RX2 yX2_lack wsX2_lack) := goodIn_app (goodIn_of _ (by decide +kernel)) ggL_lack_X2_lack
theorem dL_lack_0 : decode cL_lack 0 = .ok (.aload_n 0, 1) := by decide +kernel
theorem dL_lack_1 : decode cL_lack 1 = .ok (.iload_n 1, 1) := by decide +kernel
theorem dL_lack_2 : decode cL_lack 2 = .ok (.iload_n 2, 1) := by decide +kernel
theorem dL_lack_3 : decode cL_lack 3 = .ok (.invokevirtual 74, 3) := by decide +kernel
theorem dL_lack_6 : decode cL_lack 6 = .ok (.ireturn, 1) := by decide +kernel
theorem dL_lack_7 : decode cL_lack 7 = .ok (.astore_n 3, 1) := by decide +kernel
theorem dL_lack_8 : decode cL_lack 8 = .ok (.ldc 77, 2) := by decide +kernel
theorem dL_lack_10 : decode cL_lack 10 = .ok (.ireturn, 1) := by decide +kernel
set_option maxRecDepth 20000 in
theorem ggL_penalty_X2_penalty : GoodIn wsL_penalty wsX2_penalty := goodIn_ca (goodIn_r _ [6, 7, 8, 9, 10, 5, 11, 12, 13, 14, 15, 16, 17, 18, 19, 20, 21, 22, 23, 24, 25, 26, 27, 28, 29, 30, 31, 32, 33, 34, 35, 36, 37, 38, 39, 40, 41, 42, 43, 44, 45, 46, 47, 48, 49, 50, 51, 52, 53, 54, 55] (by decide +kernel) (by decide +kernel)) (goodIn_sub (fun _ h => List.mem_cons_of_mem _ (List.mem_append_right _ h)) (by decide +kernel))
set_option maxRecDepth 20000 in
theorem gL_penalty_X2_penalty : GoodIn wsL_penalty (wsV RL 78 RX2 yX2_penalty wsX2_penalty) := goodIn_app (goodIn_of _ (by decide +kernel)) ggL_penalty_X2_penalty
theorem dL_penalty_0 : decode cL_penalty 0 = .ok (.aload_n 0, 1) := by decide +kernel
theorem dL_penalty_1 : decode cL_penalty 1 = .ok (.iload_n 1, 1) := by decide +kernel
theorem dL_penalty_2 : decode cL_penalty 2 = .ok (.iload_n 2, 1) := by decide +kernel
theorem dL_penalty_3 : decode cL_penalty 3 = .ok (.invokevirtual 78, 3) := by decide +kernel
theorem dL_penalty_6 : decode cL_penalty 6 = .ok (.ireturn, 1) := by decide +kernel
theorem dL_penalty_7 : decode cL_penalty 7 = .ok (.astore_n 3, 1) := by decide +kernel
theorem dL_penalty_8 : decode cL_penalty 8 = .ok (.bipush (-101), 2) := by decide +kernel
theorem dL_penalty_10 : decode cL_penalty 10 = .ok (.ireturn, 1) := by decide +kernel
set_option maxRecDepth 20000 in
theorem ggL_isFalling_L_value : GoodIn wsL_isFalling wsL_value := goodIn_ca (goodIn_r _ [4, 5, 6, 7, 8, 9, 10, 11, 12, 13, 14, 15, 16, 17, 18, 19, 20, 21, 22, 23, 24, 44, 45, 46, 47, 48, 49, 50, 51, 52, 53, 54, 55, 56, 57] (by decide +kernel) (by decide +kernel)) (goodIn_sub (fun _ h => List.mem_cons_of_mem _ (List.mem_append_right _ h)) (by decide +kernel))
set_option maxRecDepth 20000 in
theorem gL_isFalling_L_value : GoodIn wsL_isFalling (va_wsS RL 81 yL_value wsL_value) := goodIn_app (goodIn_of _ (by decide +kernel)) ggL_isFalling_L_value
set_option maxRecDepth 20000 in
theorem ggL_isFalling_L_worth : GoodIn wsL_isFalling wsL_worth := goodIn_ca (goodIn_r _ [27, 5, 28, 29, 30, 9, 31, 11, 12, 13, 14, 15, 16, 32, 33, 34, 20, 35, 36, 37, 38, 39, 40, 41, 42, 43, 44, 45, 46, 47, 48, 49, 50, 51, 52, 53, 54, 55, 56, 57] (by decide +kernel) (by decide +kernel)) (goodIn_sub (fun _ h => List.mem_cons_of_mem _ (List.mem_append_right _ h)) (by decide +kernel))
set_option maxRecDepth 20000 in
theorem gL_isFalling_L_worth : GoodIn wsL_isFalling (va_wsS RL 86 yL_worth wsL_worth) := goodIn_app (goodIn_of _ (by decide +kernel)) ggL_isFalling_L_worth
theorem dL_isFalling_0 : decode cL_isFalling 0 = .ok (.aload_n 0, 1) := by decide +kernel
theorem dL_isFalling_1 : decode cL_isFalling 1 = .ok (.iload_n 1, 1) := by decide +kernel
theorem dL_isFalling_2 : decode cL_isFalling 2 = .ok (.invokestatic 81, 3) := by decide +kernel
theorem dL_isFalling_5 : decode cL_isFalling 5 = .ok (.aload_n 0, 1) := by decide +kernel
theorem dL_isFalling_6 : decode cL_isFalling 6 = .ok (.iload_n 1, 1) := by decide +kernel
theorem dL_isFalling_7 : decode cL_isFalling 7 = .ok (.iconst 1, 1) := by decide +kernel
theorem dL_isFalling_8 : decode cL_isFalling 8 = .ok (.iadd, 1) := by decide +kernel
theorem dL_isFalling_9 : decode cL_isFalling 9 = .ok (.invokestatic 81, 3) := by decide +kernel
theorem dL_isFalling_12 : decode cL_isFalling 12 = .ok (.if_icmp .lt 36, 3) := by decide +kernel
theorem dL_isFalling_15 : decode cL_isFalling 15 = .ok (.aload_n 0, 1) := by decide +kernel
theorem dL_isFalling_16 : decode cL_isFalling 16 = .ok (.iload_n 1, 1) := by decide +kernel
theorem dL_isFalling_17 : decode cL_isFalling 17 = .ok (.invokestatic 81, 3) := by decide +kernel
theorem dL_isFalling_20 : decode cL_isFalling 20 = .ok (.ifCond .lt 28, 3) := by decide +kernel
theorem dL_isFalling_23 : decode cL_isFalling 23 = .ok (.aload_n 0, 1) := by decide +kernel
theorem dL_isFalling_24 : decode cL_isFalling 24 = .ok (.iload_n 1, 1) := by decide +kernel
theorem dL_isFalling_25 : decode cL_isFalling 25 = .ok (.invokestatic 86, 3) := by decide +kernel
theorem dL_isFalling_28 : decode cL_isFalling 28 = .ok (.aload_n 0, 1) := by decide +kernel
theorem dL_isFalling_29 : decode cL_isFalling 29 = .ok (.iload_n 1, 1) := by decide +kernel
theorem dL_isFalling_30 : decode cL_isFalling 30 = .ok (.iconst 1, 1) := by decide +kernel
theorem dL_isFalling_31 : decode cL_isFalling 31 = .ok (.isub, 1) := by decide +kernel
theorem dL_isFalling_32 : decode cL_isFalling 32 = .ok (.invokestatic 86, 3) := by decide +kernel
theorem dL_isFalling_35 : decode cL_isFalling 35 = .ok (.aload_n 0, 1) := by decide +kernel
theorem dL_isFalling_36 : decode cL_isFalling 36 = .ok (.iload_n 1, 1) := by decide +kernel
theorem dL_isFalling_37 : decode cL_isFalling 37 = .ok (.invokestatic 81, 3) := by decide +kernel
theorem dL_isFalling_40 : decode cL_isFalling 40 = .ok (.iadd, 1) := by decide +kernel
theorem dL_isFalling_41 : decode cL_isFalling 41 = .ok (.if_icmp .ne 7, 3) := by decide +kernel
theorem dL_isFalling_44 : decode cL_isFalling 44 = .ok (.iconst 1, 1) := by decide +kernel
theorem dL_isFalling_45 : decode cL_isFalling 45 = .ok (.goto 4, 3) := by decide +kernel
theorem dL_isFalling_48 : decode cL_isFalling 48 = .ok (.iconst 0, 1) := by decide +kernel
theorem dL_isFalling_49 : decode cL_isFalling 49 = .ok (.ireturn, 1) := by decide +kernel
set_option maxRecDepth 20000 in
theorem ggL_clears_X2_offers : GoodIn wsL_clears wsX2_offers := goodIn_r _ [5, 6, 7, 106, 107, 108, 109, 110, 111, 112, 113, 114, 115, 116, 117, 118, 119, 120, 121, 122] (by decide +kernel) (by decide +kernel)
set_option maxRecDepth 20000 in
theorem gL_clears_X2_offers : GoodIn wsL_clears (wsV RL 88 RX2 yX2_offers wsX2_offers) := goodIn_app (goodIn_of _ (by decide +kernel)) ggL_clears_X2_offers
set_option maxRecDepth 20000 in
theorem ggL_clears_L_clearing : GoodIn wsL_clears wsL_clearing := goodIn_ca (goodIn_r _ [11, 12, 13, 14, 15, 4, 16, 17, 18, 6, 19, 20, 21, 22, 23, 24, 25, 26, 27, 28, 29, 30, 31, 32, 33, 34, 35, 36, 37, 38, 39, 40, 41, 42, 43, 44, 45, 46, 47, 48, 49, 50, 51, 52, 106, 107, 108, 109, 110, 111, 112, 113, 114, 115, 116, 117, 118, 119, 120, 121, 122, 123, 124, 125, 126] (by decide +kernel) (by decide +kernel)) (goodIn_sub (fun _ h => List.mem_cons_of_mem _ (List.mem_append_left _ (List.mem_append_right _ h))) (by decide +kernel))
set_option maxRecDepth 20000 in
theorem gL_clears_L_clearing : GoodIn wsL_clears (va_wsS RL 92 yL_clearing wsL_clearing) := goodIn_app (goodIn_of _ (by decide +kernel)) ggL_clears_L_clearing
set_option maxRecDepth 20000 in
theorem ggL_clears_L_clock : GoodIn wsL_clears wsL_clock := goodIn_ca (goodIn_r _ [55, 12, 56, 57, 58, 4, 59, 17, 18, 6, 19, 20, 21, 22, 23, 24, 25, 26, 60, 61, 62, 30, 63, 32, 64, 34, 35, 36, 37, 38, 39, 40, 41, 42, 43, 44, 45, 46, 47, 48, 65, 66, 67, 68, 69, 70, 71, 72, 106, 107, 108, 109, 110, 111, 112, 113, 114, 115, 116, 117, 118, 119, 120, 121, 122, 123, 124, 125, 126] (by decide +kernel) (by decide +kernel)) (goodIn_sub (fun _ h => List.mem_cons_of_mem _ (List.mem_append_left _ (List.mem_append_right _ h))) (by decide +kernel))
set_option maxRecDepth 20000 in
theorem gL_clears_L_clock : GoodIn wsL_clears (va_wsS RL 94 yL_clock wsL_clock) := goodIn_app (goodIn_of _ (by decide +kernel)) ggL_clears_L_clock
set_option maxRecDepth 20000 in
theorem ggL_clears_L_bought : GoodIn wsL_clears wsL_bought := goodIn_ca (goodIn_r _ [75, 12, 76, 77, 78, 4, 79, 17, 18, 20, 21, 22, 23, 24, 25, 26, 106, 107, 108, 109, 110, 111, 112, 113, 114, 115] (by decide +kernel) (by decide +kernel)) (goodIn_sub (fun _ h => List.mem_cons_of_mem _ (List.mem_append_left _ (List.mem_append_right _ h))) (by decide +kernel))
set_option maxRecDepth 20000 in
theorem gL_clears_L_bought : GoodIn wsL_clears (va_wsS RL 97 yL_bought wsL_bought) := goodIn_app (goodIn_of _ (by decide +kernel)) ggL_clears_L_bought
set_option maxRecDepth 20000 in
theorem ggL_clears_L_worth : GoodIn wsL_clears wsL_worth := goodIn_ca (goodIn_r _ [82, 83, 84, 85, 86, 4, 87, 88, 89, 19, 24, 25, 26, 90, 37, 38, 39, 40, 41, 42, 43, 44, 45, 46, 47, 48, 106, 107, 108, 109, 110, 111, 112, 113, 114, 115, 123, 124, 125, 126] (by decide +kernel) (by decide +kernel)) (goodIn_sub (fun _ h => List.mem_cons_of_mem _ (List.mem_append_right _ h)) (by decide +kernel))
set_option maxRecDepth 20000 in
theorem gL_clears_L_worth : GoodIn wsL_clears (va_wsS RL 86 yL_worth wsL_worth) := goodIn_app (goodIn_of _ (by decide +kernel)) ggL_clears_L_worth
set_option maxRecDepth 20000 in
theorem ggL_clears_L_would : GoodIn wsL_clears wsL_would := goodIn_ca (goodIn_r _ [93, 12, 94, 95, 96, 4, 97, 17, 18, 6, 19, 20, 98, 99, 100, 30, 101, 32, 21, 22, 23, 24, 25, 26, 27, 28, 29, 31, 33, 34, 35, 36, 37, 38, 39, 40, 41, 42, 43, 44, 45, 46, 47, 48, 102, 103, 104, 105, 106, 107, 108, 109, 110, 111, 112, 113, 114, 115, 116, 117, 118, 119, 120, 121, 122, 123, 124, 125, 126] (by decide +kernel) (by decide +kernel)) (goodIn_sub (fun _ h => List.mem_cons_of_mem _ (List.mem_append_left _ (List.mem_append_right _ h))) (by decide +kernel))
set_option maxRecDepth 20000 in
theorem gL_clears_L_would : GoodIn wsL_clears (va_wsS RL 99 yL_would wsL_would) := goodIn_app (goodIn_of _ (by decide +kernel)) ggL_clears_L_would
theorem dL_clears_0 : decode cL_clears 0 = .ok (.aload_n 0, 1) := by decide +kernel
theorem dL_clears_1 : decode cL_clears 1 = .ok (.invokevirtual 88, 3) := by decide +kernel
theorem dL_clears_4 : decode cL_clears 4 = .ok (.istore 4, 2) := by decide +kernel
theorem dL_clears_6 : decode cL_clears 6 = .ok (.aload_n 0, 1) := by decide +kernel
theorem dL_clears_7 : decode cL_clears 7 = .ok (.iload_n 1, 1) := by decide +kernel
theorem dL_clears_8 : decode cL_clears 8 = .ok (.invokestatic 92, 3) := by decide +kernel
theorem dL_clears_11 : decode cL_clears 11 = .ok (.istore 5, 2) := by decide +kernel
theorem dL_clears_13 : decode cL_clears 13 = .ok (.aload_n 0, 1) := by decide +kernel
theorem dL_clears_14 : decode cL_clears 14 = .ok (.iload_n 1, 1) := by decide +kernel
theorem dL_clears_15 : decode cL_clears 15 = .ok (.invokestatic 94, 3) := by decide +kernel
theorem dL_clears_18 : decode cL_clears 18 = .ok (.iload 5, 2) := by decide +kernel
theorem dL_clears_20 : decode cL_clears 20 = .ok (.if_icmp .ne 7, 3) := by decide +kernel
theorem dL_clears_23 : decode cL_clears 23 = .ok (.iconst 1, 1) := by decide +kernel
theorem dL_clears_24 : decode cL_clears 24 = .ok (.goto 4, 3) := by decide +kernel
theorem dL_clears_27 : decode cL_clears 27 = .ok (.iconst 0, 1) := by decide +kernel
theorem dL_clears_28 : decode cL_clears 28 = .ok (.istore 6, 2) := by decide +kernel
theorem dL_clears_30 : decode cL_clears 30 = .ok (.aload_n 0, 1) := by decide +kernel
theorem dL_clears_31 : decode cL_clears 31 = .ok (.iload_n 1, 1) := by decide +kernel
theorem dL_clears_32 : decode cL_clears 32 = .ok (.invokestatic 97, 3) := by decide +kernel
theorem dL_clears_35 : decode cL_clears 35 = .ok (.istore 7, 2) := by decide +kernel
theorem dL_clears_37 : decode cL_clears 37 = .ok (.aload_n 0, 1) := by decide +kernel
theorem dL_clears_38 : decode cL_clears 38 = .ok (.iload 7, 2) := by decide +kernel
theorem dL_clears_40 : decode cL_clears 40 = .ok (.invokestatic 86, 3) := by decide +kernel
theorem dL_clears_43 : decode cL_clears 43 = .ok (.istore 8, 2) := by decide +kernel
theorem dL_clears_45 : decode cL_clears 45 = .ok (.iconst 0, 1) := by decide +kernel
theorem dL_clears_46 : decode cL_clears 46 = .ok (.istore 9, 2) := by decide +kernel
theorem dL_clears_48 : decode cL_clears 48 = .ok (.iconst 0, 1) := by decide +kernel
theorem dL_clears_49 : decode cL_clears 49 = .ok (.istore 10, 2) := by decide +kernel
theorem dL_clears_51 : decode cL_clears 51 = .ok (.iconst 0, 1) := by decide +kernel
theorem dL_clears_52 : decode cL_clears 52 = .ok (.istore 11, 2) := by decide +kernel
theorem dL_clears_54 : decode cL_clears 54 = .ok (.iload 11, 2) := by decide +kernel
theorem dL_clears_56 : decode cL_clears 56 = .ok (.iload 4, 2) := by decide +kernel
theorem dL_clears_58 : decode cL_clears 58 = .ok (.if_icmp .ge 205, 3) := by decide +kernel
theorem dL_clears_61 : decode cL_clears 61 = .ok (.iload 6, 2) := by decide +kernel
theorem dL_clears_63 : decode cL_clears 63 = .ok (.ifCond .eq 200, 3) := by decide +kernel
theorem dL_clears_66 : decode cL_clears 66 = .ok (.aload_n 0, 1) := by decide +kernel
theorem dL_clears_67 : decode cL_clears 67 = .ok (.iload 11, 2) := by decide +kernel
theorem dL_clears_69 : decode cL_clears 69 = .ok (.iload_n 1, 1) := by decide +kernel
theorem dL_clears_70 : decode cL_clears 70 = .ok (.invokestatic 99, 3) := by decide +kernel
theorem dL_clears_73 : decode cL_clears 73 = .ok (.iconst 1, 1) := by decide +kernel
theorem dL_clears_74 : decode cL_clears 74 = .ok (.if_icmp .ne 7, 3) := by decide +kernel
theorem dL_clears_77 : decode cL_clears 77 = .ok (.iconst 1, 1) := by decide +kernel
theorem dL_clears_78 : decode cL_clears 78 = .ok (.goto 4, 3) := by decide +kernel
theorem dL_clears_81 : decode cL_clears 81 = .ok (.iconst 0, 1) := by decide +kernel
theorem dL_clears_82 : decode cL_clears 82 = .ok (.istore 12, 2) := by decide +kernel
theorem dL_clears_84 : decode cL_clears 84 = .ok (.iload 10, 2) := by decide +kernel
theorem dL_clears_86 : decode cL_clears 86 = .ok (.ifCond .ne 17, 3) := by decide +kernel
theorem dL_clears_89 : decode cL_clears 89 = .ok (.iload 12, 2) := by decide +kernel
theorem dL_clears_91 : decode cL_clears 91 = .ok (.ifCond .eq 16, 3) := by decide +kernel
theorem dL_clears_94 : decode cL_clears 94 = .ok (.aload_n 3, 1) := by decide +kernel
theorem dL_clears_95 : decode cL_clears 95 = .ok (.iload 11, 2) := by decide +kernel
theorem dL_clears_97 : decode cL_clears 97 = .ok (.iaload, 1) := by decide +kernel
theorem dL_clears_98 : decode cL_clears 98 = .ok (.iload 5, 2) := by decide +kernel
theorem dL_clears_100 : decode cL_clears 100 = .ok (.if_icmp .ne 7, 3) := by decide +kernel
theorem dL_clears_103 : decode cL_clears 103 = .ok (.iconst 1, 1) := by decide +kernel
theorem dL_clears_104 : decode cL_clears 104 = .ok (.goto 4, 3) := by decide +kernel
theorem dL_clears_107 : decode cL_clears 107 = .ok (.iconst 0, 1) := by decide +kernel
theorem dL_clears_108 : decode cL_clears 108 = .ok (.istore 10, 2) := by decide +kernel
theorem dL_clears_110 : decode cL_clears 110 = .ok (.iload 12, 2) := by decide +kernel
theorem dL_clears_112 : decode cL_clears 112 = .ok (.ifCond .eq 12, 3) := by decide +kernel
theorem dL_clears_115 : decode cL_clears 115 = .ok (.aload_n 3, 1) := by decide +kernel
theorem dL_clears_116 : decode cL_clears 116 = .ok (.iload 11, 2) := by decide +kernel
theorem dL_clears_118 : decode cL_clears 118 = .ok (.iaload, 1) := by decide +kernel
theorem dL_clears_119 : decode cL_clears 119 = .ok (.iload 5, 2) := by decide +kernel
theorem dL_clears_121 : decode cL_clears 121 = .ok (.if_icmp .gt 7, 3) := by decide +kernel
theorem dL_clears_124 : decode cL_clears 124 = .ok (.iconst 1, 1) := by decide +kernel
theorem dL_clears_125 : decode cL_clears 125 = .ok (.goto 4, 3) := by decide +kernel
theorem dL_clears_128 : decode cL_clears 128 = .ok (.iconst 0, 1) := by decide +kernel
theorem dL_clears_129 : decode cL_clears 129 = .ok (.istore 6, 2) := by decide +kernel
theorem dL_clears_131 : decode cL_clears 131 = .ok (.iload 7, 2) := by decide +kernel
theorem dL_clears_133 : decode cL_clears 133 = .ok (.iload 12, 2) := by decide +kernel
theorem dL_clears_135 : decode cL_clears 135 = .ok (.ifCond .eq 10, 3) := by decide +kernel
theorem dL_clears_138 : decode cL_clears 138 = .ok (.aload_n 2, 1) := by decide +kernel
theorem dL_clears_139 : decode cL_clears 139 = .ok (.iload 11, 2) := by decide +kernel
theorem dL_clears_141 : decode cL_clears 141 = .ok (.iaload, 1) := by decide +kernel
theorem dL_clears_142 : decode cL_clears 142 = .ok (.goto 4, 3) := by decide +kernel
theorem dL_clears_145 : decode cL_clears 145 = .ok (.iconst 0, 1) := by decide +kernel
theorem dL_clears_146 : decode cL_clears 146 = .ok (.iadd, 1) := by decide +kernel
theorem dL_clears_147 : decode cL_clears 147 = .ok (.istore 7, 2) := by decide +kernel
theorem dL_clears_149 : decode cL_clears 149 = .ok (.iload 9, 2) := by decide +kernel
theorem dL_clears_151 : decode cL_clears 151 = .ok (.iload 12, 2) := by decide +kernel
theorem dL_clears_153 : decode cL_clears 153 = .ok (.ifCond .eq 15, 3) := by decide +kernel
theorem dL_clears_156 : decode cL_clears 156 = .ok (.aload_n 2, 1) := by decide +kernel
theorem dL_clears_157 : decode cL_clears 157 = .ok (.iload 11, 2) := by decide +kernel
theorem dL_clears_159 : decode cL_clears 159 = .ok (.iaload, 1) := by decide +kernel
theorem dL_clears_160 : decode cL_clears 160 = .ok (.aload_n 3, 1) := by decide +kernel
theorem dL_clears_161 : decode cL_clears 161 = .ok (.iload 11, 2) := by decide +kernel
theorem dL_clears_163 : decode cL_clears 163 = .ok (.iaload, 1) := by decide +kernel
theorem dL_clears_164 : decode cL_clears 164 = .ok (.imul, 1) := by decide +kernel
theorem dL_clears_165 : decode cL_clears 165 = .ok (.goto 4, 3) := by decide +kernel
theorem dL_clears_168 : decode cL_clears 168 = .ok (.iconst 0, 1) := by decide +kernel
theorem dL_clears_169 : decode cL_clears 169 = .ok (.iadd, 1) := by decide +kernel
theorem dL_clears_170 : decode cL_clears 170 = .ok (.istore 9, 2) := by decide +kernel
theorem dL_clears_172 : decode cL_clears 172 = .ok (.iconst 0, 1) := by decide +kernel
theorem dL_clears_173 : decode cL_clears 173 = .ok (.istore 13, 2) := by decide +kernel
theorem dL_clears_175 : decode cL_clears 175 = .ok (.iload 13, 2) := by decide +kernel
theorem dL_clears_177 : decode cL_clears 177 = .ok (.iload 4, 2) := by decide +kernel
theorem dL_clears_179 : decode cL_clears 179 = .ok (.if_icmp .ge 78, 3) := by decide +kernel
theorem dL_clears_182 : decode cL_clears 182 = .ok (.iload 6, 2) := by decide +kernel
theorem dL_clears_184 : decode cL_clears 184 = .ok (.ifCond .eq 73, 3) := by decide +kernel
theorem dL_clears_187 : decode cL_clears 187 = .ok (.aload_n 3, 1) := by decide +kernel
theorem dL_clears_188 : decode cL_clears 188 = .ok (.iload 13, 2) := by decide +kernel
theorem dL_clears_190 : decode cL_clears 190 = .ok (.iaload, 1) := by decide +kernel
theorem dL_clears_191 : decode cL_clears 191 = .ok (.aload_n 3, 1) := by decide +kernel
theorem dL_clears_192 : decode cL_clears 192 = .ok (.iload 11, 2) := by decide +kernel
theorem dL_clears_194 : decode cL_clears 194 = .ok (.iaload, 1) := by decide +kernel
theorem dL_clears_195 : decode cL_clears 195 = .ok (.if_icmp .lt 21, 3) := by decide +kernel
theorem dL_clears_198 : decode cL_clears 198 = .ok (.aload_n 3, 1) := by decide +kernel
theorem dL_clears_199 : decode cL_clears 199 = .ok (.iload 13, 2) := by decide +kernel
theorem dL_clears_201 : decode cL_clears 201 = .ok (.iaload, 1) := by decide +kernel
theorem dL_clears_202 : decode cL_clears 202 = .ok (.aload_n 3, 1) := by decide +kernel
theorem dL_clears_203 : decode cL_clears 203 = .ok (.iload 11, 2) := by decide +kernel
theorem dL_clears_205 : decode cL_clears 205 = .ok (.iaload, 1) := by decide +kernel
theorem dL_clears_206 : decode cL_clears 206 = .ok (.if_icmp .ne 14, 3) := by decide +kernel
theorem dL_clears_209 : decode cL_clears 209 = .ok (.iload 13, 2) := by decide +kernel
theorem dL_clears_211 : decode cL_clears 211 = .ok (.iload 11, 2) := by decide +kernel
theorem dL_clears_213 : decode cL_clears 213 = .ok (.if_icmp .ge 7, 3) := by decide +kernel
theorem dL_clears_216 : decode cL_clears 216 = .ok (.iconst 1, 1) := by decide +kernel
theorem dL_clears_217 : decode cL_clears 217 = .ok (.goto 4, 3) := by decide +kernel
theorem dL_clears_220 : decode cL_clears 220 = .ok (.iconst 0, 1) := by decide +kernel
theorem dL_clears_221 : decode cL_clears 221 = .ok (.istore 14, 2) := by decide +kernel
theorem dL_clears_223 : decode cL_clears 223 = .ok (.iload 12, 2) := by decide +kernel
theorem dL_clears_225 : decode cL_clears 225 = .ok (.ifCond .eq 19, 3) := by decide +kernel
theorem dL_clears_228 : decode cL_clears 228 = .ok (.iload 14, 2) := by decide +kernel
theorem dL_clears_230 : decode cL_clears 230 = .ok (.ifCond .eq 14, 3) := by decide +kernel
theorem dL_clears_233 : decode cL_clears 233 = .ok (.aload_n 0, 1) := by decide +kernel
theorem dL_clears_234 : decode cL_clears 234 = .ok (.iload 13, 2) := by decide +kernel
theorem dL_clears_236 : decode cL_clears 236 = .ok (.iload_n 1, 1) := by decide +kernel
theorem dL_clears_237 : decode cL_clears 237 = .ok (.invokestatic 99, 3) := by decide +kernel
theorem dL_clears_240 : decode cL_clears 240 = .ok (.iconst 1, 1) := by decide +kernel
theorem dL_clears_241 : decode cL_clears 241 = .ok (.if_icmp .ne 7, 3) := by decide +kernel
theorem dL_clears_244 : decode cL_clears 244 = .ok (.iconst 1, 1) := by decide +kernel
theorem dL_clears_245 : decode cL_clears 245 = .ok (.goto 4, 3) := by decide +kernel
theorem dL_clears_248 : decode cL_clears 248 = .ok (.iconst 0, 1) := by decide +kernel
theorem dL_clears_249 : decode cL_clears 249 = .ok (.istore 6, 2) := by decide +kernel
theorem dL_clears_251 : decode cL_clears 251 = .ok (.iinc 13 1, 3) := by decide +kernel
theorem dL_clears_254 : decode cL_clears 254 = .ok (.goto (-79), 3) := by decide +kernel
theorem dL_clears_257 : decode cL_clears 257 = .ok (.iinc 11 1, 3) := by decide +kernel
theorem dL_clears_260 : decode cL_clears 260 = .ok (.goto (-206), 3) := by decide +kernel
theorem dL_clears_263 : decode cL_clears 263 = .ok (.aload_n 0, 1) := by decide +kernel
theorem dL_clears_264 : decode cL_clears 264 = .ok (.iload 7, 2) := by decide +kernel
theorem dL_clears_266 : decode cL_clears 266 = .ok (.invokestatic 86, 3) := by decide +kernel
theorem dL_clears_269 : decode cL_clears 269 = .ok (.iload 9, 2) := by decide +kernel
theorem dL_clears_271 : decode cL_clears 271 = .ok (.isub, 1) := by decide +kernel
theorem dL_clears_272 : decode cL_clears 272 = .ok (.istore 11, 2) := by decide +kernel
theorem dL_clears_274 : decode cL_clears 274 = .ok (.iload 6, 2) := by decide +kernel
theorem dL_clears_276 : decode cL_clears 276 = .ok (.ifCond .eq 24, 3) := by decide +kernel
theorem dL_clears_279 : decode cL_clears 279 = .ok (.iload 11, 2) := by decide +kernel
theorem dL_clears_281 : decode cL_clears 281 = .ok (.iload 8, 2) := by decide +kernel
theorem dL_clears_283 : decode cL_clears 283 = .ok (.if_icmp .lt 17, 3) := by decide +kernel
theorem dL_clears_286 : decode cL_clears 286 = .ok (.iload 10, 2) := by decide +kernel
theorem dL_clears_288 : decode cL_clears 288 = .ok (.ifCond .ne 8, 3) := by decide +kernel
theorem dL_clears_291 : decode cL_clears 291 = .ok (.iload 5, 2) := by decide +kernel
theorem dL_clears_293 : decode cL_clears 293 = .ok (.ifCond .ne 7, 3) := by decide +kernel
theorem dL_clears_296 : decode cL_clears 296 = .ok (.iconst 1, 1) := by decide +kernel
theorem dL_clears_297 : decode cL_clears 297 = .ok (.goto 4, 3) := by decide +kernel
theorem dL_clears_300 : decode cL_clears 300 = .ok (.iconst 0, 1) := by decide +kernel
theorem dL_clears_301 : decode cL_clears 301 = .ok (.istore 6, 2) := by decide +kernel
theorem dL_clears_303 : decode cL_clears 303 = .ok (.iconst 0, 1) := by decide +kernel
theorem dL_clears_304 : decode cL_clears 304 = .ok (.istore 12, 2) := by decide +kernel
theorem dL_clears_306 : decode cL_clears 306 = .ok (.iload 12, 2) := by decide +kernel
theorem dL_clears_308 : decode cL_clears 308 = .ok (.iload 4, 2) := by decide +kernel
theorem dL_clears_310 : decode cL_clears 310 = .ok (.if_icmp .ge 138, 3) := by decide +kernel
theorem dL_clears_313 : decode cL_clears 313 = .ok (.iload 6, 2) := by decide +kernel
theorem dL_clears_315 : decode cL_clears 315 = .ok (.ifCond .eq 133, 3) := by decide +kernel
theorem dL_clears_318 : decode cL_clears 318 = .ok (.aload_n 0, 1) := by decide +kernel
theorem dL_clears_319 : decode cL_clears 319 = .ok (.iload_n 1, 1) := by decide +kernel
theorem dL_clears_320 : decode cL_clears 320 = .ok (.invokestatic 97, 3) := by decide +kernel
theorem dL_clears_323 : decode cL_clears 323 = .ok (.istore 13, 2) := by decide +kernel
theorem dL_clears_325 : decode cL_clears 325 = .ok (.iconst 0, 1) := by decide +kernel
theorem dL_clears_326 : decode cL_clears 326 = .ok (.istore 14, 2) := by decide +kernel
theorem dL_clears_328 : decode cL_clears 328 = .ok (.iconst 0, 1) := by decide +kernel
theorem dL_clears_329 : decode cL_clears 329 = .ok (.istore 15, 2) := by decide +kernel
theorem dL_clears_331 : decode cL_clears 331 = .ok (.iload 15, 2) := by decide +kernel
theorem dL_clears_333 : decode cL_clears 333 = .ok (.iload 4, 2) := by decide +kernel
theorem dL_clears_335 : decode cL_clears 335 = .ok (.if_icmp .ge 86, 3) := by decide +kernel
theorem dL_clears_338 : decode cL_clears 338 = .ok (.aload_n 3, 1) := by decide +kernel
theorem dL_clears_339 : decode cL_clears 339 = .ok (.iload 15, 2) := by decide +kernel
theorem dL_clears_341 : decode cL_clears 341 = .ok (.iaload, 1) := by decide +kernel
theorem dL_clears_342 : decode cL_clears 342 = .ok (.aload_n 3, 1) := by decide +kernel
theorem dL_clears_343 : decode cL_clears 343 = .ok (.iload 12, 2) := by decide +kernel
theorem dL_clears_345 : decode cL_clears 345 = .ok (.iaload, 1) := by decide +kernel
theorem dL_clears_346 : decode cL_clears 346 = .ok (.if_icmp .lt 21, 3) := by decide +kernel
theorem dL_clears_349 : decode cL_clears 349 = .ok (.aload_n 3, 1) := by decide +kernel
theorem dL_clears_350 : decode cL_clears 350 = .ok (.iload 15, 2) := by decide +kernel
theorem dL_clears_352 : decode cL_clears 352 = .ok (.iaload, 1) := by decide +kernel
theorem dL_clears_353 : decode cL_clears 353 = .ok (.aload_n 3, 1) := by decide +kernel
theorem dL_clears_354 : decode cL_clears 354 = .ok (.iload 12, 2) := by decide +kernel
theorem dL_clears_356 : decode cL_clears 356 = .ok (.iaload, 1) := by decide +kernel
theorem dL_clears_357 : decode cL_clears 357 = .ok (.if_icmp .ne 14, 3) := by decide +kernel
theorem dL_clears_360 : decode cL_clears 360 = .ok (.iload 15, 2) := by decide +kernel
theorem dL_clears_362 : decode cL_clears 362 = .ok (.iload 12, 2) := by decide +kernel
theorem dL_clears_364 : decode cL_clears 364 = .ok (.if_icmp .gt 7, 3) := by decide +kernel
theorem dL_clears_367 : decode cL_clears 367 = .ok (.iconst 1, 1) := by decide +kernel
theorem dL_clears_368 : decode cL_clears 368 = .ok (.goto 4, 3) := by decide +kernel
theorem dL_clears_371 : decode cL_clears 371 = .ok (.iconst 0, 1) := by decide +kernel
theorem dL_clears_372 : decode cL_clears 372 = .ok (.istore 16, 2) := by decide +kernel
theorem dL_clears_374 : decode cL_clears 374 = .ok (.iload 13, 2) := by decide +kernel
theorem dL_clears_376 : decode cL_clears 376 = .ok (.iload 16, 2) := by decide +kernel
theorem dL_clears_378 : decode cL_clears 378 = .ok (.ifCond .eq 10, 3) := by decide +kernel
theorem dL_clears_381 : decode cL_clears 381 = .ok (.aload_n 2, 1) := by decide +kernel
theorem dL_clears_382 : decode cL_clears 382 = .ok (.iload 15, 2) := by decide +kernel
theorem dL_clears_384 : decode cL_clears 384 = .ok (.iaload, 1) := by decide +kernel
theorem dL_clears_385 : decode cL_clears 385 = .ok (.goto 4, 3) := by decide +kernel
theorem dL_clears_388 : decode cL_clears 388 = .ok (.iconst 0, 1) := by decide +kernel
theorem dL_clears_389 : decode cL_clears 389 = .ok (.iadd, 1) := by decide +kernel
theorem dL_clears_390 : decode cL_clears 390 = .ok (.istore 13, 2) := by decide +kernel
theorem dL_clears_392 : decode cL_clears 392 = .ok (.iload 14, 2) := by decide +kernel
theorem dL_clears_394 : decode cL_clears 394 = .ok (.iload 16, 2) := by decide +kernel
theorem dL_clears_396 : decode cL_clears 396 = .ok (.ifCond .eq 15, 3) := by decide +kernel
theorem dL_clears_399 : decode cL_clears 399 = .ok (.aload_n 2, 1) := by decide +kernel
theorem dL_clears_400 : decode cL_clears 400 = .ok (.iload 15, 2) := by decide +kernel
theorem dL_clears_402 : decode cL_clears 402 = .ok (.iaload, 1) := by decide +kernel
theorem dL_clears_403 : decode cL_clears 403 = .ok (.aload_n 3, 1) := by decide +kernel
theorem dL_clears_404 : decode cL_clears 404 = .ok (.iload 15, 2) := by decide +kernel
theorem dL_clears_406 : decode cL_clears 406 = .ok (.iaload, 1) := by decide +kernel
theorem dL_clears_407 : decode cL_clears 407 = .ok (.imul, 1) := by decide +kernel
theorem dL_clears_408 : decode cL_clears 408 = .ok (.goto 4, 3) := by decide +kernel
theorem dL_clears_411 : decode cL_clears 411 = .ok (.iconst 0, 1) := by decide +kernel
theorem dL_clears_412 : decode cL_clears 412 = .ok (.iadd, 1) := by decide +kernel
theorem dL_clears_413 : decode cL_clears 413 = .ok (.istore 14, 2) := by decide +kernel
theorem dL_clears_415 : decode cL_clears 415 = .ok (.iinc 15 1, 3) := by decide +kernel
theorem dL_clears_418 : decode cL_clears 418 = .ok (.goto (-87), 3) := by decide +kernel
theorem dL_clears_421 : decode cL_clears 421 = .ok (.aload_n 0, 1) := by decide +kernel
theorem dL_clears_422 : decode cL_clears 422 = .ok (.iload 13, 2) := by decide +kernel
theorem dL_clears_424 : decode cL_clears 424 = .ok (.invokestatic 86, 3) := by decide +kernel
theorem dL_clears_427 : decode cL_clears 427 = .ok (.iload 14, 2) := by decide +kernel
theorem dL_clears_429 : decode cL_clears 429 = .ok (.isub, 1) := by decide +kernel
theorem dL_clears_430 : decode cL_clears 430 = .ok (.iload 11, 2) := by decide +kernel
theorem dL_clears_432 : decode cL_clears 432 = .ok (.if_icmp .gt 7, 3) := by decide +kernel
theorem dL_clears_435 : decode cL_clears 435 = .ok (.iconst 1, 1) := by decide +kernel
theorem dL_clears_436 : decode cL_clears 436 = .ok (.goto 4, 3) := by decide +kernel
theorem dL_clears_439 : decode cL_clears 439 = .ok (.iconst 0, 1) := by decide +kernel
theorem dL_clears_440 : decode cL_clears 440 = .ok (.istore 6, 2) := by decide +kernel
theorem dL_clears_442 : decode cL_clears 442 = .ok (.iinc 12 1, 3) := by decide +kernel
theorem dL_clears_445 : decode cL_clears 445 = .ok (.goto (-139), 3) := by decide +kernel
theorem dL_clears_448 : decode cL_clears 448 = .ok (.iload 6, 2) := by decide +kernel
theorem dL_clears_450 : decode cL_clears 450 = .ok (.ireturn, 1) := by decide +kernel
