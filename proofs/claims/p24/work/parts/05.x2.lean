set_option maxRecDepth 20000 in
theorem ggX2_init_X0_init : GoodIn wsX2_init wsX0_init := goodIn_r _ [24, 25, 2, 3, 12, 26, 27, 28, 29, 6, 30, 31, 32, 33, 34, 35, 36, 37, 49, 50, 51, 52] (by decide +kernel) (by decide +kernel)
set_option maxRecDepth 20000 in
theorem gX2_init_X0_init : GoodIn wsX2_init (wsX0_init) := ggX2_init_X0_init
set_option maxRecDepth 20000 in
theorem ggX2_init_X1_init : GoodIn wsX2_init wsX1_init := goodIn_r _ [40, 41, 2, 3, 12, 42, 43, 44, 45, 46, 17, 47, 48, 63, 64, 65, 66, 67, 68, 69] (by decide +kernel) (by decide +kernel)
set_option maxRecDepth 20000 in
theorem gX2_init_X1_init : GoodIn wsX2_init (wsX1_init) := ggX2_init_X1_init
theorem dX2_init_0 : decode cX2_init 0 = .ok (.aload_n 0, 1) := by decide +kernel
theorem dX2_init_1 : decode cX2_init 1 = .ok (.invokespecial 1, 3) := by decide +kernel
theorem dX2_init_4 : decode cX2_init 4 = .ok (.aload_n 0, 1) := by decide +kernel
theorem dX2_init_5 : decode cX2_init 5 = .ok (.new 7, 3) := by decide +kernel
theorem dX2_init_8 : decode cX2_init 8 = .ok (.dup, 1) := by decide +kernel
theorem dX2_init_9 : decode cX2_init 9 = .ok (.invokespecial 9, 3) := by decide +kernel
theorem dX2_init_12 : decode cX2_init 12 = .ok (.putfield 10, 3) := by decide +kernel
theorem dX2_init_15 : decode cX2_init 15 = .ok (.aload_n 0, 1) := by decide +kernel
theorem dX2_init_16 : decode cX2_init 16 = .ok (.new 16, 3) := by decide +kernel
theorem dX2_init_19 : decode cX2_init 19 = .ok (.dup, 1) := by decide +kernel
theorem dX2_init_20 : decode cX2_init 20 = .ok (.invokespecial 18, 3) := by decide +kernel
theorem dX2_init_23 : decode cX2_init 23 = .ok (.putfield 19, 3) := by decide +kernel
theorem dX2_init_26 : decode cX2_init 26 = .ok (.aload_n 0, 1) := by decide +kernel
theorem dX2_init_27 : decode cX2_init 27 = .ok (.bipush 8, 2) := by decide +kernel
theorem dX2_init_29 : decode cX2_init 29 = .ok (.newarray .int, 2) := by decide +kernel
theorem dX2_init_31 : decode cX2_init 31 = .ok (.putfield 23, 3) := by decide +kernel
theorem dX2_init_34 : decode cX2_init 34 = .ok (.aload_n 0, 1) := by decide +kernel
theorem dX2_init_35 : decode cX2_init 35 = .ok (.bipush 40, 2) := by decide +kernel
theorem dX2_init_37 : decode cX2_init 37 = .ok (.newarray .int, 2) := by decide +kernel
theorem dX2_init_39 : decode cX2_init 39 = .ok (.putfield 27, 3) := by decide +kernel
theorem dX2_init_42 : decode cX2_init 42 = .ok (.aload_n 0, 1) := by decide +kernel
theorem dX2_init_43 : decode cX2_init 43 = .ok (.sipush 480, 3) := by decide +kernel
theorem dX2_init_46 : decode cX2_init 46 = .ok (.newarray .int, 2) := by decide +kernel
theorem dX2_init_48 : decode cX2_init 48 = .ok (.putfield 30, 3) := by decide +kernel
theorem dX2_init_51 : decode cX2_init 51 = .ok (.aload_n 0, 1) := by decide +kernel
theorem dX2_init_52 : decode cX2_init 52 = .ok (.sipush 480, 3) := by decide +kernel
theorem dX2_init_55 : decode cX2_init 55 = .ok (.newarray .int, 2) := by decide +kernel
theorem dX2_init_57 : decode cX2_init 57 = .ok (.putfield 33, 3) := by decide +kernel
theorem dX2_init_60 : decode cX2_init 60 = .ok (.aload_n 0, 1) := by decide +kernel
theorem dX2_init_61 : decode cX2_init 61 = .ok (.bipush 96, 2) := by decide +kernel
theorem dX2_init_63 : decode cX2_init 63 = .ok (.newarray .boolean, 2) := by decide +kernel
theorem dX2_init_65 : decode cX2_init 65 = .ok (.putfield 36, 3) := by decide +kernel
theorem dX2_init_68 : decode cX2_init 68 = .ok (.aload_n 0, 1) := by decide +kernel
theorem dX2_init_69 : decode cX2_init 69 = .ok (.iconst 0, 1) := by decide +kernel
theorem dX2_init_70 : decode cX2_init 70 = .ok (.putfield 40, 3) := by decide +kernel
theorem dX2_init_73 : decode cX2_init 73 = .ok (.aload_n 0, 1) := by decide +kernel
theorem dX2_init_74 : decode cX2_init 74 = .ok (.bipush 20, 2) := by decide +kernel
theorem dX2_init_76 : decode cX2_init 76 = .ok (.putfield 44, 3) := by decide +kernel
theorem dX2_init_79 : decode cX2_init 79 = .ok (.aload_n 0, 1) := by decide +kernel
theorem dX2_init_80 : decode cX2_init 80 = .ok (.bipush 50, 2) := by decide +kernel
theorem dX2_init_82 : decode cX2_init 82 = .ok (.putfield 47, 3) := by decide +kernel
theorem dX2_init_85 : decode cX2_init 85 = .ok (.return_, 1) := by decide +kernel
set_option maxRecDepth 20000 in
theorem ggX2_setDemand_X2_isWithin : GoodIn wsX2_setDemand wsX2_isWithin := goodIn_r _ [7] (by decide +kernel) (by decide +kernel)
set_option maxRecDepth 20000 in
theorem gX2_setDemand_X2_isWithin : GoodIn wsX2_setDemand (va_wsS RX2 50 yX2_isWithin wsX2_isWithin) := goodIn_app (goodIn_of _ (by decide +kernel)) ggX2_setDemand_X2_isWithin
set_option maxRecDepth 20000 in
theorem ggX2_setDemand_X0_change : GoodIn wsX2_setDemand wsX0_change := goodIn_r _ [12, 13, 14, 15, 16, 17, 18, 19, 11, 20, 31, 32, 33, 34] (by decide +kernel) (by decide +kernel)
set_option maxRecDepth 20000 in
theorem gX2_setDemand_X0_change : GoodIn wsX2_setDemand (wsV RX2 61 RX0 yX0_change wsX0_change) := goodIn_app (goodIn_of _ (by decide +kernel)) ggX2_setDemand_X0_change
theorem dX2_setDemand_0 : decode cX2_setDemand 0 = .ok (.iload_n 1, 1) := by decide +kernel
theorem dX2_setDemand_1 : decode cX2_setDemand 1 = .ok (.iconst 0, 1) := by decide +kernel
theorem dX2_setDemand_2 : decode cX2_setDemand 2 = .ok (.sipush 1000, 3) := by decide +kernel
theorem dX2_setDemand_5 : decode cX2_setDemand 5 = .ok (.invokestatic 50, 3) := by decide +kernel
theorem dX2_setDemand_8 : decode cX2_setDemand 8 = .ok (.ifCond .eq 27, 3) := by decide +kernel
theorem dX2_setDemand_11 : decode cX2_setDemand 11 = .ok (.iload_n 2, 1) := by decide +kernel
theorem dX2_setDemand_12 : decode cX2_setDemand 12 = .ok (.iload_n 1, 1) := by decide +kernel
theorem dX2_setDemand_13 : decode cX2_setDemand 13 = .ok (.iconst 1, 1) := by decide +kernel
theorem dX2_setDemand_14 : decode cX2_setDemand 14 = .ok (.iadd, 1) := by decide +kernel
theorem dX2_setDemand_15 : decode cX2_setDemand 15 = .ok (.sipush 1001, 3) := by decide +kernel
theorem dX2_setDemand_18 : decode cX2_setDemand 18 = .ok (.invokestatic 50, 3) := by decide +kernel
theorem dX2_setDemand_21 : decode cX2_setDemand 21 = .ok (.ifCond .eq 14, 3) := by decide +kernel
theorem dX2_setDemand_24 : decode cX2_setDemand 24 = .ok (.iload_n 3, 1) := by decide +kernel
theorem dX2_setDemand_25 : decode cX2_setDemand 25 = .ok (.iconst 1, 1) := by decide +kernel
theorem dX2_setDemand_26 : decode cX2_setDemand 26 = .ok (.sipush 1000, 3) := by decide +kernel
theorem dX2_setDemand_29 : decode cX2_setDemand 29 = .ok (.invokestatic 50, 3) := by decide +kernel
theorem dX2_setDemand_32 : decode cX2_setDemand 32 = .ok (.ifCond .ne 13, 3) := by decide +kernel
theorem dX2_setDemand_35 : decode cX2_setDemand 35 = .ok (.new 54, 3) := by decide +kernel
theorem dX2_setDemand_38 : decode cX2_setDemand 38 = .ok (.dup, 1) := by decide +kernel
theorem dX2_setDemand_39 : decode cX2_setDemand 39 = .ok (.ldc 56, 2) := by decide +kernel
theorem dX2_setDemand_41 : decode cX2_setDemand 41 = .ok (.invokespecial 58, 3) := by decide +kernel
theorem dX2_setDemand_44 : decode cX2_setDemand 44 = .ok (.athrow, 1) := by decide +kernel
theorem dX2_setDemand_45 : decode cX2_setDemand 45 = .ok (.aload_n 0, 1) := by decide +kernel
theorem dX2_setDemand_46 : decode cX2_setDemand 46 = .ok (.getfield 10, 3) := by decide +kernel
theorem dX2_setDemand_49 : decode cX2_setDemand 49 = .ok (.iload_n 1, 1) := by decide +kernel
theorem dX2_setDemand_50 : decode cX2_setDemand 50 = .ok (.iload_n 2, 1) := by decide +kernel
theorem dX2_setDemand_51 : decode cX2_setDemand 51 = .ok (.iload_n 3, 1) := by decide +kernel
theorem dX2_setDemand_52 : decode cX2_setDemand 52 = .ok (.invokevirtual 61, 3) := by decide +kernel
theorem dX2_setDemand_55 : decode cX2_setDemand 55 = .ok (.return_, 1) := by decide +kernel
set_option maxRecDepth 20000 in
theorem ggX2_value_X2_isWithin : GoodIn wsX2_value wsX2_isWithin := goodIn_r _ [7] (by decide +kernel) (by decide +kernel)
set_option maxRecDepth 20000 in
theorem gX2_value_X2_isWithin : GoodIn wsX2_value (va_wsS RX2 50 yX2_isWithin wsX2_isWithin) := goodIn_app (goodIn_of _ (by decide +kernel)) ggX2_value_X2_isWithin
set_option maxRecDepth 20000 in
theorem ggX2_value_X0_valueOf : GoodIn wsX2_value wsX0_valueOf := goodIn_r _ [12, 13, 14, 15, 26, 27, 28, 29] (by decide +kernel) (by decide +kernel)
set_option maxRecDepth 20000 in
theorem gX2_value_X0_valueOf : GoodIn wsX2_value (wsV RX2 67 RX0 yX0_valueOf wsX0_valueOf) := goodIn_app (goodIn_of _ (by decide +kernel)) ggX2_value_X0_valueOf
theorem dX2_value_0 : decode cX2_value 0 = .ok (.iload_n 1, 1) := by decide +kernel
theorem dX2_value_1 : decode cX2_value 1 = .ok (.iconst 1, 1) := by decide +kernel
theorem dX2_value_2 : decode cX2_value 2 = .ok (.sipush 10000, 3) := by decide +kernel
theorem dX2_value_5 : decode cX2_value 5 = .ok (.invokestatic 50, 3) := by decide +kernel
theorem dX2_value_8 : decode cX2_value 8 = .ok (.ifCond .ne 13, 3) := by decide +kernel
theorem dX2_value_11 : decode cX2_value 11 = .ok (.new 54, 3) := by decide +kernel
theorem dX2_value_14 : decode cX2_value 14 = .ok (.dup, 1) := by decide +kernel
theorem dX2_value_15 : decode cX2_value 15 = .ok (.ldc 65, 2) := by decide +kernel
theorem dX2_value_17 : decode cX2_value 17 = .ok (.invokespecial 58, 3) := by decide +kernel
theorem dX2_value_20 : decode cX2_value 20 = .ok (.athrow, 1) := by decide +kernel
theorem dX2_value_21 : decode cX2_value 21 = .ok (.aload_n 0, 1) := by decide +kernel
theorem dX2_value_22 : decode cX2_value 22 = .ok (.getfield 10, 3) := by decide +kernel
theorem dX2_value_25 : decode cX2_value 25 = .ok (.iload_n 1, 1) := by decide +kernel
theorem dX2_value_26 : decode cX2_value 26 = .ok (.invokevirtual 67, 3) := by decide +kernel
theorem dX2_value_29 : decode cX2_value 29 = .ok (.ireturn, 1) := by decide +kernel
set_option maxRecDepth 20000 in
theorem ggX2_worth_X2_isWithin : GoodIn wsX2_worth wsX2_isWithin := goodIn_r _ [7] (by decide +kernel) (by decide +kernel)
set_option maxRecDepth 20000 in
theorem gX2_worth_X2_isWithin : GoodIn wsX2_worth (va_wsS RX2 50 yX2_isWithin wsX2_isWithin) := goodIn_app (goodIn_of _ (by decide +kernel)) ggX2_worth_X2_isWithin
set_option maxRecDepth 20000 in
theorem ggX2_worth_X0_worthOf : GoodIn wsX2_worth wsX0_worthOf := goodIn_r _ [12, 13, 14, 15, 16, 17, 18, 19, 20, 31, 32, 33, 34] (by decide +kernel) (by decide +kernel)
set_option maxRecDepth 20000 in
theorem gX2_worth_X0_worthOf : GoodIn wsX2_worth (wsV RX2 73 RX0 yX0_worthOf wsX0_worthOf) := goodIn_app (goodIn_of _ (by decide +kernel)) ggX2_worth_X0_worthOf
theorem dX2_worth_0 : decode cX2_worth 0 = .ok (.iload_n 1, 1) := by decide +kernel
theorem dX2_worth_1 : decode cX2_worth 1 = .ok (.iconst 0, 1) := by decide +kernel
theorem dX2_worth_2 : decode cX2_worth 2 = .ok (.sipush 10000, 3) := by decide +kernel
theorem dX2_worth_5 : decode cX2_worth 5 = .ok (.invokestatic 50, 3) := by decide +kernel
theorem dX2_worth_8 : decode cX2_worth 8 = .ok (.ifCond .ne 13, 3) := by decide +kernel
theorem dX2_worth_11 : decode cX2_worth 11 = .ok (.new 54, 3) := by decide +kernel
theorem dX2_worth_14 : decode cX2_worth 14 = .ok (.dup, 1) := by decide +kernel
theorem dX2_worth_15 : decode cX2_worth 15 = .ok (.ldc 71, 2) := by decide +kernel
theorem dX2_worth_17 : decode cX2_worth 17 = .ok (.invokespecial 58, 3) := by decide +kernel
theorem dX2_worth_20 : decode cX2_worth 20 = .ok (.athrow, 1) := by decide +kernel
theorem dX2_worth_21 : decode cX2_worth 21 = .ok (.aload_n 0, 1) := by decide +kernel
theorem dX2_worth_22 : decode cX2_worth 22 = .ok (.getfield 10, 3) := by decide +kernel
theorem dX2_worth_25 : decode cX2_worth 25 = .ok (.iload_n 1, 1) := by decide +kernel
theorem dX2_worth_26 : decode cX2_worth 26 = .ok (.invokevirtual 73, 3) := by decide +kernel
theorem dX2_worth_29 : decode cX2_worth 29 = .ok (.ireturn, 1) := by decide +kernel
set_option maxRecDepth 20000 in
theorem ggX2_offer_X2_isParty : GoodIn wsX2_offer wsX2_isParty := goodIn_r _ [11, 12, 13, 10, 14] (by decide +kernel) (by decide +kernel)
set_option maxRecDepth 20000 in
theorem gX2_offer_X2_isParty : GoodIn wsX2_offer (va_wsS RX2 76 yX2_isParty wsX2_isParty) := goodIn_app (goodIn_of _ (by decide +kernel)) ggX2_offer_X2_isParty
set_option maxRecDepth 20000 in
theorem ggX2_offer_X2_isWithin : GoodIn wsX2_offer wsX2_isWithin := goodIn_r _ [14] (by decide +kernel) (by decide +kernel)
set_option maxRecDepth 20000 in
theorem gX2_offer_X2_isWithin : GoodIn wsX2_offer (va_wsS RX2 50 yX2_isWithin wsX2_isWithin) := goodIn_app (goodIn_of _ (by decide +kernel)) ggX2_offer_X2_isWithin
set_option maxRecDepth 20000 in
theorem ggX2_offer_X1_isFull : GoodIn wsX2_offer wsX1_isFull := goodIn_r _ [19, 20, 40, 41, 42, 43, 44, 45, 46] (by decide +kernel) (by decide +kernel)
set_option maxRecDepth 20000 in
theorem gX2_offer_X1_isFull : GoodIn wsX2_offer (wsV RX2 87 RX1 yX1_isFull wsX1_isFull) := goodIn_app (goodIn_of _ (by decide +kernel)) ggX2_offer_X1_isFull
set_option maxRecDepth 20000 in
theorem ggX2_offer_X1_add : GoodIn wsX2_offer wsX1_add := goodIn_r _ [24, 20, 25, 26, 27, 28, 29, 40, 41, 42, 43, 44, 45, 46] (by decide +kernel) (by decide +kernel)
set_option maxRecDepth 20000 in
theorem gX2_offer_X1_add : GoodIn wsX2_offer (wsV RX2 96 RX1 yX1_add wsX1_add) := goodIn_app (goodIn_of _ (by decide +kernel)) ggX2_offer_X1_add
theorem dX2_offer_0 : decode cX2_offer 0 = .ok (.iload_n 1, 1) := by decide +kernel
theorem dX2_offer_1 : decode cX2_offer 1 = .ok (.invokestatic 76, 3) := by decide +kernel
theorem dX2_offer_4 : decode cX2_offer 4 = .ok (.ifCond .ne 13, 3) := by decide +kernel
theorem dX2_offer_7 : decode cX2_offer 7 = .ok (.new 80, 3) := by decide +kernel
theorem dX2_offer_10 : decode cX2_offer 10 = .ok (.dup, 1) := by decide +kernel
theorem dX2_offer_11 : decode cX2_offer 11 = .ok (.ldc 82, 2) := by decide +kernel
theorem dX2_offer_13 : decode cX2_offer 13 = .ok (.invokespecial 84, 3) := by decide +kernel
theorem dX2_offer_16 : decode cX2_offer 16 = .ok (.athrow, 1) := by decide +kernel
theorem dX2_offer_17 : decode cX2_offer 17 = .ok (.iload_n 2, 1) := by decide +kernel
theorem dX2_offer_18 : decode cX2_offer 18 = .ok (.iconst 1, 1) := by decide +kernel
theorem dX2_offer_19 : decode cX2_offer 19 = .ok (.sipush 300, 3) := by decide +kernel
theorem dX2_offer_22 : decode cX2_offer 22 = .ok (.invokestatic 50, 3) := by decide +kernel
theorem dX2_offer_25 : decode cX2_offer 25 = .ok (.ifCond .eq 35, 3) := by decide +kernel
theorem dX2_offer_28 : decode cX2_offer 28 = .ok (.iload_n 3, 1) := by decide +kernel
theorem dX2_offer_29 : decode cX2_offer 29 = .ok (.iconst 0, 1) := by decide +kernel
theorem dX2_offer_30 : decode cX2_offer 30 = .ok (.bipush 100, 2) := by decide +kernel
theorem dX2_offer_32 : decode cX2_offer 32 = .ok (.invokestatic 50, 3) := by decide +kernel
theorem dX2_offer_35 : decode cX2_offer 35 = .ok (.ifCond .eq 25, 3) := by decide +kernel
theorem dX2_offer_38 : decode cX2_offer 38 = .ok (.iload 4, 2) := by decide +kernel
theorem dX2_offer_40 : decode cX2_offer 40 = .ok (.iconst 0, 1) := by decide +kernel
theorem dX2_offer_41 : decode cX2_offer 41 = .ok (.sipush 1000, 3) := by decide +kernel
theorem dX2_offer_44 : decode cX2_offer 44 = .ok (.invokestatic 50, 3) := by decide +kernel
theorem dX2_offer_47 : decode cX2_offer 47 = .ok (.ifCond .eq 13, 3) := by decide +kernel
theorem dX2_offer_50 : decode cX2_offer 50 = .ok (.iload 5, 2) := by decide +kernel
theorem dX2_offer_52 : decode cX2_offer 52 = .ok (.iconst 1, 1) := by decide +kernel
theorem dX2_offer_53 : decode cX2_offer 53 = .ok (.iconst 4, 1) := by decide +kernel
theorem dX2_offer_54 : decode cX2_offer 54 = .ok (.invokestatic 50, 3) := by decide +kernel
theorem dX2_offer_57 : decode cX2_offer 57 = .ok (.ifCond .ne 13, 3) := by decide +kernel
theorem dX2_offer_60 : decode cX2_offer 60 = .ok (.new 54, 3) := by decide +kernel
theorem dX2_offer_63 : decode cX2_offer 63 = .ok (.dup, 1) := by decide +kernel
theorem dX2_offer_64 : decode cX2_offer 64 = .ok (.ldc 85, 2) := by decide +kernel
theorem dX2_offer_66 : decode cX2_offer 66 = .ok (.invokespecial 58, 3) := by decide +kernel
theorem dX2_offer_69 : decode cX2_offer 69 = .ok (.athrow, 1) := by decide +kernel
theorem dX2_offer_70 : decode cX2_offer 70 = .ok (.aload_n 0, 1) := by decide +kernel
theorem dX2_offer_71 : decode cX2_offer 71 = .ok (.getfield 19, 3) := by decide +kernel
theorem dX2_offer_74 : decode cX2_offer 74 = .ok (.invokevirtual 87, 3) := by decide +kernel
theorem dX2_offer_77 : decode cX2_offer 77 = .ok (.ifCond .eq 13, 3) := by decide +kernel
theorem dX2_offer_80 : decode cX2_offer 80 = .ok (.new 91, 3) := by decide +kernel
theorem dX2_offer_83 : decode cX2_offer 83 = .ok (.dup, 1) := by decide +kernel
theorem dX2_offer_84 : decode cX2_offer 84 = .ok (.ldc 93, 2) := by decide +kernel
theorem dX2_offer_86 : decode cX2_offer 86 = .ok (.invokespecial 95, 3) := by decide +kernel
theorem dX2_offer_89 : decode cX2_offer 89 = .ok (.athrow, 1) := by decide +kernel
theorem dX2_offer_90 : decode cX2_offer 90 = .ok (.aload_n 0, 1) := by decide +kernel
theorem dX2_offer_91 : decode cX2_offer 91 = .ok (.getfield 19, 3) := by decide +kernel
theorem dX2_offer_94 : decode cX2_offer 94 = .ok (.iload_n 1, 1) := by decide +kernel
theorem dX2_offer_95 : decode cX2_offer 95 = .ok (.iload_n 2, 1) := by decide +kernel
theorem dX2_offer_96 : decode cX2_offer 96 = .ok (.iload_n 3, 1) := by decide +kernel
theorem dX2_offer_97 : decode cX2_offer 97 = .ok (.imul, 1) := by decide +kernel
theorem dX2_offer_98 : decode cX2_offer 98 = .ok (.bipush 100, 2) := by decide +kernel
theorem dX2_offer_100 : decode cX2_offer 100 = .ok (.idiv, 1) := by decide +kernel
theorem dX2_offer_101 : decode cX2_offer 101 = .ok (.iload 4, 2) := by decide +kernel
theorem dX2_offer_103 : decode cX2_offer 103 = .ok (.iload 5, 2) := by decide +kernel
theorem dX2_offer_105 : decode cX2_offer 105 = .ok (.invokevirtual 96, 3) := by decide +kernel
theorem dX2_offer_108 : decode cX2_offer 108 = .ok (.ireturn, 1) := by decide +kernel
theorem dX2_offers_0 : decode cX2_offers 0 = .ok (.aload_n 0, 1) := by decide +kernel
theorem dX2_offers_1 : decode cX2_offers 1 = .ok (.getfield 19, 3) := by decide +kernel
theorem dX2_offers_4 : decode cX2_offers 4 = .ok (.getfield 100, 3) := by decide +kernel
theorem dX2_offers_7 : decode cX2_offers 7 = .ok (.ireturn, 1) := by decide +kernel
set_option maxRecDepth 20000 in
theorem ggX2_supply_X2_isWithin : GoodIn wsX2_supply wsX2_isWithin := goodIn_r _ [7] (by decide +kernel) (by decide +kernel)
set_option maxRecDepth 20000 in
theorem gX2_supply_X2_isWithin : GoodIn wsX2_supply (va_wsS RX2 50 yX2_isWithin wsX2_isWithin) := goodIn_app (goodIn_of _ (by decide +kernel)) ggX2_supply_X2_isWithin
set_option maxRecDepth 20000 in
theorem ggX2_supply_X1_amountUpTo : GoodIn wsX2_supply wsX1_amountUpTo := goodIn_r _ [12, 13, 14, 15, 26, 27, 28, 29, 30, 31, 32] (by decide +kernel) (by decide +kernel)
set_option maxRecDepth 20000 in
theorem gX2_supply_X1_amountUpTo : GoodIn wsX2_supply (wsV RX2 105 RX1 yX1_amountUpTo wsX1_amountUpTo) := goodIn_app (goodIn_of _ (by decide +kernel)) ggX2_supply_X1_amountUpTo
theorem dX2_supply_0 : decode cX2_supply 0 = .ok (.iload_n 1, 1) := by decide +kernel
theorem dX2_supply_1 : decode cX2_supply 1 = .ok (.iconst 0, 1) := by decide +kernel
theorem dX2_supply_2 : decode cX2_supply 2 = .ok (.sipush 1000, 3) := by decide +kernel
theorem dX2_supply_5 : decode cX2_supply 5 = .ok (.invokestatic 50, 3) := by decide +kernel
theorem dX2_supply_8 : decode cX2_supply 8 = .ok (.ifCond .ne 13, 3) := by decide +kernel
theorem dX2_supply_11 : decode cX2_supply 11 = .ok (.new 54, 3) := by decide +kernel
theorem dX2_supply_14 : decode cX2_supply 14 = .ok (.dup, 1) := by decide +kernel
theorem dX2_supply_15 : decode cX2_supply 15 = .ok (.ldc 103, 2) := by decide +kernel
theorem dX2_supply_17 : decode cX2_supply 17 = .ok (.invokespecial 58, 3) := by decide +kernel
theorem dX2_supply_20 : decode cX2_supply 20 = .ok (.athrow, 1) := by decide +kernel
theorem dX2_supply_21 : decode cX2_supply 21 = .ok (.aload_n 0, 1) := by decide +kernel
theorem dX2_supply_22 : decode cX2_supply 22 = .ok (.getfield 19, 3) := by decide +kernel
theorem dX2_supply_25 : decode cX2_supply 25 = .ok (.iload_n 1, 1) := by decide +kernel
theorem dX2_supply_26 : decode cX2_supply 26 = .ok (.invokevirtual 105, 3) := by decide +kernel
theorem dX2_supply_29 : decode cX2_supply 29 = .ok (.ireturn, 1) := by decide +kernel
set_option maxRecDepth 20000 in
theorem ggX2_clearing_X2_isYear : GoodIn wsX2_clearing wsX2_isYear := goodIn_r _ [9, 10, 11, 8, 12] (by decide +kernel) (by decide +kernel)
set_option maxRecDepth 20000 in
theorem gX2_clearing_X2_isYear : GoodIn wsX2_clearing (va_wsS RX2 108 yX2_isYear wsX2_isYear) := goodIn_app (goodIn_of _ (by decide +kernel)) ggX2_clearing_X2_isYear
set_option maxRecDepth 20000 in
theorem ggX2_clearing_X1_bestFirst : GoodIn wsX2_clearing wsX1_bestFirst := goodIn_r _ [17, 18, 19, 20, 21, 22, 23, 24, 25, 26, 27, 28, 29, 30, 31, 32, 33, 34, 49, 50, 51, 52, 53, 54, 55, 56, 57, 58, 59] (by decide +kernel) (by decide +kernel)
set_option maxRecDepth 20000 in
theorem gX2_clearing_X1_bestFirst : GoodIn wsX2_clearing (wsV RX2 113 RX1 yX1_bestFirst wsX1_bestFirst) := goodIn_app (goodIn_of _ (by decide +kernel)) ggX2_clearing_X1_bestFirst
set_option maxRecDepth 20000 in
theorem ggX2_clearing_X1_priceOfFirst : GoodIn wsX2_clearing wsX1_priceOfFirst := goodIn_r _ [38, 18, 21, 19, 49, 50, 51, 52, 53, 54, 55] (by decide +kernel) (by decide +kernel)
set_option maxRecDepth 20000 in
theorem gX2_clearing_X1_priceOfFirst : GoodIn wsX2_clearing (wsV RX2 117 RX1 yX1_priceOfFirst wsX1_priceOfFirst) := goodIn_app (goodIn_of _ (by decide +kernel)) ggX2_clearing_X1_priceOfFirst
theorem dX2_clearing_0 : decode cX2_clearing 0 = .ok (.iload_n 1, 1) := by decide +kernel
theorem dX2_clearing_1 : decode cX2_clearing 1 = .ok (.invokestatic 108, 3) := by decide +kernel
theorem dX2_clearing_4 : decode cX2_clearing 4 = .ok (.ifCond .ne 13, 3) := by decide +kernel
theorem dX2_clearing_7 : decode cX2_clearing 7 = .ok (.new 80, 3) := by decide +kernel
theorem dX2_clearing_10 : decode cX2_clearing 10 = .ok (.dup, 1) := by decide +kernel
theorem dX2_clearing_11 : decode cX2_clearing 11 = .ok (.ldc 111, 2) := by decide +kernel
theorem dX2_clearing_13 : decode cX2_clearing 13 = .ok (.invokespecial 84, 3) := by decide +kernel
theorem dX2_clearing_16 : decode cX2_clearing 16 = .ok (.athrow, 1) := by decide +kernel
theorem dX2_clearing_17 : decode cX2_clearing 17 = .ok (.aload_n 0, 1) := by decide +kernel
theorem dX2_clearing_18 : decode cX2_clearing 18 = .ok (.getfield 19, 3) := by decide +kernel
theorem dX2_clearing_21 : decode cX2_clearing 21 = .ok (.aload_n 0, 1) := by decide +kernel
theorem dX2_clearing_22 : decode cX2_clearing 22 = .ok (.getfield 19, 3) := by decide +kernel
theorem dX2_clearing_25 : decode cX2_clearing 25 = .ok (.aload_n 0, 1) := by decide +kernel
theorem dX2_clearing_26 : decode cX2_clearing 26 = .ok (.getfield 10, 3) := by decide +kernel
theorem dX2_clearing_29 : decode cX2_clearing 29 = .ok (.aload_n 0, 1) := by decide +kernel
theorem dX2_clearing_30 : decode cX2_clearing 30 = .ok (.getfield 23, 3) := by decide +kernel
theorem dX2_clearing_33 : decode cX2_clearing 33 = .ok (.iload_n 1, 1) := by decide +kernel
theorem dX2_clearing_34 : decode cX2_clearing 34 = .ok (.iaload, 1) := by decide +kernel
theorem dX2_clearing_35 : decode cX2_clearing 35 = .ok (.invokevirtual 113, 3) := by decide +kernel
theorem dX2_clearing_38 : decode cX2_clearing 38 = .ok (.invokevirtual 117, 3) := by decide +kernel
theorem dX2_clearing_41 : decode cX2_clearing 41 = .ok (.ireturn, 1) := by decide +kernel
set_option maxRecDepth 20000 in
theorem ggX2_clearingByClock_X2_isYear : GoodIn wsX2_clearingByClock wsX2_isYear := goodIn_r _ [9, 10, 11, 8, 12] (by decide +kernel) (by decide +kernel)
set_option maxRecDepth 20000 in
theorem gX2_clearingByClock_X2_isYear : GoodIn wsX2_clearingByClock (va_wsS RX2 108 yX2_isYear wsX2_isYear) := goodIn_app (goodIn_of _ (by decide +kernel)) ggX2_clearingByClock_X2_isYear
set_option maxRecDepth 20000 in
theorem ggX2_clearingByClock_X1_priceByClock : GoodIn wsX2_clearingByClock wsX1_priceByClock := goodIn_r _ [17, 18, 19, 20, 21, 22, 23, 24, 25, 26, 27, 28, 29, 30, 31, 32, 33, 34, 35, 36, 37, 16, 38, 39, 40, 41, 42, 53, 54, 55, 56, 57, 58, 59, 60, 61, 62, 63] (by decide +kernel) (by decide +kernel)
set_option maxRecDepth 20000 in
theorem gX2_clearingByClock_X1_priceByClock : GoodIn wsX2_clearingByClock (wsV RX2 120 RX1 yX1_priceByClock wsX1_priceByClock) := goodIn_app (goodIn_of _ (by decide +kernel)) ggX2_clearingByClock_X1_priceByClock
theorem dX2_clearingByClock_0 : decode cX2_clearingByClock 0 = .ok (.iload_n 1, 1) := by decide +kernel
theorem dX2_clearingByClock_1 : decode cX2_clearingByClock 1 = .ok (.invokestatic 108, 3) := by decide +kernel
theorem dX2_clearingByClock_4 : decode cX2_clearingByClock 4 = .ok (.ifCond .ne 13, 3) := by decide +kernel
theorem dX2_clearingByClock_7 : decode cX2_clearingByClock 7 = .ok (.new 80, 3) := by decide +kernel
theorem dX2_clearingByClock_10 : decode cX2_clearingByClock 10 = .ok (.dup, 1) := by decide +kernel
theorem dX2_clearingByClock_11 : decode cX2_clearingByClock 11 = .ok (.ldc 111, 2) := by decide +kernel
theorem dX2_clearingByClock_13 : decode cX2_clearingByClock 13 = .ok (.invokespecial 84, 3) := by decide +kernel
theorem dX2_clearingByClock_16 : decode cX2_clearingByClock 16 = .ok (.athrow, 1) := by decide +kernel
theorem dX2_clearingByClock_17 : decode cX2_clearingByClock 17 = .ok (.aload_n 0, 1) := by decide +kernel
theorem dX2_clearingByClock_18 : decode cX2_clearingByClock 18 = .ok (.getfield 19, 3) := by decide +kernel
theorem dX2_clearingByClock_21 : decode cX2_clearingByClock 21 = .ok (.aload_n 0, 1) := by decide +kernel
theorem dX2_clearingByClock_22 : decode cX2_clearingByClock 22 = .ok (.getfield 10, 3) := by decide +kernel
theorem dX2_clearingByClock_25 : decode cX2_clearingByClock 25 = .ok (.aload_n 0, 1) := by decide +kernel
theorem dX2_clearingByClock_26 : decode cX2_clearingByClock 26 = .ok (.getfield 23, 3) := by decide +kernel
theorem dX2_clearingByClock_29 : decode cX2_clearingByClock 29 = .ok (.iload_n 1, 1) := by decide +kernel
theorem dX2_clearingByClock_30 : decode cX2_clearingByClock 30 = .ok (.iaload, 1) := by decide +kernel
theorem dX2_clearingByClock_31 : decode cX2_clearingByClock 31 = .ok (.invokevirtual 120, 3) := by decide +kernel
theorem dX2_clearingByClock_34 : decode cX2_clearingByClock 34 = .ok (.ireturn, 1) := by decide +kernel
set_option maxRecDepth 20000 in
theorem ggX2_wouldTake_X1_has : GoodIn wsX2_wouldTake wsX1_has := goodIn_r _ [10, 11, 53, 54, 55, 56, 57, 58, 59] (by decide +kernel) (by decide +kernel)
set_option maxRecDepth 20000 in
theorem gX2_wouldTake_X1_has : GoodIn wsX2_wouldTake (wsV RX2 123 RX1 yX1_has wsX1_has) := goodIn_app (goodIn_of _ (by decide +kernel)) ggX2_wouldTake_X1_has
set_option maxRecDepth 20000 in
theorem ggX2_wouldTake_X2_isYear : GoodIn wsX2_wouldTake wsX2_isYear := goodIn_r _ [15, 16, 17, 14, 18] (by decide +kernel) (by decide +kernel)
set_option maxRecDepth 20000 in
theorem gX2_wouldTake_X2_isYear : GoodIn wsX2_wouldTake (va_wsS RX2 108 yX2_isYear wsX2_isYear) := goodIn_app (goodIn_of _ (by decide +kernel)) ggX2_wouldTake_X2_isYear
set_option maxRecDepth 20000 in
theorem ggX2_wouldTake_X1_bestFirst : GoodIn wsX2_wouldTake wsX1_bestFirst := goodIn_r _ [22, 11, 23, 24, 25, 26, 27, 28, 29, 30, 31, 32, 33, 34, 35, 36, 37, 38, 53, 54, 55, 56, 57, 58, 59, 60, 61, 62, 63] (by decide +kernel) (by decide +kernel)
set_option maxRecDepth 20000 in
theorem gX2_wouldTake_X1_bestFirst : GoodIn wsX2_wouldTake (wsV RX2 113 RX1 yX1_bestFirst wsX1_bestFirst) := goodIn_app (goodIn_of _ (by decide +kernel)) ggX2_wouldTake_X1_bestFirst
set_option maxRecDepth 20000 in
theorem ggX2_wouldTake_X1_isAmongFirst : GoodIn wsX2_wouldTake wsX1_isAmongFirst := goodIn_r _ [42, 11, 23, 53, 54, 55, 56, 57, 58, 59] (by decide +kernel) (by decide +kernel)
set_option maxRecDepth 20000 in
theorem gX2_wouldTake_X1_isAmongFirst : GoodIn wsX2_wouldTake (wsV RX2 128 RX1 yX1_isAmongFirst wsX1_isAmongFirst) := goodIn_app (goodIn_of _ (by decide +kernel)) ggX2_wouldTake_X1_isAmongFirst
theorem dX2_wouldTake_0 : decode cX2_wouldTake 0 = .ok (.aload_n 0, 1) := by decide +kernel
theorem dX2_wouldTake_1 : decode cX2_wouldTake 1 = .ok (.getfield 19, 3) := by decide +kernel
theorem dX2_wouldTake_4 : decode cX2_wouldTake 4 = .ok (.iload_n 1, 1) := by decide +kernel
theorem dX2_wouldTake_5 : decode cX2_wouldTake 5 = .ok (.invokevirtual 123, 3) := by decide +kernel
theorem dX2_wouldTake_8 : decode cX2_wouldTake 8 = .ok (.ifCond .eq 10, 3) := by decide +kernel
theorem dX2_wouldTake_11 : decode cX2_wouldTake 11 = .ok (.iload_n 2, 1) := by decide +kernel
theorem dX2_wouldTake_12 : decode cX2_wouldTake 12 = .ok (.invokestatic 108, 3) := by decide +kernel
theorem dX2_wouldTake_15 : decode cX2_wouldTake 15 = .ok (.ifCond .ne 13, 3) := by decide +kernel
theorem dX2_wouldTake_18 : decode cX2_wouldTake 18 = .ok (.new 80, 3) := by decide +kernel
theorem dX2_wouldTake_21 : decode cX2_wouldTake 21 = .ok (.dup, 1) := by decide +kernel
theorem dX2_wouldTake_22 : decode cX2_wouldTake 22 = .ok (.ldc 126, 2) := by decide +kernel
theorem dX2_wouldTake_24 : decode cX2_wouldTake 24 = .ok (.invokespecial 84, 3) := by decide +kernel
theorem dX2_wouldTake_27 : decode cX2_wouldTake 27 = .ok (.athrow, 1) := by decide +kernel
theorem dX2_wouldTake_28 : decode cX2_wouldTake 28 = .ok (.aload_n 0, 1) := by decide +kernel
theorem dX2_wouldTake_29 : decode cX2_wouldTake 29 = .ok (.getfield 19, 3) := by decide +kernel
theorem dX2_wouldTake_32 : decode cX2_wouldTake 32 = .ok (.iload_n 1, 1) := by decide +kernel
theorem dX2_wouldTake_33 : decode cX2_wouldTake 33 = .ok (.aload_n 0, 1) := by decide +kernel
theorem dX2_wouldTake_34 : decode cX2_wouldTake 34 = .ok (.getfield 19, 3) := by decide +kernel
theorem dX2_wouldTake_37 : decode cX2_wouldTake 37 = .ok (.aload_n 0, 1) := by decide +kernel
theorem dX2_wouldTake_38 : decode cX2_wouldTake 38 = .ok (.getfield 10, 3) := by decide +kernel
theorem dX2_wouldTake_41 : decode cX2_wouldTake 41 = .ok (.aload_n 0, 1) := by decide +kernel
theorem dX2_wouldTake_42 : decode cX2_wouldTake 42 = .ok (.getfield 23, 3) := by decide +kernel
theorem dX2_wouldTake_45 : decode cX2_wouldTake 45 = .ok (.iload_n 2, 1) := by decide +kernel
theorem dX2_wouldTake_46 : decode cX2_wouldTake 46 = .ok (.iaload, 1) := by decide +kernel
theorem dX2_wouldTake_47 : decode cX2_wouldTake 47 = .ok (.invokevirtual 113, 3) := by decide +kernel
theorem dX2_wouldTake_50 : decode cX2_wouldTake 50 = .ok (.invokevirtual 128, 3) := by decide +kernel
theorem dX2_wouldTake_53 : decode cX2_wouldTake 53 = .ok (.ireturn, 1) := by decide +kernel
set_option maxRecDepth 20000 in
theorem ggX2_run_X2_isYear : GoodIn wsX2_run wsX2_isYear := goodIn_r _ [13, 14, 15, 12, 16] (by decide +kernel) (by decide +kernel)
set_option maxRecDepth 20000 in
theorem gX2_run_X2_isYear : GoodIn wsX2_run (va_wsS RX2 108 yX2_isYear wsX2_isYear) := goodIn_app (goodIn_of _ (by decide +kernel)) ggX2_run_X2_isYear
set_option maxRecDepth 20000 in
theorem ggX2_run_X1_bestFirst : GoodIn wsX2_run wsX1_bestFirst := goodIn_r _ [21, 22, 23, 24, 25, 26, 27, 28, 29, 30, 31, 32, 33, 34, 35, 36, 37, 38, 73, 74, 75, 76, 77, 78, 79, 80, 81, 82, 83] (by decide +kernel) (by decide +kernel)
set_option maxRecDepth 20000 in
theorem gX2_run_X1_bestFirst : GoodIn wsX2_run (wsV RX2 113 RX1 yX1_bestFirst wsX1_bestFirst) := goodIn_app (goodIn_of _ (by decide +kernel)) ggX2_run_X1_bestFirst
set_option maxRecDepth 20000 in
theorem ggX2_run_X1_priceOfFirst : GoodIn wsX2_run wsX1_priceOfFirst := goodIn_r _ [42, 22, 25, 23, 73, 74, 75, 76, 77, 78, 79] (by decide +kernel) (by decide +kernel)
set_option maxRecDepth 20000 in
theorem gX2_run_X1_priceOfFirst : GoodIn wsX2_run (wsV RX2 117 RX1 yX1_priceOfFirst wsX1_priceOfFirst) := goodIn_app (goodIn_of _ (by decide +kernel)) ggX2_run_X1_priceOfFirst
set_option maxRecDepth 20000 in
theorem ggX2_run_X2_take : GoodIn wsX2_run wsX2_take := goodIn_r _ [46, 5, 47, 48, 49, 50, 33, 34, 35, 8, 51, 52, 53, 54, 12, 55, 56, 57, 58, 63, 64, 65, 66, 67, 68, 69, 70, 71, 72, 73, 74, 75, 76, 77, 78, 79] (by decide +kernel) (by decide +kernel)
set_option maxRecDepth 20000 in
theorem gX2_run_X2_take : GoodIn wsX2_run (wsV RX2 137 RX2 yX2_take wsX2_take) := goodIn_app (goodIn_of _ (by decide +kernel)) ggX2_run_X2_take
set_option maxRecDepth 20000 in
theorem ggX2_run_X1_clear : GoodIn wsX2_run wsX1_clear := goodIn_r _ [62, 22, 73, 74, 75, 76, 77, 78, 79] (by decide +kernel) (by decide +kernel)
set_option maxRecDepth 20000 in
theorem gX2_run_X1_clear : GoodIn wsX2_run (wsV RX2 140 RX1 yX1_clear wsX1_clear) := goodIn_app (goodIn_of _ (by decide +kernel)) ggX2_run_X1_clear
theorem dX2_run_0 : decode cX2_run 0 = .ok (.iload_n 1, 1) := by decide +kernel
theorem dX2_run_1 : decode cX2_run 1 = .ok (.invokestatic 108, 3) := by decide +kernel
theorem dX2_run_4 : decode cX2_run 4 = .ok (.ifCond .ne 13, 3) := by decide +kernel
theorem dX2_run_7 : decode cX2_run 7 = .ok (.new 80, 3) := by decide +kernel
theorem dX2_run_10 : decode cX2_run 10 = .ok (.dup, 1) := by decide +kernel
theorem dX2_run_11 : decode cX2_run 11 = .ok (.ldc 111, 2) := by decide +kernel
theorem dX2_run_13 : decode cX2_run 13 = .ok (.invokespecial 84, 3) := by decide +kernel
theorem dX2_run_16 : decode cX2_run 16 = .ok (.athrow, 1) := by decide +kernel
theorem dX2_run_17 : decode cX2_run 17 = .ok (.aload_n 0, 1) := by decide +kernel
theorem dX2_run_18 : decode cX2_run 18 = .ok (.getfield 19, 3) := by decide +kernel
theorem dX2_run_21 : decode cX2_run 21 = .ok (.getfield 100, 3) := by decide +kernel
theorem dX2_run_24 : decode cX2_run 24 = .ok (.ifCond .ne 13, 3) := by decide +kernel
theorem dX2_run_27 : decode cX2_run 27 = .ok (.new 91, 3) := by decide +kernel
theorem dX2_run_30 : decode cX2_run 30 = .ok (.dup, 1) := by decide +kernel
theorem dX2_run_31 : decode cX2_run 31 = .ok (.ldc 132, 2) := by decide +kernel
theorem dX2_run_33 : decode cX2_run 33 = .ok (.invokespecial 95, 3) := by decide +kernel
theorem dX2_run_36 : decode cX2_run 36 = .ok (.athrow, 1) := by decide +kernel
theorem dX2_run_37 : decode cX2_run 37 = .ok (.aload_n 0, 1) := by decide +kernel
theorem dX2_run_38 : decode cX2_run 38 = .ok (.getfield 19, 3) := by decide +kernel
theorem dX2_run_41 : decode cX2_run 41 = .ok (.aload_n 0, 1) := by decide +kernel
theorem dX2_run_42 : decode cX2_run 42 = .ok (.getfield 10, 3) := by decide +kernel
theorem dX2_run_45 : decode cX2_run 45 = .ok (.aload_n 0, 1) := by decide +kernel
theorem dX2_run_46 : decode cX2_run 46 = .ok (.getfield 23, 3) := by decide +kernel
theorem dX2_run_49 : decode cX2_run 49 = .ok (.iload_n 1, 1) := by decide +kernel
theorem dX2_run_50 : decode cX2_run 50 = .ok (.iaload, 1) := by decide +kernel
theorem dX2_run_51 : decode cX2_run 51 = .ok (.invokevirtual 113, 3) := by decide +kernel
theorem dX2_run_54 : decode cX2_run 54 = .ok (.istore_n 2, 1) := by decide +kernel
theorem dX2_run_55 : decode cX2_run 55 = .ok (.aload_n 0, 1) := by decide +kernel
theorem dX2_run_56 : decode cX2_run 56 = .ok (.getfield 19, 3) := by decide +kernel
theorem dX2_run_59 : decode cX2_run 59 = .ok (.iload_n 2, 1) := by decide +kernel
theorem dX2_run_60 : decode cX2_run 60 = .ok (.invokevirtual 117, 3) := by decide +kernel
theorem dX2_run_63 : decode cX2_run 63 = .ok (.istore_n 3, 1) := by decide +kernel
theorem dX2_run_64 : decode cX2_run 64 = .ok (.iconst 0, 1) := by decide +kernel
theorem dX2_run_65 : decode cX2_run 65 = .ok (.istore 4, 2) := by decide +kernel
theorem dX2_run_67 : decode cX2_run 67 = .ok (.iload 4, 2) := by decide +kernel
theorem dX2_run_69 : decode cX2_run 69 = .ok (.iload_n 2, 1) := by decide +kernel
theorem dX2_run_70 : decode cX2_run 70 = .ok (.if_icmp .ge 25, 3) := by decide +kernel
theorem dX2_run_73 : decode cX2_run 73 = .ok (.aload_n 0, 1) := by decide +kernel
theorem dX2_run_74 : decode cX2_run 74 = .ok (.aload_n 0, 1) := by decide +kernel
theorem dX2_run_75 : decode cX2_run 75 = .ok (.getfield 19, 3) := by decide +kernel
theorem dX2_run_78 : decode cX2_run 78 = .ok (.getfield 134, 3) := by decide +kernel
theorem dX2_run_81 : decode cX2_run 81 = .ok (.iload 4, 2) := by decide +kernel
theorem dX2_run_83 : decode cX2_run 83 = .ok (.iaload, 1) := by decide +kernel
theorem dX2_run_84 : decode cX2_run 84 = .ok (.iload_n 1, 1) := by decide +kernel
theorem dX2_run_85 : decode cX2_run 85 = .ok (.iload_n 3, 1) := by decide +kernel
theorem dX2_run_86 : decode cX2_run 86 = .ok (.invokevirtual 137, 3) := by decide +kernel
theorem dX2_run_89 : decode cX2_run 89 = .ok (.iinc 4 1, 3) := by decide +kernel
theorem dX2_run_92 : decode cX2_run 92 = .ok (.goto (-25), 3) := by decide +kernel
theorem dX2_run_95 : decode cX2_run 95 = .ok (.aload_n 0, 1) := by decide +kernel
theorem dX2_run_96 : decode cX2_run 96 = .ok (.getfield 19, 3) := by decide +kernel
theorem dX2_run_99 : decode cX2_run 99 = .ok (.invokevirtual 140, 3) := by decide +kernel
theorem dX2_run_102 : decode cX2_run 102 = .ok (.iload_n 2, 1) := by decide +kernel
theorem dX2_run_103 : decode cX2_run 103 = .ok (.ireturn, 1) := by decide +kernel
set_option maxRecDepth 20000 in
theorem ggX2_bought_X2_isYear : GoodIn wsX2_bought wsX2_isYear := goodIn_r _ [7, 8, 9, 6, 10] (by decide +kernel) (by decide +kernel)
set_option maxRecDepth 20000 in
theorem gX2_bought_X2_isYear : GoodIn wsX2_bought (va_wsS RX2 108 yX2_isYear wsX2_isYear) := goodIn_app (goodIn_of _ (by decide +kernel)) ggX2_bought_X2_isYear
theorem dX2_bought_0 : decode cX2_bought 0 = .ok (.iload_n 1, 1) := by decide +kernel
theorem dX2_bought_1 : decode cX2_bought 1 = .ok (.invokestatic 108, 3) := by decide +kernel
theorem dX2_bought_4 : decode cX2_bought 4 = .ok (.ifCond .ne 13, 3) := by decide +kernel
theorem dX2_bought_7 : decode cX2_bought 7 = .ok (.new 80, 3) := by decide +kernel
theorem dX2_bought_10 : decode cX2_bought 10 = .ok (.dup, 1) := by decide +kernel
theorem dX2_bought_11 : decode cX2_bought 11 = .ok (.ldc 111, 2) := by decide +kernel
theorem dX2_bought_13 : decode cX2_bought 13 = .ok (.invokespecial 84, 3) := by decide +kernel
theorem dX2_bought_16 : decode cX2_bought 16 = .ok (.athrow, 1) := by decide +kernel
theorem dX2_bought_17 : decode cX2_bought 17 = .ok (.aload_n 0, 1) := by decide +kernel
theorem dX2_bought_18 : decode cX2_bought 18 = .ok (.getfield 23, 3) := by decide +kernel
theorem dX2_bought_21 : decode cX2_bought 21 = .ok (.iload_n 1, 1) := by decide +kernel
theorem dX2_bought_22 : decode cX2_bought 22 = .ok (.iaload, 1) := by decide +kernel
theorem dX2_bought_23 : decode cX2_bought 23 = .ok (.ireturn, 1) := by decide +kernel
set_option maxRecDepth 20000 in
theorem ggX2_income_X2_isParty : GoodIn wsX2_income wsX2_isParty := goodIn_r _ [7, 8, 9, 6, 10] (by decide +kernel) (by decide +kernel)
set_option maxRecDepth 20000 in
theorem gX2_income_X2_isParty : GoodIn wsX2_income (va_wsS RX2 76 yX2_isParty wsX2_isParty) := goodIn_app (goodIn_of _ (by decide +kernel)) ggX2_income_X2_isParty
set_option maxRecDepth 20000 in
theorem ggX2_income_X2_isYear : GoodIn wsX2_income wsX2_isYear := goodIn_r _ [13, 8, 9, 6, 10] (by decide +kernel) (by decide +kernel)
set_option maxRecDepth 20000 in
theorem gX2_income_X2_isYear : GoodIn wsX2_income (va_wsS RX2 108 yX2_isYear wsX2_isYear) := goodIn_app (goodIn_of _ (by decide +kernel)) ggX2_income_X2_isYear
set_option maxRecDepth 20000 in
theorem ggX2_income_X2_yearCell : GoodIn wsX2_income wsX2_yearCell := goodIn_r _ [16] (by decide +kernel) (by decide +kernel)
set_option maxRecDepth 20000 in
theorem gX2_income_X2_yearCell : GoodIn wsX2_income (va_wsS RX2 145 yX2_yearCell wsX2_yearCell) := goodIn_app (goodIn_of _ (by decide +kernel)) ggX2_income_X2_yearCell
theorem dX2_income_0 : decode cX2_income 0 = .ok (.iload_n 1, 1) := by decide +kernel
theorem dX2_income_1 : decode cX2_income 1 = .ok (.invokestatic 76, 3) := by decide +kernel
theorem dX2_income_4 : decode cX2_income 4 = .ok (.ifCond .eq 10, 3) := by decide +kernel
theorem dX2_income_7 : decode cX2_income 7 = .ok (.iload_n 2, 1) := by decide +kernel
theorem dX2_income_8 : decode cX2_income 8 = .ok (.invokestatic 108, 3) := by decide +kernel
theorem dX2_income_11 : decode cX2_income 11 = .ok (.ifCond .ne 13, 3) := by decide +kernel
theorem dX2_income_14 : decode cX2_income 14 = .ok (.new 80, 3) := by decide +kernel
theorem dX2_income_17 : decode cX2_income 17 = .ok (.dup, 1) := by decide +kernel
theorem dX2_income_18 : decode cX2_income 18 = .ok (.ldc 143, 2) := by decide +kernel
theorem dX2_income_20 : decode cX2_income 20 = .ok (.invokespecial 84, 3) := by decide +kernel
theorem dX2_income_23 : decode cX2_income 23 = .ok (.athrow, 1) := by decide +kernel
theorem dX2_income_24 : decode cX2_income 24 = .ok (.aload_n 0, 1) := by decide +kernel
theorem dX2_income_25 : decode cX2_income 25 = .ok (.getfield 27, 3) := by decide +kernel
theorem dX2_income_28 : decode cX2_income 28 = .ok (.iload_n 1, 1) := by decide +kernel
theorem dX2_income_29 : decode cX2_income 29 = .ok (.iload_n 2, 1) := by decide +kernel
theorem dX2_income_30 : decode cX2_income 30 = .ok (.invokestatic 145, 3) := by decide +kernel
theorem dX2_income_33 : decode cX2_income 33 = .ok (.iaload, 1) := by decide +kernel
theorem dX2_income_34 : decode cX2_income 34 = .ok (.ireturn, 1) := by decide +kernel
set_option maxRecDepth 20000 in
theorem ggX2_obligation_X2_isParty : GoodIn wsX2_obligation wsX2_isParty := goodIn_r _ [7, 8, 9, 6, 10] (by decide +kernel) (by decide +kernel)
set_option maxRecDepth 20000 in
theorem gX2_obligation_X2_isParty : GoodIn wsX2_obligation (va_wsS RX2 76 yX2_isParty wsX2_isParty) := goodIn_app (goodIn_of _ (by decide +kernel)) ggX2_obligation_X2_isParty
set_option maxRecDepth 20000 in
theorem ggX2_obligation_X2_isYear : GoodIn wsX2_obligation wsX2_isYear := goodIn_r _ [13, 8, 9, 6, 10] (by decide +kernel) (by decide +kernel)
set_option maxRecDepth 20000 in
theorem gX2_obligation_X2_isYear : GoodIn wsX2_obligation (va_wsS RX2 108 yX2_isYear wsX2_isYear) := goodIn_app (goodIn_of _ (by decide +kernel)) ggX2_obligation_X2_isYear
set_option maxRecDepth 20000 in
theorem ggX2_obligation_X2_isHour : GoodIn wsX2_obligation wsX2_isHour := goodIn_r _ [16, 8, 9, 6, 10] (by decide +kernel) (by decide +kernel)
set_option maxRecDepth 20000 in
theorem gX2_obligation_X2_isHour : GoodIn wsX2_obligation (va_wsS RX2 149 yX2_isHour wsX2_isHour) := goodIn_app (goodIn_of _ (by decide +kernel)) ggX2_obligation_X2_isHour
set_option maxRecDepth 20000 in
theorem ggX2_obligation_X2_hourCell : GoodIn wsX2_obligation wsX2_hourCell := goodIn_r _ [19, 20, 21, 6, 22] (by decide +kernel) (by decide +kernel)
set_option maxRecDepth 20000 in
theorem gX2_obligation_X2_hourCell : GoodIn wsX2_obligation (va_wsS RX2 154 yX2_hourCell wsX2_hourCell) := goodIn_app (goodIn_of _ (by decide +kernel)) ggX2_obligation_X2_hourCell
theorem dX2_obligation_0 : decode cX2_obligation 0 = .ok (.iload_n 1, 1) := by decide +kernel
theorem dX2_obligation_1 : decode cX2_obligation 1 = .ok (.invokestatic 76, 3) := by decide +kernel
theorem dX2_obligation_4 : decode cX2_obligation 4 = .ok (.ifCond .eq 17, 3) := by decide +kernel
theorem dX2_obligation_7 : decode cX2_obligation 7 = .ok (.iload_n 2, 1) := by decide +kernel
theorem dX2_obligation_8 : decode cX2_obligation 8 = .ok (.invokestatic 108, 3) := by decide +kernel
theorem dX2_obligation_11 : decode cX2_obligation 11 = .ok (.ifCond .eq 10, 3) := by decide +kernel
theorem dX2_obligation_14 : decode cX2_obligation 14 = .ok (.iload_n 3, 1) := by decide +kernel
theorem dX2_obligation_15 : decode cX2_obligation 15 = .ok (.invokestatic 149, 3) := by decide +kernel
theorem dX2_obligation_18 : decode cX2_obligation 18 = .ok (.ifCond .ne 13, 3) := by decide +kernel
theorem dX2_obligation_21 : decode cX2_obligation 21 = .ok (.new 80, 3) := by decide +kernel
theorem dX2_obligation_24 : decode cX2_obligation 24 = .ok (.dup, 1) := by decide +kernel
theorem dX2_obligation_25 : decode cX2_obligation 25 = .ok (.ldc 152, 2) := by decide +kernel
theorem dX2_obligation_27 : decode cX2_obligation 27 = .ok (.invokespecial 84, 3) := by decide +kernel
theorem dX2_obligation_30 : decode cX2_obligation 30 = .ok (.athrow, 1) := by decide +kernel
theorem dX2_obligation_31 : decode cX2_obligation 31 = .ok (.aload_n 0, 1) := by decide +kernel
theorem dX2_obligation_32 : decode cX2_obligation 32 = .ok (.getfield 30, 3) := by decide +kernel
theorem dX2_obligation_35 : decode cX2_obligation 35 = .ok (.iload_n 1, 1) := by decide +kernel
theorem dX2_obligation_36 : decode cX2_obligation 36 = .ok (.iload_n 2, 1) := by decide +kernel
theorem dX2_obligation_37 : decode cX2_obligation 37 = .ok (.iload_n 3, 1) := by decide +kernel
theorem dX2_obligation_38 : decode cX2_obligation 38 = .ok (.invokestatic 154, 3) := by decide +kernel
theorem dX2_obligation_41 : decode cX2_obligation 41 = .ok (.iaload, 1) := by decide +kernel
theorem dX2_obligation_42 : decode cX2_obligation 42 = .ok (.ireturn, 1) := by decide +kernel
set_option maxRecDepth 20000 in
theorem ggX2_trade_X2_isParty : GoodIn wsX2_trade wsX2_isParty := goodIn_r _ [12, 13, 14, 11, 15] (by decide +kernel) (by decide +kernel)
set_option maxRecDepth 20000 in
theorem gX2_trade_X2_isParty : GoodIn wsX2_trade (va_wsS RX2 76 yX2_isParty wsX2_isParty) := goodIn_app (goodIn_of _ (by decide +kernel)) ggX2_trade_X2_isParty
set_option maxRecDepth 20000 in
theorem ggX2_trade_X2_isYear : GoodIn wsX2_trade wsX2_isYear := goodIn_r _ [18, 13, 14, 11, 15] (by decide +kernel) (by decide +kernel)
set_option maxRecDepth 20000 in
theorem gX2_trade_X2_isYear : GoodIn wsX2_trade (va_wsS RX2 108 yX2_isYear wsX2_isYear) := goodIn_app (goodIn_of _ (by decide +kernel)) ggX2_trade_X2_isYear
set_option maxRecDepth 20000 in
theorem ggX2_trade_X2_isHour : GoodIn wsX2_trade wsX2_isHour := goodIn_r _ [21, 13, 14, 11, 15] (by decide +kernel) (by decide +kernel)
set_option maxRecDepth 20000 in
theorem gX2_trade_X2_isHour : GoodIn wsX2_trade (va_wsS RX2 149 yX2_isHour wsX2_isHour) := goodIn_app (goodIn_of _ (by decide +kernel)) ggX2_trade_X2_isHour
