theorem dX3_init_0 : decode cX3_init 0 = .ok (.aload_n 0, 1) := by decide +kernel
theorem dX3_init_1 : decode cX3_init 1 = .ok (.invokespecial 1, 3) := by decide +kernel
theorem dX3_init_4 : decode cX3_init 4 = .ok (.aload_n 0, 1) := by decide +kernel
theorem dX3_init_5 : decode cX3_init 5 = .ok (.bipush 100, 2) := by decide +kernel
theorem dX3_init_7 : decode cX3_init 7 = .ok (.putfield 7, 3) := by decide +kernel
theorem dX3_init_10 : decode cX3_init 10 = .ok (.aload_n 0, 1) := by decide +kernel
theorem dX3_init_11 : decode cX3_init 11 = .ok (.sipush 200, 3) := by decide +kernel
theorem dX3_init_14 : decode cX3_init 14 = .ok (.putfield 13, 3) := by decide +kernel
theorem dX3_init_17 : decode cX3_init 17 = .ok (.aload_n 0, 1) := by decide +kernel
theorem dX3_init_18 : decode cX3_init 18 = .ok (.bipush 50, 2) := by decide +kernel
theorem dX3_init_20 : decode cX3_init 20 = .ok (.putfield 16, 3) := by decide +kernel
theorem dX3_init_23 : decode cX3_init 23 = .ok (.aload_n 0, 1) := by decide +kernel
theorem dX3_init_24 : decode cX3_init 24 = .ok (.bipush 12, 2) := by decide +kernel
theorem dX3_init_26 : decode cX3_init 26 = .ok (.newarray .int, 2) := by decide +kernel
theorem dX3_init_28 : decode cX3_init 28 = .ok (.putfield 19, 3) := by decide +kernel
theorem dX3_init_31 : decode cX3_init 31 = .ok (.aload_n 0, 1) := by decide +kernel
theorem dX3_init_32 : decode cX3_init 32 = .ok (.bipush 12, 2) := by decide +kernel
theorem dX3_init_34 : decode cX3_init 34 = .ok (.newarray .int, 2) := by decide +kernel
theorem dX3_init_36 : decode cX3_init 36 = .ok (.putfield 23, 3) := by decide +kernel
theorem dX3_init_39 : decode cX3_init 39 = .ok (.aload_n 0, 1) := by decide +kernel
theorem dX3_init_40 : decode cX3_init 40 = .ok (.bipush 12, 2) := by decide +kernel
theorem dX3_init_42 : decode cX3_init 42 = .ok (.newarray .int, 2) := by decide +kernel
theorem dX3_init_44 : decode cX3_init 44 = .ok (.putfield 26, 3) := by decide +kernel
theorem dX3_init_47 : decode cX3_init 47 = .ok (.aload_n 0, 1) := by decide +kernel
theorem dX3_init_48 : decode cX3_init 48 = .ok (.bipush 12, 2) := by decide +kernel
theorem dX3_init_50 : decode cX3_init 50 = .ok (.newarray .int, 2) := by decide +kernel
theorem dX3_init_52 : decode cX3_init 52 = .ok (.putfield 29, 3) := by decide +kernel
theorem dX3_init_55 : decode cX3_init 55 = .ok (.aload_n 0, 1) := by decide +kernel
theorem dX3_init_56 : decode cX3_init 56 = .ok (.bipush 8, 2) := by decide +kernel
theorem dX3_init_58 : decode cX3_init 58 = .ok (.newarray .int, 2) := by decide +kernel
theorem dX3_init_60 : decode cX3_init 60 = .ok (.putfield 32, 3) := by decide +kernel
theorem dX3_init_63 : decode cX3_init 63 = .ok (.aload_n 0, 1) := by decide +kernel
theorem dX3_init_64 : decode cX3_init 64 = .ok (.bipush 40, 2) := by decide +kernel
theorem dX3_init_66 : decode cX3_init 66 = .ok (.newarray .int, 2) := by decide +kernel
theorem dX3_init_68 : decode cX3_init 68 = .ok (.putfield 35, 3) := by decide +kernel
theorem dX3_init_71 : decode cX3_init 71 = .ok (.aload_n 0, 1) := by decide +kernel
theorem dX3_init_72 : decode cX3_init 72 = .ok (.sipush 480, 3) := by decide +kernel
theorem dX3_init_75 : decode cX3_init 75 = .ok (.newarray .int, 2) := by decide +kernel
theorem dX3_init_77 : decode cX3_init 77 = .ok (.putfield 38, 3) := by decide +kernel
theorem dX3_init_80 : decode cX3_init 80 = .ok (.aload_n 0, 1) := by decide +kernel
theorem dX3_init_81 : decode cX3_init 81 = .ok (.sipush 480, 3) := by decide +kernel
theorem dX3_init_84 : decode cX3_init 84 = .ok (.newarray .int, 2) := by decide +kernel
theorem dX3_init_86 : decode cX3_init 86 = .ok (.putfield 41, 3) := by decide +kernel
theorem dX3_init_89 : decode cX3_init 89 = .ok (.aload_n 0, 1) := by decide +kernel
theorem dX3_init_90 : decode cX3_init 90 = .ok (.bipush 96, 2) := by decide +kernel
theorem dX3_init_92 : decode cX3_init 92 = .ok (.newarray .boolean, 2) := by decide +kernel
theorem dX3_init_94 : decode cX3_init 94 = .ok (.putfield 44, 3) := by decide +kernel
theorem dX3_init_97 : decode cX3_init 97 = .ok (.aload_n 0, 1) := by decide +kernel
theorem dX3_init_98 : decode cX3_init 98 = .ok (.bipush 20, 2) := by decide +kernel
theorem dX3_init_100 : decode cX3_init 100 = .ok (.putfield 48, 3) := by decide +kernel
theorem dX3_init_103 : decode cX3_init 103 = .ok (.aload_n 0, 1) := by decide +kernel
theorem dX3_init_104 : decode cX3_init 104 = .ok (.bipush 50, 2) := by decide +kernel
theorem dX3_init_106 : decode cX3_init 106 = .ok (.putfield 51, 3) := by decide +kernel
theorem dX3_init_109 : decode cX3_init 109 = .ok (.return_, 1) := by decide +kernel
theorem dX3_thrown_0 : decode cX3_thrown 0 = .ok (.aload_n 0, 1) := by decide +kernel
theorem dX3_thrown_1 : decode cX3_thrown 1 = .ok (.getfield 54, 3) := by decide +kernel
theorem dX3_thrown_4 : decode cX3_thrown 4 = .ok (.ireturn, 1) := by decide +kernel
theorem dX3_goes_0 : decode cX3_goes 0 = .ok (.aload_n 0, 1) := by decide +kernel
theorem dX3_goes_1 : decode cX3_goes 1 = .ok (.iload_n 1, 1) := by decide +kernel
theorem dX3_goes_2 : decode cX3_goes 2 = .ok (.ifCond .ne 7, 3) := by decide +kernel
theorem dX3_goes_5 : decode cX3_goes 5 = .ok (.iconst 1, 1) := by decide +kernel
theorem dX3_goes_6 : decode cX3_goes 6 = .ok (.goto 20, 3) := by decide +kernel
theorem dX3_goes_9 : decode cX3_goes 9 = .ok (.iload_n 2, 1) := by decide +kernel
theorem dX3_goes_10 : decode cX3_goes 10 = .ok (.ifCond .ne 7, 3) := by decide +kernel
theorem dX3_goes_13 : decode cX3_goes 13 = .ok (.iconst 2, 1) := by decide +kernel
theorem dX3_goes_14 : decode cX3_goes 14 = .ok (.goto 12, 3) := by decide +kernel
theorem dX3_goes_17 : decode cX3_goes 17 = .ok (.iload_n 3, 1) := by decide +kernel
theorem dX3_goes_18 : decode cX3_goes 18 = .ok (.ifCond .ne 7, 3) := by decide +kernel
theorem dX3_goes_21 : decode cX3_goes 21 = .ok (.iconst 3, 1) := by decide +kernel
theorem dX3_goes_22 : decode cX3_goes 22 = .ok (.goto 4, 3) := by decide +kernel
theorem dX3_goes_25 : decode cX3_goes 25 = .ok (.iconst 0, 1) := by decide +kernel
theorem dX3_goes_26 : decode cX3_goes 26 = .ok (.putfield 54, 3) := by decide +kernel
theorem dX3_goes_29 : decode cX3_goes 29 = .ok (.aload_n 0, 1) := by decide +kernel
theorem dX3_goes_30 : decode cX3_goes 30 = .ok (.getfield 54, 3) := by decide +kernel
theorem dX3_goes_33 : decode cX3_goes 33 = .ok (.ifCond .ne 7, 3) := by decide +kernel
theorem dX3_goes_36 : decode cX3_goes 36 = .ok (.iconst 1, 1) := by decide +kernel
theorem dX3_goes_37 : decode cX3_goes 37 = .ok (.goto 4, 3) := by decide +kernel
theorem dX3_goes_40 : decode cX3_goes 40 = .ok (.iconst 0, 1) := by decide +kernel
theorem dX3_goes_41 : decode cX3_goes 41 = .ok (.ireturn, 1) := by decide +kernel
theorem dX3_isWithin_0 : decode cX3_isWithin 0 = .ok (.iload_n 0, 1) := by decide +kernel
theorem dX3_isWithin_1 : decode cX3_isWithin 1 = .ok (.iload_n 1, 1) := by decide +kernel
theorem dX3_isWithin_2 : decode cX3_isWithin 2 = .ok (.if_icmp .lt 12, 3) := by decide +kernel
theorem dX3_isWithin_5 : decode cX3_isWithin 5 = .ok (.iload_n 0, 1) := by decide +kernel
theorem dX3_isWithin_6 : decode cX3_isWithin 6 = .ok (.iload_n 2, 1) := by decide +kernel
theorem dX3_isWithin_7 : decode cX3_isWithin 7 = .ok (.if_icmp .gt 7, 3) := by decide +kernel
theorem dX3_isWithin_10 : decode cX3_isWithin 10 = .ok (.iconst 1, 1) := by decide +kernel
theorem dX3_isWithin_11 : decode cX3_isWithin 11 = .ok (.goto 4, 3) := by decide +kernel
theorem dX3_isWithin_14 : decode cX3_isWithin 14 = .ok (.iconst 0, 1) := by decide +kernel
theorem dX3_isWithin_15 : decode cX3_isWithin 15 = .ok (.ireturn, 1) := by decide +kernel
theorem dX3_isParty_0 : decode cX3_isParty 0 = .ok (.iload_n 0, 1) := by decide +kernel
theorem dX3_isParty_1 : decode cX3_isParty 1 = .ok (.ifCond .lt 12, 3) := by decide +kernel
theorem dX3_isParty_4 : decode cX3_isParty 4 = .ok (.iload_n 0, 1) := by decide +kernel
theorem dX3_isParty_5 : decode cX3_isParty 5 = .ok (.iconst 5, 1) := by decide +kernel
theorem dX3_isParty_6 : decode cX3_isParty 6 = .ok (.if_icmp .ge 7, 3) := by decide +kernel
theorem dX3_isParty_9 : decode cX3_isParty 9 = .ok (.iconst 1, 1) := by decide +kernel
theorem dX3_isParty_10 : decode cX3_isParty 10 = .ok (.goto 4, 3) := by decide +kernel
theorem dX3_isParty_13 : decode cX3_isParty 13 = .ok (.iconst 0, 1) := by decide +kernel
theorem dX3_isParty_14 : decode cX3_isParty 14 = .ok (.ireturn, 1) := by decide +kernel
theorem dX3_isYear_0 : decode cX3_isYear 0 = .ok (.iload_n 0, 1) := by decide +kernel
theorem dX3_isYear_1 : decode cX3_isYear 1 = .ok (.ifCond .lt 13, 3) := by decide +kernel
theorem dX3_isYear_4 : decode cX3_isYear 4 = .ok (.iload_n 0, 1) := by decide +kernel
theorem dX3_isYear_5 : decode cX3_isYear 5 = .ok (.bipush 8, 2) := by decide +kernel
theorem dX3_isYear_7 : decode cX3_isYear 7 = .ok (.if_icmp .ge 7, 3) := by decide +kernel
theorem dX3_isYear_10 : decode cX3_isYear 10 = .ok (.iconst 1, 1) := by decide +kernel
theorem dX3_isYear_11 : decode cX3_isYear 11 = .ok (.goto 4, 3) := by decide +kernel
theorem dX3_isYear_14 : decode cX3_isYear 14 = .ok (.iconst 0, 1) := by decide +kernel
theorem dX3_isYear_15 : decode cX3_isYear 15 = .ok (.ireturn, 1) := by decide +kernel
theorem dX3_isHour_0 : decode cX3_isHour 0 = .ok (.iload_n 0, 1) := by decide +kernel
theorem dX3_isHour_1 : decode cX3_isHour 1 = .ok (.ifCond .lt 13, 3) := by decide +kernel
theorem dX3_isHour_4 : decode cX3_isHour 4 = .ok (.iload_n 0, 1) := by decide +kernel
theorem dX3_isHour_5 : decode cX3_isHour 5 = .ok (.bipush 12, 2) := by decide +kernel
theorem dX3_isHour_7 : decode cX3_isHour 7 = .ok (.if_icmp .ge 7, 3) := by decide +kernel
theorem dX3_isHour_10 : decode cX3_isHour 10 = .ok (.iconst 1, 1) := by decide +kernel
theorem dX3_isHour_11 : decode cX3_isHour 11 = .ok (.goto 4, 3) := by decide +kernel
theorem dX3_isHour_14 : decode cX3_isHour 14 = .ok (.iconst 0, 1) := by decide +kernel
theorem dX3_isHour_15 : decode cX3_isHour 15 = .ok (.ireturn, 1) := by decide +kernel
theorem dX3_place_0 : decode cX3_place 0 = .ok (.iload_n 0, 1) := by decide +kernel
theorem dX3_place_1 : decode cX3_place 1 = .ok (.bipush 8, 2) := by decide +kernel
theorem dX3_place_3 : decode cX3_place 3 = .ok (.imul, 1) := by decide +kernel
theorem dX3_place_4 : decode cX3_place 4 = .ok (.iload_n 1, 1) := by decide +kernel
theorem dX3_place_5 : decode cX3_place 5 = .ok (.iadd, 1) := by decide +kernel
theorem dX3_place_6 : decode cX3_place 6 = .ok (.bipush 12, 2) := by decide +kernel
theorem dX3_place_8 : decode cX3_place 8 = .ok (.imul, 1) := by decide +kernel
theorem dX3_place_9 : decode cX3_place 9 = .ok (.iload_n 2, 1) := by decide +kernel
theorem dX3_place_10 : decode cX3_place 10 = .ok (.iadd, 1) := by decide +kernel
theorem dX3_place_11 : decode cX3_place 11 = .ok (.ireturn, 1) := by decide +kernel
set_option maxRecDepth 20000 in
theorem ggX3_setDemand_X3_isWithin : GoodIn wsX3_setDemand wsX3_isWithin := goodIn_r _ [7] (by decide +kernel) (by decide +kernel)
set_option maxRecDepth 20000 in
theorem gX3_setDemand_X3_isWithin : GoodIn wsX3_setDemand (va_wsS RX3 57 yX3_isWithin wsX3_isWithin) := goodIn_app (goodIn_of _ (by decide +kernel)) ggX3_setDemand_X3_isWithin
set_option maxRecDepth 20000 in
theorem ggX3_setDemand_X3_goes : GoodIn wsX3_setDemand wsX3_goes := goodIn_r _ [11, 12, 13, 14, 15, 16, 17, 18, 19, 20, 21, 22, 23, 24, 25, 26, 27, 28, 29] (by decide +kernel) (by decide +kernel)
set_option maxRecDepth 20000 in
theorem gX3_setDemand_X3_goes : GoodIn wsX3_setDemand (wsV RX3 61 RX3 yX3_goes wsX3_goes) := goodIn_app (goodIn_of _ (by decide +kernel)) ggX3_setDemand_X3_goes
theorem dX3_setDemand_0 : decode cX3_setDemand 0 = .ok (.iload_n 1, 1) := by decide +kernel
theorem dX3_setDemand_1 : decode cX3_setDemand 1 = .ok (.iconst 0, 1) := by decide +kernel
theorem dX3_setDemand_2 : decode cX3_setDemand 2 = .ok (.sipush 1000, 3) := by decide +kernel
theorem dX3_setDemand_5 : decode cX3_setDemand 5 = .ok (.invokestatic 57, 3) := by decide +kernel
theorem dX3_setDemand_8 : decode cX3_setDemand 8 = .ok (.ifCond .eq 30, 3) := by decide +kernel
theorem dX3_setDemand_11 : decode cX3_setDemand 11 = .ok (.iload_n 2, 1) := by decide +kernel
theorem dX3_setDemand_12 : decode cX3_setDemand 12 = .ok (.iload_n 1, 1) := by decide +kernel
theorem dX3_setDemand_13 : decode cX3_setDemand 13 = .ok (.if_icmp .le 25, 3) := by decide +kernel
theorem dX3_setDemand_16 : decode cX3_setDemand 16 = .ok (.iload_n 2, 1) := by decide +kernel
theorem dX3_setDemand_17 : decode cX3_setDemand 17 = .ok (.sipush 1001, 3) := by decide +kernel
theorem dX3_setDemand_20 : decode cX3_setDemand 20 = .ok (.if_icmp .gt 18, 3) := by decide +kernel
theorem dX3_setDemand_23 : decode cX3_setDemand 23 = .ok (.iload_n 3, 1) := by decide +kernel
theorem dX3_setDemand_24 : decode cX3_setDemand 24 = .ok (.iconst 1, 1) := by decide +kernel
theorem dX3_setDemand_25 : decode cX3_setDemand 25 = .ok (.sipush 1000, 3) := by decide +kernel
theorem dX3_setDemand_28 : decode cX3_setDemand 28 = .ok (.invokestatic 57, 3) := by decide +kernel
theorem dX3_setDemand_31 : decode cX3_setDemand 31 = .ok (.ifCond .eq 7, 3) := by decide +kernel
theorem dX3_setDemand_34 : decode cX3_setDemand 34 = .ok (.iconst 1, 1) := by decide +kernel
theorem dX3_setDemand_35 : decode cX3_setDemand 35 = .ok (.goto 4, 3) := by decide +kernel
theorem dX3_setDemand_38 : decode cX3_setDemand 38 = .ok (.iconst 0, 1) := by decide +kernel
theorem dX3_setDemand_39 : decode cX3_setDemand 39 = .ok (.istore 4, 2) := by decide +kernel
theorem dX3_setDemand_41 : decode cX3_setDemand 41 = .ok (.aload_n 0, 1) := by decide +kernel
theorem dX3_setDemand_42 : decode cX3_setDemand 42 = .ok (.iload 4, 2) := by decide +kernel
theorem dX3_setDemand_44 : decode cX3_setDemand 44 = .ok (.iconst 1, 1) := by decide +kernel
theorem dX3_setDemand_45 : decode cX3_setDemand 45 = .ok (.iconst 1, 1) := by decide +kernel
theorem dX3_setDemand_46 : decode cX3_setDemand 46 = .ok (.invokevirtual 61, 3) := by decide +kernel
theorem dX3_setDemand_49 : decode cX3_setDemand 49 = .ok (.ifCond .eq 18, 3) := by decide +kernel
theorem dX3_setDemand_52 : decode cX3_setDemand 52 = .ok (.aload_n 0, 1) := by decide +kernel
theorem dX3_setDemand_53 : decode cX3_setDemand 53 = .ok (.iload_n 1, 1) := by decide +kernel
theorem dX3_setDemand_54 : decode cX3_setDemand 54 = .ok (.putfield 7, 3) := by decide +kernel
theorem dX3_setDemand_57 : decode cX3_setDemand 57 = .ok (.aload_n 0, 1) := by decide +kernel
theorem dX3_setDemand_58 : decode cX3_setDemand 58 = .ok (.iload_n 2, 1) := by decide +kernel
theorem dX3_setDemand_59 : decode cX3_setDemand 59 = .ok (.putfield 13, 3) := by decide +kernel
theorem dX3_setDemand_62 : decode cX3_setDemand 62 = .ok (.aload_n 0, 1) := by decide +kernel
theorem dX3_setDemand_63 : decode cX3_setDemand 63 = .ok (.iload_n 3, 1) := by decide +kernel
theorem dX3_setDemand_64 : decode cX3_setDemand 64 = .ok (.putfield 16, 3) := by decide +kernel
theorem dX3_setDemand_67 : decode cX3_setDemand 67 = .ok (.return_, 1) := by decide +kernel
theorem dX3_valueOf_0 : decode cX3_valueOf 0 = .ok (.iload_n 1, 1) := by decide +kernel
theorem dX3_valueOf_1 : decode cX3_valueOf 1 = .ok (.aload_n 0, 1) := by decide +kernel
theorem dX3_valueOf_2 : decode cX3_valueOf 2 = .ok (.getfield 7, 3) := by decide +kernel
theorem dX3_valueOf_5 : decode cX3_valueOf 5 = .ok (.if_icmp .gt 10, 3) := by decide +kernel
theorem dX3_valueOf_8 : decode cX3_valueOf 8 = .ok (.aload_n 0, 1) := by decide +kernel
theorem dX3_valueOf_9 : decode cX3_valueOf 9 = .ok (.getfield 16, 3) := by decide +kernel
theorem dX3_valueOf_12 : decode cX3_valueOf 12 = .ok (.goto 36, 3) := by decide +kernel
theorem dX3_valueOf_15 : decode cX3_valueOf 15 = .ok (.iload_n 1, 1) := by decide +kernel
theorem dX3_valueOf_16 : decode cX3_valueOf 16 = .ok (.aload_n 0, 1) := by decide +kernel
theorem dX3_valueOf_17 : decode cX3_valueOf 17 = .ok (.getfield 13, 3) := by decide +kernel
theorem dX3_valueOf_20 : decode cX3_valueOf 20 = .ok (.if_icmp .le 7, 3) := by decide +kernel
theorem dX3_valueOf_23 : decode cX3_valueOf 23 = .ok (.iconst 0, 1) := by decide +kernel
theorem dX3_valueOf_24 : decode cX3_valueOf 24 = .ok (.goto 24, 3) := by decide +kernel
theorem dX3_valueOf_27 : decode cX3_valueOf 27 = .ok (.aload_n 0, 1) := by decide +kernel
theorem dX3_valueOf_28 : decode cX3_valueOf 28 = .ok (.getfield 16, 3) := by decide +kernel
theorem dX3_valueOf_31 : decode cX3_valueOf 31 = .ok (.aload_n 0, 1) := by decide +kernel
theorem dX3_valueOf_32 : decode cX3_valueOf 32 = .ok (.getfield 13, 3) := by decide +kernel
theorem dX3_valueOf_35 : decode cX3_valueOf 35 = .ok (.iload_n 1, 1) := by decide +kernel
theorem dX3_valueOf_36 : decode cX3_valueOf 36 = .ok (.isub, 1) := by decide +kernel
theorem dX3_valueOf_37 : decode cX3_valueOf 37 = .ok (.imul, 1) := by decide +kernel
theorem dX3_valueOf_38 : decode cX3_valueOf 38 = .ok (.aload_n 0, 1) := by decide +kernel
theorem dX3_valueOf_39 : decode cX3_valueOf 39 = .ok (.getfield 13, 3) := by decide +kernel
theorem dX3_valueOf_42 : decode cX3_valueOf 42 = .ok (.aload_n 0, 1) := by decide +kernel
theorem dX3_valueOf_43 : decode cX3_valueOf 43 = .ok (.getfield 7, 3) := by decide +kernel
theorem dX3_valueOf_46 : decode cX3_valueOf 46 = .ok (.isub, 1) := by decide +kernel
theorem dX3_valueOf_47 : decode cX3_valueOf 47 = .ok (.idiv, 1) := by decide +kernel
theorem dX3_valueOf_48 : decode cX3_valueOf 48 = .ok (.ireturn, 1) := by decide +kernel
set_option maxRecDepth 20000 in
theorem ggX3_worthOf_X3_valueOf : GoodIn wsX3_worthOf wsX3_valueOf := goodIn_r _ [6, 7, 8, 1, 9, 10, 11, 12, 13, 14, 15, 16, 17, 18, 19, 20, 21, 22, 23, 24, 25] (by decide +kernel) (by decide +kernel)
set_option maxRecDepth 20000 in
theorem gX3_worthOf_X3_valueOf : GoodIn wsX3_worthOf (wsV RX3 65 RX3 yX3_valueOf wsX3_valueOf) := goodIn_app (goodIn_of _ (by decide +kernel)) ggX3_worthOf_X3_valueOf
theorem dX3_worthOf_0 : decode cX3_worthOf 0 = .ok (.iconst 0, 1) := by decide +kernel
theorem dX3_worthOf_1 : decode cX3_worthOf 1 = .ok (.istore_n 2, 1) := by decide +kernel
theorem dX3_worthOf_2 : decode cX3_worthOf 2 = .ok (.iconst 1, 1) := by decide +kernel
theorem dX3_worthOf_3 : decode cX3_worthOf 3 = .ok (.istore_n 3, 1) := by decide +kernel
theorem dX3_worthOf_4 : decode cX3_worthOf 4 = .ok (.iload_n 3, 1) := by decide +kernel
theorem dX3_worthOf_5 : decode cX3_worthOf 5 = .ok (.iload_n 1, 1) := by decide +kernel
theorem dX3_worthOf_6 : decode cX3_worthOf 6 = .ok (.if_icmp .gt 25, 3) := by decide +kernel
theorem dX3_worthOf_9 : decode cX3_worthOf 9 = .ok (.iload_n 3, 1) := by decide +kernel
theorem dX3_worthOf_10 : decode cX3_worthOf 10 = .ok (.aload_n 0, 1) := by decide +kernel
theorem dX3_worthOf_11 : decode cX3_worthOf 11 = .ok (.getfield 13, 3) := by decide +kernel
theorem dX3_worthOf_14 : decode cX3_worthOf 14 = .ok (.if_icmp .gt 17, 3) := by decide +kernel
theorem dX3_worthOf_17 : decode cX3_worthOf 17 = .ok (.iload_n 2, 1) := by decide +kernel
theorem dX3_worthOf_18 : decode cX3_worthOf 18 = .ok (.aload_n 0, 1) := by decide +kernel
theorem dX3_worthOf_19 : decode cX3_worthOf 19 = .ok (.iload_n 3, 1) := by decide +kernel
theorem dX3_worthOf_20 : decode cX3_worthOf 20 = .ok (.invokevirtual 65, 3) := by decide +kernel
theorem dX3_worthOf_23 : decode cX3_worthOf 23 = .ok (.iadd, 1) := by decide +kernel
theorem dX3_worthOf_24 : decode cX3_worthOf 24 = .ok (.istore_n 2, 1) := by decide +kernel
theorem dX3_worthOf_25 : decode cX3_worthOf 25 = .ok (.iinc 3 1, 3) := by decide +kernel
theorem dX3_worthOf_28 : decode cX3_worthOf 28 = .ok (.goto (-24), 3) := by decide +kernel
theorem dX3_worthOf_31 : decode cX3_worthOf 31 = .ok (.iload_n 2, 1) := by decide +kernel
theorem dX3_worthOf_32 : decode cX3_worthOf 32 = .ok (.ireturn, 1) := by decide +kernel
set_option maxRecDepth 20000 in
theorem ggX3_value_X3_isWithin : GoodIn wsX3_value wsX3_isWithin := goodIn_r _ [4] (by decide +kernel) (by decide +kernel)
set_option maxRecDepth 20000 in
theorem gX3_value_X3_isWithin : GoodIn wsX3_value (va_wsS RX3 57 yX3_isWithin wsX3_isWithin) := goodIn_app (goodIn_of _ (by decide +kernel)) ggX3_value_X3_isWithin
set_option maxRecDepth 20000 in
theorem ggX3_value_X3_goes : GoodIn wsX3_value wsX3_goes := goodIn_r _ [8, 9, 17, 18, 19, 20, 21, 22, 23, 24, 25, 26, 27, 28, 29, 30, 31, 32, 33] (by decide +kernel) (by decide +kernel)
set_option maxRecDepth 20000 in
theorem gX3_value_X3_goes : GoodIn wsX3_value (wsV RX3 61 RX3 yX3_goes wsX3_goes) := goodIn_app (goodIn_of _ (by decide +kernel)) ggX3_value_X3_goes
set_option maxRecDepth 20000 in
theorem ggX3_value_X3_valueOf : GoodIn wsX3_value wsX3_valueOf := goodIn_r _ [13, 14, 15, 16, 17, 18, 19, 20, 21, 22, 23, 24, 25, 26, 27, 28, 29, 30, 31, 32, 33] (by decide +kernel) (by decide +kernel)
set_option maxRecDepth 20000 in
theorem gX3_value_X3_valueOf : GoodIn wsX3_value (wsV RX3 65 RX3 yX3_valueOf wsX3_valueOf) := goodIn_app (goodIn_of _ (by decide +kernel)) ggX3_value_X3_valueOf
theorem dX3_value_0 : decode cX3_value 0 = .ok (.aload_n 0, 1) := by decide +kernel
theorem dX3_value_1 : decode cX3_value 1 = .ok (.iload_n 1, 1) := by decide +kernel
theorem dX3_value_2 : decode cX3_value 2 = .ok (.iconst 1, 1) := by decide +kernel
theorem dX3_value_3 : decode cX3_value 3 = .ok (.sipush 10000, 3) := by decide +kernel
theorem dX3_value_6 : decode cX3_value 6 = .ok (.invokestatic 57, 3) := by decide +kernel
theorem dX3_value_9 : decode cX3_value 9 = .ok (.iconst 1, 1) := by decide +kernel
theorem dX3_value_10 : decode cX3_value 10 = .ok (.iconst 1, 1) := by decide +kernel
theorem dX3_value_11 : decode cX3_value 11 = .ok (.invokevirtual 61, 3) := by decide +kernel
theorem dX3_value_14 : decode cX3_value 14 = .ok (.ifCond .eq 11, 3) := by decide +kernel
theorem dX3_value_17 : decode cX3_value 17 = .ok (.aload_n 0, 1) := by decide +kernel
theorem dX3_value_18 : decode cX3_value 18 = .ok (.iload_n 1, 1) := by decide +kernel
theorem dX3_value_19 : decode cX3_value 19 = .ok (.invokevirtual 65, 3) := by decide +kernel
theorem dX3_value_22 : decode cX3_value 22 = .ok (.goto 4, 3) := by decide +kernel
theorem dX3_value_25 : decode cX3_value 25 = .ok (.iconst 0, 1) := by decide +kernel
theorem dX3_value_26 : decode cX3_value 26 = .ok (.ireturn, 1) := by decide +kernel
set_option maxRecDepth 20000 in
theorem ggX3_worth_X3_isWithin : GoodIn wsX3_worth wsX3_isWithin := goodIn_r _ [4] (by decide +kernel) (by decide +kernel)
set_option maxRecDepth 20000 in
theorem gX3_worth_X3_isWithin : GoodIn wsX3_worth (va_wsS RX3 57 yX3_isWithin wsX3_isWithin) := goodIn_app (goodIn_of _ (by decide +kernel)) ggX3_worth_X3_isWithin
set_option maxRecDepth 20000 in
theorem ggX3_worth_X3_goes : GoodIn wsX3_worth wsX3_goes := goodIn_r _ [8, 9, 21, 22, 23, 24, 25, 26, 27, 28, 29, 30, 31, 32, 33, 34, 35, 36, 37] (by decide +kernel) (by decide +kernel)
set_option maxRecDepth 20000 in
theorem gX3_worth_X3_goes : GoodIn wsX3_worth (wsV RX3 61 RX3 yX3_goes wsX3_goes) := goodIn_app (goodIn_of _ (by decide +kernel)) ggX3_worth_X3_goes
set_option maxRecDepth 20000 in
theorem ggX3_worth_X3_worthOf : GoodIn wsX3_worth wsX3_worthOf := goodIn_r _ [13, 14, 15, 16, 17, 3, 18, 19, 20, 21, 22, 23, 24, 25, 26, 27, 28, 29, 30, 31, 32, 33, 34, 35, 36, 37] (by decide +kernel) (by decide +kernel)
set_option maxRecDepth 20000 in
theorem gX3_worth_X3_worthOf : GoodIn wsX3_worth (wsV RX3 69 RX3 yX3_worthOf wsX3_worthOf) := goodIn_app (goodIn_of _ (by decide +kernel)) ggX3_worth_X3_worthOf
theorem dX3_worth_0 : decode cX3_worth 0 = .ok (.aload_n 0, 1) := by decide +kernel
theorem dX3_worth_1 : decode cX3_worth 1 = .ok (.iload_n 1, 1) := by decide +kernel
theorem dX3_worth_2 : decode cX3_worth 2 = .ok (.iconst 0, 1) := by decide +kernel
theorem dX3_worth_3 : decode cX3_worth 3 = .ok (.sipush 10000, 3) := by decide +kernel
theorem dX3_worth_6 : decode cX3_worth 6 = .ok (.invokestatic 57, 3) := by decide +kernel
theorem dX3_worth_9 : decode cX3_worth 9 = .ok (.iconst 1, 1) := by decide +kernel
theorem dX3_worth_10 : decode cX3_worth 10 = .ok (.iconst 1, 1) := by decide +kernel
theorem dX3_worth_11 : decode cX3_worth 11 = .ok (.invokevirtual 61, 3) := by decide +kernel
theorem dX3_worth_14 : decode cX3_worth 14 = .ok (.ifCond .eq 11, 3) := by decide +kernel
theorem dX3_worth_17 : decode cX3_worth 17 = .ok (.aload_n 0, 1) := by decide +kernel
theorem dX3_worth_18 : decode cX3_worth 18 = .ok (.iload_n 1, 1) := by decide +kernel
theorem dX3_worth_19 : decode cX3_worth 19 = .ok (.invokevirtual 69, 3) := by decide +kernel
theorem dX3_worth_22 : decode cX3_worth 22 = .ok (.goto 4, 3) := by decide +kernel
theorem dX3_worth_25 : decode cX3_worth 25 = .ok (.iconst 0, 1) := by decide +kernel
theorem dX3_worth_26 : decode cX3_worth 26 = .ok (.ireturn, 1) := by decide +kernel
set_option maxRecDepth 20000 in
theorem ggX3_offer_X3_isWithin : GoodIn wsX3_offer wsX3_isWithin := goodIn_r _ [9] (by decide +kernel) (by decide +kernel)
set_option maxRecDepth 20000 in
theorem gX3_offer_X3_isWithin : GoodIn wsX3_offer (va_wsS RX3 57 yX3_isWithin wsX3_isWithin) := goodIn_app (goodIn_of _ (by decide +kernel)) ggX3_offer_X3_isWithin
set_option maxRecDepth 20000 in
theorem ggX3_offer_X3_isParty : GoodIn wsX3_offer wsX3_isParty := goodIn_r _ [12] (by decide +kernel) (by decide +kernel)
set_option maxRecDepth 20000 in
theorem gX3_offer_X3_isParty : GoodIn wsX3_offer (va_wsS RX3 72 yX3_isParty wsX3_isParty) := goodIn_app (goodIn_of _ (by decide +kernel)) ggX3_offer_X3_isParty
set_option maxRecDepth 20000 in
theorem ggX3_offer_X3_goes : GoodIn wsX3_offer wsX3_goes := goodIn_r _ [16, 17, 18, 19, 20, 21, 22, 23, 24, 25, 26, 27, 28, 29, 30, 31, 32, 33, 34] (by decide +kernel) (by decide +kernel)
set_option maxRecDepth 20000 in
theorem gX3_offer_X3_goes : GoodIn wsX3_offer (wsV RX3 61 RX3 yX3_goes wsX3_goes) := goodIn_app (goodIn_of _ (by decide +kernel)) ggX3_offer_X3_goes
theorem dX3_offer_0 : decode cX3_offer 0 = .ok (.iload_n 2, 1) := by decide +kernel
theorem dX3_offer_1 : decode cX3_offer 1 = .ok (.iconst 1, 1) := by decide +kernel
theorem dX3_offer_2 : decode cX3_offer 2 = .ok (.sipush 300, 3) := by decide +kernel
theorem dX3_offer_5 : decode cX3_offer 5 = .ok (.invokestatic 57, 3) := by decide +kernel
theorem dX3_offer_8 : decode cX3_offer 8 = .ok (.ifCond .eq 39, 3) := by decide +kernel
theorem dX3_offer_11 : decode cX3_offer 11 = .ok (.iload_n 3, 1) := by decide +kernel
theorem dX3_offer_12 : decode cX3_offer 12 = .ok (.iconst 0, 1) := by decide +kernel
theorem dX3_offer_13 : decode cX3_offer 13 = .ok (.bipush 100, 2) := by decide +kernel
theorem dX3_offer_15 : decode cX3_offer 15 = .ok (.invokestatic 57, 3) := by decide +kernel
theorem dX3_offer_18 : decode cX3_offer 18 = .ok (.ifCond .eq 29, 3) := by decide +kernel
theorem dX3_offer_21 : decode cX3_offer 21 = .ok (.iload 4, 2) := by decide +kernel
theorem dX3_offer_23 : decode cX3_offer 23 = .ok (.iconst 0, 1) := by decide +kernel
theorem dX3_offer_24 : decode cX3_offer 24 = .ok (.sipush 1000, 3) := by decide +kernel
theorem dX3_offer_27 : decode cX3_offer 27 = .ok (.invokestatic 57, 3) := by decide +kernel
theorem dX3_offer_30 : decode cX3_offer 30 = .ok (.ifCond .eq 17, 3) := by decide +kernel
theorem dX3_offer_33 : decode cX3_offer 33 = .ok (.iload 5, 2) := by decide +kernel
theorem dX3_offer_35 : decode cX3_offer 35 = .ok (.iconst 1, 1) := by decide +kernel
theorem dX3_offer_36 : decode cX3_offer 36 = .ok (.iconst 4, 1) := by decide +kernel
theorem dX3_offer_37 : decode cX3_offer 37 = .ok (.invokestatic 57, 3) := by decide +kernel
theorem dX3_offer_40 : decode cX3_offer 40 = .ok (.ifCond .eq 7, 3) := by decide +kernel
theorem dX3_offer_43 : decode cX3_offer 43 = .ok (.iconst 1, 1) := by decide +kernel
theorem dX3_offer_44 : decode cX3_offer 44 = .ok (.goto 4, 3) := by decide +kernel
theorem dX3_offer_47 : decode cX3_offer 47 = .ok (.iconst 0, 1) := by decide +kernel
theorem dX3_offer_48 : decode cX3_offer 48 = .ok (.istore 6, 2) := by decide +kernel
theorem dX3_offer_50 : decode cX3_offer 50 = .ok (.aload_n 0, 1) := by decide +kernel
theorem dX3_offer_51 : decode cX3_offer 51 = .ok (.iload_n 1, 1) := by decide +kernel
theorem dX3_offer_52 : decode cX3_offer 52 = .ok (.invokestatic 72, 3) := by decide +kernel
theorem dX3_offer_55 : decode cX3_offer 55 = .ok (.iload 6, 2) := by decide +kernel
theorem dX3_offer_57 : decode cX3_offer 57 = .ok (.aload_n 0, 1) := by decide +kernel
theorem dX3_offer_58 : decode cX3_offer 58 = .ok (.getfield 76, 3) := by decide +kernel
theorem dX3_offer_61 : decode cX3_offer 61 = .ok (.bipush 12, 2) := by decide +kernel
theorem dX3_offer_63 : decode cX3_offer 63 = .ok (.if_icmp .ge 7, 3) := by decide +kernel
theorem dX3_offer_66 : decode cX3_offer 66 = .ok (.iconst 1, 1) := by decide +kernel
theorem dX3_offer_67 : decode cX3_offer 67 = .ok (.goto 4, 3) := by decide +kernel
theorem dX3_offer_70 : decode cX3_offer 70 = .ok (.iconst 0, 1) := by decide +kernel
theorem dX3_offer_71 : decode cX3_offer 71 = .ok (.invokevirtual 61, 3) := by decide +kernel
theorem dX3_offer_74 : decode cX3_offer 74 = .ok (.ifCond .ne 5, 3) := by decide +kernel
theorem dX3_offer_77 : decode cX3_offer 77 = .ok (.iconst 0, 1) := by decide +kernel
theorem dX3_offer_78 : decode cX3_offer 78 = .ok (.ireturn, 1) := by decide +kernel
theorem dX3_offer_79 : decode cX3_offer 79 = .ok (.aload_n 0, 1) := by decide +kernel
theorem dX3_offer_80 : decode cX3_offer 80 = .ok (.getfield 19, 3) := by decide +kernel
theorem dX3_offer_83 : decode cX3_offer 83 = .ok (.aload_n 0, 1) := by decide +kernel
theorem dX3_offer_84 : decode cX3_offer 84 = .ok (.getfield 76, 3) := by decide +kernel
theorem dX3_offer_87 : decode cX3_offer 87 = .ok (.iload_n 1, 1) := by decide +kernel
theorem dX3_offer_88 : decode cX3_offer 88 = .ok (.iastore, 1) := by decide +kernel
theorem dX3_offer_89 : decode cX3_offer 89 = .ok (.aload_n 0, 1) := by decide +kernel
theorem dX3_offer_90 : decode cX3_offer 90 = .ok (.getfield 23, 3) := by decide +kernel
theorem dX3_offer_93 : decode cX3_offer 93 = .ok (.aload_n 0, 1) := by decide +kernel
theorem dX3_offer_94 : decode cX3_offer 94 = .ok (.getfield 76, 3) := by decide +kernel
theorem dX3_offer_97 : decode cX3_offer 97 = .ok (.iload_n 2, 1) := by decide +kernel
theorem dX3_offer_98 : decode cX3_offer 98 = .ok (.iload_n 3, 1) := by decide +kernel
theorem dX3_offer_99 : decode cX3_offer 99 = .ok (.imul, 1) := by decide +kernel
theorem dX3_offer_100 : decode cX3_offer 100 = .ok (.bipush 100, 2) := by decide +kernel
theorem dX3_offer_102 : decode cX3_offer 102 = .ok (.idiv, 1) := by decide +kernel
theorem dX3_offer_103 : decode cX3_offer 103 = .ok (.iastore, 1) := by decide +kernel
theorem dX3_offer_104 : decode cX3_offer 104 = .ok (.aload_n 0, 1) := by decide +kernel
theorem dX3_offer_105 : decode cX3_offer 105 = .ok (.getfield 26, 3) := by decide +kernel
theorem dX3_offer_108 : decode cX3_offer 108 = .ok (.aload_n 0, 1) := by decide +kernel
theorem dX3_offer_109 : decode cX3_offer 109 = .ok (.getfield 76, 3) := by decide +kernel
theorem dX3_offer_112 : decode cX3_offer 112 = .ok (.iload 4, 2) := by decide +kernel
theorem dX3_offer_114 : decode cX3_offer 114 = .ok (.iastore, 1) := by decide +kernel
theorem dX3_offer_115 : decode cX3_offer 115 = .ok (.aload_n 0, 1) := by decide +kernel
theorem dX3_offer_116 : decode cX3_offer 116 = .ok (.getfield 29, 3) := by decide +kernel
theorem dX3_offer_119 : decode cX3_offer 119 = .ok (.aload_n 0, 1) := by decide +kernel
theorem dX3_offer_120 : decode cX3_offer 120 = .ok (.getfield 76, 3) := by decide +kernel
theorem dX3_offer_123 : decode cX3_offer 123 = .ok (.iload 5, 2) := by decide +kernel
theorem dX3_offer_125 : decode cX3_offer 125 = .ok (.iastore, 1) := by decide +kernel
theorem dX3_offer_126 : decode cX3_offer 126 = .ok (.aload_n 0, 1) := by decide +kernel
theorem dX3_offer_127 : decode cX3_offer 127 = .ok (.dup, 1) := by decide +kernel
theorem dX3_offer_128 : decode cX3_offer 128 = .ok (.getfield 76, 3) := by decide +kernel
theorem dX3_offer_131 : decode cX3_offer 131 = .ok (.iconst 1, 1) := by decide +kernel
theorem dX3_offer_132 : decode cX3_offer 132 = .ok (.iadd, 1) := by decide +kernel
theorem dX3_offer_133 : decode cX3_offer 133 = .ok (.putfield 76, 3) := by decide +kernel
theorem dX3_offer_136 : decode cX3_offer 136 = .ok (.aload_n 0, 1) := by decide +kernel
theorem dX3_offer_137 : decode cX3_offer 137 = .ok (.getfield 76, 3) := by decide +kernel
theorem dX3_offer_140 : decode cX3_offer 140 = .ok (.iconst 1, 1) := by decide +kernel
theorem dX3_offer_141 : decode cX3_offer 141 = .ok (.isub, 1) := by decide +kernel
theorem dX3_offer_142 : decode cX3_offer 142 = .ok (.ireturn, 1) := by decide +kernel
theorem dX3_offers_0 : decode cX3_offers 0 = .ok (.aload_n 0, 1) := by decide +kernel
theorem dX3_offers_1 : decode cX3_offers 1 = .ok (.iconst 0, 1) := by decide +kernel
theorem dX3_offers_2 : decode cX3_offers 2 = .ok (.putfield 54, 3) := by decide +kernel
theorem dX3_offers_5 : decode cX3_offers 5 = .ok (.aload_n 0, 1) := by decide +kernel
theorem dX3_offers_6 : decode cX3_offers 6 = .ok (.getfield 76, 3) := by decide +kernel
theorem dX3_offers_9 : decode cX3_offers 9 = .ok (.ireturn, 1) := by decide +kernel
set_option maxRecDepth 20000 in
theorem ggX3_supply_X3_isWithin : GoodIn wsX3_supply wsX3_isWithin := goodIn_r _ [7] (by decide +kernel) (by decide +kernel)
set_option maxRecDepth 20000 in
theorem gX3_supply_X3_isWithin : GoodIn wsX3_supply (va_wsS RX3 57 yX3_isWithin wsX3_isWithin) := goodIn_app (goodIn_of _ (by decide +kernel)) ggX3_supply_X3_isWithin
set_option maxRecDepth 20000 in
theorem ggX3_supply_X3_goes : GoodIn wsX3_supply wsX3_goes := goodIn_r _ [11, 12, 13, 14, 15, 16, 17, 18, 19, 20, 21, 22, 23, 24, 25, 26, 27, 28, 29] (by decide +kernel) (by decide +kernel)
set_option maxRecDepth 20000 in
theorem gX3_supply_X3_goes : GoodIn wsX3_supply (wsV RX3 61 RX3 yX3_goes wsX3_goes) := goodIn_app (goodIn_of _ (by decide +kernel)) ggX3_supply_X3_goes
theorem dX3_supply_0 : decode cX3_supply 0 = .ok (.aload_n 0, 1) := by decide +kernel
theorem dX3_supply_1 : decode cX3_supply 1 = .ok (.iload_n 1, 1) := by decide +kernel
theorem dX3_supply_2 : decode cX3_supply 2 = .ok (.iconst 0, 1) := by decide +kernel
theorem dX3_supply_3 : decode cX3_supply 3 = .ok (.sipush 1000, 3) := by decide +kernel
theorem dX3_supply_6 : decode cX3_supply 6 = .ok (.invokestatic 57, 3) := by decide +kernel
theorem dX3_supply_9 : decode cX3_supply 9 = .ok (.iconst 1, 1) := by decide +kernel
theorem dX3_supply_10 : decode cX3_supply 10 = .ok (.iconst 1, 1) := by decide +kernel
theorem dX3_supply_11 : decode cX3_supply 11 = .ok (.invokevirtual 61, 3) := by decide +kernel
theorem dX3_supply_14 : decode cX3_supply 14 = .ok (.ifCond .ne 5, 3) := by decide +kernel
theorem dX3_supply_17 : decode cX3_supply 17 = .ok (.iconst 0, 1) := by decide +kernel
theorem dX3_supply_18 : decode cX3_supply 18 = .ok (.ireturn, 1) := by decide +kernel
theorem dX3_supply_19 : decode cX3_supply 19 = .ok (.iconst 0, 1) := by decide +kernel
theorem dX3_supply_20 : decode cX3_supply 20 = .ok (.istore_n 2, 1) := by decide +kernel
theorem dX3_supply_21 : decode cX3_supply 21 = .ok (.iconst 0, 1) := by decide +kernel
theorem dX3_supply_22 : decode cX3_supply 22 = .ok (.istore_n 3, 1) := by decide +kernel
theorem dX3_supply_23 : decode cX3_supply 23 = .ok (.iload_n 3, 1) := by decide +kernel
theorem dX3_supply_24 : decode cX3_supply 24 = .ok (.aload_n 0, 1) := by decide +kernel
theorem dX3_supply_25 : decode cX3_supply 25 = .ok (.getfield 76, 3) := by decide +kernel
theorem dX3_supply_28 : decode cX3_supply 28 = .ok (.if_icmp .ge 32, 3) := by decide +kernel
theorem dX3_supply_31 : decode cX3_supply 31 = .ok (.iload_n 2, 1) := by decide +kernel
theorem dX3_supply_32 : decode cX3_supply 32 = .ok (.aload_n 0, 1) := by decide +kernel
theorem dX3_supply_33 : decode cX3_supply 33 = .ok (.getfield 26, 3) := by decide +kernel
theorem dX3_supply_36 : decode cX3_supply 36 = .ok (.iload_n 3, 1) := by decide +kernel
theorem dX3_supply_37 : decode cX3_supply 37 = .ok (.iaload, 1) := by decide +kernel
theorem dX3_supply_38 : decode cX3_supply 38 = .ok (.iload_n 1, 1) := by decide +kernel
theorem dX3_supply_39 : decode cX3_supply 39 = .ok (.if_icmp .gt 12, 3) := by decide +kernel
theorem dX3_supply_42 : decode cX3_supply 42 = .ok (.aload_n 0, 1) := by decide +kernel
theorem dX3_supply_43 : decode cX3_supply 43 = .ok (.getfield 23, 3) := by decide +kernel
theorem dX3_supply_46 : decode cX3_supply 46 = .ok (.iload_n 3, 1) := by decide +kernel
theorem dX3_supply_47 : decode cX3_supply 47 = .ok (.iaload, 1) := by decide +kernel
theorem dX3_supply_48 : decode cX3_supply 48 = .ok (.goto 4, 3) := by decide +kernel
theorem dX3_supply_51 : decode cX3_supply 51 = .ok (.iconst 0, 1) := by decide +kernel
theorem dX3_supply_52 : decode cX3_supply 52 = .ok (.iadd, 1) := by decide +kernel
theorem dX3_supply_53 : decode cX3_supply 53 = .ok (.istore_n 2, 1) := by decide +kernel
theorem dX3_supply_54 : decode cX3_supply 54 = .ok (.iinc 3 1, 3) := by decide +kernel
theorem dX3_supply_57 : decode cX3_supply 57 = .ok (.goto (-34), 3) := by decide +kernel
theorem dX3_supply_60 : decode cX3_supply 60 = .ok (.iload_n 2, 1) := by decide +kernel
theorem dX3_supply_61 : decode cX3_supply 61 = .ok (.ireturn, 1) := by decide +kernel
theorem dX3_rank_0 : decode cX3_rank 0 = .ok (.iconst 0, 1) := by decide +kernel
theorem dX3_rank_1 : decode cX3_rank 1 = .ok (.istore_n 2, 1) := by decide +kernel
theorem dX3_rank_2 : decode cX3_rank 2 = .ok (.iconst 0, 1) := by decide +kernel
theorem dX3_rank_3 : decode cX3_rank 3 = .ok (.istore_n 3, 1) := by decide +kernel
theorem dX3_rank_4 : decode cX3_rank 4 = .ok (.iload_n 3, 1) := by decide +kernel
theorem dX3_rank_5 : decode cX3_rank 5 = .ok (.aload_n 0, 1) := by decide +kernel
theorem dX3_rank_6 : decode cX3_rank 6 = .ok (.getfield 76, 3) := by decide +kernel
theorem dX3_rank_9 : decode cX3_rank 9 = .ok (.if_icmp .ge 52, 3) := by decide +kernel
theorem dX3_rank_12 : decode cX3_rank 12 = .ok (.iload_n 2, 1) := by decide +kernel
theorem dX3_rank_13 : decode cX3_rank 13 = .ok (.aload_n 0, 1) := by decide +kernel
theorem dX3_rank_14 : decode cX3_rank 14 = .ok (.getfield 26, 3) := by decide +kernel
theorem dX3_rank_17 : decode cX3_rank 17 = .ok (.iload_n 3, 1) := by decide +kernel
theorem dX3_rank_18 : decode cX3_rank 18 = .ok (.iaload, 1) := by decide +kernel
theorem dX3_rank_19 : decode cX3_rank 19 = .ok (.aload_n 0, 1) := by decide +kernel
theorem dX3_rank_20 : decode cX3_rank 20 = .ok (.getfield 26, 3) := by decide +kernel
theorem dX3_rank_23 : decode cX3_rank 23 = .ok (.iload_n 1, 1) := by decide +kernel
theorem dX3_rank_24 : decode cX3_rank 24 = .ok (.iaload, 1) := by decide +kernel
theorem dX3_rank_25 : decode cX3_rank 25 = .ok (.if_icmp .lt 23, 3) := by decide +kernel
theorem dX3_rank_28 : decode cX3_rank 28 = .ok (.aload_n 0, 1) := by decide +kernel
theorem dX3_rank_29 : decode cX3_rank 29 = .ok (.getfield 26, 3) := by decide +kernel
theorem dX3_rank_32 : decode cX3_rank 32 = .ok (.iload_n 3, 1) := by decide +kernel
theorem dX3_rank_33 : decode cX3_rank 33 = .ok (.iaload, 1) := by decide +kernel
theorem dX3_rank_34 : decode cX3_rank 34 = .ok (.aload_n 0, 1) := by decide +kernel
theorem dX3_rank_35 : decode cX3_rank 35 = .ok (.getfield 26, 3) := by decide +kernel
theorem dX3_rank_38 : decode cX3_rank 38 = .ok (.iload_n 1, 1) := by decide +kernel
theorem dX3_rank_39 : decode cX3_rank 39 = .ok (.iaload, 1) := by decide +kernel
theorem dX3_rank_40 : decode cX3_rank 40 = .ok (.if_icmp .ne 12, 3) := by decide +kernel
theorem dX3_rank_43 : decode cX3_rank 43 = .ok (.iload_n 3, 1) := by decide +kernel
theorem dX3_rank_44 : decode cX3_rank 44 = .ok (.iload_n 1, 1) := by decide +kernel
theorem dX3_rank_45 : decode cX3_rank 45 = .ok (.if_icmp .ge 7, 3) := by decide +kernel
theorem dX3_rank_48 : decode cX3_rank 48 = .ok (.iconst 1, 1) := by decide +kernel
theorem dX3_rank_49 : decode cX3_rank 49 = .ok (.goto 4, 3) := by decide +kernel
theorem dX3_rank_52 : decode cX3_rank 52 = .ok (.iconst 0, 1) := by decide +kernel
theorem dX3_rank_53 : decode cX3_rank 53 = .ok (.iadd, 1) := by decide +kernel
theorem dX3_rank_54 : decode cX3_rank 54 = .ok (.istore_n 2, 1) := by decide +kernel
theorem dX3_rank_55 : decode cX3_rank 55 = .ok (.iinc 3 1, 3) := by decide +kernel
theorem dX3_rank_58 : decode cX3_rank 58 = .ok (.goto (-54), 3) := by decide +kernel
theorem dX3_rank_61 : decode cX3_rank 61 = .ok (.iload_n 2, 1) := by decide +kernel
theorem dX3_rank_62 : decode cX3_rank 62 = .ok (.ireturn, 1) := by decide +kernel
set_option maxRecDepth 20000 in
theorem ggX3_taken_X3_worthOf : GoodIn wsX3_taken wsX3_worthOf := goodIn_r _ [9, 10, 11, 12, 13, 8, 14, 15, 16, 21, 22, 23, 24, 25, 26, 27, 28, 29, 30, 31, 32, 33, 34, 35, 36, 37] (by decide +kernel) (by decide +kernel)
set_option maxRecDepth 20000 in
theorem gX3_taken_X3_worthOf : GoodIn wsX3_taken (wsV RX3 69 RX3 yX3_worthOf wsX3_worthOf) := goodIn_app (goodIn_of _ (by decide +kernel)) ggX3_taken_X3_worthOf
set_option maxRecDepth 20000 in
theorem ggX3_taken_X3_rank : GoodIn wsX3_taken wsX3_rank := goodIn_r _ [20, 2, 4, 21, 22, 23, 24, 25, 26, 27, 28, 29, 30, 31, 32, 33, 34, 35, 36, 37] (by decide +kernel) (by decide +kernel)
set_option maxRecDepth 20000 in
theorem gX3_taken_X3_rank : GoodIn wsX3_taken (wsV RX3 79 RX3 yX3_rank wsX3_rank) := goodIn_app (goodIn_of _ (by decide +kernel)) ggX3_taken_X3_rank
theorem dX3_taken_0 : decode cX3_taken 0 = .ok (.iconst 0, 1) := by decide +kernel
theorem dX3_taken_1 : decode cX3_taken 1 = .ok (.istore_n 2, 1) := by decide +kernel
theorem dX3_taken_2 : decode cX3_taken 2 = .ok (.aload_n 0, 1) := by decide +kernel
theorem dX3_taken_3 : decode cX3_taken 3 = .ok (.aload_n 0, 1) := by decide +kernel
theorem dX3_taken_4 : decode cX3_taken 4 = .ok (.getfield 32, 3) := by decide +kernel
theorem dX3_taken_7 : decode cX3_taken 7 = .ok (.iload_n 1, 1) := by decide +kernel
theorem dX3_taken_8 : decode cX3_taken 8 = .ok (.iaload, 1) := by decide +kernel
theorem dX3_taken_9 : decode cX3_taken 9 = .ok (.invokevirtual 69, 3) := by decide +kernel
theorem dX3_taken_12 : decode cX3_taken 12 = .ok (.istore_n 3, 1) := by decide +kernel
theorem dX3_taken_13 : decode cX3_taken 13 = .ok (.iconst 1, 1) := by decide +kernel
theorem dX3_taken_14 : decode cX3_taken 14 = .ok (.istore 4, 2) := by decide +kernel
theorem dX3_taken_16 : decode cX3_taken 16 = .ok (.iload 4, 2) := by decide +kernel
theorem dX3_taken_18 : decode cX3_taken 18 = .ok (.aload_n 0, 1) := by decide +kernel
theorem dX3_taken_19 : decode cX3_taken 19 = .ok (.getfield 76, 3) := by decide +kernel
theorem dX3_taken_22 : decode cX3_taken 22 = .ok (.if_icmp .gt 143, 3) := by decide +kernel
theorem dX3_taken_25 : decode cX3_taken 25 = .ok (.aload_n 0, 1) := by decide +kernel
theorem dX3_taken_26 : decode cX3_taken 26 = .ok (.getfield 32, 3) := by decide +kernel
theorem dX3_taken_29 : decode cX3_taken 29 = .ok (.iload_n 1, 1) := by decide +kernel
theorem dX3_taken_30 : decode cX3_taken 30 = .ok (.iaload, 1) := by decide +kernel
theorem dX3_taken_31 : decode cX3_taken 31 = .ok (.istore 5, 2) := by decide +kernel
theorem dX3_taken_33 : decode cX3_taken 33 = .ok (.iconst 0, 1) := by decide +kernel
theorem dX3_taken_34 : decode cX3_taken 34 = .ok (.istore 6, 2) := by decide +kernel
theorem dX3_taken_36 : decode cX3_taken 36 = .ok (.iconst 0, 1) := by decide +kernel
theorem dX3_taken_37 : decode cX3_taken 37 = .ok (.istore 7, 2) := by decide +kernel
theorem dX3_taken_39 : decode cX3_taken 39 = .ok (.iload 7, 2) := by decide +kernel
theorem dX3_taken_41 : decode cX3_taken 41 = .ok (.aload_n 0, 1) := by decide +kernel
theorem dX3_taken_42 : decode cX3_taken 42 = .ok (.getfield 76, 3) := by decide +kernel
theorem dX3_taken_45 : decode cX3_taken 45 = .ok (.if_icmp .ge 77, 3) := by decide +kernel
theorem dX3_taken_48 : decode cX3_taken 48 = .ok (.aload_n 0, 1) := by decide +kernel
theorem dX3_taken_49 : decode cX3_taken 49 = .ok (.iload 7, 2) := by decide +kernel
theorem dX3_taken_51 : decode cX3_taken 51 = .ok (.invokevirtual 79, 3) := by decide +kernel
theorem dX3_taken_54 : decode cX3_taken 54 = .ok (.iload 4, 2) := by decide +kernel
theorem dX3_taken_56 : decode cX3_taken 56 = .ok (.if_icmp .ge 7, 3) := by decide +kernel
theorem dX3_taken_59 : decode cX3_taken 59 = .ok (.iconst 1, 1) := by decide +kernel
theorem dX3_taken_60 : decode cX3_taken 60 = .ok (.goto 4, 3) := by decide +kernel
theorem dX3_taken_63 : decode cX3_taken 63 = .ok (.iconst 0, 1) := by decide +kernel
theorem dX3_taken_64 : decode cX3_taken 64 = .ok (.istore 8, 2) := by decide +kernel
theorem dX3_taken_66 : decode cX3_taken 66 = .ok (.iload 5, 2) := by decide +kernel
theorem dX3_taken_68 : decode cX3_taken 68 = .ok (.iload 8, 2) := by decide +kernel
theorem dX3_taken_70 : decode cX3_taken 70 = .ok (.ifCond .eq 13, 3) := by decide +kernel
theorem dX3_taken_73 : decode cX3_taken 73 = .ok (.aload_n 0, 1) := by decide +kernel
theorem dX3_taken_74 : decode cX3_taken 74 = .ok (.getfield 23, 3) := by decide +kernel
theorem dX3_taken_77 : decode cX3_taken 77 = .ok (.iload 7, 2) := by decide +kernel
theorem dX3_taken_79 : decode cX3_taken 79 = .ok (.iaload, 1) := by decide +kernel
theorem dX3_taken_80 : decode cX3_taken 80 = .ok (.goto 4, 3) := by decide +kernel
theorem dX3_taken_83 : decode cX3_taken 83 = .ok (.iconst 0, 1) := by decide +kernel
theorem dX3_taken_84 : decode cX3_taken 84 = .ok (.iadd, 1) := by decide +kernel
theorem dX3_taken_85 : decode cX3_taken 85 = .ok (.istore 5, 2) := by decide +kernel
theorem dX3_taken_87 : decode cX3_taken 87 = .ok (.iload 6, 2) := by decide +kernel
theorem dX3_taken_89 : decode cX3_taken 89 = .ok (.iload 8, 2) := by decide +kernel
theorem dX3_taken_91 : decode cX3_taken 91 = .ok (.ifCond .eq 21, 3) := by decide +kernel
theorem dX3_taken_94 : decode cX3_taken 94 = .ok (.aload_n 0, 1) := by decide +kernel
theorem dX3_taken_95 : decode cX3_taken 95 = .ok (.getfield 23, 3) := by decide +kernel
theorem dX3_taken_98 : decode cX3_taken 98 = .ok (.iload 7, 2) := by decide +kernel
theorem dX3_taken_100 : decode cX3_taken 100 = .ok (.iaload, 1) := by decide +kernel
theorem dX3_taken_101 : decode cX3_taken 101 = .ok (.aload_n 0, 1) := by decide +kernel
theorem dX3_taken_102 : decode cX3_taken 102 = .ok (.getfield 26, 3) := by decide +kernel
theorem dX3_taken_105 : decode cX3_taken 105 = .ok (.iload 7, 2) := by decide +kernel
theorem dX3_taken_107 : decode cX3_taken 107 = .ok (.iaload, 1) := by decide +kernel
theorem dX3_taken_108 : decode cX3_taken 108 = .ok (.imul, 1) := by decide +kernel
theorem dX3_taken_109 : decode cX3_taken 109 = .ok (.goto 4, 3) := by decide +kernel
theorem dX3_taken_112 : decode cX3_taken 112 = .ok (.iconst 0, 1) := by decide +kernel
theorem dX3_taken_113 : decode cX3_taken 113 = .ok (.iadd, 1) := by decide +kernel
theorem dX3_taken_114 : decode cX3_taken 114 = .ok (.istore 6, 2) := by decide +kernel
theorem dX3_taken_116 : decode cX3_taken 116 = .ok (.iinc 7 1, 3) := by decide +kernel
theorem dX3_taken_119 : decode cX3_taken 119 = .ok (.goto (-80), 3) := by decide +kernel
theorem dX3_taken_122 : decode cX3_taken 122 = .ok (.aload_n 0, 1) := by decide +kernel
theorem dX3_taken_123 : decode cX3_taken 123 = .ok (.iload 5, 2) := by decide +kernel
theorem dX3_taken_125 : decode cX3_taken 125 = .ok (.invokevirtual 69, 3) := by decide +kernel
theorem dX3_taken_128 : decode cX3_taken 128 = .ok (.iload 6, 2) := by decide +kernel
theorem dX3_taken_130 : decode cX3_taken 130 = .ok (.isub, 1) := by decide +kernel
theorem dX3_taken_131 : decode cX3_taken 131 = .ok (.istore 7, 2) := by decide +kernel
theorem dX3_taken_133 : decode cX3_taken 133 = .ok (.iload 7, 2) := by decide +kernel
theorem dX3_taken_135 : decode cX3_taken 135 = .ok (.iload_n 3, 1) := by decide +kernel
theorem dX3_taken_136 : decode cX3_taken 136 = .ok (.if_icmp .le 8, 3) := by decide +kernel
theorem dX3_taken_139 : decode cX3_taken 139 = .ok (.iload 4, 2) := by decide +kernel
theorem dX3_taken_141 : decode cX3_taken 141 = .ok (.goto 4, 3) := by decide +kernel
theorem dX3_taken_144 : decode cX3_taken 144 = .ok (.iload_n 2, 1) := by decide +kernel
theorem dX3_taken_145 : decode cX3_taken 145 = .ok (.istore_n 2, 1) := by decide +kernel
theorem dX3_taken_146 : decode cX3_taken 146 = .ok (.iload 7, 2) := by decide +kernel
theorem dX3_taken_148 : decode cX3_taken 148 = .ok (.iload_n 3, 1) := by decide +kernel
theorem dX3_taken_149 : decode cX3_taken 149 = .ok (.if_icmp .le 8, 3) := by decide +kernel
theorem dX3_taken_152 : decode cX3_taken 152 = .ok (.iload 7, 2) := by decide +kernel
theorem dX3_taken_154 : decode cX3_taken 154 = .ok (.goto 4, 3) := by decide +kernel
theorem dX3_taken_157 : decode cX3_taken 157 = .ok (.iload_n 3, 1) := by decide +kernel
theorem dX3_taken_158 : decode cX3_taken 158 = .ok (.istore_n 3, 1) := by decide +kernel
theorem dX3_taken_159 : decode cX3_taken 159 = .ok (.iinc 4 1, 3) := by decide +kernel
theorem dX3_taken_162 : decode cX3_taken 162 = .ok (.goto (-146), 3) := by decide +kernel
theorem dX3_taken_165 : decode cX3_taken 165 = .ok (.iload_n 2, 1) := by decide +kernel
theorem dX3_taken_166 : decode cX3_taken 166 = .ok (.ireturn, 1) := by decide +kernel
