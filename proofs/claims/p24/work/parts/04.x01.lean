set_option maxRecDepth 20000 in
theorem ggX0_init_X0_change : GoodIn wsX0_init wsX0_change := goodIn_r _ [10, 11, 12, 13, 5, 14, 15, 16, 9, 17, 18, 19, 20, 21] (by decide +kernel) (by decide +kernel)
set_option maxRecDepth 20000 in
theorem gX0_init_X0_change : GoodIn wsX0_init (wsV RX0 13 RX0 yX0_change wsX0_change) := goodIn_app (goodIn_of _ (by decide +kernel)) ggX0_init_X0_change
theorem dX0_init_0 : decode cX0_init 0 = .ok (.aload_n 0, 1) := by decide +kernel
theorem dX0_init_1 : decode cX0_init 1 = .ok (.invokespecial 1, 3) := by decide +kernel
theorem dX0_init_4 : decode cX0_init 4 = .ok (.aload_n 0, 1) := by decide +kernel
theorem dX0_init_5 : decode cX0_init 5 = .ok (.sipush 1002, 3) := by decide +kernel
theorem dX0_init_8 : decode cX0_init 8 = .ok (.newarray .int, 2) := by decide +kernel
theorem dX0_init_10 : decode cX0_init 10 = .ok (.putfield 9, 3) := by decide +kernel
theorem dX0_init_13 : decode cX0_init 13 = .ok (.aload_n 0, 1) := by decide +kernel
theorem dX0_init_14 : decode cX0_init 14 = .ok (.bipush 100, 2) := by decide +kernel
theorem dX0_init_16 : decode cX0_init 16 = .ok (.sipush 200, 3) := by decide +kernel
theorem dX0_init_19 : decode cX0_init 19 = .ok (.bipush 50, 2) := by decide +kernel
theorem dX0_init_21 : decode cX0_init 21 = .ok (.invokevirtual 13, 3) := by decide +kernel
theorem dX0_init_24 : decode cX0_init 24 = .ok (.return_, 1) := by decide +kernel
set_option maxRecDepth 20000 in
theorem ggX0_change_X0_valueOf : GoodIn wsX0_change wsX0_valueOf := goodIn_r _ [9, 1, 3, 2, 10, 11, 12, 13] (by decide +kernel) (by decide +kernel)
set_option maxRecDepth 20000 in
theorem gX0_change_X0_valueOf : GoodIn wsX0_change (wsV RX0 27 RX0 yX0_valueOf wsX0_valueOf) := goodIn_app (goodIn_of _ (by decide +kernel)) ggX0_change_X0_valueOf
theorem dX0_change_0 : decode cX0_change 0 = .ok (.aload_n 0, 1) := by decide +kernel
theorem dX0_change_1 : decode cX0_change 1 = .ok (.iload_n 1, 1) := by decide +kernel
theorem dX0_change_2 : decode cX0_change 2 = .ok (.putfield 17, 3) := by decide +kernel
theorem dX0_change_5 : decode cX0_change 5 = .ok (.aload_n 0, 1) := by decide +kernel
theorem dX0_change_6 : decode cX0_change 6 = .ok (.iload_n 2, 1) := by decide +kernel
theorem dX0_change_7 : decode cX0_change 7 = .ok (.putfield 21, 3) := by decide +kernel
theorem dX0_change_10 : decode cX0_change 10 = .ok (.aload_n 0, 1) := by decide +kernel
theorem dX0_change_11 : decode cX0_change 11 = .ok (.iload_n 3, 1) := by decide +kernel
theorem dX0_change_12 : decode cX0_change 12 = .ok (.putfield 24, 3) := by decide +kernel
theorem dX0_change_15 : decode cX0_change 15 = .ok (.iconst 1, 1) := by decide +kernel
theorem dX0_change_16 : decode cX0_change 16 = .ok (.istore 4, 2) := by decide +kernel
theorem dX0_change_18 : decode cX0_change 18 = .ok (.iload 4, 2) := by decide +kernel
theorem dX0_change_20 : decode cX0_change 20 = .ok (.sipush 1001, 3) := by decide +kernel
theorem dX0_change_23 : decode cX0_change 23 = .ok (.if_icmp .gt 32, 3) := by decide +kernel
theorem dX0_change_26 : decode cX0_change 26 = .ok (.aload_n 0, 1) := by decide +kernel
theorem dX0_change_27 : decode cX0_change 27 = .ok (.getfield 9, 3) := by decide +kernel
theorem dX0_change_30 : decode cX0_change 30 = .ok (.iload 4, 2) := by decide +kernel
theorem dX0_change_32 : decode cX0_change 32 = .ok (.aload_n 0, 1) := by decide +kernel
theorem dX0_change_33 : decode cX0_change 33 = .ok (.getfield 9, 3) := by decide +kernel
theorem dX0_change_36 : decode cX0_change 36 = .ok (.iload 4, 2) := by decide +kernel
theorem dX0_change_38 : decode cX0_change 38 = .ok (.iconst 1, 1) := by decide +kernel
theorem dX0_change_39 : decode cX0_change 39 = .ok (.isub, 1) := by decide +kernel
theorem dX0_change_40 : decode cX0_change 40 = .ok (.iaload, 1) := by decide +kernel
theorem dX0_change_41 : decode cX0_change 41 = .ok (.aload_n 0, 1) := by decide +kernel
theorem dX0_change_42 : decode cX0_change 42 = .ok (.iload 4, 2) := by decide +kernel
theorem dX0_change_44 : decode cX0_change 44 = .ok (.invokevirtual 27, 3) := by decide +kernel
theorem dX0_change_47 : decode cX0_change 47 = .ok (.iadd, 1) := by decide +kernel
theorem dX0_change_48 : decode cX0_change 48 = .ok (.iastore, 1) := by decide +kernel
theorem dX0_change_49 : decode cX0_change 49 = .ok (.iinc 4 1, 3) := by decide +kernel
theorem dX0_change_52 : decode cX0_change 52 = .ok (.goto (-34), 3) := by decide +kernel
theorem dX0_change_55 : decode cX0_change 55 = .ok (.return_, 1) := by decide +kernel
theorem dX0_valueOf_0 : decode cX0_valueOf 0 = .ok (.iload_n 1, 1) := by decide +kernel
theorem dX0_valueOf_1 : decode cX0_valueOf 1 = .ok (.aload_n 0, 1) := by decide +kernel
theorem dX0_valueOf_2 : decode cX0_valueOf 2 = .ok (.getfield 17, 3) := by decide +kernel
theorem dX0_valueOf_5 : decode cX0_valueOf 5 = .ok (.if_icmp .gt 8, 3) := by decide +kernel
theorem dX0_valueOf_8 : decode cX0_valueOf 8 = .ok (.aload_n 0, 1) := by decide +kernel
theorem dX0_valueOf_9 : decode cX0_valueOf 9 = .ok (.getfield 24, 3) := by decide +kernel
theorem dX0_valueOf_12 : decode cX0_valueOf 12 = .ok (.ireturn, 1) := by decide +kernel
theorem dX0_valueOf_13 : decode cX0_valueOf 13 = .ok (.iload_n 1, 1) := by decide +kernel
theorem dX0_valueOf_14 : decode cX0_valueOf 14 = .ok (.aload_n 0, 1) := by decide +kernel
theorem dX0_valueOf_15 : decode cX0_valueOf 15 = .ok (.getfield 21, 3) := by decide +kernel
theorem dX0_valueOf_18 : decode cX0_valueOf 18 = .ok (.if_icmp .le 5, 3) := by decide +kernel
theorem dX0_valueOf_21 : decode cX0_valueOf 21 = .ok (.iconst 0, 1) := by decide +kernel
theorem dX0_valueOf_22 : decode cX0_valueOf 22 = .ok (.ireturn, 1) := by decide +kernel
theorem dX0_valueOf_23 : decode cX0_valueOf 23 = .ok (.aload_n 0, 1) := by decide +kernel
theorem dX0_valueOf_24 : decode cX0_valueOf 24 = .ok (.getfield 24, 3) := by decide +kernel
theorem dX0_valueOf_27 : decode cX0_valueOf 27 = .ok (.aload_n 0, 1) := by decide +kernel
theorem dX0_valueOf_28 : decode cX0_valueOf 28 = .ok (.getfield 21, 3) := by decide +kernel
theorem dX0_valueOf_31 : decode cX0_valueOf 31 = .ok (.iload_n 1, 1) := by decide +kernel
theorem dX0_valueOf_32 : decode cX0_valueOf 32 = .ok (.isub, 1) := by decide +kernel
theorem dX0_valueOf_33 : decode cX0_valueOf 33 = .ok (.imul, 1) := by decide +kernel
theorem dX0_valueOf_34 : decode cX0_valueOf 34 = .ok (.aload_n 0, 1) := by decide +kernel
theorem dX0_valueOf_35 : decode cX0_valueOf 35 = .ok (.getfield 21, 3) := by decide +kernel
theorem dX0_valueOf_38 : decode cX0_valueOf 38 = .ok (.aload_n 0, 1) := by decide +kernel
theorem dX0_valueOf_39 : decode cX0_valueOf 39 = .ok (.getfield 17, 3) := by decide +kernel
theorem dX0_valueOf_42 : decode cX0_valueOf 42 = .ok (.isub, 1) := by decide +kernel
theorem dX0_valueOf_43 : decode cX0_valueOf 43 = .ok (.idiv, 1) := by decide +kernel
theorem dX0_valueOf_44 : decode cX0_valueOf 44 = .ok (.ireturn, 1) := by decide +kernel
theorem dX0_worthOf_0 : decode cX0_worthOf 0 = .ok (.aload_n 0, 1) := by decide +kernel
theorem dX0_worthOf_1 : decode cX0_worthOf 1 = .ok (.getfield 9, 3) := by decide +kernel
theorem dX0_worthOf_4 : decode cX0_worthOf 4 = .ok (.iconst 0, 1) := by decide +kernel
theorem dX0_worthOf_5 : decode cX0_worthOf 5 = .ok (.iload_n 1, 1) := by decide +kernel
theorem dX0_worthOf_6 : decode cX0_worthOf 6 = .ok (.sipush 1001, 3) := by decide +kernel
theorem dX0_worthOf_9 : decode cX0_worthOf 9 = .ok (.invokestatic 31, 3) := by decide +kernel
theorem dX0_worthOf_12 : decode cX0_worthOf 12 = .ok (.invokestatic 37, 3) := by decide +kernel
theorem dX0_worthOf_15 : decode cX0_worthOf 15 = .ok (.iaload, 1) := by decide +kernel
theorem dX0_worthOf_16 : decode cX0_worthOf 16 = .ok (.ireturn, 1) := by decide +kernel
theorem dX1_init_0 : decode cX1_init 0 = .ok (.aload_n 0, 1) := by decide +kernel
theorem dX1_init_1 : decode cX1_init 1 = .ok (.invokespecial 3, 3) := by decide +kernel
theorem dX1_init_4 : decode cX1_init 4 = .ok (.aload_n 0, 1) := by decide +kernel
theorem dX1_init_5 : decode cX1_init 5 = .ok (.bipush 12, 2) := by decide +kernel
theorem dX1_init_7 : decode cX1_init 7 = .ok (.newarray .int, 2) := by decide +kernel
theorem dX1_init_9 : decode cX1_init 9 = .ok (.putfield 11, 3) := by decide +kernel
theorem dX1_init_12 : decode cX1_init 12 = .ok (.aload_n 0, 1) := by decide +kernel
theorem dX1_init_13 : decode cX1_init 13 = .ok (.bipush 12, 2) := by decide +kernel
theorem dX1_init_15 : decode cX1_init 15 = .ok (.newarray .int, 2) := by decide +kernel
theorem dX1_init_17 : decode cX1_init 17 = .ok (.putfield 15, 3) := by decide +kernel
theorem dX1_init_20 : decode cX1_init 20 = .ok (.aload_n 0, 1) := by decide +kernel
theorem dX1_init_21 : decode cX1_init 21 = .ok (.bipush 12, 2) := by decide +kernel
theorem dX1_init_23 : decode cX1_init 23 = .ok (.newarray .int, 2) := by decide +kernel
theorem dX1_init_25 : decode cX1_init 25 = .ok (.putfield 18, 3) := by decide +kernel
theorem dX1_init_28 : decode cX1_init 28 = .ok (.aload_n 0, 1) := by decide +kernel
theorem dX1_init_29 : decode cX1_init 29 = .ok (.bipush 12, 2) := by decide +kernel
theorem dX1_init_31 : decode cX1_init 31 = .ok (.newarray .int, 2) := by decide +kernel
theorem dX1_init_33 : decode cX1_init 33 = .ok (.putfield 21, 3) := by decide +kernel
theorem dX1_init_36 : decode cX1_init 36 = .ok (.aload_n 0, 1) := by decide +kernel
theorem dX1_init_37 : decode cX1_init 37 = .ok (.bipush 12, 2) := by decide +kernel
theorem dX1_init_39 : decode cX1_init 39 = .ok (.newarray .int, 2) := by decide +kernel
theorem dX1_init_41 : decode cX1_init 41 = .ok (.putfield 24, 3) := by decide +kernel
theorem dX1_init_44 : decode cX1_init 44 = .ok (.aload_n 0, 1) := by decide +kernel
theorem dX1_init_45 : decode cX1_init 45 = .ok (.bipush 12, 2) := by decide +kernel
theorem dX1_init_47 : decode cX1_init 47 = .ok (.newarray .boolean, 2) := by decide +kernel
theorem dX1_init_49 : decode cX1_init 49 = .ok (.putfield 27, 3) := by decide +kernel
theorem dX1_init_52 : decode cX1_init 52 = .ok (.aload_n 0, 1) := by decide +kernel
theorem dX1_init_53 : decode cX1_init 53 = .ok (.iconst 0, 1) := by decide +kernel
theorem dX1_init_54 : decode cX1_init 54 = .ok (.putfield 31, 3) := by decide +kernel
theorem dX1_init_57 : decode cX1_init 57 = .ok (.return_, 1) := by decide +kernel
theorem dX1_isFull_0 : decode cX1_isFull 0 = .ok (.aload_n 0, 1) := by decide +kernel
theorem dX1_isFull_1 : decode cX1_isFull 1 = .ok (.getfield 31, 3) := by decide +kernel
theorem dX1_isFull_4 : decode cX1_isFull 4 = .ok (.bipush 12, 2) := by decide +kernel
theorem dX1_isFull_6 : decode cX1_isFull 6 = .ok (.if_icmp .lt 7, 3) := by decide +kernel
theorem dX1_isFull_9 : decode cX1_isFull 9 = .ok (.iconst 1, 1) := by decide +kernel
theorem dX1_isFull_10 : decode cX1_isFull 10 = .ok (.goto 4, 3) := by decide +kernel
theorem dX1_isFull_13 : decode cX1_isFull 13 = .ok (.iconst 0, 1) := by decide +kernel
theorem dX1_isFull_14 : decode cX1_isFull 14 = .ok (.ireturn, 1) := by decide +kernel
theorem dX1_has_0 : decode cX1_has 0 = .ok (.iload_n 1, 1) := by decide +kernel
theorem dX1_has_1 : decode cX1_has 1 = .ok (.ifCond .lt 15, 3) := by decide +kernel
theorem dX1_has_4 : decode cX1_has 4 = .ok (.iload_n 1, 1) := by decide +kernel
theorem dX1_has_5 : decode cX1_has 5 = .ok (.aload_n 0, 1) := by decide +kernel
theorem dX1_has_6 : decode cX1_has 6 = .ok (.getfield 31, 3) := by decide +kernel
theorem dX1_has_9 : decode cX1_has 9 = .ok (.if_icmp .ge 7, 3) := by decide +kernel
theorem dX1_has_12 : decode cX1_has 12 = .ok (.iconst 1, 1) := by decide +kernel
theorem dX1_has_13 : decode cX1_has 13 = .ok (.goto 4, 3) := by decide +kernel
theorem dX1_has_16 : decode cX1_has 16 = .ok (.iconst 0, 1) := by decide +kernel
theorem dX1_has_17 : decode cX1_has 17 = .ok (.ireturn, 1) := by decide +kernel
theorem dX1_clear_0 : decode cX1_clear 0 = .ok (.aload_n 0, 1) := by decide +kernel
theorem dX1_clear_1 : decode cX1_clear 1 = .ok (.iconst 0, 1) := by decide +kernel
theorem dX1_clear_2 : decode cX1_clear 2 = .ok (.putfield 31, 3) := by decide +kernel
theorem dX1_clear_5 : decode cX1_clear 5 = .ok (.return_, 1) := by decide +kernel
theorem dX1_add_0 : decode cX1_add 0 = .ok (.aload_n 0, 1) := by decide +kernel
theorem dX1_add_1 : decode cX1_add 1 = .ok (.getfield 31, 3) := by decide +kernel
theorem dX1_add_4 : decode cX1_add 4 = .ok (.istore 5, 2) := by decide +kernel
theorem dX1_add_6 : decode cX1_add 6 = .ok (.iload 5, 2) := by decide +kernel
theorem dX1_add_8 : decode cX1_add 8 = .ok (.istore 6, 2) := by decide +kernel
theorem dX1_add_10 : decode cX1_add 10 = .ok (.iload 6, 2) := by decide +kernel
theorem dX1_add_12 : decode cX1_add 12 = .ok (.ifCond .le 43, 3) := by decide +kernel
theorem dX1_add_15 : decode cX1_add 15 = .ok (.aload_n 0, 1) := by decide +kernel
theorem dX1_add_16 : decode cX1_add 16 = .ok (.getfield 24, 3) := by decide +kernel
theorem dX1_add_19 : decode cX1_add 19 = .ok (.aload_n 0, 1) := by decide +kernel
theorem dX1_add_20 : decode cX1_add 20 = .ok (.getfield 21, 3) := by decide +kernel
theorem dX1_add_23 : decode cX1_add 23 = .ok (.iload 6, 2) := by decide +kernel
theorem dX1_add_25 : decode cX1_add 25 = .ok (.iconst 1, 1) := by decide +kernel
theorem dX1_add_26 : decode cX1_add 26 = .ok (.isub, 1) := by decide +kernel
theorem dX1_add_27 : decode cX1_add 27 = .ok (.iaload, 1) := by decide +kernel
theorem dX1_add_28 : decode cX1_add 28 = .ok (.iaload, 1) := by decide +kernel
theorem dX1_add_29 : decode cX1_add 29 = .ok (.iload_n 3, 1) := by decide +kernel
theorem dX1_add_30 : decode cX1_add 30 = .ok (.if_icmp .le 25, 3) := by decide +kernel
theorem dX1_add_33 : decode cX1_add 33 = .ok (.aload_n 0, 1) := by decide +kernel
theorem dX1_add_34 : decode cX1_add 34 = .ok (.getfield 21, 3) := by decide +kernel
theorem dX1_add_37 : decode cX1_add 37 = .ok (.iload 6, 2) := by decide +kernel
theorem dX1_add_39 : decode cX1_add 39 = .ok (.aload_n 0, 1) := by decide +kernel
theorem dX1_add_40 : decode cX1_add 40 = .ok (.getfield 21, 3) := by decide +kernel
theorem dX1_add_43 : decode cX1_add 43 = .ok (.iload 6, 2) := by decide +kernel
theorem dX1_add_45 : decode cX1_add 45 = .ok (.iconst 1, 1) := by decide +kernel
theorem dX1_add_46 : decode cX1_add 46 = .ok (.isub, 1) := by decide +kernel
theorem dX1_add_47 : decode cX1_add 47 = .ok (.iaload, 1) := by decide +kernel
theorem dX1_add_48 : decode cX1_add 48 = .ok (.iastore, 1) := by decide +kernel
theorem dX1_add_49 : decode cX1_add 49 = .ok (.iinc 6 (-1), 3) := by decide +kernel
theorem dX1_add_52 : decode cX1_add 52 = .ok (.goto (-42), 3) := by decide +kernel
theorem dX1_add_55 : decode cX1_add 55 = .ok (.aload_n 0, 1) := by decide +kernel
theorem dX1_add_56 : decode cX1_add 56 = .ok (.getfield 21, 3) := by decide +kernel
theorem dX1_add_59 : decode cX1_add 59 = .ok (.iload 6, 2) := by decide +kernel
theorem dX1_add_61 : decode cX1_add 61 = .ok (.iload 5, 2) := by decide +kernel
theorem dX1_add_63 : decode cX1_add 63 = .ok (.iastore, 1) := by decide +kernel
theorem dX1_add_64 : decode cX1_add 64 = .ok (.aload_n 0, 1) := by decide +kernel
theorem dX1_add_65 : decode cX1_add 65 = .ok (.getfield 11, 3) := by decide +kernel
theorem dX1_add_68 : decode cX1_add 68 = .ok (.iload 5, 2) := by decide +kernel
theorem dX1_add_70 : decode cX1_add 70 = .ok (.iload_n 1, 1) := by decide +kernel
theorem dX1_add_71 : decode cX1_add 71 = .ok (.iastore, 1) := by decide +kernel
theorem dX1_add_72 : decode cX1_add 72 = .ok (.aload_n 0, 1) := by decide +kernel
theorem dX1_add_73 : decode cX1_add 73 = .ok (.getfield 15, 3) := by decide +kernel
theorem dX1_add_76 : decode cX1_add 76 = .ok (.iload 5, 2) := by decide +kernel
theorem dX1_add_78 : decode cX1_add 78 = .ok (.iload_n 2, 1) := by decide +kernel
theorem dX1_add_79 : decode cX1_add 79 = .ok (.iastore, 1) := by decide +kernel
theorem dX1_add_80 : decode cX1_add 80 = .ok (.aload_n 0, 1) := by decide +kernel
theorem dX1_add_81 : decode cX1_add 81 = .ok (.getfield 24, 3) := by decide +kernel
theorem dX1_add_84 : decode cX1_add 84 = .ok (.iload 5, 2) := by decide +kernel
theorem dX1_add_86 : decode cX1_add 86 = .ok (.iload_n 3, 1) := by decide +kernel
theorem dX1_add_87 : decode cX1_add 87 = .ok (.iastore, 1) := by decide +kernel
theorem dX1_add_88 : decode cX1_add 88 = .ok (.aload_n 0, 1) := by decide +kernel
theorem dX1_add_89 : decode cX1_add 89 = .ok (.getfield 18, 3) := by decide +kernel
theorem dX1_add_92 : decode cX1_add 92 = .ok (.iload 5, 2) := by decide +kernel
theorem dX1_add_94 : decode cX1_add 94 = .ok (.iload 4, 2) := by decide +kernel
theorem dX1_add_96 : decode cX1_add 96 = .ok (.iastore, 1) := by decide +kernel
theorem dX1_add_97 : decode cX1_add 97 = .ok (.aload_n 0, 1) := by decide +kernel
theorem dX1_add_98 : decode cX1_add 98 = .ok (.dup, 1) := by decide +kernel
theorem dX1_add_99 : decode cX1_add 99 = .ok (.getfield 31, 3) := by decide +kernel
theorem dX1_add_102 : decode cX1_add 102 = .ok (.iconst 1, 1) := by decide +kernel
theorem dX1_add_103 : decode cX1_add 103 = .ok (.iadd, 1) := by decide +kernel
theorem dX1_add_104 : decode cX1_add 104 = .ok (.putfield 31, 3) := by decide +kernel
theorem dX1_add_107 : decode cX1_add 107 = .ok (.iload 5, 2) := by decide +kernel
theorem dX1_add_109 : decode cX1_add 109 = .ok (.ireturn, 1) := by decide +kernel
theorem dX1_amountUpTo_0 : decode cX1_amountUpTo 0 = .ok (.iconst 0, 1) := by decide +kernel
theorem dX1_amountUpTo_1 : decode cX1_amountUpTo 1 = .ok (.istore_n 2, 1) := by decide +kernel
theorem dX1_amountUpTo_2 : decode cX1_amountUpTo 2 = .ok (.iconst 0, 1) := by decide +kernel
theorem dX1_amountUpTo_3 : decode cX1_amountUpTo 3 = .ok (.istore_n 3, 1) := by decide +kernel
theorem dX1_amountUpTo_4 : decode cX1_amountUpTo 4 = .ok (.iload_n 3, 1) := by decide +kernel
theorem dX1_amountUpTo_5 : decode cX1_amountUpTo 5 = .ok (.aload_n 0, 1) := by decide +kernel
theorem dX1_amountUpTo_6 : decode cX1_amountUpTo 6 = .ok (.getfield 31, 3) := by decide +kernel
theorem dX1_amountUpTo_9 : decode cX1_amountUpTo 9 = .ok (.if_icmp .ge 28, 3) := by decide +kernel
theorem dX1_amountUpTo_12 : decode cX1_amountUpTo 12 = .ok (.aload_n 0, 1) := by decide +kernel
theorem dX1_amountUpTo_13 : decode cX1_amountUpTo 13 = .ok (.getfield 24, 3) := by decide +kernel
theorem dX1_amountUpTo_16 : decode cX1_amountUpTo 16 = .ok (.iload_n 3, 1) := by decide +kernel
theorem dX1_amountUpTo_17 : decode cX1_amountUpTo 17 = .ok (.iaload, 1) := by decide +kernel
theorem dX1_amountUpTo_18 : decode cX1_amountUpTo 18 = .ok (.iload_n 1, 1) := by decide +kernel
theorem dX1_amountUpTo_19 : decode cX1_amountUpTo 19 = .ok (.if_icmp .gt 12, 3) := by decide +kernel
theorem dX1_amountUpTo_22 : decode cX1_amountUpTo 22 = .ok (.iload_n 2, 1) := by decide +kernel
theorem dX1_amountUpTo_23 : decode cX1_amountUpTo 23 = .ok (.aload_n 0, 1) := by decide +kernel
theorem dX1_amountUpTo_24 : decode cX1_amountUpTo 24 = .ok (.getfield 15, 3) := by decide +kernel
theorem dX1_amountUpTo_27 : decode cX1_amountUpTo 27 = .ok (.iload_n 3, 1) := by decide +kernel
theorem dX1_amountUpTo_28 : decode cX1_amountUpTo 28 = .ok (.iaload, 1) := by decide +kernel
theorem dX1_amountUpTo_29 : decode cX1_amountUpTo 29 = .ok (.iadd, 1) := by decide +kernel
theorem dX1_amountUpTo_30 : decode cX1_amountUpTo 30 = .ok (.istore_n 2, 1) := by decide +kernel
theorem dX1_amountUpTo_31 : decode cX1_amountUpTo 31 = .ok (.iinc 3 1, 3) := by decide +kernel
theorem dX1_amountUpTo_34 : decode cX1_amountUpTo 34 = .ok (.goto (-30), 3) := by decide +kernel
theorem dX1_amountUpTo_37 : decode cX1_amountUpTo 37 = .ok (.iload_n 2, 1) := by decide +kernel
theorem dX1_amountUpTo_38 : decode cX1_amountUpTo 38 = .ok (.ireturn, 1) := by decide +kernel
set_option maxRecDepth 20000 in
theorem ggX1_bestFirst_X0_worthOf : GoodIn wsX1_bestFirst wsX0_worthOf := goodIn_r _ [9, 10, 11, 12, 13, 14, 15, 16, 17, 25, 26, 27, 28] (by decide +kernel) (by decide +kernel)
set_option maxRecDepth 20000 in
theorem gX1_bestFirst_X0_worthOf : GoodIn wsX1_bestFirst (wsV RX1 35 RX0 yX0_worthOf wsX0_worthOf) := goodIn_app (goodIn_of _ (by decide +kernel)) ggX1_bestFirst_X0_worthOf
theorem dX1_bestFirst_0 : decode cX1_bestFirst 0 = .ok (.iload_n 2, 1) := by decide +kernel
theorem dX1_bestFirst_1 : decode cX1_bestFirst 1 = .ok (.istore_n 3, 1) := by decide +kernel
theorem dX1_bestFirst_2 : decode cX1_bestFirst 2 = .ok (.iconst 0, 1) := by decide +kernel
theorem dX1_bestFirst_3 : decode cX1_bestFirst 3 = .ok (.istore 4, 2) := by decide +kernel
theorem dX1_bestFirst_5 : decode cX1_bestFirst 5 = .ok (.aload_n 1, 1) := by decide +kernel
theorem dX1_bestFirst_6 : decode cX1_bestFirst 6 = .ok (.iload_n 3, 1) := by decide +kernel
theorem dX1_bestFirst_7 : decode cX1_bestFirst 7 = .ok (.invokevirtual 35, 3) := by decide +kernel
theorem dX1_bestFirst_10 : decode cX1_bestFirst 10 = .ok (.istore 5, 2) := by decide +kernel
theorem dX1_bestFirst_12 : decode cX1_bestFirst 12 = .ok (.iconst 0, 1) := by decide +kernel
theorem dX1_bestFirst_13 : decode cX1_bestFirst 13 = .ok (.istore 6, 2) := by decide +kernel
theorem dX1_bestFirst_15 : decode cX1_bestFirst 15 = .ok (.iconst 0, 1) := by decide +kernel
theorem dX1_bestFirst_16 : decode cX1_bestFirst 16 = .ok (.istore 7, 2) := by decide +kernel
theorem dX1_bestFirst_18 : decode cX1_bestFirst 18 = .ok (.iload 7, 2) := by decide +kernel
theorem dX1_bestFirst_20 : decode cX1_bestFirst 20 = .ok (.aload_n 0, 1) := by decide +kernel
theorem dX1_bestFirst_21 : decode cX1_bestFirst 21 = .ok (.getfield 31, 3) := by decide +kernel
theorem dX1_bestFirst_24 : decode cX1_bestFirst 24 = .ok (.if_icmp .ge 75, 3) := by decide +kernel
theorem dX1_bestFirst_27 : decode cX1_bestFirst 27 = .ok (.aload_n 0, 1) := by decide +kernel
theorem dX1_bestFirst_28 : decode cX1_bestFirst 28 = .ok (.getfield 21, 3) := by decide +kernel
theorem dX1_bestFirst_31 : decode cX1_bestFirst 31 = .ok (.iload 7, 2) := by decide +kernel
theorem dX1_bestFirst_33 : decode cX1_bestFirst 33 = .ok (.iaload, 1) := by decide +kernel
theorem dX1_bestFirst_34 : decode cX1_bestFirst 34 = .ok (.istore 8, 2) := by decide +kernel
theorem dX1_bestFirst_36 : decode cX1_bestFirst 36 = .ok (.iload_n 3, 1) := by decide +kernel
theorem dX1_bestFirst_37 : decode cX1_bestFirst 37 = .ok (.aload_n 0, 1) := by decide +kernel
theorem dX1_bestFirst_38 : decode cX1_bestFirst 38 = .ok (.getfield 15, 3) := by decide +kernel
theorem dX1_bestFirst_41 : decode cX1_bestFirst 41 = .ok (.iload 8, 2) := by decide +kernel
theorem dX1_bestFirst_43 : decode cX1_bestFirst 43 = .ok (.iaload, 1) := by decide +kernel
theorem dX1_bestFirst_44 : decode cX1_bestFirst 44 = .ok (.iadd, 1) := by decide +kernel
theorem dX1_bestFirst_45 : decode cX1_bestFirst 45 = .ok (.istore_n 3, 1) := by decide +kernel
theorem dX1_bestFirst_46 : decode cX1_bestFirst 46 = .ok (.iload 4, 2) := by decide +kernel
theorem dX1_bestFirst_48 : decode cX1_bestFirst 48 = .ok (.aload_n 0, 1) := by decide +kernel
theorem dX1_bestFirst_49 : decode cX1_bestFirst 49 = .ok (.getfield 15, 3) := by decide +kernel
theorem dX1_bestFirst_52 : decode cX1_bestFirst 52 = .ok (.iload 8, 2) := by decide +kernel
theorem dX1_bestFirst_54 : decode cX1_bestFirst 54 = .ok (.iaload, 1) := by decide +kernel
theorem dX1_bestFirst_55 : decode cX1_bestFirst 55 = .ok (.aload_n 0, 1) := by decide +kernel
theorem dX1_bestFirst_56 : decode cX1_bestFirst 56 = .ok (.getfield 24, 3) := by decide +kernel
theorem dX1_bestFirst_59 : decode cX1_bestFirst 59 = .ok (.iload 8, 2) := by decide +kernel
theorem dX1_bestFirst_61 : decode cX1_bestFirst 61 = .ok (.iaload, 1) := by decide +kernel
theorem dX1_bestFirst_62 : decode cX1_bestFirst 62 = .ok (.imul, 1) := by decide +kernel
theorem dX1_bestFirst_63 : decode cX1_bestFirst 63 = .ok (.iadd, 1) := by decide +kernel
theorem dX1_bestFirst_64 : decode cX1_bestFirst 64 = .ok (.istore 4, 2) := by decide +kernel
theorem dX1_bestFirst_66 : decode cX1_bestFirst 66 = .ok (.aload_n 1, 1) := by decide +kernel
theorem dX1_bestFirst_67 : decode cX1_bestFirst 67 = .ok (.iload_n 3, 1) := by decide +kernel
theorem dX1_bestFirst_68 : decode cX1_bestFirst 68 = .ok (.invokevirtual 35, 3) := by decide +kernel
theorem dX1_bestFirst_71 : decode cX1_bestFirst 71 = .ok (.iload 4, 2) := by decide +kernel
theorem dX1_bestFirst_73 : decode cX1_bestFirst 73 = .ok (.isub, 1) := by decide +kernel
theorem dX1_bestFirst_74 : decode cX1_bestFirst 74 = .ok (.istore 9, 2) := by decide +kernel
theorem dX1_bestFirst_76 : decode cX1_bestFirst 76 = .ok (.iload 9, 2) := by decide +kernel
theorem dX1_bestFirst_78 : decode cX1_bestFirst 78 = .ok (.iload 5, 2) := by decide +kernel
theorem dX1_bestFirst_80 : decode cX1_bestFirst 80 = .ok (.if_icmp .le 13, 3) := by decide +kernel
theorem dX1_bestFirst_83 : decode cX1_bestFirst 83 = .ok (.iload 9, 2) := by decide +kernel
theorem dX1_bestFirst_85 : decode cX1_bestFirst 85 = .ok (.istore 5, 2) := by decide +kernel
theorem dX1_bestFirst_87 : decode cX1_bestFirst 87 = .ok (.iload 7, 2) := by decide +kernel
theorem dX1_bestFirst_89 : decode cX1_bestFirst 89 = .ok (.iconst 1, 1) := by decide +kernel
theorem dX1_bestFirst_90 : decode cX1_bestFirst 90 = .ok (.iadd, 1) := by decide +kernel
theorem dX1_bestFirst_91 : decode cX1_bestFirst 91 = .ok (.istore 6, 2) := by decide +kernel
theorem dX1_bestFirst_93 : decode cX1_bestFirst 93 = .ok (.iinc 7 1, 3) := by decide +kernel
theorem dX1_bestFirst_96 : decode cX1_bestFirst 96 = .ok (.goto (-78), 3) := by decide +kernel
theorem dX1_bestFirst_99 : decode cX1_bestFirst 99 = .ok (.iload 6, 2) := by decide +kernel
theorem dX1_bestFirst_101 : decode cX1_bestFirst 101 = .ok (.ireturn, 1) := by decide +kernel
theorem dX1_priceOfFirst_0 : decode cX1_priceOfFirst 0 = .ok (.iload_n 1, 1) := by decide +kernel
theorem dX1_priceOfFirst_1 : decode cX1_priceOfFirst 1 = .ok (.iconst 1, 1) := by decide +kernel
theorem dX1_priceOfFirst_2 : decode cX1_priceOfFirst 2 = .ok (.if_icmp .lt 11, 3) := by decide +kernel
theorem dX1_priceOfFirst_5 : decode cX1_priceOfFirst 5 = .ok (.iload_n 1, 1) := by decide +kernel
theorem dX1_priceOfFirst_6 : decode cX1_priceOfFirst 6 = .ok (.aload_n 0, 1) := by decide +kernel
theorem dX1_priceOfFirst_7 : decode cX1_priceOfFirst 7 = .ok (.getfield 31, 3) := by decide +kernel
theorem dX1_priceOfFirst_10 : decode cX1_priceOfFirst 10 = .ok (.if_icmp .le 7, 3) := by decide +kernel
theorem dX1_priceOfFirst_13 : decode cX1_priceOfFirst 13 = .ok (.iconst 0, 1) := by decide +kernel
theorem dX1_priceOfFirst_14 : decode cX1_priceOfFirst 14 = .ok (.goto 16, 3) := by decide +kernel
theorem dX1_priceOfFirst_17 : decode cX1_priceOfFirst 17 = .ok (.aload_n 0, 1) := by decide +kernel
theorem dX1_priceOfFirst_18 : decode cX1_priceOfFirst 18 = .ok (.getfield 24, 3) := by decide +kernel
theorem dX1_priceOfFirst_21 : decode cX1_priceOfFirst 21 = .ok (.aload_n 0, 1) := by decide +kernel
theorem dX1_priceOfFirst_22 : decode cX1_priceOfFirst 22 = .ok (.getfield 21, 3) := by decide +kernel
theorem dX1_priceOfFirst_25 : decode cX1_priceOfFirst 25 = .ok (.iload_n 1, 1) := by decide +kernel
theorem dX1_priceOfFirst_26 : decode cX1_priceOfFirst 26 = .ok (.iconst 1, 1) := by decide +kernel
theorem dX1_priceOfFirst_27 : decode cX1_priceOfFirst 27 = .ok (.isub, 1) := by decide +kernel
theorem dX1_priceOfFirst_28 : decode cX1_priceOfFirst 28 = .ok (.iaload, 1) := by decide +kernel
theorem dX1_priceOfFirst_29 : decode cX1_priceOfFirst 29 = .ok (.iaload, 1) := by decide +kernel
theorem dX1_priceOfFirst_30 : decode cX1_priceOfFirst 30 = .ok (.ireturn, 1) := by decide +kernel
theorem dX1_isAmongFirst_0 : decode cX1_isAmongFirst 0 = .ok (.iconst 0, 1) := by decide +kernel
theorem dX1_isAmongFirst_1 : decode cX1_isAmongFirst 1 = .ok (.istore_n 3, 1) := by decide +kernel
theorem dX1_isAmongFirst_2 : decode cX1_isAmongFirst 2 = .ok (.iload_n 3, 1) := by decide +kernel
theorem dX1_isAmongFirst_3 : decode cX1_isAmongFirst 3 = .ok (.iload_n 2, 1) := by decide +kernel
theorem dX1_isAmongFirst_4 : decode cX1_isAmongFirst 4 = .ok (.if_icmp .ge 29, 3) := by decide +kernel
theorem dX1_isAmongFirst_7 : decode cX1_isAmongFirst 7 = .ok (.iload_n 3, 1) := by decide +kernel
theorem dX1_isAmongFirst_8 : decode cX1_isAmongFirst 8 = .ok (.aload_n 0, 1) := by decide +kernel
theorem dX1_isAmongFirst_9 : decode cX1_isAmongFirst 9 = .ok (.getfield 31, 3) := by decide +kernel
theorem dX1_isAmongFirst_12 : decode cX1_isAmongFirst 12 = .ok (.if_icmp .ge 21, 3) := by decide +kernel
theorem dX1_isAmongFirst_15 : decode cX1_isAmongFirst 15 = .ok (.aload_n 0, 1) := by decide +kernel
theorem dX1_isAmongFirst_16 : decode cX1_isAmongFirst 16 = .ok (.getfield 21, 3) := by decide +kernel
theorem dX1_isAmongFirst_19 : decode cX1_isAmongFirst 19 = .ok (.iload_n 3, 1) := by decide +kernel
theorem dX1_isAmongFirst_20 : decode cX1_isAmongFirst 20 = .ok (.iaload, 1) := by decide +kernel
theorem dX1_isAmongFirst_21 : decode cX1_isAmongFirst 21 = .ok (.iload_n 1, 1) := by decide +kernel
theorem dX1_isAmongFirst_22 : decode cX1_isAmongFirst 22 = .ok (.if_icmp .ne 5, 3) := by decide +kernel
theorem dX1_isAmongFirst_25 : decode cX1_isAmongFirst 25 = .ok (.iconst 1, 1) := by decide +kernel
theorem dX1_isAmongFirst_26 : decode cX1_isAmongFirst 26 = .ok (.ireturn, 1) := by decide +kernel
theorem dX1_isAmongFirst_27 : decode cX1_isAmongFirst 27 = .ok (.iinc 3 1, 3) := by decide +kernel
theorem dX1_isAmongFirst_30 : decode cX1_isAmongFirst 30 = .ok (.goto (-28), 3) := by decide +kernel
theorem dX1_isAmongFirst_33 : decode cX1_isAmongFirst 33 = .ok (.iconst 0, 1) := by decide +kernel
theorem dX1_isAmongFirst_34 : decode cX1_isAmongFirst 34 = .ok (.ireturn, 1) := by decide +kernel
set_option maxRecDepth 20000 in
theorem ggX1_priceByClock_X0_worthOf : GoodIn wsX1_priceByClock wsX0_worthOf := goodIn_r _ [9, 10, 11, 12, 13, 14, 15, 16, 17, 34, 35, 36, 37] (by decide +kernel) (by decide +kernel)
set_option maxRecDepth 20000 in
theorem gX1_priceByClock_X0_worthOf : GoodIn wsX1_priceByClock (wsV RX1 35 RX0 yX0_worthOf wsX0_worthOf) := goodIn_app (goodIn_of _ (by decide +kernel)) ggX1_priceByClock_X0_worthOf
set_option maxRecDepth 20000 in
theorem ggX1_priceByClock_X1_dearestIn : GoodIn wsX1_priceByClock wsX1_dearestIn := goodIn_r _ [22, 1, 2, 4, 27, 28, 29, 30, 31, 32, 33] (by decide +kernel) (by decide +kernel)
set_option maxRecDepth 20000 in
theorem gX1_priceByClock_X1_dearestIn : GoodIn wsX1_priceByClock (wsV RX1 41 RX1 yX1_dearestIn wsX1_dearestIn) := goodIn_app (goodIn_of _ (by decide +kernel)) ggX1_priceByClock_X1_dearestIn
set_option maxRecDepth 20000 in
theorem ggX1_priceByClock_X1_exitOf : GoodIn wsX1_priceByClock wsX1_exitOf := goodIn_r _ [26, 4, 27, 28, 29, 30, 31, 32, 33] (by decide +kernel) (by decide +kernel)
set_option maxRecDepth 20000 in
theorem gX1_priceByClock_X1_exitOf : GoodIn wsX1_priceByClock (wsV RX1 45 RX1 yX1_exitOf wsX1_exitOf) := goodIn_app (goodIn_of _ (by decide +kernel)) ggX1_priceByClock_X1_exitOf
theorem dX1_priceByClock_0 : decode cX1_priceByClock 0 = .ok (.iload_n 2, 1) := by decide +kernel
theorem dX1_priceByClock_1 : decode cX1_priceByClock 1 = .ok (.istore_n 3, 1) := by decide +kernel
theorem dX1_priceByClock_2 : decode cX1_priceByClock 2 = .ok (.iconst 0, 1) := by decide +kernel
theorem dX1_priceByClock_3 : decode cX1_priceByClock 3 = .ok (.istore 4, 2) := by decide +kernel
theorem dX1_priceByClock_5 : decode cX1_priceByClock 5 = .ok (.iconst 0, 1) := by decide +kernel
theorem dX1_priceByClock_6 : decode cX1_priceByClock 6 = .ok (.istore 5, 2) := by decide +kernel
theorem dX1_priceByClock_8 : decode cX1_priceByClock 8 = .ok (.iload 5, 2) := by decide +kernel
theorem dX1_priceByClock_10 : decode cX1_priceByClock 10 = .ok (.aload_n 0, 1) := by decide +kernel
theorem dX1_priceByClock_11 : decode cX1_priceByClock 11 = .ok (.getfield 31, 3) := by decide +kernel
theorem dX1_priceByClock_14 : decode cX1_priceByClock 14 = .ok (.if_icmp .ge 47, 3) := by decide +kernel
theorem dX1_priceByClock_17 : decode cX1_priceByClock 17 = .ok (.aload_n 0, 1) := by decide +kernel
theorem dX1_priceByClock_18 : decode cX1_priceByClock 18 = .ok (.getfield 27, 3) := by decide +kernel
theorem dX1_priceByClock_21 : decode cX1_priceByClock 21 = .ok (.iload 5, 2) := by decide +kernel
theorem dX1_priceByClock_23 : decode cX1_priceByClock 23 = .ok (.iconst 1, 1) := by decide +kernel
theorem dX1_priceByClock_24 : decode cX1_priceByClock 24 = .ok (.bastore, 1) := by decide +kernel
theorem dX1_priceByClock_25 : decode cX1_priceByClock 25 = .ok (.iload_n 3, 1) := by decide +kernel
theorem dX1_priceByClock_26 : decode cX1_priceByClock 26 = .ok (.aload_n 0, 1) := by decide +kernel
theorem dX1_priceByClock_27 : decode cX1_priceByClock 27 = .ok (.getfield 15, 3) := by decide +kernel
theorem dX1_priceByClock_30 : decode cX1_priceByClock 30 = .ok (.iload 5, 2) := by decide +kernel
theorem dX1_priceByClock_32 : decode cX1_priceByClock 32 = .ok (.iaload, 1) := by decide +kernel
theorem dX1_priceByClock_33 : decode cX1_priceByClock 33 = .ok (.iadd, 1) := by decide +kernel
theorem dX1_priceByClock_34 : decode cX1_priceByClock 34 = .ok (.istore_n 3, 1) := by decide +kernel
theorem dX1_priceByClock_35 : decode cX1_priceByClock 35 = .ok (.iload 4, 2) := by decide +kernel
theorem dX1_priceByClock_37 : decode cX1_priceByClock 37 = .ok (.aload_n 0, 1) := by decide +kernel
theorem dX1_priceByClock_38 : decode cX1_priceByClock 38 = .ok (.getfield 15, 3) := by decide +kernel
theorem dX1_priceByClock_41 : decode cX1_priceByClock 41 = .ok (.iload 5, 2) := by decide +kernel
theorem dX1_priceByClock_43 : decode cX1_priceByClock 43 = .ok (.iaload, 1) := by decide +kernel
theorem dX1_priceByClock_44 : decode cX1_priceByClock 44 = .ok (.aload_n 0, 1) := by decide +kernel
theorem dX1_priceByClock_45 : decode cX1_priceByClock 45 = .ok (.getfield 24, 3) := by decide +kernel
theorem dX1_priceByClock_48 : decode cX1_priceByClock 48 = .ok (.iload 5, 2) := by decide +kernel
theorem dX1_priceByClock_50 : decode cX1_priceByClock 50 = .ok (.iaload, 1) := by decide +kernel
theorem dX1_priceByClock_51 : decode cX1_priceByClock 51 = .ok (.imul, 1) := by decide +kernel
theorem dX1_priceByClock_52 : decode cX1_priceByClock 52 = .ok (.iadd, 1) := by decide +kernel
theorem dX1_priceByClock_53 : decode cX1_priceByClock 53 = .ok (.istore 4, 2) := by decide +kernel
theorem dX1_priceByClock_55 : decode cX1_priceByClock 55 = .ok (.iinc 5 1, 3) := by decide +kernel
theorem dX1_priceByClock_58 : decode cX1_priceByClock 58 = .ok (.goto (-50), 3) := by decide +kernel
theorem dX1_priceByClock_61 : decode cX1_priceByClock 61 = .ok (.aload_n 1, 1) := by decide +kernel
theorem dX1_priceByClock_62 : decode cX1_priceByClock 62 = .ok (.iload_n 3, 1) := by decide +kernel
theorem dX1_priceByClock_63 : decode cX1_priceByClock 63 = .ok (.invokevirtual 35, 3) := by decide +kernel
theorem dX1_priceByClock_66 : decode cX1_priceByClock 66 = .ok (.iload 4, 2) := by decide +kernel
theorem dX1_priceByClock_68 : decode cX1_priceByClock 68 = .ok (.isub, 1) := by decide +kernel
theorem dX1_priceByClock_69 : decode cX1_priceByClock 69 = .ok (.istore 5, 2) := by decide +kernel
theorem dX1_priceByClock_71 : decode cX1_priceByClock 71 = .ok (.aload_n 0, 1) := by decide +kernel
theorem dX1_priceByClock_72 : decode cX1_priceByClock 72 = .ok (.invokevirtual 41, 3) := by decide +kernel
theorem dX1_priceByClock_75 : decode cX1_priceByClock 75 = .ok (.istore 6, 2) := by decide +kernel
theorem dX1_priceByClock_77 : decode cX1_priceByClock 77 = .ok (.aload_n 0, 1) := by decide +kernel
theorem dX1_priceByClock_78 : decode cX1_priceByClock 78 = .ok (.iload 6, 2) := by decide +kernel
theorem dX1_priceByClock_80 : decode cX1_priceByClock 80 = .ok (.invokevirtual 45, 3) := by decide +kernel
theorem dX1_priceByClock_83 : decode cX1_priceByClock 83 = .ok (.istore 7, 2) := by decide +kernel
theorem dX1_priceByClock_85 : decode cX1_priceByClock 85 = .ok (.aload_n 0, 1) := by decide +kernel
theorem dX1_priceByClock_86 : decode cX1_priceByClock 86 = .ok (.getfield 31, 3) := by decide +kernel
theorem dX1_priceByClock_89 : decode cX1_priceByClock 89 = .ok (.istore 8, 2) := by decide +kernel
theorem dX1_priceByClock_91 : decode cX1_priceByClock 91 = .ok (.iload 8, 2) := by decide +kernel
theorem dX1_priceByClock_93 : decode cX1_priceByClock 93 = .ok (.ifCond .le 88, 3) := by decide +kernel
theorem dX1_priceByClock_96 : decode cX1_priceByClock 96 = .ok (.iload 6, 2) := by decide +kernel
theorem dX1_priceByClock_98 : decode cX1_priceByClock 98 = .ok (.iconst (-1), 1) := by decide +kernel
theorem dX1_priceByClock_99 : decode cX1_priceByClock 99 = .ok (.if_icmp .eq 82, 3) := by decide +kernel
theorem dX1_priceByClock_102 : decode cX1_priceByClock 102 = .ok (.aload_n 0, 1) := by decide +kernel
theorem dX1_priceByClock_103 : decode cX1_priceByClock 103 = .ok (.getfield 27, 3) := by decide +kernel
theorem dX1_priceByClock_106 : decode cX1_priceByClock 106 = .ok (.iload 6, 2) := by decide +kernel
theorem dX1_priceByClock_108 : decode cX1_priceByClock 108 = .ok (.iconst 0, 1) := by decide +kernel
theorem dX1_priceByClock_109 : decode cX1_priceByClock 109 = .ok (.bastore, 1) := by decide +kernel
theorem dX1_priceByClock_110 : decode cX1_priceByClock 110 = .ok (.iload_n 3, 1) := by decide +kernel
theorem dX1_priceByClock_111 : decode cX1_priceByClock 111 = .ok (.aload_n 0, 1) := by decide +kernel
theorem dX1_priceByClock_112 : decode cX1_priceByClock 112 = .ok (.getfield 15, 3) := by decide +kernel
theorem dX1_priceByClock_115 : decode cX1_priceByClock 115 = .ok (.iload 6, 2) := by decide +kernel
theorem dX1_priceByClock_117 : decode cX1_priceByClock 117 = .ok (.iaload, 1) := by decide +kernel
theorem dX1_priceByClock_118 : decode cX1_priceByClock 118 = .ok (.isub, 1) := by decide +kernel
theorem dX1_priceByClock_119 : decode cX1_priceByClock 119 = .ok (.istore_n 3, 1) := by decide +kernel
theorem dX1_priceByClock_120 : decode cX1_priceByClock 120 = .ok (.iload 4, 2) := by decide +kernel
theorem dX1_priceByClock_122 : decode cX1_priceByClock 122 = .ok (.aload_n 0, 1) := by decide +kernel
theorem dX1_priceByClock_123 : decode cX1_priceByClock 123 = .ok (.getfield 15, 3) := by decide +kernel
theorem dX1_priceByClock_126 : decode cX1_priceByClock 126 = .ok (.iload 6, 2) := by decide +kernel
theorem dX1_priceByClock_128 : decode cX1_priceByClock 128 = .ok (.iaload, 1) := by decide +kernel
theorem dX1_priceByClock_129 : decode cX1_priceByClock 129 = .ok (.aload_n 0, 1) := by decide +kernel
theorem dX1_priceByClock_130 : decode cX1_priceByClock 130 = .ok (.getfield 24, 3) := by decide +kernel
theorem dX1_priceByClock_133 : decode cX1_priceByClock 133 = .ok (.iload 6, 2) := by decide +kernel
theorem dX1_priceByClock_135 : decode cX1_priceByClock 135 = .ok (.iaload, 1) := by decide +kernel
theorem dX1_priceByClock_136 : decode cX1_priceByClock 136 = .ok (.imul, 1) := by decide +kernel
theorem dX1_priceByClock_137 : decode cX1_priceByClock 137 = .ok (.isub, 1) := by decide +kernel
theorem dX1_priceByClock_138 : decode cX1_priceByClock 138 = .ok (.istore 4, 2) := by decide +kernel
theorem dX1_priceByClock_140 : decode cX1_priceByClock 140 = .ok (.aload_n 0, 1) := by decide +kernel
theorem dX1_priceByClock_141 : decode cX1_priceByClock 141 = .ok (.invokevirtual 41, 3) := by decide +kernel
theorem dX1_priceByClock_144 : decode cX1_priceByClock 144 = .ok (.istore 6, 2) := by decide +kernel
theorem dX1_priceByClock_146 : decode cX1_priceByClock 146 = .ok (.aload_n 1, 1) := by decide +kernel
theorem dX1_priceByClock_147 : decode cX1_priceByClock 147 = .ok (.iload_n 3, 1) := by decide +kernel
theorem dX1_priceByClock_148 : decode cX1_priceByClock 148 = .ok (.invokevirtual 35, 3) := by decide +kernel
theorem dX1_priceByClock_151 : decode cX1_priceByClock 151 = .ok (.iload 4, 2) := by decide +kernel
theorem dX1_priceByClock_153 : decode cX1_priceByClock 153 = .ok (.isub, 1) := by decide +kernel
theorem dX1_priceByClock_154 : decode cX1_priceByClock 154 = .ok (.istore 9, 2) := by decide +kernel
theorem dX1_priceByClock_156 : decode cX1_priceByClock 156 = .ok (.iload 9, 2) := by decide +kernel
theorem dX1_priceByClock_158 : decode cX1_priceByClock 158 = .ok (.iload 5, 2) := by decide +kernel
theorem dX1_priceByClock_160 : decode cX1_priceByClock 160 = .ok (.if_icmp .lt 15, 3) := by decide +kernel
theorem dX1_priceByClock_163 : decode cX1_priceByClock 163 = .ok (.iload 9, 2) := by decide +kernel
theorem dX1_priceByClock_165 : decode cX1_priceByClock 165 = .ok (.istore 5, 2) := by decide +kernel
theorem dX1_priceByClock_167 : decode cX1_priceByClock 167 = .ok (.aload_n 0, 1) := by decide +kernel
theorem dX1_priceByClock_168 : decode cX1_priceByClock 168 = .ok (.iload 6, 2) := by decide +kernel
theorem dX1_priceByClock_170 : decode cX1_priceByClock 170 = .ok (.invokevirtual 45, 3) := by decide +kernel
theorem dX1_priceByClock_173 : decode cX1_priceByClock 173 = .ok (.istore 7, 2) := by decide +kernel
theorem dX1_priceByClock_175 : decode cX1_priceByClock 175 = .ok (.iinc 8 (-1), 3) := by decide +kernel
theorem dX1_priceByClock_178 : decode cX1_priceByClock 178 = .ok (.goto (-87), 3) := by decide +kernel
theorem dX1_priceByClock_181 : decode cX1_priceByClock 181 = .ok (.iload 7, 2) := by decide +kernel
theorem dX1_priceByClock_183 : decode cX1_priceByClock 183 = .ok (.ireturn, 1) := by decide +kernel
theorem dX1_dearestIn_0 : decode cX1_dearestIn 0 = .ok (.iconst (-1), 1) := by decide +kernel
theorem dX1_dearestIn_1 : decode cX1_dearestIn 1 = .ok (.istore_n 1, 1) := by decide +kernel
theorem dX1_dearestIn_2 : decode cX1_dearestIn 2 = .ok (.iconst 0, 1) := by decide +kernel
theorem dX1_dearestIn_3 : decode cX1_dearestIn 3 = .ok (.istore_n 2, 1) := by decide +kernel
theorem dX1_dearestIn_4 : decode cX1_dearestIn 4 = .ok (.iload_n 2, 1) := by decide +kernel
theorem dX1_dearestIn_5 : decode cX1_dearestIn 5 = .ok (.aload_n 0, 1) := by decide +kernel
theorem dX1_dearestIn_6 : decode cX1_dearestIn 6 = .ok (.getfield 31, 3) := by decide +kernel
theorem dX1_dearestIn_9 : decode cX1_dearestIn 9 = .ok (.if_icmp .ge 40, 3) := by decide +kernel
theorem dX1_dearestIn_12 : decode cX1_dearestIn 12 = .ok (.aload_n 0, 1) := by decide +kernel
theorem dX1_dearestIn_13 : decode cX1_dearestIn 13 = .ok (.getfield 27, 3) := by decide +kernel
theorem dX1_dearestIn_16 : decode cX1_dearestIn 16 = .ok (.iload_n 2, 1) := by decide +kernel
theorem dX1_dearestIn_17 : decode cX1_dearestIn 17 = .ok (.baload, 1) := by decide +kernel
theorem dX1_dearestIn_18 : decode cX1_dearestIn 18 = .ok (.ifCond .eq 25, 3) := by decide +kernel
theorem dX1_dearestIn_21 : decode cX1_dearestIn 21 = .ok (.iload_n 1, 1) := by decide +kernel
theorem dX1_dearestIn_22 : decode cX1_dearestIn 22 = .ok (.iconst (-1), 1) := by decide +kernel
theorem dX1_dearestIn_23 : decode cX1_dearestIn 23 = .ok (.if_icmp .eq 18, 3) := by decide +kernel
theorem dX1_dearestIn_26 : decode cX1_dearestIn 26 = .ok (.aload_n 0, 1) := by decide +kernel
theorem dX1_dearestIn_27 : decode cX1_dearestIn 27 = .ok (.getfield 24, 3) := by decide +kernel
theorem dX1_dearestIn_30 : decode cX1_dearestIn 30 = .ok (.iload_n 2, 1) := by decide +kernel
theorem dX1_dearestIn_31 : decode cX1_dearestIn 31 = .ok (.iaload, 1) := by decide +kernel
theorem dX1_dearestIn_32 : decode cX1_dearestIn 32 = .ok (.aload_n 0, 1) := by decide +kernel
theorem dX1_dearestIn_33 : decode cX1_dearestIn 33 = .ok (.getfield 24, 3) := by decide +kernel
theorem dX1_dearestIn_36 : decode cX1_dearestIn 36 = .ok (.iload_n 1, 1) := by decide +kernel
theorem dX1_dearestIn_37 : decode cX1_dearestIn 37 = .ok (.iaload, 1) := by decide +kernel
theorem dX1_dearestIn_38 : decode cX1_dearestIn 38 = .ok (.if_icmp .lt 5, 3) := by decide +kernel
theorem dX1_dearestIn_41 : decode cX1_dearestIn 41 = .ok (.iload_n 2, 1) := by decide +kernel
theorem dX1_dearestIn_42 : decode cX1_dearestIn 42 = .ok (.istore_n 1, 1) := by decide +kernel
theorem dX1_dearestIn_43 : decode cX1_dearestIn 43 = .ok (.iinc 2 1, 3) := by decide +kernel
theorem dX1_dearestIn_46 : decode cX1_dearestIn 46 = .ok (.goto (-42), 3) := by decide +kernel
theorem dX1_dearestIn_49 : decode cX1_dearestIn 49 = .ok (.iload_n 1, 1) := by decide +kernel
theorem dX1_dearestIn_50 : decode cX1_dearestIn 50 = .ok (.ireturn, 1) := by decide +kernel
theorem dX1_exitOf_0 : decode cX1_exitOf 0 = .ok (.iload_n 1, 1) := by decide +kernel
theorem dX1_exitOf_1 : decode cX1_exitOf 1 = .ok (.iconst (-1), 1) := by decide +kernel
theorem dX1_exitOf_2 : decode cX1_exitOf 2 = .ok (.if_icmp .ne 7, 3) := by decide +kernel
theorem dX1_exitOf_5 : decode cX1_exitOf 5 = .ok (.iconst 0, 1) := by decide +kernel
theorem dX1_exitOf_6 : decode cX1_exitOf 6 = .ok (.goto 9, 3) := by decide +kernel
theorem dX1_exitOf_9 : decode cX1_exitOf 9 = .ok (.aload_n 0, 1) := by decide +kernel
theorem dX1_exitOf_10 : decode cX1_exitOf 10 = .ok (.getfield 24, 3) := by decide +kernel
theorem dX1_exitOf_13 : decode cX1_exitOf 13 = .ok (.iload_n 1, 1) := by decide +kernel
theorem dX1_exitOf_14 : decode cX1_exitOf 14 = .ok (.iaload, 1) := by decide +kernel
theorem dX1_exitOf_15 : decode cX1_exitOf 15 = .ok (.ireturn, 1) := by decide +kernel
