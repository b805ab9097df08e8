set_option maxRecDepth 20000 in
theorem ggX3_stress_X3_isYear : GoodIn wsX3_stress wsX3_isYear := goodIn_r _ [5] (by decide +kernel) (by decide +kernel)
set_option maxRecDepth 20000 in
theorem gX3_stress_X3_isYear : GoodIn wsX3_stress (va_wsS RX3 82 yX3_isYear wsX3_isYear) := goodIn_app (goodIn_of _ (by decide +kernel)) ggX3_stress_X3_isYear
set_option maxRecDepth 20000 in
theorem ggX3_stress_X3_isHour : GoodIn wsX3_stress wsX3_isHour := goodIn_r _ [8] (by decide +kernel) (by decide +kernel)
set_option maxRecDepth 20000 in
theorem gX3_stress_X3_isHour : GoodIn wsX3_stress (va_wsS RX3 98 yX3_isHour wsX3_isHour) := goodIn_app (goodIn_of _ (by decide +kernel)) ggX3_stress_X3_isHour
set_option maxRecDepth 20000 in
theorem ggX3_stress_X3_goes : GoodIn wsX3_stress wsX3_goes := goodIn_r _ [12, 13, 14, 15, 16, 17, 18, 19, 20, 21, 22, 23, 24, 25, 26, 27, 28, 29, 30] (by decide +kernel) (by decide +kernel)
set_option maxRecDepth 20000 in
theorem gX3_stress_X3_goes : GoodIn wsX3_stress (wsV RX3 61 RX3 yX3_goes wsX3_goes) := goodIn_app (goodIn_of _ (by decide +kernel)) ggX3_stress_X3_goes
theorem dX3_stress_0 : decode cX3_stress 0 = .ok (.aload_n 0, 1) := by decide +kernel
theorem dX3_stress_1 : decode cX3_stress 1 = .ok (.iload_n 1, 1) := by decide +kernel
theorem dX3_stress_2 : decode cX3_stress 2 = .ok (.invokestatic 82, 3) := by decide +kernel
theorem dX3_stress_5 : decode cX3_stress 5 = .ok (.ifCond .eq 14, 3) := by decide +kernel
theorem dX3_stress_8 : decode cX3_stress 8 = .ok (.iload_n 2, 1) := by decide +kernel
theorem dX3_stress_9 : decode cX3_stress 9 = .ok (.invokestatic 98, 3) := by decide +kernel
theorem dX3_stress_12 : decode cX3_stress 12 = .ok (.ifCond .eq 7, 3) := by decide +kernel
theorem dX3_stress_15 : decode cX3_stress 15 = .ok (.iconst 1, 1) := by decide +kernel
theorem dX3_stress_16 : decode cX3_stress 16 = .ok (.goto 4, 3) := by decide +kernel
theorem dX3_stress_19 : decode cX3_stress 19 = .ok (.iconst 0, 1) := by decide +kernel
theorem dX3_stress_20 : decode cX3_stress 20 = .ok (.iconst 1, 1) := by decide +kernel
theorem dX3_stress_21 : decode cX3_stress 21 = .ok (.iconst 1, 1) := by decide +kernel
theorem dX3_stress_22 : decode cX3_stress 22 = .ok (.invokevirtual 61, 3) := by decide +kernel
theorem dX3_stress_25 : decode cX3_stress 25 = .ok (.ifCond .ne 5, 3) := by decide +kernel
theorem dX3_stress_28 : decode cX3_stress 28 = .ok (.iconst 0, 1) := by decide +kernel
theorem dX3_stress_29 : decode cX3_stress 29 = .ok (.ireturn, 1) := by decide +kernel
theorem dX3_stress_30 : decode cX3_stress 30 = .ok (.aload_n 0, 1) := by decide +kernel
theorem dX3_stress_31 : decode cX3_stress 31 = .ok (.getfield 44, 3) := by decide +kernel
theorem dX3_stress_34 : decode cX3_stress 34 = .ok (.iload_n 1, 1) := by decide +kernel
theorem dX3_stress_35 : decode cX3_stress 35 = .ok (.bipush 12, 2) := by decide +kernel
theorem dX3_stress_37 : decode cX3_stress 37 = .ok (.imul, 1) := by decide +kernel
theorem dX3_stress_38 : decode cX3_stress 38 = .ok (.iload_n 2, 1) := by decide +kernel
theorem dX3_stress_39 : decode cX3_stress 39 = .ok (.iadd, 1) := by decide +kernel
theorem dX3_stress_40 : decode cX3_stress 40 = .ok (.aload_n 0, 1) := by decide +kernel
theorem dX3_stress_41 : decode cX3_stress 41 = .ok (.getfield 44, 3) := by decide +kernel
theorem dX3_stress_44 : decode cX3_stress 44 = .ok (.iload_n 1, 1) := by decide +kernel
theorem dX3_stress_45 : decode cX3_stress 45 = .ok (.bipush 12, 2) := by decide +kernel
theorem dX3_stress_47 : decode cX3_stress 47 = .ok (.imul, 1) := by decide +kernel
theorem dX3_stress_48 : decode cX3_stress 48 = .ok (.iload_n 2, 1) := by decide +kernel
theorem dX3_stress_49 : decode cX3_stress 49 = .ok (.iadd, 1) := by decide +kernel
theorem dX3_stress_50 : decode cX3_stress 50 = .ok (.baload, 1) := by decide +kernel
theorem dX3_stress_51 : decode cX3_stress 51 = .ok (.ifCond .ne 7, 3) := by decide +kernel
theorem dX3_stress_54 : decode cX3_stress 54 = .ok (.iconst 1, 1) := by decide +kernel
theorem dX3_stress_55 : decode cX3_stress 55 = .ok (.goto 4, 3) := by decide +kernel
theorem dX3_stress_58 : decode cX3_stress 58 = .ok (.iconst 0, 1) := by decide +kernel
theorem dX3_stress_59 : decode cX3_stress 59 = .ok (.bastore, 1) := by decide +kernel
theorem dX3_stress_60 : decode cX3_stress 60 = .ok (.aload_n 0, 1) := by decide +kernel
theorem dX3_stress_61 : decode cX3_stress 61 = .ok (.getfield 44, 3) := by decide +kernel
theorem dX3_stress_64 : decode cX3_stress 64 = .ok (.iload_n 1, 1) := by decide +kernel
theorem dX3_stress_65 : decode cX3_stress 65 = .ok (.bipush 12, 2) := by decide +kernel
theorem dX3_stress_67 : decode cX3_stress 67 = .ok (.imul, 1) := by decide +kernel
theorem dX3_stress_68 : decode cX3_stress 68 = .ok (.iload_n 2, 1) := by decide +kernel
theorem dX3_stress_69 : decode cX3_stress 69 = .ok (.iadd, 1) := by decide +kernel
theorem dX3_stress_70 : decode cX3_stress 70 = .ok (.baload, 1) := by decide +kernel
theorem dX3_stress_71 : decode cX3_stress 71 = .ok (.ireturn, 1) := by decide +kernel
set_option maxRecDepth 20000 in
theorem ggX3_tell_X3_isParty : GoodIn wsX3_tell wsX3_isParty := goodIn_r _ [5] (by decide +kernel) (by decide +kernel)
set_option maxRecDepth 20000 in
theorem gX3_tell_X3_isParty : GoodIn wsX3_tell (va_wsS RX3 72 yX3_isParty wsX3_isParty) := goodIn_app (goodIn_of _ (by decide +kernel)) ggX3_tell_X3_isParty
set_option maxRecDepth 20000 in
theorem ggX3_tell_X3_isYear : GoodIn wsX3_tell wsX3_isYear := goodIn_r _ [8] (by decide +kernel) (by decide +kernel)
set_option maxRecDepth 20000 in
theorem gX3_tell_X3_isYear : GoodIn wsX3_tell (va_wsS RX3 82 yX3_isYear wsX3_isYear) := goodIn_app (goodIn_of _ (by decide +kernel)) ggX3_tell_X3_isYear
set_option maxRecDepth 20000 in
theorem ggX3_tell_X3_isHour : GoodIn wsX3_tell wsX3_isHour := goodIn_r _ [11] (by decide +kernel) (by decide +kernel)
set_option maxRecDepth 20000 in
theorem gX3_tell_X3_isHour : GoodIn wsX3_tell (va_wsS RX3 98 yX3_isHour wsX3_isHour) := goodIn_app (goodIn_of _ (by decide +kernel)) ggX3_tell_X3_isHour
set_option maxRecDepth 20000 in
theorem ggX3_tell_X3_isWithin : GoodIn wsX3_tell wsX3_isWithin := goodIn_r _ [14] (by decide +kernel) (by decide +kernel)
set_option maxRecDepth 20000 in
theorem gX3_tell_X3_isWithin : GoodIn wsX3_tell (va_wsS RX3 57 yX3_isWithin wsX3_isWithin) := goodIn_app (goodIn_of _ (by decide +kernel)) ggX3_tell_X3_isWithin
set_option maxRecDepth 20000 in
theorem ggX3_tell_X3_goes : GoodIn wsX3_tell wsX3_goes := goodIn_r _ [18, 19, 23, 24, 25, 26, 27, 28, 29, 30, 31, 32, 33, 34, 35, 36, 37, 38, 39] (by decide +kernel) (by decide +kernel)
set_option maxRecDepth 20000 in
theorem gX3_tell_X3_goes : GoodIn wsX3_tell (wsV RX3 61 RX3 yX3_goes wsX3_goes) := goodIn_app (goodIn_of _ (by decide +kernel)) ggX3_tell_X3_goes
set_option maxRecDepth 20000 in
theorem ggX3_tell_X3_place : GoodIn wsX3_tell wsX3_place := goodIn_r _ [22] (by decide +kernel) (by decide +kernel)
set_option maxRecDepth 20000 in
theorem gX3_tell_X3_place : GoodIn wsX3_tell (va_wsS RX3 94 yX3_place wsX3_place) := goodIn_app (goodIn_of _ (by decide +kernel)) ggX3_tell_X3_place
theorem dX3_tell_0 : decode cX3_tell 0 = .ok (.aload_n 0, 1) := by decide +kernel
theorem dX3_tell_1 : decode cX3_tell 1 = .ok (.iload_n 1, 1) := by decide +kernel
theorem dX3_tell_2 : decode cX3_tell 2 = .ok (.invokestatic 72, 3) := by decide +kernel
theorem dX3_tell_5 : decode cX3_tell 5 = .ok (.ifCond .eq 21, 3) := by decide +kernel
theorem dX3_tell_8 : decode cX3_tell 8 = .ok (.iload_n 2, 1) := by decide +kernel
theorem dX3_tell_9 : decode cX3_tell 9 = .ok (.invokestatic 82, 3) := by decide +kernel
theorem dX3_tell_12 : decode cX3_tell 12 = .ok (.ifCond .eq 14, 3) := by decide +kernel
theorem dX3_tell_15 : decode cX3_tell 15 = .ok (.iload_n 3, 1) := by decide +kernel
theorem dX3_tell_16 : decode cX3_tell 16 = .ok (.invokestatic 98, 3) := by decide +kernel
theorem dX3_tell_19 : decode cX3_tell 19 = .ok (.ifCond .eq 7, 3) := by decide +kernel
theorem dX3_tell_22 : decode cX3_tell 22 = .ok (.iconst 1, 1) := by decide +kernel
theorem dX3_tell_23 : decode cX3_tell 23 = .ok (.goto 4, 3) := by decide +kernel
theorem dX3_tell_26 : decode cX3_tell 26 = .ok (.iconst 0, 1) := by decide +kernel
theorem dX3_tell_27 : decode cX3_tell 27 = .ok (.iload 4, 2) := by decide +kernel
theorem dX3_tell_29 : decode cX3_tell 29 = .ok (.iconst 0, 1) := by decide +kernel
theorem dX3_tell_30 : decode cX3_tell 30 = .ok (.sipush 5000, 3) := by decide +kernel
theorem dX3_tell_33 : decode cX3_tell 33 = .ok (.invokestatic 57, 3) := by decide +kernel
theorem dX3_tell_36 : decode cX3_tell 36 = .ok (.iconst 1, 1) := by decide +kernel
theorem dX3_tell_37 : decode cX3_tell 37 = .ok (.invokevirtual 61, 3) := by decide +kernel
theorem dX3_tell_40 : decode cX3_tell 40 = .ok (.ifCond .ne 5, 3) := by decide +kernel
theorem dX3_tell_43 : decode cX3_tell 43 = .ok (.iconst 0, 1) := by decide +kernel
theorem dX3_tell_44 : decode cX3_tell 44 = .ok (.ireturn, 1) := by decide +kernel
theorem dX3_tell_45 : decode cX3_tell 45 = .ok (.aload_n 0, 1) := by decide +kernel
theorem dX3_tell_46 : decode cX3_tell 46 = .ok (.getfield 41, 3) := by decide +kernel
theorem dX3_tell_49 : decode cX3_tell 49 = .ok (.iload_n 1, 1) := by decide +kernel
theorem dX3_tell_50 : decode cX3_tell 50 = .ok (.iload_n 2, 1) := by decide +kernel
theorem dX3_tell_51 : decode cX3_tell 51 = .ok (.iload_n 3, 1) := by decide +kernel
theorem dX3_tell_52 : decode cX3_tell 52 = .ok (.invokestatic 94, 3) := by decide +kernel
theorem dX3_tell_55 : decode cX3_tell 55 = .ok (.iaload, 1) := by decide +kernel
theorem dX3_tell_56 : decode cX3_tell 56 = .ok (.istore 5, 2) := by decide +kernel
theorem dX3_tell_58 : decode cX3_tell 58 = .ok (.aload_n 0, 1) := by decide +kernel
theorem dX3_tell_59 : decode cX3_tell 59 = .ok (.getfield 41, 3) := by decide +kernel
theorem dX3_tell_62 : decode cX3_tell 62 = .ok (.iload_n 1, 1) := by decide +kernel
theorem dX3_tell_63 : decode cX3_tell 63 = .ok (.iload_n 2, 1) := by decide +kernel
theorem dX3_tell_64 : decode cX3_tell 64 = .ok (.iload_n 3, 1) := by decide +kernel
theorem dX3_tell_65 : decode cX3_tell 65 = .ok (.invokestatic 94, 3) := by decide +kernel
theorem dX3_tell_68 : decode cX3_tell 68 = .ok (.iload 4, 2) := by decide +kernel
theorem dX3_tell_70 : decode cX3_tell 70 = .ok (.iastore, 1) := by decide +kernel
theorem dX3_tell_71 : decode cX3_tell 71 = .ok (.iload 5, 2) := by decide +kernel
theorem dX3_tell_73 : decode cX3_tell 73 = .ok (.ireturn, 1) := by decide +kernel
set_option maxRecDepth 20000 in
theorem ggX3_setPenalty_X3_isWithin : GoodIn wsX3_setPenalty wsX3_isWithin := goodIn_r _ [6] (by decide +kernel) (by decide +kernel)
set_option maxRecDepth 20000 in
theorem gX3_setPenalty_X3_isWithin : GoodIn wsX3_setPenalty (va_wsS RX3 57 yX3_isWithin wsX3_isWithin) := goodIn_app (goodIn_of _ (by decide +kernel)) ggX3_setPenalty_X3_isWithin
set_option maxRecDepth 20000 in
theorem ggX3_setPenalty_X3_goes : GoodIn wsX3_setPenalty wsX3_goes := goodIn_r _ [10, 11, 12, 13, 14, 15, 16, 17, 18, 19, 20, 21, 22, 23, 24, 25, 26, 27, 28] (by decide +kernel) (by decide +kernel)
set_option maxRecDepth 20000 in
theorem gX3_setPenalty_X3_goes : GoodIn wsX3_setPenalty (wsV RX3 61 RX3 yX3_goes wsX3_goes) := goodIn_app (goodIn_of _ (by decide +kernel)) ggX3_setPenalty_X3_goes
theorem dX3_setPenalty_0 : decode cX3_setPenalty 0 = .ok (.aload_n 0, 1) := by decide +kernel
theorem dX3_setPenalty_1 : decode cX3_setPenalty 1 = .ok (.iload_n 1, 1) := by decide +kernel
theorem dX3_setPenalty_2 : decode cX3_setPenalty 2 = .ok (.iconst 0, 1) := by decide +kernel
theorem dX3_setPenalty_3 : decode cX3_setPenalty 3 = .ok (.sipush 1000, 3) := by decide +kernel
theorem dX3_setPenalty_6 : decode cX3_setPenalty 6 = .ok (.invokestatic 57, 3) := by decide +kernel
theorem dX3_setPenalty_9 : decode cX3_setPenalty 9 = .ok (.ifCond .eq 18, 3) := by decide +kernel
theorem dX3_setPenalty_12 : decode cX3_setPenalty 12 = .ok (.iload_n 2, 1) := by decide +kernel
theorem dX3_setPenalty_13 : decode cX3_setPenalty 13 = .ok (.iconst 0, 1) := by decide +kernel
theorem dX3_setPenalty_14 : decode cX3_setPenalty 14 = .ok (.sipush 200, 3) := by decide +kernel
theorem dX3_setPenalty_17 : decode cX3_setPenalty 17 = .ok (.invokestatic 57, 3) := by decide +kernel
theorem dX3_setPenalty_20 : decode cX3_setPenalty 20 = .ok (.ifCond .eq 7, 3) := by decide +kernel
theorem dX3_setPenalty_23 : decode cX3_setPenalty 23 = .ok (.iconst 1, 1) := by decide +kernel
theorem dX3_setPenalty_24 : decode cX3_setPenalty 24 = .ok (.goto 4, 3) := by decide +kernel
theorem dX3_setPenalty_27 : decode cX3_setPenalty 27 = .ok (.iconst 0, 1) := by decide +kernel
theorem dX3_setPenalty_28 : decode cX3_setPenalty 28 = .ok (.iconst 1, 1) := by decide +kernel
theorem dX3_setPenalty_29 : decode cX3_setPenalty 29 = .ok (.iconst 1, 1) := by decide +kernel
theorem dX3_setPenalty_30 : decode cX3_setPenalty 30 = .ok (.invokevirtual 61, 3) := by decide +kernel
theorem dX3_setPenalty_33 : decode cX3_setPenalty 33 = .ok (.ifCond .eq 13, 3) := by decide +kernel
theorem dX3_setPenalty_36 : decode cX3_setPenalty 36 = .ok (.aload_n 0, 1) := by decide +kernel
theorem dX3_setPenalty_37 : decode cX3_setPenalty 37 = .ok (.iload_n 1, 1) := by decide +kernel
theorem dX3_setPenalty_38 : decode cX3_setPenalty 38 = .ok (.putfield 48, 3) := by decide +kernel
theorem dX3_setPenalty_41 : decode cX3_setPenalty 41 = .ok (.aload_n 0, 1) := by decide +kernel
theorem dX3_setPenalty_42 : decode cX3_setPenalty 42 = .ok (.iload_n 2, 1) := by decide +kernel
theorem dX3_setPenalty_43 : decode cX3_setPenalty 43 = .ok (.putfield 51, 3) := by decide +kernel
theorem dX3_setPenalty_46 : decode cX3_setPenalty 46 = .ok (.return_, 1) := by decide +kernel
set_option maxRecDepth 20000 in
theorem ggX3_lackOf_X3_place : GoodIn wsX3_lackOf wsX3_place := goodIn_r _ [7] (by decide +kernel) (by decide +kernel)
set_option maxRecDepth 20000 in
theorem gX3_lackOf_X3_place : GoodIn wsX3_lackOf (va_wsS RX3 94 yX3_place wsX3_place) := goodIn_app (goodIn_of _ (by decide +kernel)) ggX3_lackOf_X3_place
theorem dX3_lackOf_0 : decode cX3_lackOf 0 = .ok (.iconst 0, 1) := by decide +kernel
theorem dX3_lackOf_1 : decode cX3_lackOf 1 = .ok (.istore_n 3, 1) := by decide +kernel
theorem dX3_lackOf_2 : decode cX3_lackOf 2 = .ok (.iconst 0, 1) := by decide +kernel
theorem dX3_lackOf_3 : decode cX3_lackOf 3 = .ok (.istore 4, 2) := by decide +kernel
theorem dX3_lackOf_5 : decode cX3_lackOf 5 = .ok (.iload 4, 2) := by decide +kernel
theorem dX3_lackOf_7 : decode cX3_lackOf 7 = .ok (.bipush 12, 2) := by decide +kernel
theorem dX3_lackOf_9 : decode cX3_lackOf 9 = .ok (.if_icmp .ge 55, 3) := by decide +kernel
theorem dX3_lackOf_12 : decode cX3_lackOf 12 = .ok (.iload_n 1, 1) := by decide +kernel
theorem dX3_lackOf_13 : decode cX3_lackOf 13 = .ok (.iload_n 2, 1) := by decide +kernel
theorem dX3_lackOf_14 : decode cX3_lackOf 14 = .ok (.iload 4, 2) := by decide +kernel
theorem dX3_lackOf_16 : decode cX3_lackOf 16 = .ok (.invokestatic 94, 3) := by decide +kernel
theorem dX3_lackOf_19 : decode cX3_lackOf 19 = .ok (.istore 5, 2) := by decide +kernel
theorem dX3_lackOf_21 : decode cX3_lackOf 21 = .ok (.iload_n 3, 1) := by decide +kernel
theorem dX3_lackOf_22 : decode cX3_lackOf 22 = .ok (.aload_n 0, 1) := by decide +kernel
theorem dX3_lackOf_23 : decode cX3_lackOf 23 = .ok (.getfield 44, 3) := by decide +kernel
theorem dX3_lackOf_26 : decode cX3_lackOf 26 = .ok (.iload_n 2, 1) := by decide +kernel
theorem dX3_lackOf_27 : decode cX3_lackOf 27 = .ok (.bipush 12, 2) := by decide +kernel
theorem dX3_lackOf_29 : decode cX3_lackOf 29 = .ok (.imul, 1) := by decide +kernel
theorem dX3_lackOf_30 : decode cX3_lackOf 30 = .ok (.iload 4, 2) := by decide +kernel
theorem dX3_lackOf_32 : decode cX3_lackOf 32 = .ok (.iadd, 1) := by decide +kernel
theorem dX3_lackOf_33 : decode cX3_lackOf 33 = .ok (.baload, 1) := by decide +kernel
theorem dX3_lackOf_34 : decode cX3_lackOf 34 = .ok (.ifCond .eq 21, 3) := by decide +kernel
theorem dX3_lackOf_37 : decode cX3_lackOf 37 = .ok (.aload_n 0, 1) := by decide +kernel
theorem dX3_lackOf_38 : decode cX3_lackOf 38 = .ok (.getfield 38, 3) := by decide +kernel
theorem dX3_lackOf_41 : decode cX3_lackOf 41 = .ok (.iload 5, 2) := by decide +kernel
theorem dX3_lackOf_43 : decode cX3_lackOf 43 = .ok (.iaload, 1) := by decide +kernel
theorem dX3_lackOf_44 : decode cX3_lackOf 44 = .ok (.aload_n 0, 1) := by decide +kernel
theorem dX3_lackOf_45 : decode cX3_lackOf 45 = .ok (.getfield 41, 3) := by decide +kernel
theorem dX3_lackOf_48 : decode cX3_lackOf 48 = .ok (.iload 5, 2) := by decide +kernel
theorem dX3_lackOf_50 : decode cX3_lackOf 50 = .ok (.iaload, 1) := by decide +kernel
theorem dX3_lackOf_51 : decode cX3_lackOf 51 = .ok (.isub, 1) := by decide +kernel
theorem dX3_lackOf_52 : decode cX3_lackOf 52 = .ok (.goto 4, 3) := by decide +kernel
theorem dX3_lackOf_55 : decode cX3_lackOf 55 = .ok (.iconst 0, 1) := by decide +kernel
theorem dX3_lackOf_56 : decode cX3_lackOf 56 = .ok (.iadd, 1) := by decide +kernel
theorem dX3_lackOf_57 : decode cX3_lackOf 57 = .ok (.istore_n 3, 1) := by decide +kernel
theorem dX3_lackOf_58 : decode cX3_lackOf 58 = .ok (.iinc 4 1, 3) := by decide +kernel
theorem dX3_lackOf_61 : decode cX3_lackOf 61 = .ok (.goto (-56), 3) := by decide +kernel
theorem dX3_lackOf_64 : decode cX3_lackOf 64 = .ok (.iload_n 3, 1) := by decide +kernel
theorem dX3_lackOf_65 : decode cX3_lackOf 65 = .ok (.ireturn, 1) := by decide +kernel
set_option maxRecDepth 20000 in
theorem ggX3_penaltyOf_X3_lackOf : GoodIn wsX3_penaltyOf wsX3_lackOf := goodIn_r _ [9, 10, 11, 12, 13, 14, 8, 15, 16, 17, 18, 19, 20, 21, 22, 23, 24, 25, 26, 27, 28, 29, 30, 31, 32] (by decide +kernel) (by decide +kernel)
set_option maxRecDepth 20000 in
theorem gX3_penaltyOf_X3_lackOf : GoodIn wsX3_penaltyOf (wsV RX3 108 RX3 yX3_lackOf wsX3_lackOf) := goodIn_app (goodIn_of _ (by decide +kernel)) ggX3_penaltyOf_X3_lackOf
theorem dX3_penaltyOf_0 : decode cX3_penaltyOf 0 = .ok (.aload_n 0, 1) := by decide +kernel
theorem dX3_penaltyOf_1 : decode cX3_penaltyOf 1 = .ok (.iload_n 1, 1) := by decide +kernel
theorem dX3_penaltyOf_2 : decode cX3_penaltyOf 2 = .ok (.iload_n 2, 1) := by decide +kernel
theorem dX3_penaltyOf_3 : decode cX3_penaltyOf 3 = .ok (.invokevirtual 108, 3) := by decide +kernel
theorem dX3_penaltyOf_6 : decode cX3_penaltyOf 6 = .ok (.i2l, 1) := by decide +kernel
theorem dX3_penaltyOf_7 : decode cX3_penaltyOf 7 = .ok (.aload_n 0, 1) := by decide +kernel
theorem dX3_penaltyOf_8 : decode cX3_penaltyOf 8 = .ok (.getfield 48, 3) := by decide +kernel
theorem dX3_penaltyOf_11 : decode cX3_penaltyOf 11 = .ok (.i2l, 1) := by decide +kernel
theorem dX3_penaltyOf_12 : decode cX3_penaltyOf 12 = .ok (.lmul, 1) := by decide +kernel
theorem dX3_penaltyOf_13 : decode cX3_penaltyOf 13 = .ok (.lstore_n 3, 1) := by decide +kernel
theorem dX3_penaltyOf_14 : decode cX3_penaltyOf 14 = .ok (.aload_n 0, 1) := by decide +kernel
theorem dX3_penaltyOf_15 : decode cX3_penaltyOf 15 = .ok (.getfield 35, 3) := by decide +kernel
theorem dX3_penaltyOf_18 : decode cX3_penaltyOf 18 = .ok (.iload_n 1, 1) := by decide +kernel
theorem dX3_penaltyOf_19 : decode cX3_penaltyOf 19 = .ok (.bipush 8, 2) := by decide +kernel
theorem dX3_penaltyOf_21 : decode cX3_penaltyOf 21 = .ok (.imul, 1) := by decide +kernel
theorem dX3_penaltyOf_22 : decode cX3_penaltyOf 22 = .ok (.iload_n 2, 1) := by decide +kernel
theorem dX3_penaltyOf_23 : decode cX3_penaltyOf 23 = .ok (.iadd, 1) := by decide +kernel
theorem dX3_penaltyOf_24 : decode cX3_penaltyOf 24 = .ok (.iaload, 1) := by decide +kernel
theorem dX3_penaltyOf_25 : decode cX3_penaltyOf 25 = .ok (.i2l, 1) := by decide +kernel
theorem dX3_penaltyOf_26 : decode cX3_penaltyOf 26 = .ok (.aload_n 0, 1) := by decide +kernel
theorem dX3_penaltyOf_27 : decode cX3_penaltyOf 27 = .ok (.getfield 51, 3) := by decide +kernel
theorem dX3_penaltyOf_30 : decode cX3_penaltyOf 30 = .ok (.i2l, 1) := by decide +kernel
theorem dX3_penaltyOf_31 : decode cX3_penaltyOf 31 = .ok (.lmul, 1) := by decide +kernel
theorem dX3_penaltyOf_32 : decode cX3_penaltyOf 32 = .ok (.ldc2_w 112, 3) := by decide +kernel
theorem dX3_penaltyOf_35 : decode cX3_penaltyOf 35 = .ok (.ldiv, 1) := by decide +kernel
theorem dX3_penaltyOf_36 : decode cX3_penaltyOf 36 = .ok (.lstore 5, 2) := by decide +kernel
theorem dX3_penaltyOf_38 : decode cX3_penaltyOf 38 = .ok (.lload_n 3, 1) := by decide +kernel
theorem dX3_penaltyOf_39 : decode cX3_penaltyOf 39 = .ok (.lconst 0, 1) := by decide +kernel
theorem dX3_penaltyOf_40 : decode cX3_penaltyOf 40 = .ok (.lcmp, 1) := by decide +kernel
theorem dX3_penaltyOf_41 : decode cX3_penaltyOf 41 = .ok (.ifCond .ge 7, 3) := by decide +kernel
theorem dX3_penaltyOf_44 : decode cX3_penaltyOf 44 = .ok (.lconst 0, 1) := by decide +kernel
theorem dX3_penaltyOf_45 : decode cX3_penaltyOf 45 = .ok (.goto 16, 3) := by decide +kernel
theorem dX3_penaltyOf_48 : decode cX3_penaltyOf 48 = .ok (.lload_n 3, 1) := by decide +kernel
theorem dX3_penaltyOf_49 : decode cX3_penaltyOf 49 = .ok (.lload 5, 2) := by decide +kernel
theorem dX3_penaltyOf_51 : decode cX3_penaltyOf 51 = .ok (.lcmp, 1) := by decide +kernel
theorem dX3_penaltyOf_52 : decode cX3_penaltyOf 52 = .ok (.ifCond .ge 7, 3) := by decide +kernel
theorem dX3_penaltyOf_55 : decode cX3_penaltyOf 55 = .ok (.lload_n 3, 1) := by decide +kernel
theorem dX3_penaltyOf_56 : decode cX3_penaltyOf 56 = .ok (.goto 5, 3) := by decide +kernel
theorem dX3_penaltyOf_59 : decode cX3_penaltyOf 59 = .ok (.lload 5, 2) := by decide +kernel
theorem dX3_penaltyOf_61 : decode cX3_penaltyOf 61 = .ok (.lreturn, 1) := by decide +kernel
set_option maxRecDepth 20000 in
theorem ggX3_lack_X3_isParty : GoodIn wsX3_lack wsX3_isParty := goodIn_r _ [4] (by decide +kernel) (by decide +kernel)
set_option maxRecDepth 20000 in
theorem gX3_lack_X3_isParty : GoodIn wsX3_lack (va_wsS RX3 72 yX3_isParty wsX3_isParty) := goodIn_app (goodIn_of _ (by decide +kernel)) ggX3_lack_X3_isParty
set_option maxRecDepth 20000 in
theorem ggX3_lack_X3_isYear : GoodIn wsX3_lack wsX3_isYear := goodIn_r _ [7] (by decide +kernel) (by decide +kernel)
set_option maxRecDepth 20000 in
theorem gX3_lack_X3_isYear : GoodIn wsX3_lack (va_wsS RX3 82 yX3_isYear wsX3_isYear) := goodIn_app (goodIn_of _ (by decide +kernel)) ggX3_lack_X3_isYear
set_option maxRecDepth 20000 in
theorem ggX3_lack_X3_goes : GoodIn wsX3_lack wsX3_goes := goodIn_r _ [11, 12, 23, 24, 25, 26, 27, 28, 29, 30, 31, 32, 33, 34, 35, 36, 37, 38, 39] (by decide +kernel) (by decide +kernel)
set_option maxRecDepth 20000 in
theorem gX3_lack_X3_goes : GoodIn wsX3_lack (wsV RX3 61 RX3 yX3_goes wsX3_goes) := goodIn_app (goodIn_of _ (by decide +kernel)) ggX3_lack_X3_goes
set_option maxRecDepth 20000 in
theorem ggX3_lack_X3_lackOf : GoodIn wsX3_lack wsX3_lackOf := goodIn_r _ [16, 17, 18, 19, 20, 21, 3, 22, 23, 24, 25, 26, 27, 28, 29, 30, 31, 32, 33, 34, 35, 36, 37, 38, 39] (by decide +kernel) (by decide +kernel)
set_option maxRecDepth 20000 in
theorem gX3_lack_X3_lackOf : GoodIn wsX3_lack (wsV RX3 108 RX3 yX3_lackOf wsX3_lackOf) := goodIn_app (goodIn_of _ (by decide +kernel)) ggX3_lack_X3_lackOf
theorem dX3_lack_0 : decode cX3_lack 0 = .ok (.aload_n 0, 1) := by decide +kernel
theorem dX3_lack_1 : decode cX3_lack 1 = .ok (.iload_n 1, 1) := by decide +kernel
theorem dX3_lack_2 : decode cX3_lack 2 = .ok (.invokestatic 72, 3) := by decide +kernel
theorem dX3_lack_5 : decode cX3_lack 5 = .ok (.ifCond .eq 14, 3) := by decide +kernel
theorem dX3_lack_8 : decode cX3_lack 8 = .ok (.iload_n 2, 1) := by decide +kernel
theorem dX3_lack_9 : decode cX3_lack 9 = .ok (.invokestatic 82, 3) := by decide +kernel
theorem dX3_lack_12 : decode cX3_lack 12 = .ok (.ifCond .eq 7, 3) := by decide +kernel
theorem dX3_lack_15 : decode cX3_lack 15 = .ok (.iconst 1, 1) := by decide +kernel
theorem dX3_lack_16 : decode cX3_lack 16 = .ok (.goto 4, 3) := by decide +kernel
theorem dX3_lack_19 : decode cX3_lack 19 = .ok (.iconst 0, 1) := by decide +kernel
theorem dX3_lack_20 : decode cX3_lack 20 = .ok (.iconst 1, 1) := by decide +kernel
theorem dX3_lack_21 : decode cX3_lack 21 = .ok (.iconst 1, 1) := by decide +kernel
theorem dX3_lack_22 : decode cX3_lack 22 = .ok (.invokevirtual 61, 3) := by decide +kernel
theorem dX3_lack_25 : decode cX3_lack 25 = .ok (.ifCond .eq 12, 3) := by decide +kernel
theorem dX3_lack_28 : decode cX3_lack 28 = .ok (.aload_n 0, 1) := by decide +kernel
theorem dX3_lack_29 : decode cX3_lack 29 = .ok (.iload_n 1, 1) := by decide +kernel
theorem dX3_lack_30 : decode cX3_lack 30 = .ok (.iload_n 2, 1) := by decide +kernel
theorem dX3_lack_31 : decode cX3_lack 31 = .ok (.invokevirtual 108, 3) := by decide +kernel
theorem dX3_lack_34 : decode cX3_lack 34 = .ok (.goto 4, 3) := by decide +kernel
theorem dX3_lack_37 : decode cX3_lack 37 = .ok (.iconst 0, 1) := by decide +kernel
theorem dX3_lack_38 : decode cX3_lack 38 = .ok (.ireturn, 1) := by decide +kernel
set_option maxRecDepth 20000 in
theorem ggX3_penalty_X3_isParty : GoodIn wsX3_penalty wsX3_isParty := goodIn_r _ [4] (by decide +kernel) (by decide +kernel)
set_option maxRecDepth 20000 in
theorem gX3_penalty_X3_isParty : GoodIn wsX3_penalty (va_wsS RX3 72 yX3_isParty wsX3_isParty) := goodIn_app (goodIn_of _ (by decide +kernel)) ggX3_penalty_X3_isParty
set_option maxRecDepth 20000 in
theorem ggX3_penalty_X3_isYear : GoodIn wsX3_penalty wsX3_isYear := goodIn_r _ [7] (by decide +kernel) (by decide +kernel)
set_option maxRecDepth 20000 in
theorem gX3_penalty_X3_isYear : GoodIn wsX3_penalty (va_wsS RX3 82 yX3_isYear wsX3_isYear) := goodIn_app (goodIn_of _ (by decide +kernel)) ggX3_penalty_X3_isYear
set_option maxRecDepth 20000 in
theorem ggX3_penalty_X3_goes : GoodIn wsX3_penalty wsX3_goes := goodIn_r _ [11, 12, 31, 32, 33, 34, 35, 36, 37, 38, 39, 40, 41, 42, 43, 44, 45, 46, 47] (by decide +kernel) (by decide +kernel)
set_option maxRecDepth 20000 in
theorem gX3_penalty_X3_goes : GoodIn wsX3_penalty (wsV RX3 61 RX3 yX3_goes wsX3_goes) := goodIn_app (goodIn_of _ (by decide +kernel)) ggX3_penalty_X3_goes
set_option maxRecDepth 20000 in
theorem ggX3_penalty_X3_penaltyOf : GoodIn wsX3_penalty wsX3_penaltyOf := goodIn_r _ [16, 17, 18, 19, 20, 21, 22, 23, 3, 24, 25, 26, 27, 28, 29, 30, 31, 32, 33, 34, 35, 36, 37, 38, 39, 40, 41, 42, 43, 44, 45, 46, 47] (by decide +kernel) (by decide +kernel)
set_option maxRecDepth 20000 in
theorem gX3_penalty_X3_penaltyOf : GoodIn wsX3_penalty (wsV RX3 114 RX3 yX3_penaltyOf wsX3_penaltyOf) := goodIn_app (goodIn_of _ (by decide +kernel)) ggX3_penalty_X3_penaltyOf
theorem dX3_penalty_0 : decode cX3_penalty 0 = .ok (.aload_n 0, 1) := by decide +kernel
theorem dX3_penalty_1 : decode cX3_penalty 1 = .ok (.iload_n 1, 1) := by decide +kernel
theorem dX3_penalty_2 : decode cX3_penalty 2 = .ok (.invokestatic 72, 3) := by decide +kernel
theorem dX3_penalty_5 : decode cX3_penalty 5 = .ok (.ifCond .eq 14, 3) := by decide +kernel
theorem dX3_penalty_8 : decode cX3_penalty 8 = .ok (.iload_n 2, 1) := by decide +kernel
theorem dX3_penalty_9 : decode cX3_penalty 9 = .ok (.invokestatic 82, 3) := by decide +kernel
theorem dX3_penalty_12 : decode cX3_penalty 12 = .ok (.ifCond .eq 7, 3) := by decide +kernel
theorem dX3_penalty_15 : decode cX3_penalty 15 = .ok (.iconst 1, 1) := by decide +kernel
theorem dX3_penalty_16 : decode cX3_penalty 16 = .ok (.goto 4, 3) := by decide +kernel
theorem dX3_penalty_19 : decode cX3_penalty 19 = .ok (.iconst 0, 1) := by decide +kernel
theorem dX3_penalty_20 : decode cX3_penalty 20 = .ok (.iconst 1, 1) := by decide +kernel
theorem dX3_penalty_21 : decode cX3_penalty 21 = .ok (.iconst 1, 1) := by decide +kernel
theorem dX3_penalty_22 : decode cX3_penalty 22 = .ok (.invokevirtual 61, 3) := by decide +kernel
theorem dX3_penalty_25 : decode cX3_penalty 25 = .ok (.ifCond .eq 13, 3) := by decide +kernel
theorem dX3_penalty_28 : decode cX3_penalty 28 = .ok (.aload_n 0, 1) := by decide +kernel
theorem dX3_penalty_29 : decode cX3_penalty 29 = .ok (.iload_n 1, 1) := by decide +kernel
theorem dX3_penalty_30 : decode cX3_penalty 30 = .ok (.iload_n 2, 1) := by decide +kernel
theorem dX3_penalty_31 : decode cX3_penalty 31 = .ok (.invokevirtual 114, 3) := by decide +kernel
theorem dX3_penalty_34 : decode cX3_penalty 34 = .ok (.l2i, 1) := by decide +kernel
theorem dX3_penalty_35 : decode cX3_penalty 35 = .ok (.goto 4, 3) := by decide +kernel
theorem dX3_penalty_38 : decode cX3_penalty 38 = .ok (.iconst 0, 1) := by decide +kernel
theorem dX3_penalty_39 : decode cX3_penalty 39 = .ok (.ireturn, 1) := by decide +kernel
set_option maxRecDepth 20000 in
theorem ggX3_penalties_X3_penaltyOf : GoodIn wsX3_penalties wsX3_penaltyOf := goodIn_r _ [6, 7, 8, 9, 10, 11, 12, 13, 5, 14, 15, 16, 17, 18, 19, 20, 21, 22, 23, 24, 25, 26, 27, 28, 29, 30, 31, 32, 33, 34, 35, 36, 37] (by decide +kernel) (by decide +kernel)
set_option maxRecDepth 20000 in
theorem gX3_penalties_X3_penaltyOf : GoodIn wsX3_penalties (wsV RX3 114 RX3 yX3_penaltyOf wsX3_penaltyOf) := goodIn_app (goodIn_of _ (by decide +kernel)) ggX3_penalties_X3_penaltyOf
theorem dX3_penalties_0 : decode cX3_penalties 0 = .ok (.aload_n 0, 1) := by decide +kernel
theorem dX3_penalties_1 : decode cX3_penalties 1 = .ok (.iconst 0, 1) := by decide +kernel
theorem dX3_penalties_2 : decode cX3_penalties 2 = .ok (.putfield 54, 3) := by decide +kernel
theorem dX3_penalties_5 : decode cX3_penalties 5 = .ok (.lconst 0, 1) := by decide +kernel
theorem dX3_penalties_6 : decode cX3_penalties 6 = .ok (.lstore_n 1, 1) := by decide +kernel
theorem dX3_penalties_7 : decode cX3_penalties 7 = .ok (.iconst 0, 1) := by decide +kernel
theorem dX3_penalties_8 : decode cX3_penalties 8 = .ok (.istore_n 3, 1) := by decide +kernel
theorem dX3_penalties_9 : decode cX3_penalties 9 = .ok (.iload_n 3, 1) := by decide +kernel
theorem dX3_penalties_10 : decode cX3_penalties 10 = .ok (.iconst 5, 1) := by decide +kernel
theorem dX3_penalties_11 : decode cX3_penalties 11 = .ok (.if_icmp .ge 35, 3) := by decide +kernel
theorem dX3_penalties_14 : decode cX3_penalties 14 = .ok (.iconst 0, 1) := by decide +kernel
theorem dX3_penalties_15 : decode cX3_penalties 15 = .ok (.istore 4, 2) := by decide +kernel
theorem dX3_penalties_17 : decode cX3_penalties 17 = .ok (.iload 4, 2) := by decide +kernel
theorem dX3_penalties_19 : decode cX3_penalties 19 = .ok (.bipush 8, 2) := by decide +kernel
theorem dX3_penalties_21 : decode cX3_penalties 21 = .ok (.if_icmp .ge 19, 3) := by decide +kernel
theorem dX3_penalties_24 : decode cX3_penalties 24 = .ok (.lload_n 1, 1) := by decide +kernel
theorem dX3_penalties_25 : decode cX3_penalties 25 = .ok (.aload_n 0, 1) := by decide +kernel
theorem dX3_penalties_26 : decode cX3_penalties 26 = .ok (.iload_n 3, 1) := by decide +kernel
theorem dX3_penalties_27 : decode cX3_penalties 27 = .ok (.iload 4, 2) := by decide +kernel
theorem dX3_penalties_29 : decode cX3_penalties 29 = .ok (.invokevirtual 114, 3) := by decide +kernel
theorem dX3_penalties_32 : decode cX3_penalties 32 = .ok (.ladd, 1) := by decide +kernel
theorem dX3_penalties_33 : decode cX3_penalties 33 = .ok (.lstore_n 1, 1) := by decide +kernel
theorem dX3_penalties_34 : decode cX3_penalties 34 = .ok (.iinc 4 1, 3) := by decide +kernel
theorem dX3_penalties_37 : decode cX3_penalties 37 = .ok (.goto (-20), 3) := by decide +kernel
theorem dX3_penalties_40 : decode cX3_penalties 40 = .ok (.iinc 3 1, 3) := by decide +kernel
theorem dX3_penalties_43 : decode cX3_penalties 43 = .ok (.goto (-34), 3) := by decide +kernel
theorem dX3_penalties_46 : decode cX3_penalties 46 = .ok (.lload_n 1, 1) := by decide +kernel
theorem dX3_penalties_47 : decode cX3_penalties 47 = .ok (.lreturn, 1) := by decide +kernel
theorem dJ9_max_7cf53_0 : decode cJ9_max_7cf53 0 = .ok (.iload_n 0, 1) := by decide +kernel
theorem dJ9_max_7cf53_1 : decode cJ9_max_7cf53 1 = .ok (.iload_n 1, 1) := by decide +kernel
theorem dJ9_max_7cf53_2 : decode cJ9_max_7cf53 2 = .ok (.if_icmp .lt 7, 3) := by decide +kernel
theorem dJ9_max_7cf53_5 : decode cJ9_max_7cf53 5 = .ok (.iload_n 0, 1) := by decide +kernel
theorem dJ9_max_7cf53_6 : decode cJ9_max_7cf53 6 = .ok (.goto 4, 3) := by decide +kernel
theorem dJ9_max_7cf53_9 : decode cJ9_max_7cf53 9 = .ok (.iload_n 1, 1) := by decide +kernel
theorem dJ9_max_7cf53_10 : decode cJ9_max_7cf53 10 = .ok (.ireturn, 1) := by decide +kernel
theorem dJ9_max_f86c9_0 : decode cJ9_max_f86c9 0 = .ok (.lload_n 0, 1) := by decide +kernel
theorem dJ9_max_f86c9_1 : decode cJ9_max_f86c9 1 = .ok (.lload_n 2, 1) := by decide +kernel
theorem dJ9_max_f86c9_2 : decode cJ9_max_f86c9 2 = .ok (.lcmp, 1) := by decide +kernel
theorem dJ9_max_f86c9_3 : decode cJ9_max_f86c9 3 = .ok (.ifCond .lt 7, 3) := by decide +kernel
theorem dJ9_max_f86c9_6 : decode cJ9_max_f86c9 6 = .ok (.lload_n 0, 1) := by decide +kernel
theorem dJ9_max_f86c9_7 : decode cJ9_max_f86c9 7 = .ok (.goto 4, 3) := by decide +kernel
theorem dJ9_max_f86c9_10 : decode cJ9_max_f86c9 10 = .ok (.lload_n 2, 1) := by decide +kernel
theorem dJ9_max_f86c9_11 : decode cJ9_max_f86c9 11 = .ok (.lreturn, 1) := by decide +kernel
theorem dJ9_min_7cf53_0 : decode cJ9_min_7cf53 0 = .ok (.iload_n 0, 1) := by decide +kernel
theorem dJ9_min_7cf53_1 : decode cJ9_min_7cf53 1 = .ok (.iload_n 1, 1) := by decide +kernel
theorem dJ9_min_7cf53_2 : decode cJ9_min_7cf53 2 = .ok (.if_icmp .gt 7, 3) := by decide +kernel
theorem dJ9_min_7cf53_5 : decode cJ9_min_7cf53 5 = .ok (.iload_n 0, 1) := by decide +kernel
theorem dJ9_min_7cf53_6 : decode cJ9_min_7cf53 6 = .ok (.goto 4, 3) := by decide +kernel
theorem dJ9_min_7cf53_9 : decode cJ9_min_7cf53 9 = .ok (.iload_n 1, 1) := by decide +kernel
theorem dJ9_min_7cf53_10 : decode cJ9_min_7cf53 10 = .ok (.ireturn, 1) := by decide +kernel
theorem dJ9_min_f86c9_0 : decode cJ9_min_f86c9 0 = .ok (.lload_n 0, 1) := by decide +kernel
theorem dJ9_min_f86c9_1 : decode cJ9_min_f86c9 1 = .ok (.lload_n 2, 1) := by decide +kernel
theorem dJ9_min_f86c9_2 : decode cJ9_min_f86c9 2 = .ok (.lcmp, 1) := by decide +kernel
theorem dJ9_min_f86c9_3 : decode cJ9_min_f86c9 3 = .ok (.ifCond .gt 7, 3) := by decide +kernel
theorem dJ9_min_f86c9_6 : decode cJ9_min_f86c9 6 = .ok (.lload_n 0, 1) := by decide +kernel
theorem dJ9_min_f86c9_7 : decode cJ9_min_f86c9 7 = .ok (.goto 4, 3) := by decide +kernel
theorem dJ9_min_f86c9_10 : decode cJ9_min_f86c9 10 = .ok (.lload_n 2, 1) := by decide +kernel
theorem dJ9_min_f86c9_11 : decode cJ9_min_f86c9 11 = .ok (.lreturn, 1) := by decide +kernel
