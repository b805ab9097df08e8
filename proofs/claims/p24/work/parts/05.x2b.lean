set_option maxRecDepth 20000 in
theorem ggX2_trade_X2_isWithin : GoodIn wsX2_trade wsX2_isWithin := goodIn_r _ [15] (by decide +kernel) (by decide +kernel)
set_option maxRecDepth 20000 in
theorem gX2_trade_X2_isWithin : GoodIn wsX2_trade (va_wsS RX2 50 yX2_isWithin wsX2_isWithin) := goodIn_app (goodIn_of _ (by decide +kernel)) ggX2_trade_X2_isWithin
set_option maxRecDepth 20000 in
theorem ggX2_trade_X2_leastObligation : GoodIn wsX2_trade wsX2_leastObligation := goodIn_r _ [25, 7, 26, 27, 28, 29, 30, 31, 11, 32, 33, 34, 35, 36, 37, 38, 39, 40, 41, 42, 43, 44, 45] (by decide +kernel) (by decide +kernel)
set_option maxRecDepth 20000 in
theorem gX2_trade_X2_leastObligation : GoodIn wsX2_trade (wsV RX2 160 RX2 yX2_leastObligation wsX2_leastObligation) := goodIn_app (goodIn_of _ (by decide +kernel)) ggX2_trade_X2_leastObligation
set_option maxRecDepth 20000 in
theorem ggX2_trade_X2_hourCell : GoodIn wsX2_trade wsX2_hourCell := goodIn_r _ [32, 33, 34, 11, 35] (by decide +kernel) (by decide +kernel)
set_option maxRecDepth 20000 in
theorem gX2_trade_X2_hourCell : GoodIn wsX2_trade (va_wsS RX2 154 yX2_hourCell wsX2_hourCell) := goodIn_app (goodIn_of _ (by decide +kernel)) ggX2_trade_X2_hourCell
theorem dX2_trade_0 : decode cX2_trade 0 = .ok (.iload_n 1, 1) := by decide +kernel
theorem dX2_trade_1 : decode cX2_trade 1 = .ok (.invokestatic 76, 3) := by decide +kernel
theorem dX2_trade_4 : decode cX2_trade 4 = .ok (.ifCond .eq 33, 3) := by decide +kernel
theorem dX2_trade_7 : decode cX2_trade 7 = .ok (.iload_n 2, 1) := by decide +kernel
theorem dX2_trade_8 : decode cX2_trade 8 = .ok (.invokestatic 76, 3) := by decide +kernel
theorem dX2_trade_11 : decode cX2_trade 11 = .ok (.ifCond .eq 26, 3) := by decide +kernel
theorem dX2_trade_14 : decode cX2_trade 14 = .ok (.iload_n 3, 1) := by decide +kernel
theorem dX2_trade_15 : decode cX2_trade 15 = .ok (.invokestatic 108, 3) := by decide +kernel
theorem dX2_trade_18 : decode cX2_trade 18 = .ok (.ifCond .eq 19, 3) := by decide +kernel
theorem dX2_trade_21 : decode cX2_trade 21 = .ok (.iload 4, 2) := by decide +kernel
theorem dX2_trade_23 : decode cX2_trade 23 = .ok (.invokestatic 149, 3) := by decide +kernel
theorem dX2_trade_26 : decode cX2_trade 26 = .ok (.ifCond .eq 11, 3) := by decide +kernel
theorem dX2_trade_29 : decode cX2_trade 29 = .ok (.iload 5, 2) := by decide +kernel
theorem dX2_trade_31 : decode cX2_trade 31 = .ok (.invokestatic 149, 3) := by decide +kernel
theorem dX2_trade_34 : decode cX2_trade 34 = .ok (.ifCond .ne 13, 3) := by decide +kernel
theorem dX2_trade_37 : decode cX2_trade 37 = .ok (.new 80, 3) := by decide +kernel
theorem dX2_trade_40 : decode cX2_trade 40 = .ok (.dup, 1) := by decide +kernel
theorem dX2_trade_41 : decode cX2_trade 41 = .ok (.ldc 152, 2) := by decide +kernel
theorem dX2_trade_43 : decode cX2_trade 43 = .ok (.invokespecial 84, 3) := by decide +kernel
theorem dX2_trade_46 : decode cX2_trade 46 = .ok (.athrow, 1) := by decide +kernel
theorem dX2_trade_47 : decode cX2_trade 47 = .ok (.iload_n 1, 1) := by decide +kernel
theorem dX2_trade_48 : decode cX2_trade 48 = .ok (.iload_n 2, 1) := by decide +kernel
theorem dX2_trade_49 : decode cX2_trade 49 = .ok (.if_icmp .eq 22, 3) := by decide +kernel
theorem dX2_trade_52 : decode cX2_trade 52 = .ok (.iload 5, 2) := by decide +kernel
theorem dX2_trade_54 : decode cX2_trade 54 = .ok (.iload 4, 2) := by decide +kernel
theorem dX2_trade_56 : decode cX2_trade 56 = .ok (.if_icmp .lt 15, 3) := by decide +kernel
theorem dX2_trade_59 : decode cX2_trade 59 = .ok (.iload 6, 2) := by decide +kernel
theorem dX2_trade_61 : decode cX2_trade 61 = .ok (.iconst 1, 1) := by decide +kernel
theorem dX2_trade_62 : decode cX2_trade 62 = .ok (.sipush 1000, 3) := by decide +kernel
theorem dX2_trade_65 : decode cX2_trade 65 = .ok (.invokestatic 50, 3) := by decide +kernel
theorem dX2_trade_68 : decode cX2_trade 68 = .ok (.ifCond .ne 13, 3) := by decide +kernel
theorem dX2_trade_71 : decode cX2_trade 71 = .ok (.new 54, 3) := by decide +kernel
theorem dX2_trade_74 : decode cX2_trade 74 = .ok (.dup, 1) := by decide +kernel
theorem dX2_trade_75 : decode cX2_trade 75 = .ok (.ldc 158, 2) := by decide +kernel
theorem dX2_trade_77 : decode cX2_trade 77 = .ok (.invokespecial 58, 3) := by decide +kernel
theorem dX2_trade_80 : decode cX2_trade 80 = .ok (.athrow, 1) := by decide +kernel
theorem dX2_trade_81 : decode cX2_trade 81 = .ok (.aload_n 0, 1) := by decide +kernel
theorem dX2_trade_82 : decode cX2_trade 82 = .ok (.iload_n 1, 1) := by decide +kernel
theorem dX2_trade_83 : decode cX2_trade 83 = .ok (.iload_n 3, 1) := by decide +kernel
theorem dX2_trade_84 : decode cX2_trade 84 = .ok (.iload 4, 2) := by decide +kernel
theorem dX2_trade_86 : decode cX2_trade 86 = .ok (.iload 5, 2) := by decide +kernel
theorem dX2_trade_88 : decode cX2_trade 88 = .ok (.invokevirtual 160, 3) := by decide +kernel
theorem dX2_trade_91 : decode cX2_trade 91 = .ok (.istore 7, 2) := by decide +kernel
theorem dX2_trade_93 : decode cX2_trade 93 = .ok (.iload 7, 2) := by decide +kernel
theorem dX2_trade_95 : decode cX2_trade 95 = .ok (.iload 6, 2) := by decide +kernel
theorem dX2_trade_97 : decode cX2_trade 97 = .ok (.if_icmp .ge 13, 3) := by decide +kernel
theorem dX2_trade_100 : decode cX2_trade 100 = .ok (.new 91, 3) := by decide +kernel
theorem dX2_trade_103 : decode cX2_trade 103 = .ok (.dup, 1) := by decide +kernel
theorem dX2_trade_104 : decode cX2_trade 104 = .ok (.ldc 163, 2) := by decide +kernel
theorem dX2_trade_106 : decode cX2_trade 106 = .ok (.invokespecial 95, 3) := by decide +kernel
theorem dX2_trade_109 : decode cX2_trade 109 = .ok (.athrow, 1) := by decide +kernel
theorem dX2_trade_110 : decode cX2_trade 110 = .ok (.iload 4, 2) := by decide +kernel
theorem dX2_trade_112 : decode cX2_trade 112 = .ok (.istore 8, 2) := by decide +kernel
theorem dX2_trade_114 : decode cX2_trade 114 = .ok (.iload 8, 2) := by decide +kernel
theorem dX2_trade_116 : decode cX2_trade 116 = .ok (.iload 5, 2) := by decide +kernel
theorem dX2_trade_118 : decode cX2_trade 118 = .ok (.if_icmp .gt 43, 3) := by decide +kernel
theorem dX2_trade_121 : decode cX2_trade 121 = .ok (.aload_n 0, 1) := by decide +kernel
theorem dX2_trade_122 : decode cX2_trade 122 = .ok (.getfield 30, 3) := by decide +kernel
theorem dX2_trade_125 : decode cX2_trade 125 = .ok (.iload_n 1, 1) := by decide +kernel
theorem dX2_trade_126 : decode cX2_trade 126 = .ok (.iload_n 3, 1) := by decide +kernel
theorem dX2_trade_127 : decode cX2_trade 127 = .ok (.iload 8, 2) := by decide +kernel
theorem dX2_trade_129 : decode cX2_trade 129 = .ok (.invokestatic 154, 3) := by decide +kernel
theorem dX2_trade_132 : decode cX2_trade 132 = .ok (.dup2, 1) := by decide +kernel
theorem dX2_trade_133 : decode cX2_trade 133 = .ok (.iaload, 1) := by decide +kernel
theorem dX2_trade_134 : decode cX2_trade 134 = .ok (.iload 6, 2) := by decide +kernel
theorem dX2_trade_136 : decode cX2_trade 136 = .ok (.isub, 1) := by decide +kernel
theorem dX2_trade_137 : decode cX2_trade 137 = .ok (.iastore, 1) := by decide +kernel
theorem dX2_trade_138 : decode cX2_trade 138 = .ok (.aload_n 0, 1) := by decide +kernel
theorem dX2_trade_139 : decode cX2_trade 139 = .ok (.getfield 30, 3) := by decide +kernel
theorem dX2_trade_142 : decode cX2_trade 142 = .ok (.iload_n 2, 1) := by decide +kernel
theorem dX2_trade_143 : decode cX2_trade 143 = .ok (.iload_n 3, 1) := by decide +kernel
theorem dX2_trade_144 : decode cX2_trade 144 = .ok (.iload 8, 2) := by decide +kernel
theorem dX2_trade_146 : decode cX2_trade 146 = .ok (.invokestatic 154, 3) := by decide +kernel
theorem dX2_trade_149 : decode cX2_trade 149 = .ok (.dup2, 1) := by decide +kernel
theorem dX2_trade_150 : decode cX2_trade 150 = .ok (.iaload, 1) := by decide +kernel
theorem dX2_trade_151 : decode cX2_trade 151 = .ok (.iload 6, 2) := by decide +kernel
theorem dX2_trade_153 : decode cX2_trade 153 = .ok (.iadd, 1) := by decide +kernel
theorem dX2_trade_154 : decode cX2_trade 154 = .ok (.iastore, 1) := by decide +kernel
theorem dX2_trade_155 : decode cX2_trade 155 = .ok (.iinc 8 1, 3) := by decide +kernel
theorem dX2_trade_158 : decode cX2_trade 158 = .ok (.goto (-44), 3) := by decide +kernel
theorem dX2_trade_161 : decode cX2_trade 161 = .ok (.aload_n 0, 1) := by decide +kernel
theorem dX2_trade_162 : decode cX2_trade 162 = .ok (.dup, 1) := by decide +kernel
theorem dX2_trade_163 : decode cX2_trade 163 = .ok (.getfield 40, 3) := by decide +kernel
theorem dX2_trade_166 : decode cX2_trade 166 = .ok (.iconst 1, 1) := by decide +kernel
theorem dX2_trade_167 : decode cX2_trade 167 = .ok (.iadd, 1) := by decide +kernel
theorem dX2_trade_168 : decode cX2_trade 168 = .ok (.putfield 40, 3) := by decide +kernel
theorem dX2_trade_171 : decode cX2_trade 171 = .ok (.iload 7, 2) := by decide +kernel
theorem dX2_trade_173 : decode cX2_trade 173 = .ok (.iload 6, 2) := by decide +kernel
theorem dX2_trade_175 : decode cX2_trade 175 = .ok (.isub, 1) := by decide +kernel
theorem dX2_trade_176 : decode cX2_trade 176 = .ok (.ireturn, 1) := by decide +kernel
theorem dX2_trades_0 : decode cX2_trades 0 = .ok (.aload_n 0, 1) := by decide +kernel
theorem dX2_trades_1 : decode cX2_trades 1 = .ok (.getfield 40, 3) := by decide +kernel
theorem dX2_trades_4 : decode cX2_trades 4 = .ok (.ireturn, 1) := by decide +kernel
set_option maxRecDepth 20000 in
theorem ggX2_stress_X2_isYear : GoodIn wsX2_stress wsX2_isYear := goodIn_r _ [7, 8, 9, 6, 10] (by decide +kernel) (by decide +kernel)
set_option maxRecDepth 20000 in
theorem gX2_stress_X2_isYear : GoodIn wsX2_stress (va_wsS RX2 108 yX2_isYear wsX2_isYear) := goodIn_app (goodIn_of _ (by decide +kernel)) ggX2_stress_X2_isYear
set_option maxRecDepth 20000 in
theorem ggX2_stress_X2_isHour : GoodIn wsX2_stress wsX2_isHour := goodIn_r _ [13, 8, 9, 6, 10] (by decide +kernel) (by decide +kernel)
set_option maxRecDepth 20000 in
theorem gX2_stress_X2_isHour : GoodIn wsX2_stress (va_wsS RX2 149 yX2_isHour wsX2_isHour) := goodIn_app (goodIn_of _ (by decide +kernel)) ggX2_stress_X2_isHour
theorem dX2_stress_0 : decode cX2_stress 0 = .ok (.iload_n 1, 1) := by decide +kernel
theorem dX2_stress_1 : decode cX2_stress 1 = .ok (.invokestatic 108, 3) := by decide +kernel
theorem dX2_stress_4 : decode cX2_stress 4 = .ok (.ifCond .eq 10, 3) := by decide +kernel
theorem dX2_stress_7 : decode cX2_stress 7 = .ok (.iload_n 2, 1) := by decide +kernel
theorem dX2_stress_8 : decode cX2_stress 8 = .ok (.invokestatic 149, 3) := by decide +kernel
theorem dX2_stress_11 : decode cX2_stress 11 = .ok (.ifCond .ne 13, 3) := by decide +kernel
theorem dX2_stress_14 : decode cX2_stress 14 = .ok (.new 80, 3) := by decide +kernel
theorem dX2_stress_17 : decode cX2_stress 17 = .ok (.dup, 1) := by decide +kernel
theorem dX2_stress_18 : decode cX2_stress 18 = .ok (.ldc 165, 2) := by decide +kernel
theorem dX2_stress_20 : decode cX2_stress 20 = .ok (.invokespecial 84, 3) := by decide +kernel
theorem dX2_stress_23 : decode cX2_stress 23 = .ok (.athrow, 1) := by decide +kernel
theorem dX2_stress_24 : decode cX2_stress 24 = .ok (.iload_n 1, 1) := by decide +kernel
theorem dX2_stress_25 : decode cX2_stress 25 = .ok (.bipush 12, 2) := by decide +kernel
theorem dX2_stress_27 : decode cX2_stress 27 = .ok (.imul, 1) := by decide +kernel
theorem dX2_stress_28 : decode cX2_stress 28 = .ok (.iload_n 2, 1) := by decide +kernel
theorem dX2_stress_29 : decode cX2_stress 29 = .ok (.iadd, 1) := by decide +kernel
theorem dX2_stress_30 : decode cX2_stress 30 = .ok (.istore_n 3, 1) := by decide +kernel
theorem dX2_stress_31 : decode cX2_stress 31 = .ok (.aload_n 0, 1) := by decide +kernel
theorem dX2_stress_32 : decode cX2_stress 32 = .ok (.getfield 36, 3) := by decide +kernel
theorem dX2_stress_35 : decode cX2_stress 35 = .ok (.iload_n 3, 1) := by decide +kernel
theorem dX2_stress_36 : decode cX2_stress 36 = .ok (.aload_n 0, 1) := by decide +kernel
theorem dX2_stress_37 : decode cX2_stress 37 = .ok (.getfield 36, 3) := by decide +kernel
theorem dX2_stress_40 : decode cX2_stress 40 = .ok (.iload_n 3, 1) := by decide +kernel
theorem dX2_stress_41 : decode cX2_stress 41 = .ok (.baload, 1) := by decide +kernel
theorem dX2_stress_42 : decode cX2_stress 42 = .ok (.ifCond .ne 7, 3) := by decide +kernel
theorem dX2_stress_45 : decode cX2_stress 45 = .ok (.iconst 1, 1) := by decide +kernel
theorem dX2_stress_46 : decode cX2_stress 46 = .ok (.goto 4, 3) := by decide +kernel
theorem dX2_stress_49 : decode cX2_stress 49 = .ok (.iconst 0, 1) := by decide +kernel
theorem dX2_stress_50 : decode cX2_stress 50 = .ok (.bastore, 1) := by decide +kernel
theorem dX2_stress_51 : decode cX2_stress 51 = .ok (.aload_n 0, 1) := by decide +kernel
theorem dX2_stress_52 : decode cX2_stress 52 = .ok (.getfield 36, 3) := by decide +kernel
theorem dX2_stress_55 : decode cX2_stress 55 = .ok (.iload_n 3, 1) := by decide +kernel
theorem dX2_stress_56 : decode cX2_stress 56 = .ok (.baload, 1) := by decide +kernel
theorem dX2_stress_57 : decode cX2_stress 57 = .ok (.ireturn, 1) := by decide +kernel
set_option maxRecDepth 20000 in
theorem ggX2_tell_X2_isParty : GoodIn wsX2_tell wsX2_isParty := goodIn_r _ [9, 10, 11, 8, 12] (by decide +kernel) (by decide +kernel)
set_option maxRecDepth 20000 in
theorem gX2_tell_X2_isParty : GoodIn wsX2_tell (va_wsS RX2 76 yX2_isParty wsX2_isParty) := goodIn_app (goodIn_of _ (by decide +kernel)) ggX2_tell_X2_isParty
set_option maxRecDepth 20000 in
theorem ggX2_tell_X2_isYear : GoodIn wsX2_tell wsX2_isYear := goodIn_r _ [15, 10, 11, 8, 12] (by decide +kernel) (by decide +kernel)
set_option maxRecDepth 20000 in
theorem gX2_tell_X2_isYear : GoodIn wsX2_tell (va_wsS RX2 108 yX2_isYear wsX2_isYear) := goodIn_app (goodIn_of _ (by decide +kernel)) ggX2_tell_X2_isYear
set_option maxRecDepth 20000 in
theorem ggX2_tell_X2_isHour : GoodIn wsX2_tell wsX2_isHour := goodIn_r _ [18, 10, 11, 8, 12] (by decide +kernel) (by decide +kernel)
set_option maxRecDepth 20000 in
theorem gX2_tell_X2_isHour : GoodIn wsX2_tell (va_wsS RX2 149 yX2_isHour wsX2_isHour) := goodIn_app (goodIn_of _ (by decide +kernel)) ggX2_tell_X2_isHour
set_option maxRecDepth 20000 in
theorem ggX2_tell_X2_isWithin : GoodIn wsX2_tell wsX2_isWithin := goodIn_r _ [12] (by decide +kernel) (by decide +kernel)
set_option maxRecDepth 20000 in
theorem gX2_tell_X2_isWithin : GoodIn wsX2_tell (va_wsS RX2 50 yX2_isWithin wsX2_isWithin) := goodIn_app (goodIn_of _ (by decide +kernel)) ggX2_tell_X2_isWithin
set_option maxRecDepth 20000 in
theorem ggX2_tell_X2_hourCell : GoodIn wsX2_tell wsX2_hourCell := goodIn_r _ [21, 22, 23, 8, 24] (by decide +kernel) (by decide +kernel)
set_option maxRecDepth 20000 in
theorem gX2_tell_X2_hourCell : GoodIn wsX2_tell (va_wsS RX2 154 yX2_hourCell wsX2_hourCell) := goodIn_app (goodIn_of _ (by decide +kernel)) ggX2_tell_X2_hourCell
theorem dX2_tell_0 : decode cX2_tell 0 = .ok (.iload_n 1, 1) := by decide +kernel
theorem dX2_tell_1 : decode cX2_tell 1 = .ok (.invokestatic 76, 3) := by decide +kernel
theorem dX2_tell_4 : decode cX2_tell 4 = .ok (.ifCond .eq 17, 3) := by decide +kernel
theorem dX2_tell_7 : decode cX2_tell 7 = .ok (.iload_n 2, 1) := by decide +kernel
theorem dX2_tell_8 : decode cX2_tell 8 = .ok (.invokestatic 108, 3) := by decide +kernel
theorem dX2_tell_11 : decode cX2_tell 11 = .ok (.ifCond .eq 10, 3) := by decide +kernel
theorem dX2_tell_14 : decode cX2_tell 14 = .ok (.iload_n 3, 1) := by decide +kernel
theorem dX2_tell_15 : decode cX2_tell 15 = .ok (.invokestatic 149, 3) := by decide +kernel
theorem dX2_tell_18 : decode cX2_tell 18 = .ok (.ifCond .ne 13, 3) := by decide +kernel
theorem dX2_tell_21 : decode cX2_tell 21 = .ok (.new 80, 3) := by decide +kernel
theorem dX2_tell_24 : decode cX2_tell 24 = .ok (.dup, 1) := by decide +kernel
theorem dX2_tell_25 : decode cX2_tell 25 = .ok (.ldc 152, 2) := by decide +kernel
theorem dX2_tell_27 : decode cX2_tell 27 = .ok (.invokespecial 84, 3) := by decide +kernel
theorem dX2_tell_30 : decode cX2_tell 30 = .ok (.athrow, 1) := by decide +kernel
theorem dX2_tell_31 : decode cX2_tell 31 = .ok (.iload 4, 2) := by decide +kernel
theorem dX2_tell_33 : decode cX2_tell 33 = .ok (.iconst 0, 1) := by decide +kernel
theorem dX2_tell_34 : decode cX2_tell 34 = .ok (.sipush 5000, 3) := by decide +kernel
theorem dX2_tell_37 : decode cX2_tell 37 = .ok (.invokestatic 50, 3) := by decide +kernel
theorem dX2_tell_40 : decode cX2_tell 40 = .ok (.ifCond .ne 13, 3) := by decide +kernel
theorem dX2_tell_43 : decode cX2_tell 43 = .ok (.new 54, 3) := by decide +kernel
theorem dX2_tell_46 : decode cX2_tell 46 = .ok (.dup, 1) := by decide +kernel
theorem dX2_tell_47 : decode cX2_tell 47 = .ok (.ldc 167, 2) := by decide +kernel
theorem dX2_tell_49 : decode cX2_tell 49 = .ok (.invokespecial 58, 3) := by decide +kernel
theorem dX2_tell_52 : decode cX2_tell 52 = .ok (.athrow, 1) := by decide +kernel
theorem dX2_tell_53 : decode cX2_tell 53 = .ok (.iload_n 1, 1) := by decide +kernel
theorem dX2_tell_54 : decode cX2_tell 54 = .ok (.iload_n 2, 1) := by decide +kernel
theorem dX2_tell_55 : decode cX2_tell 55 = .ok (.iload_n 3, 1) := by decide +kernel
theorem dX2_tell_56 : decode cX2_tell 56 = .ok (.invokestatic 154, 3) := by decide +kernel
theorem dX2_tell_59 : decode cX2_tell 59 = .ok (.istore 5, 2) := by decide +kernel
theorem dX2_tell_61 : decode cX2_tell 61 = .ok (.aload_n 0, 1) := by decide +kernel
theorem dX2_tell_62 : decode cX2_tell 62 = .ok (.getfield 33, 3) := by decide +kernel
theorem dX2_tell_65 : decode cX2_tell 65 = .ok (.iload 5, 2) := by decide +kernel
theorem dX2_tell_67 : decode cX2_tell 67 = .ok (.iaload, 1) := by decide +kernel
theorem dX2_tell_68 : decode cX2_tell 68 = .ok (.istore 6, 2) := by decide +kernel
theorem dX2_tell_70 : decode cX2_tell 70 = .ok (.aload_n 0, 1) := by decide +kernel
theorem dX2_tell_71 : decode cX2_tell 71 = .ok (.getfield 33, 3) := by decide +kernel
theorem dX2_tell_74 : decode cX2_tell 74 = .ok (.iload 5, 2) := by decide +kernel
theorem dX2_tell_76 : decode cX2_tell 76 = .ok (.iload 4, 2) := by decide +kernel
theorem dX2_tell_78 : decode cX2_tell 78 = .ok (.iastore, 1) := by decide +kernel
theorem dX2_tell_79 : decode cX2_tell 79 = .ok (.iload 6, 2) := by decide +kernel
theorem dX2_tell_81 : decode cX2_tell 81 = .ok (.ireturn, 1) := by decide +kernel
set_option maxRecDepth 20000 in
theorem ggX2_setPenalty_X2_isWithin : GoodIn wsX2_setPenalty wsX2_isWithin := goodIn_r _ [8] (by decide +kernel) (by decide +kernel)
set_option maxRecDepth 20000 in
theorem gX2_setPenalty_X2_isWithin : GoodIn wsX2_setPenalty (va_wsS RX2 50 yX2_isWithin wsX2_isWithin) := goodIn_app (goodIn_of _ (by decide +kernel)) ggX2_setPenalty_X2_isWithin
theorem dX2_setPenalty_0 : decode cX2_setPenalty 0 = .ok (.iload_n 1, 1) := by decide +kernel
theorem dX2_setPenalty_1 : decode cX2_setPenalty 1 = .ok (.iconst 0, 1) := by decide +kernel
theorem dX2_setPenalty_2 : decode cX2_setPenalty 2 = .ok (.sipush 1000, 3) := by decide +kernel
theorem dX2_setPenalty_5 : decode cX2_setPenalty 5 = .ok (.invokestatic 50, 3) := by decide +kernel
theorem dX2_setPenalty_8 : decode cX2_setPenalty 8 = .ok (.ifCond .eq 14, 3) := by decide +kernel
theorem dX2_setPenalty_11 : decode cX2_setPenalty 11 = .ok (.iload_n 2, 1) := by decide +kernel
theorem dX2_setPenalty_12 : decode cX2_setPenalty 12 = .ok (.iconst 0, 1) := by decide +kernel
theorem dX2_setPenalty_13 : decode cX2_setPenalty 13 = .ok (.sipush 200, 3) := by decide +kernel
theorem dX2_setPenalty_16 : decode cX2_setPenalty 16 = .ok (.invokestatic 50, 3) := by decide +kernel
theorem dX2_setPenalty_19 : decode cX2_setPenalty 19 = .ok (.ifCond .ne 13, 3) := by decide +kernel
theorem dX2_setPenalty_22 : decode cX2_setPenalty 22 = .ok (.new 54, 3) := by decide +kernel
theorem dX2_setPenalty_25 : decode cX2_setPenalty 25 = .ok (.dup, 1) := by decide +kernel
theorem dX2_setPenalty_26 : decode cX2_setPenalty 26 = .ok (.ldc 169, 2) := by decide +kernel
theorem dX2_setPenalty_28 : decode cX2_setPenalty 28 = .ok (.invokespecial 58, 3) := by decide +kernel
theorem dX2_setPenalty_31 : decode cX2_setPenalty 31 = .ok (.athrow, 1) := by decide +kernel
theorem dX2_setPenalty_32 : decode cX2_setPenalty 32 = .ok (.aload_n 0, 1) := by decide +kernel
theorem dX2_setPenalty_33 : decode cX2_setPenalty 33 = .ok (.iload_n 1, 1) := by decide +kernel
theorem dX2_setPenalty_34 : decode cX2_setPenalty 34 = .ok (.putfield 44, 3) := by decide +kernel
theorem dX2_setPenalty_37 : decode cX2_setPenalty 37 = .ok (.aload_n 0, 1) := by decide +kernel
theorem dX2_setPenalty_38 : decode cX2_setPenalty 38 = .ok (.iload_n 2, 1) := by decide +kernel
theorem dX2_setPenalty_39 : decode cX2_setPenalty 39 = .ok (.putfield 47, 3) := by decide +kernel
theorem dX2_setPenalty_42 : decode cX2_setPenalty 42 = .ok (.return_, 1) := by decide +kernel
set_option maxRecDepth 20000 in
theorem ggX2_lack_X2_isParty : GoodIn wsX2_lack wsX2_isParty := goodIn_r _ [6, 7, 8, 5, 9] (by decide +kernel) (by decide +kernel)
set_option maxRecDepth 20000 in
theorem gX2_lack_X2_isParty : GoodIn wsX2_lack (va_wsS RX2 76 yX2_isParty wsX2_isParty) := goodIn_app (goodIn_of _ (by decide +kernel)) ggX2_lack_X2_isParty
set_option maxRecDepth 20000 in
theorem ggX2_lack_X2_isYear : GoodIn wsX2_lack wsX2_isYear := goodIn_r _ [12, 7, 8, 5, 9] (by decide +kernel) (by decide +kernel)
set_option maxRecDepth 20000 in
theorem gX2_lack_X2_isYear : GoodIn wsX2_lack (va_wsS RX2 108 yX2_isYear wsX2_isYear) := goodIn_app (goodIn_of _ (by decide +kernel)) ggX2_lack_X2_isYear
set_option maxRecDepth 20000 in
theorem ggX2_lack_X2_lackOf : GoodIn wsX2_lack wsX2_lackOf := goodIn_r _ [16, 17, 18, 19, 20, 21, 5, 22, 23, 24, 25, 26, 27, 28, 29, 30, 31, 32, 33, 34, 35] (by decide +kernel) (by decide +kernel)
set_option maxRecDepth 20000 in
theorem gX2_lack_X2_lackOf : GoodIn wsX2_lack (wsV RX2 171 RX2 yX2_lackOf wsX2_lackOf) := goodIn_app (goodIn_of _ (by decide +kernel)) ggX2_lack_X2_lackOf
theorem dX2_lack_0 : decode cX2_lack 0 = .ok (.iload_n 1, 1) := by decide +kernel
theorem dX2_lack_1 : decode cX2_lack 1 = .ok (.invokestatic 76, 3) := by decide +kernel
theorem dX2_lack_4 : decode cX2_lack 4 = .ok (.ifCond .eq 10, 3) := by decide +kernel
theorem dX2_lack_7 : decode cX2_lack 7 = .ok (.iload_n 2, 1) := by decide +kernel
theorem dX2_lack_8 : decode cX2_lack 8 = .ok (.invokestatic 108, 3) := by decide +kernel
theorem dX2_lack_11 : decode cX2_lack 11 = .ok (.ifCond .ne 13, 3) := by decide +kernel
theorem dX2_lack_14 : decode cX2_lack 14 = .ok (.new 80, 3) := by decide +kernel
theorem dX2_lack_17 : decode cX2_lack 17 = .ok (.dup, 1) := by decide +kernel
theorem dX2_lack_18 : decode cX2_lack 18 = .ok (.ldc 143, 2) := by decide +kernel
theorem dX2_lack_20 : decode cX2_lack 20 = .ok (.invokespecial 84, 3) := by decide +kernel
theorem dX2_lack_23 : decode cX2_lack 23 = .ok (.athrow, 1) := by decide +kernel
theorem dX2_lack_24 : decode cX2_lack 24 = .ok (.aload_n 0, 1) := by decide +kernel
theorem dX2_lack_25 : decode cX2_lack 25 = .ok (.iload_n 1, 1) := by decide +kernel
theorem dX2_lack_26 : decode cX2_lack 26 = .ok (.iload_n 2, 1) := by decide +kernel
theorem dX2_lack_27 : decode cX2_lack 27 = .ok (.invokevirtual 171, 3) := by decide +kernel
theorem dX2_lack_30 : decode cX2_lack 30 = .ok (.ireturn, 1) := by decide +kernel
set_option maxRecDepth 20000 in
theorem ggX2_penalty_X2_isParty : GoodIn wsX2_penalty wsX2_isParty := goodIn_r _ [6, 7, 8, 5, 9] (by decide +kernel) (by decide +kernel)
set_option maxRecDepth 20000 in
theorem gX2_penalty_X2_isParty : GoodIn wsX2_penalty (va_wsS RX2 76 yX2_isParty wsX2_isParty) := goodIn_app (goodIn_of _ (by decide +kernel)) ggX2_penalty_X2_isParty
set_option maxRecDepth 20000 in
theorem ggX2_penalty_X2_isYear : GoodIn wsX2_penalty wsX2_isYear := goodIn_r _ [12, 7, 8, 5, 9] (by decide +kernel) (by decide +kernel)
set_option maxRecDepth 20000 in
theorem gX2_penalty_X2_isYear : GoodIn wsX2_penalty (va_wsS RX2 108 yX2_isYear wsX2_isYear) := goodIn_app (goodIn_of _ (by decide +kernel)) ggX2_penalty_X2_isYear
set_option maxRecDepth 20000 in
theorem ggX2_penalty_X2_penaltyOf : GoodIn wsX2_penalty wsX2_penaltyOf := goodIn_r _ [16, 17, 18, 19, 20, 21, 22, 23, 24, 25, 26, 27, 28, 29, 30, 5, 31, 32, 33, 34, 35, 36, 37, 38, 39, 40, 41, 42, 43, 44, 45, 46, 47, 48, 49, 50] (by decide +kernel) (by decide +kernel)
set_option maxRecDepth 20000 in
theorem gX2_penalty_X2_penaltyOf : GoodIn wsX2_penalty (wsV RX2 174 RX2 yX2_penaltyOf wsX2_penaltyOf) := goodIn_app (goodIn_of _ (by decide +kernel)) ggX2_penalty_X2_penaltyOf
theorem dX2_penalty_0 : decode cX2_penalty 0 = .ok (.iload_n 1, 1) := by decide +kernel
theorem dX2_penalty_1 : decode cX2_penalty 1 = .ok (.invokestatic 76, 3) := by decide +kernel
theorem dX2_penalty_4 : decode cX2_penalty 4 = .ok (.ifCond .eq 10, 3) := by decide +kernel
theorem dX2_penalty_7 : decode cX2_penalty 7 = .ok (.iload_n 2, 1) := by decide +kernel
theorem dX2_penalty_8 : decode cX2_penalty 8 = .ok (.invokestatic 108, 3) := by decide +kernel
theorem dX2_penalty_11 : decode cX2_penalty 11 = .ok (.ifCond .ne 13, 3) := by decide +kernel
theorem dX2_penalty_14 : decode cX2_penalty 14 = .ok (.new 80, 3) := by decide +kernel
theorem dX2_penalty_17 : decode cX2_penalty 17 = .ok (.dup, 1) := by decide +kernel
theorem dX2_penalty_18 : decode cX2_penalty 18 = .ok (.ldc 143, 2) := by decide +kernel
theorem dX2_penalty_20 : decode cX2_penalty 20 = .ok (.invokespecial 84, 3) := by decide +kernel
theorem dX2_penalty_23 : decode cX2_penalty 23 = .ok (.athrow, 1) := by decide +kernel
theorem dX2_penalty_24 : decode cX2_penalty 24 = .ok (.aload_n 0, 1) := by decide +kernel
theorem dX2_penalty_25 : decode cX2_penalty 25 = .ok (.iload_n 1, 1) := by decide +kernel
theorem dX2_penalty_26 : decode cX2_penalty 26 = .ok (.iload_n 2, 1) := by decide +kernel
theorem dX2_penalty_27 : decode cX2_penalty 27 = .ok (.invokevirtual 174, 3) := by decide +kernel
theorem dX2_penalty_30 : decode cX2_penalty 30 = .ok (.ireturn, 1) := by decide +kernel
set_option maxRecDepth 20000 in
theorem ggX2_penalties_X2_penaltyOf : GoodIn wsX2_penalties wsX2_penaltyOf := goodIn_r _ [5, 6, 7, 8, 9, 10, 11, 12, 13, 14, 15, 16, 17, 18, 19, 4, 20, 21, 22, 23, 24, 25, 26, 27, 28, 29, 30, 31, 32, 33, 34, 35, 36, 37, 38, 39] (by decide +kernel) (by decide +kernel)
set_option maxRecDepth 20000 in
theorem gX2_penalties_X2_penaltyOf : GoodIn wsX2_penalties (wsV RX2 174 RX2 yX2_penaltyOf wsX2_penaltyOf) := goodIn_app (goodIn_of _ (by decide +kernel)) ggX2_penalties_X2_penaltyOf
theorem dX2_penalties_0 : decode cX2_penalties 0 = .ok (.lconst 0, 1) := by decide +kernel
theorem dX2_penalties_1 : decode cX2_penalties 1 = .ok (.lstore_n 1, 1) := by decide +kernel
theorem dX2_penalties_2 : decode cX2_penalties 2 = .ok (.iconst 0, 1) := by decide +kernel
theorem dX2_penalties_3 : decode cX2_penalties 3 = .ok (.istore_n 3, 1) := by decide +kernel
theorem dX2_penalties_4 : decode cX2_penalties 4 = .ok (.iload_n 3, 1) := by decide +kernel
theorem dX2_penalties_5 : decode cX2_penalties 5 = .ok (.iconst 5, 1) := by decide +kernel
theorem dX2_penalties_6 : decode cX2_penalties 6 = .ok (.if_icmp .ge 36, 3) := by decide +kernel
theorem dX2_penalties_9 : decode cX2_penalties 9 = .ok (.iconst 0, 1) := by decide +kernel
theorem dX2_penalties_10 : decode cX2_penalties 10 = .ok (.istore 4, 2) := by decide +kernel
theorem dX2_penalties_12 : decode cX2_penalties 12 = .ok (.iload 4, 2) := by decide +kernel
theorem dX2_penalties_14 : decode cX2_penalties 14 = .ok (.bipush 8, 2) := by decide +kernel
theorem dX2_penalties_16 : decode cX2_penalties 16 = .ok (.if_icmp .ge 20, 3) := by decide +kernel
theorem dX2_penalties_19 : decode cX2_penalties 19 = .ok (.lload_n 1, 1) := by decide +kernel
theorem dX2_penalties_20 : decode cX2_penalties 20 = .ok (.aload_n 0, 1) := by decide +kernel
theorem dX2_penalties_21 : decode cX2_penalties 21 = .ok (.iload_n 3, 1) := by decide +kernel
theorem dX2_penalties_22 : decode cX2_penalties 22 = .ok (.iload 4, 2) := by decide +kernel
theorem dX2_penalties_24 : decode cX2_penalties 24 = .ok (.invokevirtual 174, 3) := by decide +kernel
theorem dX2_penalties_27 : decode cX2_penalties 27 = .ok (.i2l, 1) := by decide +kernel
theorem dX2_penalties_28 : decode cX2_penalties 28 = .ok (.ladd, 1) := by decide +kernel
theorem dX2_penalties_29 : decode cX2_penalties 29 = .ok (.lstore_n 1, 1) := by decide +kernel
theorem dX2_penalties_30 : decode cX2_penalties 30 = .ok (.iinc 4 1, 3) := by decide +kernel
theorem dX2_penalties_33 : decode cX2_penalties 33 = .ok (.goto (-21), 3) := by decide +kernel
theorem dX2_penalties_36 : decode cX2_penalties 36 = .ok (.iinc 3 1, 3) := by decide +kernel
theorem dX2_penalties_39 : decode cX2_penalties 39 = .ok (.goto (-35), 3) := by decide +kernel
theorem dX2_penalties_42 : decode cX2_penalties 42 = .ok (.lload_n 1, 1) := by decide +kernel
theorem dX2_penalties_43 : decode cX2_penalties 43 = .ok (.lreturn, 1) := by decide +kernel
theorem dX2_isWithin_0 : decode cX2_isWithin 0 = .ok (.iload_n 0, 1) := by decide +kernel
theorem dX2_isWithin_1 : decode cX2_isWithin 1 = .ok (.iload_n 1, 1) := by decide +kernel
theorem dX2_isWithin_2 : decode cX2_isWithin 2 = .ok (.if_icmp .lt 12, 3) := by decide +kernel
theorem dX2_isWithin_5 : decode cX2_isWithin 5 = .ok (.iload_n 0, 1) := by decide +kernel
theorem dX2_isWithin_6 : decode cX2_isWithin 6 = .ok (.iload_n 2, 1) := by decide +kernel
theorem dX2_isWithin_7 : decode cX2_isWithin 7 = .ok (.if_icmp .gt 7, 3) := by decide +kernel
theorem dX2_isWithin_10 : decode cX2_isWithin 10 = .ok (.iconst 1, 1) := by decide +kernel
theorem dX2_isWithin_11 : decode cX2_isWithin 11 = .ok (.goto 4, 3) := by decide +kernel
theorem dX2_isWithin_14 : decode cX2_isWithin 14 = .ok (.iconst 0, 1) := by decide +kernel
theorem dX2_isWithin_15 : decode cX2_isWithin 15 = .ok (.ireturn, 1) := by decide +kernel
set_option maxRecDepth 20000 in
theorem ggX2_isParty_X2_isWithin : GoodIn wsX2_isParty wsX2_isWithin := goodIn_r _ [4] (by decide +kernel) (by decide +kernel)
set_option maxRecDepth 20000 in
theorem gX2_isParty_X2_isWithin : GoodIn wsX2_isParty (va_wsS RX2 50 yX2_isWithin wsX2_isWithin) := goodIn_app (goodIn_of _ (by decide +kernel)) ggX2_isParty_X2_isWithin
theorem dX2_isParty_0 : decode cX2_isParty 0 = .ok (.iload_n 0, 1) := by decide +kernel
theorem dX2_isParty_1 : decode cX2_isParty 1 = .ok (.iconst 0, 1) := by decide +kernel
theorem dX2_isParty_2 : decode cX2_isParty 2 = .ok (.iconst 4, 1) := by decide +kernel
theorem dX2_isParty_3 : decode cX2_isParty 3 = .ok (.invokestatic 50, 3) := by decide +kernel
theorem dX2_isParty_6 : decode cX2_isParty 6 = .ok (.ireturn, 1) := by decide +kernel
set_option maxRecDepth 20000 in
theorem ggX2_isYear_X2_isWithin : GoodIn wsX2_isYear wsX2_isWithin := goodIn_r _ [4] (by decide +kernel) (by decide +kernel)
set_option maxRecDepth 20000 in
theorem gX2_isYear_X2_isWithin : GoodIn wsX2_isYear (va_wsS RX2 50 yX2_isWithin wsX2_isWithin) := goodIn_app (goodIn_of _ (by decide +kernel)) ggX2_isYear_X2_isWithin
theorem dX2_isYear_0 : decode cX2_isYear 0 = .ok (.iload_n 0, 1) := by decide +kernel
theorem dX2_isYear_1 : decode cX2_isYear 1 = .ok (.iconst 0, 1) := by decide +kernel
theorem dX2_isYear_2 : decode cX2_isYear 2 = .ok (.bipush 7, 2) := by decide +kernel
theorem dX2_isYear_4 : decode cX2_isYear 4 = .ok (.invokestatic 50, 3) := by decide +kernel
theorem dX2_isYear_7 : decode cX2_isYear 7 = .ok (.ireturn, 1) := by decide +kernel
set_option maxRecDepth 20000 in
theorem ggX2_isHour_X2_isWithin : GoodIn wsX2_isHour wsX2_isWithin := goodIn_r _ [4] (by decide +kernel) (by decide +kernel)
set_option maxRecDepth 20000 in
theorem gX2_isHour_X2_isWithin : GoodIn wsX2_isHour (va_wsS RX2 50 yX2_isWithin wsX2_isWithin) := goodIn_app (goodIn_of _ (by decide +kernel)) ggX2_isHour_X2_isWithin
theorem dX2_isHour_0 : decode cX2_isHour 0 = .ok (.iload_n 0, 1) := by decide +kernel
theorem dX2_isHour_1 : decode cX2_isHour 1 = .ok (.iconst 0, 1) := by decide +kernel
theorem dX2_isHour_2 : decode cX2_isHour 2 = .ok (.bipush 11, 2) := by decide +kernel
theorem dX2_isHour_4 : decode cX2_isHour 4 = .ok (.invokestatic 50, 3) := by decide +kernel
theorem dX2_isHour_7 : decode cX2_isHour 7 = .ok (.ireturn, 1) := by decide +kernel
theorem dX2_yearCell_0 : decode cX2_yearCell 0 = .ok (.iload_n 0, 1) := by decide +kernel
theorem dX2_yearCell_1 : decode cX2_yearCell 1 = .ok (.bipush 8, 2) := by decide +kernel
theorem dX2_yearCell_3 : decode cX2_yearCell 3 = .ok (.imul, 1) := by decide +kernel
theorem dX2_yearCell_4 : decode cX2_yearCell 4 = .ok (.iload_n 1, 1) := by decide +kernel
theorem dX2_yearCell_5 : decode cX2_yearCell 5 = .ok (.iadd, 1) := by decide +kernel
theorem dX2_yearCell_6 : decode cX2_yearCell 6 = .ok (.ireturn, 1) := by decide +kernel
set_option maxRecDepth 20000 in
theorem ggX2_hourCell_X2_yearCell : GoodIn wsX2_hourCell wsX2_yearCell := goodIn_r _ [4] (by decide +kernel) (by decide +kernel)
set_option maxRecDepth 20000 in
theorem gX2_hourCell_X2_yearCell : GoodIn wsX2_hourCell (va_wsS RX2 145 yX2_yearCell wsX2_yearCell) := goodIn_app (goodIn_of _ (by decide +kernel)) ggX2_hourCell_X2_yearCell
theorem dX2_hourCell_0 : decode cX2_hourCell 0 = .ok (.iload_n 0, 1) := by decide +kernel
theorem dX2_hourCell_1 : decode cX2_hourCell 1 = .ok (.iload_n 1, 1) := by decide +kernel
theorem dX2_hourCell_2 : decode cX2_hourCell 2 = .ok (.invokestatic 145, 3) := by decide +kernel
theorem dX2_hourCell_5 : decode cX2_hourCell 5 = .ok (.bipush 12, 2) := by decide +kernel
theorem dX2_hourCell_7 : decode cX2_hourCell 7 = .ok (.imul, 1) := by decide +kernel
theorem dX2_hourCell_8 : decode cX2_hourCell 8 = .ok (.iload_n 2, 1) := by decide +kernel
theorem dX2_hourCell_9 : decode cX2_hourCell 9 = .ok (.iadd, 1) := by decide +kernel
theorem dX2_hourCell_10 : decode cX2_hourCell 10 = .ok (.ireturn, 1) := by decide +kernel
set_option maxRecDepth 20000 in
theorem ggX2_take_X2_yearCell : GoodIn wsX2_take wsX2_yearCell := goodIn_r _ [15] (by decide +kernel) (by decide +kernel)
set_option maxRecDepth 20000 in
theorem gX2_take_X2_yearCell : GoodIn wsX2_take (va_wsS RX2 145 yX2_yearCell wsX2_yearCell) := goodIn_app (goodIn_of _ (by decide +kernel)) ggX2_take_X2_yearCell
set_option maxRecDepth 20000 in
theorem ggX2_take_X2_hourCell : GoodIn wsX2_take wsX2_hourCell := goodIn_r _ [18, 12, 13, 14, 15] (by decide +kernel) (by decide +kernel)
set_option maxRecDepth 20000 in
theorem gX2_take_X2_hourCell : GoodIn wsX2_take (va_wsS RX2 154 yX2_hourCell wsX2_hourCell) := goodIn_app (goodIn_of _ (by decide +kernel)) ggX2_take_X2_hourCell
theorem dX2_take_0 : decode cX2_take 0 = .ok (.aload_n 0, 1) := by decide +kernel
theorem dX2_take_1 : decode cX2_take 1 = .ok (.getfield 19, 3) := by decide +kernel
theorem dX2_take_4 : decode cX2_take 4 = .ok (.getfield 177, 3) := by decide +kernel
theorem dX2_take_7 : decode cX2_take 7 = .ok (.iload_n 1, 1) := by decide +kernel
theorem dX2_take_8 : decode cX2_take 8 = .ok (.iaload, 1) := by decide +kernel
theorem dX2_take_9 : decode cX2_take 9 = .ok (.istore 4, 2) := by decide +kernel
theorem dX2_take_11 : decode cX2_take 11 = .ok (.aload_n 0, 1) := by decide +kernel
theorem dX2_take_12 : decode cX2_take 12 = .ok (.getfield 19, 3) := by decide +kernel
theorem dX2_take_15 : decode cX2_take 15 = .ok (.getfield 180, 3) := by decide +kernel
theorem dX2_take_18 : decode cX2_take 18 = .ok (.iload_n 1, 1) := by decide +kernel
theorem dX2_take_19 : decode cX2_take 19 = .ok (.iaload, 1) := by decide +kernel
theorem dX2_take_20 : decode cX2_take 20 = .ok (.istore 5, 2) := by decide +kernel
theorem dX2_take_22 : decode cX2_take 22 = .ok (.iload_n 2, 1) := by decide +kernel
theorem dX2_take_23 : decode cX2_take 23 = .ok (.aload_n 0, 1) := by decide +kernel
theorem dX2_take_24 : decode cX2_take 24 = .ok (.getfield 19, 3) := by decide +kernel
theorem dX2_take_27 : decode cX2_take 27 = .ok (.getfield 183, 3) := by decide +kernel
theorem dX2_take_30 : decode cX2_take 30 = .ok (.iload_n 1, 1) := by decide +kernel
theorem dX2_take_31 : decode cX2_take 31 = .ok (.iaload, 1) := by decide +kernel
theorem dX2_take_32 : decode cX2_take 32 = .ok (.iadd, 1) := by decide +kernel
theorem dX2_take_33 : decode cX2_take 33 = .ok (.bipush 8, 2) := by decide +kernel
theorem dX2_take_35 : decode cX2_take 35 = .ok (.invokestatic 186, 3) := by decide +kernel
theorem dX2_take_38 : decode cX2_take 38 = .ok (.istore 6, 2) := by decide +kernel
theorem dX2_take_40 : decode cX2_take 40 = .ok (.iload_n 2, 1) := by decide +kernel
theorem dX2_take_41 : decode cX2_take 41 = .ok (.istore 7, 2) := by decide +kernel
theorem dX2_take_43 : decode cX2_take 43 = .ok (.iload 7, 2) := by decide +kernel
theorem dX2_take_45 : decode cX2_take 45 = .ok (.iload 6, 2) := by decide +kernel
theorem dX2_take_47 : decode cX2_take 47 = .ok (.if_icmp .ge 75, 3) := by decide +kernel
theorem dX2_take_50 : decode cX2_take 50 = .ok (.aload_n 0, 1) := by decide +kernel
theorem dX2_take_51 : decode cX2_take 51 = .ok (.getfield 23, 3) := by decide +kernel
theorem dX2_take_54 : decode cX2_take 54 = .ok (.iload 7, 2) := by decide +kernel
theorem dX2_take_56 : decode cX2_take 56 = .ok (.dup2, 1) := by decide +kernel
theorem dX2_take_57 : decode cX2_take 57 = .ok (.iaload, 1) := by decide +kernel
theorem dX2_take_58 : decode cX2_take 58 = .ok (.iload 5, 2) := by decide +kernel
theorem dX2_take_60 : decode cX2_take 60 = .ok (.iadd, 1) := by decide +kernel
theorem dX2_take_61 : decode cX2_take 61 = .ok (.iastore, 1) := by decide +kernel
theorem dX2_take_62 : decode cX2_take 62 = .ok (.aload_n 0, 1) := by decide +kernel
theorem dX2_take_63 : decode cX2_take 63 = .ok (.getfield 27, 3) := by decide +kernel
theorem dX2_take_66 : decode cX2_take 66 = .ok (.iload 4, 2) := by decide +kernel
theorem dX2_take_68 : decode cX2_take 68 = .ok (.iload 7, 2) := by decide +kernel
theorem dX2_take_70 : decode cX2_take 70 = .ok (.invokestatic 145, 3) := by decide +kernel
theorem dX2_take_73 : decode cX2_take 73 = .ok (.dup2, 1) := by decide +kernel
theorem dX2_take_74 : decode cX2_take 74 = .ok (.iaload, 1) := by decide +kernel
theorem dX2_take_75 : decode cX2_take 75 = .ok (.iload 5, 2) := by decide +kernel
theorem dX2_take_77 : decode cX2_take 77 = .ok (.iload_n 3, 1) := by decide +kernel
theorem dX2_take_78 : decode cX2_take 78 = .ok (.imul, 1) := by decide +kernel
theorem dX2_take_79 : decode cX2_take 79 = .ok (.iadd, 1) := by decide +kernel
theorem dX2_take_80 : decode cX2_take 80 = .ok (.iastore, 1) := by decide +kernel
theorem dX2_take_81 : decode cX2_take 81 = .ok (.iconst 0, 1) := by decide +kernel
theorem dX2_take_82 : decode cX2_take 82 = .ok (.istore 8, 2) := by decide +kernel
theorem dX2_take_84 : decode cX2_take 84 = .ok (.iload 8, 2) := by decide +kernel
theorem dX2_take_86 : decode cX2_take 86 = .ok (.bipush 12, 2) := by decide +kernel
theorem dX2_take_88 : decode cX2_take 88 = .ok (.if_icmp .ge 28, 3) := by decide +kernel
theorem dX2_take_91 : decode cX2_take 91 = .ok (.aload_n 0, 1) := by decide +kernel
theorem dX2_take_92 : decode cX2_take 92 = .ok (.getfield 30, 3) := by decide +kernel
theorem dX2_take_95 : decode cX2_take 95 = .ok (.iload 4, 2) := by decide +kernel
theorem dX2_take_97 : decode cX2_take 97 = .ok (.iload 7, 2) := by decide +kernel
theorem dX2_take_99 : decode cX2_take 99 = .ok (.iload 8, 2) := by decide +kernel
theorem dX2_take_101 : decode cX2_take 101 = .ok (.invokestatic 154, 3) := by decide +kernel
theorem dX2_take_104 : decode cX2_take 104 = .ok (.dup2, 1) := by decide +kernel
theorem dX2_take_105 : decode cX2_take 105 = .ok (.iaload, 1) := by decide +kernel
theorem dX2_take_106 : decode cX2_take 106 = .ok (.iload 5, 2) := by decide +kernel
theorem dX2_take_108 : decode cX2_take 108 = .ok (.iadd, 1) := by decide +kernel
theorem dX2_take_109 : decode cX2_take 109 = .ok (.iastore, 1) := by decide +kernel
theorem dX2_take_110 : decode cX2_take 110 = .ok (.iinc 8 1, 3) := by decide +kernel
theorem dX2_take_113 : decode cX2_take 113 = .ok (.goto (-29), 3) := by decide +kernel
theorem dX2_take_116 : decode cX2_take 116 = .ok (.iinc 7 1, 3) := by decide +kernel
theorem dX2_take_119 : decode cX2_take 119 = .ok (.goto (-76), 3) := by decide +kernel
theorem dX2_take_122 : decode cX2_take 122 = .ok (.return_, 1) := by decide +kernel
set_option maxRecDepth 20000 in
theorem ggX2_leastObligation_X2_hourCell : GoodIn wsX2_leastObligation wsX2_hourCell := goodIn_r _ [9, 10, 11, 8, 12] (by decide +kernel) (by decide +kernel)
set_option maxRecDepth 20000 in
theorem gX2_leastObligation_X2_hourCell : GoodIn wsX2_leastObligation (va_wsS RX2 154 yX2_hourCell wsX2_hourCell) := goodIn_app (goodIn_of _ (by decide +kernel)) ggX2_leastObligation_X2_hourCell
theorem dX2_leastObligation_0 : decode cX2_leastObligation 0 = .ok (.aload_n 0, 1) := by decide +kernel
theorem dX2_leastObligation_1 : decode cX2_leastObligation 1 = .ok (.getfield 30, 3) := by decide +kernel
theorem dX2_leastObligation_4 : decode cX2_leastObligation 4 = .ok (.iload_n 1, 1) := by decide +kernel
theorem dX2_leastObligation_5 : decode cX2_leastObligation 5 = .ok (.iload_n 2, 1) := by decide +kernel
theorem dX2_leastObligation_6 : decode cX2_leastObligation 6 = .ok (.iload_n 3, 1) := by decide +kernel
theorem dX2_leastObligation_7 : decode cX2_leastObligation 7 = .ok (.invokestatic 154, 3) := by decide +kernel
theorem dX2_leastObligation_10 : decode cX2_leastObligation 10 = .ok (.iaload, 1) := by decide +kernel
theorem dX2_leastObligation_11 : decode cX2_leastObligation 11 = .ok (.istore 5, 2) := by decide +kernel
theorem dX2_leastObligation_13 : decode cX2_leastObligation 13 = .ok (.iload_n 3, 1) := by decide +kernel
theorem dX2_leastObligation_14 : decode cX2_leastObligation 14 = .ok (.iconst 1, 1) := by decide +kernel
theorem dX2_leastObligation_15 : decode cX2_leastObligation 15 = .ok (.iadd, 1) := by decide +kernel
theorem dX2_leastObligation_16 : decode cX2_leastObligation 16 = .ok (.istore 6, 2) := by decide +kernel
theorem dX2_leastObligation_18 : decode cX2_leastObligation 18 = .ok (.iload 6, 2) := by decide +kernel
theorem dX2_leastObligation_20 : decode cX2_leastObligation 20 = .ok (.iload 4, 2) := by decide +kernel
theorem dX2_leastObligation_22 : decode cX2_leastObligation 22 = .ok (.if_icmp .gt 28, 3) := by decide +kernel
theorem dX2_leastObligation_25 : decode cX2_leastObligation 25 = .ok (.iload 5, 2) := by decide +kernel
theorem dX2_leastObligation_27 : decode cX2_leastObligation 27 = .ok (.aload_n 0, 1) := by decide +kernel
theorem dX2_leastObligation_28 : decode cX2_leastObligation 28 = .ok (.getfield 30, 3) := by decide +kernel
theorem dX2_leastObligation_31 : decode cX2_leastObligation 31 = .ok (.iload_n 1, 1) := by decide +kernel
theorem dX2_leastObligation_32 : decode cX2_leastObligation 32 = .ok (.iload_n 2, 1) := by decide +kernel
theorem dX2_leastObligation_33 : decode cX2_leastObligation 33 = .ok (.iload 6, 2) := by decide +kernel
theorem dX2_leastObligation_35 : decode cX2_leastObligation 35 = .ok (.invokestatic 154, 3) := by decide +kernel
theorem dX2_leastObligation_38 : decode cX2_leastObligation 38 = .ok (.iaload, 1) := by decide +kernel
theorem dX2_leastObligation_39 : decode cX2_leastObligation 39 = .ok (.invokestatic 186, 3) := by decide +kernel
theorem dX2_leastObligation_42 : decode cX2_leastObligation 42 = .ok (.istore 5, 2) := by decide +kernel
theorem dX2_leastObligation_44 : decode cX2_leastObligation 44 = .ok (.iinc 6 1, 3) := by decide +kernel
theorem dX2_leastObligation_47 : decode cX2_leastObligation 47 = .ok (.goto (-29), 3) := by decide +kernel
theorem dX2_leastObligation_50 : decode cX2_leastObligation 50 = .ok (.iload 5, 2) := by decide +kernel
theorem dX2_leastObligation_52 : decode cX2_leastObligation 52 = .ok (.ireturn, 1) := by decide +kernel
set_option maxRecDepth 20000 in
theorem ggX2_lackOf_X2_hourCell : GoodIn wsX2_lackOf wsX2_hourCell := goodIn_r _ [7, 8, 9, 6, 10] (by decide +kernel) (by decide +kernel)
set_option maxRecDepth 20000 in
theorem gX2_lackOf_X2_hourCell : GoodIn wsX2_lackOf (va_wsS RX2 154 yX2_hourCell wsX2_hourCell) := goodIn_app (goodIn_of _ (by decide +kernel)) ggX2_lackOf_X2_hourCell
theorem dX2_lackOf_0 : decode cX2_lackOf 0 = .ok (.iconst 0, 1) := by decide +kernel
theorem dX2_lackOf_1 : decode cX2_lackOf 1 = .ok (.istore_n 3, 1) := by decide +kernel
theorem dX2_lackOf_2 : decode cX2_lackOf 2 = .ok (.iconst 0, 1) := by decide +kernel
theorem dX2_lackOf_3 : decode cX2_lackOf 3 = .ok (.istore 4, 2) := by decide +kernel
theorem dX2_lackOf_5 : decode cX2_lackOf 5 = .ok (.iload 4, 2) := by decide +kernel
theorem dX2_lackOf_7 : decode cX2_lackOf 7 = .ok (.bipush 12, 2) := by decide +kernel
theorem dX2_lackOf_9 : decode cX2_lackOf 9 = .ok (.if_icmp .ge 51, 3) := by decide +kernel
theorem dX2_lackOf_12 : decode cX2_lackOf 12 = .ok (.aload_n 0, 1) := by decide +kernel
theorem dX2_lackOf_13 : decode cX2_lackOf 13 = .ok (.getfield 36, 3) := by decide +kernel
theorem dX2_lackOf_16 : decode cX2_lackOf 16 = .ok (.iload_n 2, 1) := by decide +kernel
theorem dX2_lackOf_17 : decode cX2_lackOf 17 = .ok (.bipush 12, 2) := by decide +kernel
theorem dX2_lackOf_19 : decode cX2_lackOf 19 = .ok (.imul, 1) := by decide +kernel
theorem dX2_lackOf_20 : decode cX2_lackOf 20 = .ok (.iload 4, 2) := by decide +kernel
theorem dX2_lackOf_22 : decode cX2_lackOf 22 = .ok (.iadd, 1) := by decide +kernel
theorem dX2_lackOf_23 : decode cX2_lackOf 23 = .ok (.baload, 1) := by decide +kernel
theorem dX2_lackOf_24 : decode cX2_lackOf 24 = .ok (.ifCond .eq 30, 3) := by decide +kernel
theorem dX2_lackOf_27 : decode cX2_lackOf 27 = .ok (.iload_n 1, 1) := by decide +kernel
theorem dX2_lackOf_28 : decode cX2_lackOf 28 = .ok (.iload_n 2, 1) := by decide +kernel
theorem dX2_lackOf_29 : decode cX2_lackOf 29 = .ok (.iload 4, 2) := by decide +kernel
theorem dX2_lackOf_31 : decode cX2_lackOf 31 = .ok (.invokestatic 154, 3) := by decide +kernel
theorem dX2_lackOf_34 : decode cX2_lackOf 34 = .ok (.istore 5, 2) := by decide +kernel
theorem dX2_lackOf_36 : decode cX2_lackOf 36 = .ok (.iload_n 3, 1) := by decide +kernel
theorem dX2_lackOf_37 : decode cX2_lackOf 37 = .ok (.aload_n 0, 1) := by decide +kernel
theorem dX2_lackOf_38 : decode cX2_lackOf 38 = .ok (.getfield 30, 3) := by decide +kernel
theorem dX2_lackOf_41 : decode cX2_lackOf 41 = .ok (.iload 5, 2) := by decide +kernel
theorem dX2_lackOf_43 : decode cX2_lackOf 43 = .ok (.iaload, 1) := by decide +kernel
theorem dX2_lackOf_44 : decode cX2_lackOf 44 = .ok (.aload_n 0, 1) := by decide +kernel
theorem dX2_lackOf_45 : decode cX2_lackOf 45 = .ok (.getfield 33, 3) := by decide +kernel
theorem dX2_lackOf_48 : decode cX2_lackOf 48 = .ok (.iload 5, 2) := by decide +kernel
theorem dX2_lackOf_50 : decode cX2_lackOf 50 = .ok (.iaload, 1) := by decide +kernel
theorem dX2_lackOf_51 : decode cX2_lackOf 51 = .ok (.isub, 1) := by decide +kernel
theorem dX2_lackOf_52 : decode cX2_lackOf 52 = .ok (.iadd, 1) := by decide +kernel
theorem dX2_lackOf_53 : decode cX2_lackOf 53 = .ok (.istore_n 3, 1) := by decide +kernel
theorem dX2_lackOf_54 : decode cX2_lackOf 54 = .ok (.iinc 4 1, 3) := by decide +kernel
theorem dX2_lackOf_57 : decode cX2_lackOf 57 = .ok (.goto (-52), 3) := by decide +kernel
theorem dX2_lackOf_60 : decode cX2_lackOf 60 = .ok (.iload_n 3, 1) := by decide +kernel
theorem dX2_lackOf_61 : decode cX2_lackOf 61 = .ok (.ireturn, 1) := by decide +kernel
set_option maxRecDepth 20000 in
theorem ggX2_penaltyOf_X2_lackOf : GoodIn wsX2_penaltyOf wsX2_lackOf := goodIn_r _ [16, 17, 18, 19, 20, 21, 15, 22, 23, 24, 25, 26, 27, 28, 29, 30, 31, 32, 33, 34, 35] (by decide +kernel) (by decide +kernel)
set_option maxRecDepth 20000 in
theorem gX2_penaltyOf_X2_lackOf : GoodIn wsX2_penaltyOf (wsV RX2 171 RX2 yX2_lackOf wsX2_lackOf) := goodIn_app (goodIn_of _ (by decide +kernel)) ggX2_penaltyOf_X2_lackOf
set_option maxRecDepth 20000 in
theorem ggX2_penaltyOf_X2_yearCell : GoodIn wsX2_penaltyOf wsX2_yearCell := goodIn_r _ [25] (by decide +kernel) (by decide +kernel)
set_option maxRecDepth 20000 in
theorem gX2_penaltyOf_X2_yearCell : GoodIn wsX2_penaltyOf (va_wsS RX2 145 yX2_yearCell wsX2_yearCell) := goodIn_app (goodIn_of _ (by decide +kernel)) ggX2_penaltyOf_X2_yearCell
theorem dX2_penaltyOf_0 : decode cX2_penaltyOf 0 = .ok (.aload_n 0, 1) := by decide +kernel
theorem dX2_penaltyOf_1 : decode cX2_penaltyOf 1 = .ok (.iload_n 1, 1) := by decide +kernel
theorem dX2_penaltyOf_2 : decode cX2_penaltyOf 2 = .ok (.iload_n 2, 1) := by decide +kernel
theorem dX2_penaltyOf_3 : decode cX2_penaltyOf 3 = .ok (.invokevirtual 171, 3) := by decide +kernel
theorem dX2_penaltyOf_6 : decode cX2_penaltyOf 6 = .ok (.i2l, 1) := by decide +kernel
theorem dX2_penaltyOf_7 : decode cX2_penaltyOf 7 = .ok (.aload_n 0, 1) := by decide +kernel
theorem dX2_penaltyOf_8 : decode cX2_penaltyOf 8 = .ok (.getfield 44, 3) := by decide +kernel
theorem dX2_penaltyOf_11 : decode cX2_penaltyOf 11 = .ok (.i2l, 1) := by decide +kernel
theorem dX2_penaltyOf_12 : decode cX2_penaltyOf 12 = .ok (.lmul, 1) := by decide +kernel
theorem dX2_penaltyOf_13 : decode cX2_penaltyOf 13 = .ok (.lstore_n 3, 1) := by decide +kernel
theorem dX2_penaltyOf_14 : decode cX2_penaltyOf 14 = .ok (.aload_n 0, 1) := by decide +kernel
theorem dX2_penaltyOf_15 : decode cX2_penaltyOf 15 = .ok (.getfield 27, 3) := by decide +kernel
theorem dX2_penaltyOf_18 : decode cX2_penaltyOf 18 = .ok (.iload_n 1, 1) := by decide +kernel
theorem dX2_penaltyOf_19 : decode cX2_penaltyOf 19 = .ok (.iload_n 2, 1) := by decide +kernel
theorem dX2_penaltyOf_20 : decode cX2_penaltyOf 20 = .ok (.invokestatic 145, 3) := by decide +kernel
theorem dX2_penaltyOf_23 : decode cX2_penaltyOf 23 = .ok (.iaload, 1) := by decide +kernel
theorem dX2_penaltyOf_24 : decode cX2_penaltyOf 24 = .ok (.i2l, 1) := by decide +kernel
theorem dX2_penaltyOf_25 : decode cX2_penaltyOf 25 = .ok (.aload_n 0, 1) := by decide +kernel
theorem dX2_penaltyOf_26 : decode cX2_penaltyOf 26 = .ok (.getfield 47, 3) := by decide +kernel
theorem dX2_penaltyOf_29 : decode cX2_penaltyOf 29 = .ok (.i2l, 1) := by decide +kernel
theorem dX2_penaltyOf_30 : decode cX2_penaltyOf 30 = .ok (.lmul, 1) := by decide +kernel
theorem dX2_penaltyOf_31 : decode cX2_penaltyOf 31 = .ok (.ldc2_w 191, 3) := by decide +kernel
theorem dX2_penaltyOf_34 : decode cX2_penaltyOf 34 = .ok (.ldiv, 1) := by decide +kernel
theorem dX2_penaltyOf_35 : decode cX2_penaltyOf 35 = .ok (.lstore 5, 2) := by decide +kernel
theorem dX2_penaltyOf_37 : decode cX2_penaltyOf 37 = .ok (.lconst 0, 1) := by decide +kernel
theorem dX2_penaltyOf_38 : decode cX2_penaltyOf 38 = .ok (.lload_n 3, 1) := by decide +kernel
theorem dX2_penaltyOf_39 : decode cX2_penaltyOf 39 = .ok (.lload 5, 2) := by decide +kernel
theorem dX2_penaltyOf_41 : decode cX2_penaltyOf 41 = .ok (.invokestatic 193, 3) := by decide +kernel
theorem dX2_penaltyOf_44 : decode cX2_penaltyOf 44 = .ok (.invokestatic 196, 3) := by decide +kernel
theorem dX2_penaltyOf_47 : decode cX2_penaltyOf 47 = .ok (.l2i, 1) := by decide +kernel
theorem dX2_penaltyOf_48 : decode cX2_penaltyOf 48 = .ok (.ireturn, 1) := by decide +kernel
theorem dJ9_max_7cf53_0 : decode cJ9_max_7cf53 0 = .ok (.iload_n 0, 1) := by decide +kernel
theorem dJ9_max_7cf53_1 : decode cJ9_max_7cf53 1 = .ok (.iload_n 1, 1) := by decide +kernel
theorem dJ9_max_7cf53_2 : decode cJ9_max_7cf53 2 = .ok (.if_icmp .lt 7, 3) := by decide +kernel
theorem dJ9_max_7cf53_5 : decode cJ9_max_7cf53 5 = .ok (.iload_n 0, 1) := by decide +kernel
theorem dJ9_max_7cf53_6 : decode cJ9_max_7cf53 6 = .ok (.goto 4, 3) := by decide +kernel
theorem dJ9_max_7cf53_9 : decode cJ9_max_7cf53 9 = .ok (.iload_n 1, 1) := by decide +kernel
theorem dJ9_max_7cf53_10 : decode cJ9_max_7cf53 10 = .ok (.ireturn, 1) := by decide +kernel
theorem dJ9_max_f86c9_0 : decode cJ9_max_f86c9 0 = .ok (.lload_n 0, 1) := by decide +kernel
theorem dJ9_max_f86c9_1 : decode cJ9_max_f86c9 1 = .ok (.lload_n 2, 1) := by decide +kernel
theorem dJ9_max_f86c9_2 : decode cJ9_max_f86c9 2 = .ok (.lcmp, 1) := by decide +kernel
theorem dJ9_max_f86c9_3 : decode cJ9_max_f86c9 3 = .ok (.ifCond .lt 7, 3) := by decide +kernel
theorem dJ9_max_f86c9_6 : decode cJ9_max_f86c9 6 = .ok (.lload_n 0, 1) := by decide +kernel
theorem dJ9_max_f86c9_7 : decode cJ9_max_f86c9 7 = .ok (.goto 4, 3) := by decide +kernel
theorem dJ9_max_f86c9_10 : decode cJ9_max_f86c9 10 = .ok (.lload_n 2, 1) := by decide +kernel
theorem dJ9_max_f86c9_11 : decode cJ9_max_f86c9 11 = .ok (.lreturn, 1) := by decide +kernel
theorem dJ9_min_7cf53_0 : decode cJ9_min_7cf53 0 = .ok (.iload_n 0, 1) := by decide +kernel
theorem dJ9_min_7cf53_1 : decode cJ9_min_7cf53 1 = .ok (.iload_n 1, 1) := by decide +kernel
theorem dJ9_min_7cf53_2 : decode cJ9_min_7cf53 2 = .ok (.if_icmp .gt 7, 3) := by decide +kernel
theorem dJ9_min_7cf53_5 : decode cJ9_min_7cf53 5 = .ok (.iload_n 0, 1) := by decide +kernel
theorem dJ9_min_7cf53_6 : decode cJ9_min_7cf53 6 = .ok (.goto 4, 3) := by decide +kernel
theorem dJ9_min_7cf53_9 : decode cJ9_min_7cf53 9 = .ok (.iload_n 1, 1) := by decide +kernel
theorem dJ9_min_7cf53_10 : decode cJ9_min_7cf53 10 = .ok (.ireturn, 1) := by decide +kernel
theorem dJ9_min_f86c9_0 : decode cJ9_min_f86c9 0 = .ok (.lload_n 0, 1) := by decide +kernel
theorem dJ9_min_f86c9_1 : decode cJ9_min_f86c9 1 = .ok (.lload_n 2, 1) := by decide +kernel
theorem dJ9_min_f86c9_2 : decode cJ9_min_f86c9 2 = .ok (.lcmp, 1) := by decide +kernel
theorem dJ9_min_f86c9_3 : decode cJ9_min_f86c9 3 = .ok (.ifCond .gt 7, 3) := by decide +kernel
theorem dJ9_min_f86c9_6 : decode cJ9_min_f86c9 6 = .ok (.lload_n 0, 1) := by decide +kernel
theorem dJ9_min_f86c9_7 : decode cJ9_min_f86c9 7 = .ok (.goto 4, 3) := by decide +kernel
theorem dJ9_min_f86c9_10 : decode cJ9_min_f86c9 10 = .ok (.lload_n 2, 1) := by decide +kernel
theorem dJ9_min_f86c9_11 : decode cJ9_min_f86c9 11 = .ok (.lreturn, 1) := by decide +kernel
