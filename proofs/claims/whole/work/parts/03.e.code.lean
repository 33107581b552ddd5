set_option maxRecDepth 20000 in
theorem gX5_cast_X5_no : GoodIn wsX5_cast (wsV RX5 58 RX5 yX5_no wsX5_no) := goodIn_app (goodIn_of _ (by decide +kernel)) ggX5_cast_X5_no
set_option maxRecDepth 20000 in
theorem ggX5_cast_X5_isIn : GoodIn wsX5_cast wsX5_isIn := goodIn_r _ [11] (by decide +kernel) (by decide +kernel)
set_option maxRecDepth 20000 in
theorem gX5_cast_X5_isIn : GoodIn wsX5_cast (va_wsS RX5 44 yX5_isIn wsX5_isIn) := goodIn_app (goodIn_of _ (by decide +kernel)) ggX5_cast_X5_isIn
set_option maxRecDepth 20000 in
theorem ggX5_cast_X5_price : GoodIn wsX5_cast wsX5_price := goodIn_r _ [18] (by decide +kernel) (by decide +kernel)
set_option maxRecDepth 20000 in
theorem gX5_cast_X5_price : GoodIn wsX5_cast (va_wsS RX5 62 yX5_price wsX5_price) := goodIn_app (goodIn_of _ (by decide +kernel)) ggX5_cast_X5_price
set_option maxRecDepth 20000 in
theorem ggX5_cast_X5_many : GoodIn wsX5_cast wsX5_many := goodIn_r _ [22, 3, 23, 24, 25, 26, 27, 28, 29, 30, 31, 32, 33, 34, 35, 36, 37, 38, 39] (by decide +kernel) (by decide +kernel)
set_option maxRecDepth 20000 in
theorem gX5_cast_X5_many : GoodIn wsX5_cast (wsV RX5 65 RX5 yX5_many wsX5_many) := goodIn_app (goodIn_of _ (by decide +kernel)) ggX5_cast_X5_many
theorem dX5_cast_0 : decode cX5_cast 0 = .ok (.aload_n 0, 1) := by decide +kernel
theorem dX5_cast_1 : decode cX5_cast 1 = .ok (.iconst 0, 1) := by decide +kernel
theorem dX5_cast_2 : decode cX5_cast 2 = .ok (.putfield 38, 3) := by decide +kernel
theorem dX5_cast_5 : decode cX5_cast 5 = .ok (.iload_n 1, 1) := by decide +kernel
theorem dX5_cast_6 : decode cX5_cast 6 = .ok (.invokestatic 54, 3) := by decide +kernel
theorem dX5_cast_9 : decode cX5_cast 9 = .ok (.ifCond .ne 9, 3) := by decide +kernel
theorem dX5_cast_12 : decode cX5_cast 12 = .ok (.aload_n 0, 1) := by decide +kernel
theorem dX5_cast_13 : decode cX5_cast 13 = .ok (.iconst 1, 1) := by decide +kernel
theorem dX5_cast_14 : decode cX5_cast 14 = .ok (.invokevirtual 58, 3) := by decide +kernel
theorem dX5_cast_17 : decode cX5_cast 17 = .ok (.ireturn, 1) := by decide +kernel
theorem dX5_cast_18 : decode cX5_cast 18 = .ok (.iload_n 2, 1) := by decide +kernel
theorem dX5_cast_19 : decode cX5_cast 19 = .ok (.iconst 1, 1) := by decide +kernel
theorem dX5_cast_20 : decode cX5_cast 20 = .ok (.sipush 200, 3) := by decide +kernel
theorem dX5_cast_23 : decode cX5_cast 23 = .ok (.invokestatic 44, 3) := by decide +kernel
theorem dX5_cast_26 : decode cX5_cast 26 = .ok (.ifCond .ne 9, 3) := by decide +kernel
theorem dX5_cast_29 : decode cX5_cast 29 = .ok (.aload_n 0, 1) := by decide +kernel
theorem dX5_cast_30 : decode cX5_cast 30 = .ok (.iconst 2, 1) := by decide +kernel
theorem dX5_cast_31 : decode cX5_cast 31 = .ok (.invokevirtual 58, 3) := by decide +kernel
theorem dX5_cast_34 : decode cX5_cast 34 = .ok (.ireturn, 1) := by decide +kernel
theorem dX5_cast_35 : decode cX5_cast 35 = .ok (.iload_n 2, 1) := by decide +kernel
theorem dX5_cast_36 : decode cX5_cast 36 = .ok (.iload_n 1, 1) := by decide +kernel
theorem dX5_cast_37 : decode cX5_cast 37 = .ok (.invokestatic 62, 3) := by decide +kernel
theorem dX5_cast_40 : decode cX5_cast 40 = .ok (.imul, 1) := by decide +kernel
theorem dX5_cast_41 : decode cX5_cast 41 = .ok (.aload_n 0, 1) := by decide +kernel
theorem dX5_cast_42 : decode cX5_cast 42 = .ok (.getfield 7, 3) := by decide +kernel
theorem dX5_cast_45 : decode cX5_cast 45 = .ok (.if_icmp .gt 17, 3) := by decide +kernel
theorem dX5_cast_48 : decode cX5_cast 48 = .ok (.aload_n 0, 1) := by decide +kernel
theorem dX5_cast_49 : decode cX5_cast 49 = .ok (.iconst 0, 1) := by decide +kernel
theorem dX5_cast_50 : decode cX5_cast 50 = .ok (.iload_n 1, 1) := by decide +kernel
theorem dX5_cast_51 : decode cX5_cast 51 = .ok (.invokevirtual 65, 3) := by decide +kernel
theorem dX5_cast_54 : decode cX5_cast 54 = .ok (.iload_n 2, 1) := by decide +kernel
theorem dX5_cast_55 : decode cX5_cast 55 = .ok (.iadd, 1) := by decide +kernel
theorem dX5_cast_56 : decode cX5_cast 56 = .ok (.sipush 999, 3) := by decide +kernel
theorem dX5_cast_59 : decode cX5_cast 59 = .ok (.if_icmp .le 9, 3) := by decide +kernel
theorem dX5_cast_62 : decode cX5_cast 62 = .ok (.aload_n 0, 1) := by decide +kernel
theorem dX5_cast_63 : decode cX5_cast 63 = .ok (.iconst 3, 1) := by decide +kernel
theorem dX5_cast_64 : decode cX5_cast 64 = .ok (.invokevirtual 58, 3) := by decide +kernel
theorem dX5_cast_67 : decode cX5_cast 67 = .ok (.ireturn, 1) := by decide +kernel
theorem dX5_cast_68 : decode cX5_cast 68 = .ok (.aload_n 0, 1) := by decide +kernel
theorem dX5_cast_69 : decode cX5_cast 69 = .ok (.dup, 1) := by decide +kernel
theorem dX5_cast_70 : decode cX5_cast 70 = .ok (.getfield 7, 3) := by decide +kernel
theorem dX5_cast_73 : decode cX5_cast 73 = .ok (.iload_n 2, 1) := by decide +kernel
theorem dX5_cast_74 : decode cX5_cast 74 = .ok (.iload_n 1, 1) := by decide +kernel
theorem dX5_cast_75 : decode cX5_cast 75 = .ok (.invokestatic 62, 3) := by decide +kernel
theorem dX5_cast_78 : decode cX5_cast 78 = .ok (.imul, 1) := by decide +kernel
theorem dX5_cast_79 : decode cX5_cast 79 = .ok (.isub, 1) := by decide +kernel
theorem dX5_cast_80 : decode cX5_cast 80 = .ok (.putfield 7, 3) := by decide +kernel
theorem dX5_cast_83 : decode cX5_cast 83 = .ok (.aload_n 0, 1) := by decide +kernel
theorem dX5_cast_84 : decode cX5_cast 84 = .ok (.getfield 13, 3) := by decide +kernel
theorem dX5_cast_87 : decode cX5_cast 87 = .ok (.bipush 10, 2) := by decide +kernel
theorem dX5_cast_89 : decode cX5_cast 89 = .ok (.iload_n 1, 1) := by decide +kernel
theorem dX5_cast_90 : decode cX5_cast 90 = .ok (.imul, 1) := by decide +kernel
theorem dX5_cast_91 : decode cX5_cast 91 = .ok (.dup2, 1) := by decide +kernel
theorem dX5_cast_92 : decode cX5_cast 92 = .ok (.iaload, 1) := by decide +kernel
theorem dX5_cast_93 : decode cX5_cast 93 = .ok (.iload_n 2, 1) := by decide +kernel
theorem dX5_cast_94 : decode cX5_cast 94 = .ok (.iadd, 1) := by decide +kernel
theorem dX5_cast_95 : decode cX5_cast 95 = .ok (.iastore, 1) := by decide +kernel
theorem dX5_cast_96 : decode cX5_cast 96 = .ok (.aload_n 0, 1) := by decide +kernel
theorem dX5_cast_97 : decode cX5_cast 97 = .ok (.dup, 1) := by decide +kernel
theorem dX5_cast_98 : decode cX5_cast 98 = .ok (.getfield 68, 3) := by decide +kernel
theorem dX5_cast_101 : decode cX5_cast 101 = .ok (.iload_n 2, 1) := by decide +kernel
theorem dX5_cast_102 : decode cX5_cast 102 = .ok (.iadd, 1) := by decide +kernel
theorem dX5_cast_103 : decode cX5_cast 103 = .ok (.putfield 68, 3) := by decide +kernel
theorem dX5_cast_106 : decode cX5_cast 106 = .ok (.aload_n 0, 1) := by decide +kernel
theorem dX5_cast_107 : decode cX5_cast 107 = .ok (.getfield 7, 3) := by decide +kernel
theorem dX5_cast_110 : decode cX5_cast 110 = .ok (.ireturn, 1) := by decide +kernel
set_option maxRecDepth 20000 in
theorem ggX5_melt_X5_isIn : GoodIn wsX5_melt wsX5_isIn := goodIn_r _ [8] (by decide +kernel) (by decide +kernel)
set_option maxRecDepth 20000 in
theorem gX5_melt_X5_isIn : GoodIn wsX5_melt (va_wsS RX5 44 yX5_isIn wsX5_isIn) := goodIn_app (goodIn_of _ (by decide +kernel)) ggX5_melt_X5_isIn
set_option maxRecDepth 20000 in
theorem ggX5_melt_X5_no : GoodIn wsX5_melt wsX5_no := goodIn_r _ [12, 1, 16, 17, 18, 19, 20, 21, 22, 23, 24, 25, 26, 27, 28, 29, 30, 31, 32] (by decide +kernel) (by decide +kernel)
set_option maxRecDepth 20000 in
theorem gX5_melt_X5_no : GoodIn wsX5_melt (wsV RX5 58 RX5 yX5_no wsX5_no) := goodIn_app (goodIn_of _ (by decide +kernel)) ggX5_melt_X5_no
set_option maxRecDepth 20000 in
theorem ggX5_melt_X5_price : GoodIn wsX5_melt wsX5_price := goodIn_r _ [15] (by decide +kernel) (by decide +kernel)
set_option maxRecDepth 20000 in
theorem gX5_melt_X5_price : GoodIn wsX5_melt (va_wsS RX5 62 yX5_price wsX5_price) := goodIn_app (goodIn_of _ (by decide +kernel)) ggX5_melt_X5_price
theorem dX5_melt_0 : decode cX5_melt 0 = .ok (.aload_n 0, 1) := by decide +kernel
theorem dX5_melt_1 : decode cX5_melt 1 = .ok (.iconst 0, 1) := by decide +kernel
theorem dX5_melt_2 : decode cX5_melt 2 = .ok (.putfield 38, 3) := by decide +kernel
theorem dX5_melt_5 : decode cX5_melt 5 = .ok (.iload_n 1, 1) := by decide +kernel
theorem dX5_melt_6 : decode cX5_melt 6 = .ok (.iconst 1, 1) := by decide +kernel
theorem dX5_melt_7 : decode cX5_melt 7 = .ok (.bipush 9, 2) := by decide +kernel
theorem dX5_melt_9 : decode cX5_melt 9 = .ok (.invokestatic 44, 3) := by decide +kernel
theorem dX5_melt_12 : decode cX5_melt 12 = .ok (.ifCond .ne 9, 3) := by decide +kernel
theorem dX5_melt_15 : decode cX5_melt 15 = .ok (.aload_n 0, 1) := by decide +kernel
theorem dX5_melt_16 : decode cX5_melt 16 = .ok (.iconst 1, 1) := by decide +kernel
theorem dX5_melt_17 : decode cX5_melt 17 = .ok (.invokevirtual 58, 3) := by decide +kernel
theorem dX5_melt_20 : decode cX5_melt 20 = .ok (.ireturn, 1) := by decide +kernel
theorem dX5_melt_21 : decode cX5_melt 21 = .ok (.iconst 0, 1) := by decide +kernel
theorem dX5_melt_22 : decode cX5_melt 22 = .ok (.istore_n 2, 1) := by decide +kernel
theorem dX5_melt_23 : decode cX5_melt 23 = .ok (.iconst 0, 1) := by decide +kernel
theorem dX5_melt_24 : decode cX5_melt 24 = .ok (.istore_n 3, 1) := by decide +kernel
theorem dX5_melt_25 : decode cX5_melt 25 = .ok (.iconst 0, 1) := by decide +kernel
theorem dX5_melt_26 : decode cX5_melt 26 = .ok (.istore 4, 2) := by decide +kernel
theorem dX5_melt_28 : decode cX5_melt 28 = .ok (.iload 4, 2) := by decide +kernel
theorem dX5_melt_30 : decode cX5_melt 30 = .ok (.sipush 290, 3) := by decide +kernel
theorem dX5_melt_33 : decode cX5_melt 33 = .ok (.if_icmp .ge 52, 3) := by decide +kernel
theorem dX5_melt_36 : decode cX5_melt 36 = .ok (.iload 4, 2) := by decide +kernel
theorem dX5_melt_38 : decode cX5_melt 38 = .ok (.bipush 10, 2) := by decide +kernel
theorem dX5_melt_40 : decode cX5_melt 40 = .ok (.irem, 1) := by decide +kernel
theorem dX5_melt_41 : decode cX5_melt 41 = .ok (.iload_n 1, 1) := by decide +kernel
theorem dX5_melt_42 : decode cX5_melt 42 = .ok (.if_icmp .ge 6, 3) := by decide +kernel
theorem dX5_melt_45 : decode cX5_melt 45 = .ok (.goto 34, 3) := by decide +kernel
theorem dX5_melt_48 : decode cX5_melt 48 = .ok (.iload_n 3, 1) := by decide +kernel
theorem dX5_melt_49 : decode cX5_melt 49 = .ok (.aload_n 0, 1) := by decide +kernel
theorem dX5_melt_50 : decode cX5_melt 50 = .ok (.getfield 13, 3) := by decide +kernel
theorem dX5_melt_53 : decode cX5_melt 53 = .ok (.iload 4, 2) := by decide +kernel
theorem dX5_melt_55 : decode cX5_melt 55 = .ok (.iaload, 1) := by decide +kernel
theorem dX5_melt_56 : decode cX5_melt 56 = .ok (.iadd, 1) := by decide +kernel
theorem dX5_melt_57 : decode cX5_melt 57 = .ok (.istore_n 3, 1) := by decide +kernel
theorem dX5_melt_58 : decode cX5_melt 58 = .ok (.iload_n 2, 1) := by decide +kernel
theorem dX5_melt_59 : decode cX5_melt 59 = .ok (.aload_n 0, 1) := by decide +kernel
theorem dX5_melt_60 : decode cX5_melt 60 = .ok (.getfield 13, 3) := by decide +kernel
theorem dX5_melt_63 : decode cX5_melt 63 = .ok (.iload 4, 2) := by decide +kernel
theorem dX5_melt_65 : decode cX5_melt 65 = .ok (.iaload, 1) := by decide +kernel
theorem dX5_melt_66 : decode cX5_melt 66 = .ok (.iload 4, 2) := by decide +kernel
theorem dX5_melt_68 : decode cX5_melt 68 = .ok (.bipush 10, 2) := by decide +kernel
theorem dX5_melt_70 : decode cX5_melt 70 = .ok (.idiv, 1) := by decide +kernel
theorem dX5_melt_71 : decode cX5_melt 71 = .ok (.invokestatic 62, 3) := by decide +kernel
theorem dX5_melt_74 : decode cX5_melt 74 = .ok (.iconst 1, 1) := by decide +kernel
theorem dX5_melt_75 : decode cX5_melt 75 = .ok (.isub, 1) := by decide +kernel
theorem dX5_melt_76 : decode cX5_melt 76 = .ok (.imul, 1) := by decide +kernel
theorem dX5_melt_77 : decode cX5_melt 77 = .ok (.iadd, 1) := by decide +kernel
theorem dX5_melt_78 : decode cX5_melt 78 = .ok (.istore_n 2, 1) := by decide +kernel
theorem dX5_melt_79 : decode cX5_melt 79 = .ok (.iinc 4 1, 3) := by decide +kernel
theorem dX5_melt_82 : decode cX5_melt 82 = .ok (.goto (-54), 3) := by decide +kernel
theorem dX5_melt_85 : decode cX5_melt 85 = .ok (.aload_n 0, 1) := by decide +kernel
theorem dX5_melt_86 : decode cX5_melt 86 = .ok (.getfield 7, 3) := by decide +kernel
theorem dX5_melt_89 : decode cX5_melt 89 = .ok (.iload_n 2, 1) := by decide +kernel
theorem dX5_melt_90 : decode cX5_melt 90 = .ok (.iadd, 1) := by decide +kernel
theorem dX5_melt_91 : decode cX5_melt 91 = .ok (.sipush 9999, 3) := by decide +kernel
theorem dX5_melt_94 : decode cX5_melt 94 = .ok (.if_icmp .le 9, 3) := by decide +kernel
theorem dX5_melt_97 : decode cX5_melt 97 = .ok (.aload_n 0, 1) := by decide +kernel
theorem dX5_melt_98 : decode cX5_melt 98 = .ok (.iconst 2, 1) := by decide +kernel
theorem dX5_melt_99 : decode cX5_melt 99 = .ok (.invokevirtual 58, 3) := by decide +kernel
theorem dX5_melt_102 : decode cX5_melt 102 = .ok (.ireturn, 1) := by decide +kernel
theorem dX5_melt_103 : decode cX5_melt 103 = .ok (.iconst 0, 1) := by decide +kernel
theorem dX5_melt_104 : decode cX5_melt 104 = .ok (.istore 4, 2) := by decide +kernel
theorem dX5_melt_106 : decode cX5_melt 106 = .ok (.iload 4, 2) := by decide +kernel
theorem dX5_melt_108 : decode cX5_melt 108 = .ok (.sipush 290, 3) := by decide +kernel
theorem dX5_melt_111 : decode cX5_melt 111 = .ok (.if_icmp .ge 26, 3) := by decide +kernel
theorem dX5_melt_114 : decode cX5_melt 114 = .ok (.iload 4, 2) := by decide +kernel
theorem dX5_melt_116 : decode cX5_melt 116 = .ok (.bipush 10, 2) := by decide +kernel
theorem dX5_melt_118 : decode cX5_melt 118 = .ok (.irem, 1) := by decide +kernel
theorem dX5_melt_119 : decode cX5_melt 119 = .ok (.iload_n 1, 1) := by decide +kernel
theorem dX5_melt_120 : decode cX5_melt 120 = .ok (.if_icmp .lt 11, 3) := by decide +kernel
theorem dX5_melt_123 : decode cX5_melt 123 = .ok (.aload_n 0, 1) := by decide +kernel
theorem dX5_melt_124 : decode cX5_melt 124 = .ok (.getfield 13, 3) := by decide +kernel
theorem dX5_melt_127 : decode cX5_melt 127 = .ok (.iload 4, 2) := by decide +kernel
theorem dX5_melt_129 : decode cX5_melt 129 = .ok (.iconst 0, 1) := by decide +kernel
theorem dX5_melt_130 : decode cX5_melt 130 = .ok (.iastore, 1) := by decide +kernel
theorem dX5_melt_131 : decode cX5_melt 131 = .ok (.iinc 4 1, 3) := by decide +kernel
theorem dX5_melt_134 : decode cX5_melt 134 = .ok (.goto (-28), 3) := by decide +kernel
theorem dX5_melt_137 : decode cX5_melt 137 = .ok (.aload_n 0, 1) := by decide +kernel
theorem dX5_melt_138 : decode cX5_melt 138 = .ok (.dup, 1) := by decide +kernel
theorem dX5_melt_139 : decode cX5_melt 139 = .ok (.getfield 7, 3) := by decide +kernel
theorem dX5_melt_142 : decode cX5_melt 142 = .ok (.iload_n 2, 1) := by decide +kernel
theorem dX5_melt_143 : decode cX5_melt 143 = .ok (.iadd, 1) := by decide +kernel
theorem dX5_melt_144 : decode cX5_melt 144 = .ok (.putfield 7, 3) := by decide +kernel
theorem dX5_melt_147 : decode cX5_melt 147 = .ok (.aload_n 0, 1) := by decide +kernel
theorem dX5_melt_148 : decode cX5_melt 148 = .ok (.dup, 1) := by decide +kernel
theorem dX5_melt_149 : decode cX5_melt 149 = .ok (.getfield 71, 3) := by decide +kernel
theorem dX5_melt_152 : decode cX5_melt 152 = .ok (.iload_n 3, 1) := by decide +kernel
theorem dX5_melt_153 : decode cX5_melt 153 = .ok (.iadd, 1) := by decide +kernel
theorem dX5_melt_154 : decode cX5_melt 154 = .ok (.putfield 71, 3) := by decide +kernel
theorem dX5_melt_157 : decode cX5_melt 157 = .ok (.iload_n 3, 1) := by decide +kernel
theorem dX5_melt_158 : decode cX5_melt 158 = .ok (.ireturn, 1) := by decide +kernel
set_option maxRecDepth 20000 in
theorem ggX5_buy_X5_isIn : GoodIn wsX5_buy wsX5_isIn := goodIn_r _ [6] (by decide +kernel) (by decide +kernel)
set_option maxRecDepth 20000 in
theorem gX5_buy_X5_isIn : GoodIn wsX5_buy (va_wsS RX5 44 yX5_isIn wsX5_isIn) := goodIn_app (goodIn_of _ (by decide +kernel)) ggX5_buy_X5_isIn
set_option maxRecDepth 20000 in
theorem ggX5_buy_X5_no : GoodIn wsX5_buy wsX5_no := goodIn_r _ [10, 1, 11, 12, 13, 14, 15, 16, 17, 18, 19, 20, 21, 22, 23, 24, 25, 26, 27] (by decide +kernel) (by decide +kernel)
set_option maxRecDepth 20000 in
theorem gX5_buy_X5_no : GoodIn wsX5_buy (wsV RX5 58 RX5 yX5_no wsX5_no) := goodIn_app (goodIn_of _ (by decide +kernel)) ggX5_buy_X5_no
theorem dX5_buy_0 : decode cX5_buy 0 = .ok (.aload_n 0, 1) := by decide +kernel
theorem dX5_buy_1 : decode cX5_buy 1 = .ok (.iconst 0, 1) := by decide +kernel
theorem dX5_buy_2 : decode cX5_buy 2 = .ok (.putfield 38, 3) := by decide +kernel
theorem dX5_buy_5 : decode cX5_buy 5 = .ok (.iload_n 1, 1) := by decide +kernel
theorem dX5_buy_6 : decode cX5_buy 6 = .ok (.iconst 1, 1) := by decide +kernel
theorem dX5_buy_7 : decode cX5_buy 7 = .ok (.sipush 2000, 3) := by decide +kernel
theorem dX5_buy_10 : decode cX5_buy 10 = .ok (.invokestatic 44, 3) := by decide +kernel
theorem dX5_buy_13 : decode cX5_buy 13 = .ok (.ifCond .ne 9, 3) := by decide +kernel
theorem dX5_buy_16 : decode cX5_buy 16 = .ok (.aload_n 0, 1) := by decide +kernel
theorem dX5_buy_17 : decode cX5_buy 17 = .ok (.iconst 1, 1) := by decide +kernel
theorem dX5_buy_18 : decode cX5_buy 18 = .ok (.invokevirtual 58, 3) := by decide +kernel
theorem dX5_buy_21 : decode cX5_buy 21 = .ok (.ireturn, 1) := by decide +kernel
theorem dX5_buy_22 : decode cX5_buy 22 = .ok (.aload_n 0, 1) := by decide +kernel
theorem dX5_buy_23 : decode cX5_buy 23 = .ok (.getfield 7, 3) := by decide +kernel
theorem dX5_buy_26 : decode cX5_buy 26 = .ok (.iload_n 1, 1) := by decide +kernel
theorem dX5_buy_27 : decode cX5_buy 27 = .ok (.iadd, 1) := by decide +kernel
theorem dX5_buy_28 : decode cX5_buy 28 = .ok (.sipush 9999, 3) := by decide +kernel
theorem dX5_buy_31 : decode cX5_buy 31 = .ok (.if_icmp .le 9, 3) := by decide +kernel
theorem dX5_buy_34 : decode cX5_buy 34 = .ok (.aload_n 0, 1) := by decide +kernel
theorem dX5_buy_35 : decode cX5_buy 35 = .ok (.iconst 2, 1) := by decide +kernel
theorem dX5_buy_36 : decode cX5_buy 36 = .ok (.invokevirtual 58, 3) := by decide +kernel
theorem dX5_buy_39 : decode cX5_buy 39 = .ok (.ireturn, 1) := by decide +kernel
theorem dX5_buy_40 : decode cX5_buy 40 = .ok (.aload_n 0, 1) := by decide +kernel
theorem dX5_buy_41 : decode cX5_buy 41 = .ok (.dup, 1) := by decide +kernel
theorem dX5_buy_42 : decode cX5_buy 42 = .ok (.getfield 7, 3) := by decide +kernel
theorem dX5_buy_45 : decode cX5_buy 45 = .ok (.iload_n 1, 1) := by decide +kernel
theorem dX5_buy_46 : decode cX5_buy 46 = .ok (.iadd, 1) := by decide +kernel
theorem dX5_buy_47 : decode cX5_buy 47 = .ok (.putfield 7, 3) := by decide +kernel
theorem dX5_buy_50 : decode cX5_buy 50 = .ok (.aload_n 0, 1) := by decide +kernel
theorem dX5_buy_51 : decode cX5_buy 51 = .ok (.getfield 7, 3) := by decide +kernel
theorem dX5_buy_54 : decode cX5_buy 54 = .ok (.ireturn, 1) := by decide +kernel
set_option maxRecDepth 20000 in
theorem ggX5_come_X5_isIn : GoodIn wsX5_come wsX5_isIn := goodIn_r _ [7] (by decide +kernel) (by decide +kernel)
set_option maxRecDepth 20000 in
theorem gX5_come_X5_isIn : GoodIn wsX5_come (va_wsS RX5 44 yX5_isIn wsX5_isIn) := goodIn_app (goodIn_of _ (by decide +kernel)) ggX5_come_X5_isIn
set_option maxRecDepth 20000 in
theorem ggX5_come_X5_no : GoodIn wsX5_come wsX5_no := goodIn_r _ [11, 1, 12, 13, 14, 15, 16, 17, 18, 19, 20, 21, 22, 23, 24, 25, 26, 27, 28] (by decide +kernel) (by decide +kernel)
set_option maxRecDepth 20000 in
theorem gX5_come_X5_no : GoodIn wsX5_come (wsV RX5 58 RX5 yX5_no wsX5_no) := goodIn_app (goodIn_of _ (by decide +kernel)) ggX5_come_X5_no
theorem dX5_come_0 : decode cX5_come 0 = .ok (.aload_n 0, 1) := by decide +kernel
theorem dX5_come_1 : decode cX5_come 1 = .ok (.iconst 0, 1) := by decide +kernel
theorem dX5_come_2 : decode cX5_come 2 = .ok (.putfield 38, 3) := by decide +kernel
theorem dX5_come_5 : decode cX5_come 5 = .ok (.iload_n 1, 1) := by decide +kernel
theorem dX5_come_6 : decode cX5_come 6 = .ok (.iconst 0, 1) := by decide +kernel
theorem dX5_come_7 : decode cX5_come 7 = .ok (.sipush 5000, 3) := by decide +kernel
theorem dX5_come_10 : decode cX5_come 10 = .ok (.invokestatic 44, 3) := by decide +kernel
theorem dX5_come_13 : decode cX5_come 13 = .ok (.ifCond .ne 9, 3) := by decide +kernel
theorem dX5_come_16 : decode cX5_come 16 = .ok (.aload_n 0, 1) := by decide +kernel
theorem dX5_come_17 : decode cX5_come 17 = .ok (.iconst 1, 1) := by decide +kernel
theorem dX5_come_18 : decode cX5_come 18 = .ok (.invokevirtual 58, 3) := by decide +kernel
theorem dX5_come_21 : decode cX5_come 21 = .ok (.ireturn, 1) := by decide +kernel
theorem dX5_come_22 : decode cX5_come 22 = .ok (.aload_n 0, 1) := by decide +kernel
theorem dX5_come_23 : decode cX5_come 23 = .ok (.getfield 41, 3) := by decide +kernel
theorem dX5_come_26 : decode cX5_come 26 = .ok (.bipush 6, 2) := by decide +kernel
theorem dX5_come_28 : decode cX5_come 28 = .ok (.if_icmp .ne 9, 3) := by decide +kernel
theorem dX5_come_31 : decode cX5_come 31 = .ok (.aload_n 0, 1) := by decide +kernel
theorem dX5_come_32 : decode cX5_come 32 = .ok (.iconst 2, 1) := by decide +kernel
theorem dX5_come_33 : decode cX5_come 33 = .ok (.invokevirtual 58, 3) := by decide +kernel
theorem dX5_come_36 : decode cX5_come 36 = .ok (.ireturn, 1) := by decide +kernel
theorem dX5_come_37 : decode cX5_come 37 = .ok (.aload_n 0, 1) := by decide +kernel
theorem dX5_come_38 : decode cX5_come 38 = .ok (.getfield 17, 3) := by decide +kernel
theorem dX5_come_41 : decode cX5_come 41 = .ok (.aload_n 0, 1) := by decide +kernel
theorem dX5_come_42 : decode cX5_come 42 = .ok (.getfield 41, 3) := by decide +kernel
theorem dX5_come_45 : decode cX5_come 45 = .ok (.iload_n 1, 1) := by decide +kernel
theorem dX5_come_46 : decode cX5_come 46 = .ok (.iastore, 1) := by decide +kernel
theorem dX5_come_47 : decode cX5_come 47 = .ok (.aload_n 0, 1) := by decide +kernel
theorem dX5_come_48 : decode cX5_come 48 = .ok (.dup, 1) := by decide +kernel
theorem dX5_come_49 : decode cX5_come 49 = .ok (.getfield 41, 3) := by decide +kernel
theorem dX5_come_52 : decode cX5_come 52 = .ok (.iconst 1, 1) := by decide +kernel
theorem dX5_come_53 : decode cX5_come 53 = .ok (.iadd, 1) := by decide +kernel
theorem dX5_come_54 : decode cX5_come 54 = .ok (.putfield 41, 3) := by decide +kernel
theorem dX5_come_57 : decode cX5_come 57 = .ok (.aload_n 0, 1) := by decide +kernel
theorem dX5_come_58 : decode cX5_come 58 = .ok (.getfield 41, 3) := by decide +kernel
theorem dX5_come_61 : decode cX5_come 61 = .ok (.iconst 1, 1) := by decide +kernel
theorem dX5_come_62 : decode cX5_come 62 = .ok (.isub, 1) := by decide +kernel
theorem dX5_come_63 : decode cX5_come 63 = .ok (.ireturn, 1) := by decide +kernel
set_option maxRecDepth 20000 in
theorem ggX5_rent_X5_isPrinter : GoodIn wsX5_rent wsX5_isPrinter := goodIn_r _ [6, 7, 8, 9, 5, 10, 34, 35, 36, 37, 38, 39, 40, 41, 42, 43, 44, 45, 46, 47, 48, 49, 50] (by decide +kernel) (by decide +kernel)
set_option maxRecDepth 20000 in
theorem gX5_rent_X5_isPrinter : GoodIn wsX5_rent (wsV RX5 74 RX5 yX5_isPrinter wsX5_isPrinter) := goodIn_app (goodIn_of _ (by decide +kernel)) ggX5_rent_X5_isPrinter
set_option maxRecDepth 20000 in
theorem ggX5_rent_X5_isSign : GoodIn wsX5_rent wsX5_isSign := goodIn_r _ [13, 8, 9, 5, 10] (by decide +kernel) (by decide +kernel)
set_option maxRecDepth 20000 in
theorem gX5_rent_X5_isSign : GoodIn wsX5_rent (va_wsS RX5 54 yX5_isSign wsX5_isSign) := goodIn_app (goodIn_of _ (by decide +kernel)) ggX5_rent_X5_isSign
set_option maxRecDepth 20000 in
theorem ggX5_rent_X5_no : GoodIn wsX5_rent wsX5_no := goodIn_r _ [17, 1, 34, 35, 36, 37, 38, 39, 40, 41, 42, 43, 44, 45, 46, 47, 48, 49, 50] (by decide +kernel) (by decide +kernel)
set_option maxRecDepth 20000 in
theorem gX5_rent_X5_no : GoodIn wsX5_rent (wsV RX5 58 RX5 yX5_no wsX5_no) := goodIn_app (goodIn_of _ (by decide +kernel)) ggX5_rent_X5_no
set_option maxRecDepth 20000 in
theorem ggX5_rent_X5_isIn : GoodIn wsX5_rent wsX5_isIn := goodIn_r _ [10] (by decide +kernel) (by decide +kernel)
set_option maxRecDepth 20000 in
theorem gX5_rent_X5_isIn : GoodIn wsX5_rent (va_wsS RX5 44 yX5_isIn wsX5_isIn) := goodIn_app (goodIn_of _ (by decide +kernel)) ggX5_rent_X5_isIn
set_option maxRecDepth 20000 in
theorem ggX5_rent_X5_many : GoodIn wsX5_rent wsX5_many := goodIn_r _ [21, 22, 34, 35, 36, 37, 38, 39, 40, 41, 42, 43, 44, 45, 46, 47, 48, 49, 50] (by decide +kernel) (by decide +kernel)
set_option maxRecDepth 20000 in
theorem gX5_rent_X5_many : GoodIn wsX5_rent (wsV RX5 65 RX5 yX5_many wsX5_many) := goodIn_app (goodIn_of _ (by decide +kernel)) ggX5_rent_X5_many
set_option maxRecDepth 20000 in
theorem ggX5_rent_X5_caseOf : GoodIn wsX5_rent wsX5_caseOf := goodIn_r _ [25] (by decide +kernel) (by decide +kernel)
set_option maxRecDepth 20000 in
theorem gX5_rent_X5_caseOf : GoodIn wsX5_rent (va_wsS RX5 77 yX5_caseOf wsX5_caseOf) := goodIn_app (goodIn_of _ (by decide +kernel)) ggX5_rent_X5_caseOf
set_option maxRecDepth 20000 in
theorem ggX5_rent_X5_move : GoodIn wsX5_rent wsX5_move := goodIn_r _ [29, 22, 30, 31, 32, 33, 34, 35, 36, 37, 38, 39, 40, 41, 42, 43, 44, 45, 46, 47, 48, 49, 50] (by decide +kernel) (by decide +kernel)
set_option maxRecDepth 20000 in
theorem gX5_rent_X5_move : GoodIn wsX5_rent (wsV RX5 80 RX5 yX5_move wsX5_move) := goodIn_app (goodIn_of _ (by decide +kernel)) ggX5_rent_X5_move
theorem dX5_rent_0 : decode cX5_rent 0 = .ok (.aload_n 0, 1) := by decide +kernel
theorem dX5_rent_1 : decode cX5_rent 1 = .ok (.iconst 0, 1) := by decide +kernel
theorem dX5_rent_2 : decode cX5_rent 2 = .ok (.putfield 38, 3) := by decide +kernel
theorem dX5_rent_5 : decode cX5_rent 5 = .ok (.aload_n 0, 1) := by decide +kernel
theorem dX5_rent_6 : decode cX5_rent 6 = .ok (.iload_n 1, 1) := by decide +kernel
theorem dX5_rent_7 : decode cX5_rent 7 = .ok (.invokevirtual 74, 3) := by decide +kernel
theorem dX5_rent_10 : decode cX5_rent 10 = .ok (.ifCond .eq 10, 3) := by decide +kernel
theorem dX5_rent_13 : decode cX5_rent 13 = .ok (.iload_n 2, 1) := by decide +kernel
theorem dX5_rent_14 : decode cX5_rent 14 = .ok (.invokestatic 54, 3) := by decide +kernel
theorem dX5_rent_17 : decode cX5_rent 17 = .ok (.ifCond .ne 9, 3) := by decide +kernel
theorem dX5_rent_20 : decode cX5_rent 20 = .ok (.aload_n 0, 1) := by decide +kernel
theorem dX5_rent_21 : decode cX5_rent 21 = .ok (.iconst 1, 1) := by decide +kernel
theorem dX5_rent_22 : decode cX5_rent 22 = .ok (.invokevirtual 58, 3) := by decide +kernel
theorem dX5_rent_25 : decode cX5_rent 25 = .ok (.ireturn, 1) := by decide +kernel
theorem dX5_rent_26 : decode cX5_rent 26 = .ok (.iload_n 3, 1) := by decide +kernel
theorem dX5_rent_27 : decode cX5_rent 27 = .ok (.iconst 1, 1) := by decide +kernel
theorem dX5_rent_28 : decode cX5_rent 28 = .ok (.sipush 200, 3) := by decide +kernel
theorem dX5_rent_31 : decode cX5_rent 31 = .ok (.invokestatic 44, 3) := by decide +kernel
theorem dX5_rent_34 : decode cX5_rent 34 = .ok (.ifCond .ne 9, 3) := by decide +kernel
theorem dX5_rent_37 : decode cX5_rent 37 = .ok (.aload_n 0, 1) := by decide +kernel
theorem dX5_rent_38 : decode cX5_rent 38 = .ok (.iconst 2, 1) := by decide +kernel
theorem dX5_rent_39 : decode cX5_rent 39 = .ok (.invokevirtual 58, 3) := by decide +kernel
theorem dX5_rent_42 : decode cX5_rent 42 = .ok (.ireturn, 1) := by decide +kernel
theorem dX5_rent_43 : decode cX5_rent 43 = .ok (.aload_n 0, 1) := by decide +kernel
theorem dX5_rent_44 : decode cX5_rent 44 = .ok (.iconst 0, 1) := by decide +kernel
theorem dX5_rent_45 : decode cX5_rent 45 = .ok (.iload_n 2, 1) := by decide +kernel
theorem dX5_rent_46 : decode cX5_rent 46 = .ok (.invokevirtual 65, 3) := by decide +kernel
theorem dX5_rent_49 : decode cX5_rent 49 = .ok (.iload_n 3, 1) := by decide +kernel
theorem dX5_rent_50 : decode cX5_rent 50 = .ok (.if_icmp .ge 11, 3) := by decide +kernel
theorem dX5_rent_53 : decode cX5_rent 53 = .ok (.aload_n 0, 1) := by decide +kernel
theorem dX5_rent_54 : decode cX5_rent 54 = .ok (.iconst 3, 1) := by decide +kernel
theorem dX5_rent_55 : decode cX5_rent 55 = .ok (.invokevirtual 58, 3) := by decide +kernel
theorem dX5_rent_58 : decode cX5_rent 58 = .ok (.goto 15, 3) := by decide +kernel
theorem dX5_rent_61 : decode cX5_rent 61 = .ok (.aload_n 0, 1) := by decide +kernel
theorem dX5_rent_62 : decode cX5_rent 62 = .ok (.iconst 0, 1) := by decide +kernel
theorem dX5_rent_63 : decode cX5_rent 63 = .ok (.iload_n 1, 1) := by decide +kernel
theorem dX5_rent_64 : decode cX5_rent 64 = .ok (.invokestatic 77, 3) := by decide +kernel
theorem dX5_rent_67 : decode cX5_rent 67 = .ok (.iload_n 2, 1) := by decide +kernel
theorem dX5_rent_68 : decode cX5_rent 68 = .ok (.iload_n 3, 1) := by decide +kernel
theorem dX5_rent_69 : decode cX5_rent 69 = .ok (.iconst 0, 1) := by decide +kernel
theorem dX5_rent_70 : decode cX5_rent 70 = .ok (.invokevirtual 80, 3) := by decide +kernel
theorem dX5_rent_73 : decode cX5_rent 73 = .ok (.ireturn, 1) := by decide +kernel
set_option maxRecDepth 20000 in
theorem ggX5_giveBack_X5_isPrinter : GoodIn wsX5_giveBack wsX5_isPrinter := goodIn_r _ [6, 7, 8, 9, 5, 10, 34, 35, 36, 37, 38, 39, 40, 41, 42, 43, 44, 45, 46, 47, 48, 49, 50] (by decide +kernel) (by decide +kernel)
set_option maxRecDepth 20000 in
theorem gX5_giveBack_X5_isPrinter : GoodIn wsX5_giveBack (wsV RX5 74 RX5 yX5_isPrinter wsX5_isPrinter) := goodIn_app (goodIn_of _ (by decide +kernel)) ggX5_giveBack_X5_isPrinter
set_option maxRecDepth 20000 in
theorem ggX5_giveBack_X5_isSign : GoodIn wsX5_giveBack wsX5_isSign := goodIn_r _ [13, 8, 9, 5, 10] (by decide +kernel) (by decide +kernel)
set_option maxRecDepth 20000 in
theorem gX5_giveBack_X5_isSign : GoodIn wsX5_giveBack (va_wsS RX5 54 yX5_isSign wsX5_isSign) := goodIn_app (goodIn_of _ (by decide +kernel)) ggX5_giveBack_X5_isSign
set_option maxRecDepth 20000 in
theorem ggX5_giveBack_X5_no : GoodIn wsX5_giveBack wsX5_no := goodIn_r _ [17, 1, 34, 35, 36, 37, 38, 39, 40, 41, 42, 43, 44, 45, 46, 47, 48, 49, 50] (by decide +kernel) (by decide +kernel)
set_option maxRecDepth 20000 in
theorem gX5_giveBack_X5_no : GoodIn wsX5_giveBack (wsV RX5 58 RX5 yX5_no wsX5_no) := goodIn_app (goodIn_of _ (by decide +kernel)) ggX5_giveBack_X5_no
set_option maxRecDepth 20000 in
theorem ggX5_giveBack_X5_isIn : GoodIn wsX5_giveBack wsX5_isIn := goodIn_r _ [10] (by decide +kernel) (by decide +kernel)
set_option maxRecDepth 20000 in
theorem gX5_giveBack_X5_isIn : GoodIn wsX5_giveBack (va_wsS RX5 44 yX5_isIn wsX5_isIn) := goodIn_app (goodIn_of _ (by decide +kernel)) ggX5_giveBack_X5_isIn
set_option maxRecDepth 20000 in
theorem ggX5_giveBack_X5_caseOf : GoodIn wsX5_giveBack wsX5_caseOf := goodIn_r _ [20] (by decide +kernel) (by decide +kernel)
set_option maxRecDepth 20000 in
theorem gX5_giveBack_X5_caseOf : GoodIn wsX5_giveBack (va_wsS RX5 77 yX5_caseOf wsX5_caseOf) := goodIn_app (goodIn_of _ (by decide +kernel)) ggX5_giveBack_X5_caseOf
set_option maxRecDepth 20000 in
theorem ggX5_giveBack_X5_many : GoodIn wsX5_giveBack wsX5_many := goodIn_r _ [24, 25, 34, 35, 36, 37, 38, 39, 40, 41, 42, 43, 44, 45, 46, 47, 48, 49, 50] (by decide +kernel) (by decide +kernel)
set_option maxRecDepth 20000 in
theorem gX5_giveBack_X5_many : GoodIn wsX5_giveBack (wsV RX5 65 RX5 yX5_many wsX5_many) := goodIn_app (goodIn_of _ (by decide +kernel)) ggX5_giveBack_X5_many
set_option maxRecDepth 20000 in
theorem ggX5_giveBack_X5_move : GoodIn wsX5_giveBack wsX5_move := goodIn_r _ [29, 25, 30, 31, 32, 33, 34, 35, 36, 37, 38, 39, 40, 41, 42, 43, 44, 45, 46, 47, 48, 49, 50] (by decide +kernel) (by decide +kernel)
set_option maxRecDepth 20000 in
theorem gX5_giveBack_X5_move : GoodIn wsX5_giveBack (wsV RX5 80 RX5 yX5_move wsX5_move) := goodIn_app (goodIn_of _ (by decide +kernel)) ggX5_giveBack_X5_move
theorem dX5_giveBack_0 : decode cX5_giveBack 0 = .ok (.aload_n 0, 1) := by decide +kernel
theorem dX5_giveBack_1 : decode cX5_giveBack 1 = .ok (.iconst 0, 1) := by decide +kernel
theorem dX5_giveBack_2 : decode cX5_giveBack 2 = .ok (.putfield 38, 3) := by decide +kernel
theorem dX5_giveBack_5 : decode cX5_giveBack 5 = .ok (.aload_n 0, 1) := by decide +kernel
theorem dX5_giveBack_6 : decode cX5_giveBack 6 = .ok (.iload_n 1, 1) := by decide +kernel
theorem dX5_giveBack_7 : decode cX5_giveBack 7 = .ok (.invokevirtual 74, 3) := by decide +kernel
theorem dX5_giveBack_10 : decode cX5_giveBack 10 = .ok (.ifCond .eq 10, 3) := by decide +kernel
theorem dX5_giveBack_13 : decode cX5_giveBack 13 = .ok (.iload_n 2, 1) := by decide +kernel
theorem dX5_giveBack_14 : decode cX5_giveBack 14 = .ok (.invokestatic 54, 3) := by decide +kernel
theorem dX5_giveBack_17 : decode cX5_giveBack 17 = .ok (.ifCond .ne 9, 3) := by decide +kernel
theorem dX5_giveBack_20 : decode cX5_giveBack 20 = .ok (.aload_n 0, 1) := by decide +kernel
theorem dX5_giveBack_21 : decode cX5_giveBack 21 = .ok (.iconst 1, 1) := by decide +kernel
theorem dX5_giveBack_22 : decode cX5_giveBack 22 = .ok (.invokevirtual 58, 3) := by decide +kernel
theorem dX5_giveBack_25 : decode cX5_giveBack 25 = .ok (.ireturn, 1) := by decide +kernel
theorem dX5_giveBack_26 : decode cX5_giveBack 26 = .ok (.iload_n 3, 1) := by decide +kernel
theorem dX5_giveBack_27 : decode cX5_giveBack 27 = .ok (.iconst 1, 1) := by decide +kernel
theorem dX5_giveBack_28 : decode cX5_giveBack 28 = .ok (.sipush 200, 3) := by decide +kernel
theorem dX5_giveBack_31 : decode cX5_giveBack 31 = .ok (.invokestatic 44, 3) := by decide +kernel
theorem dX5_giveBack_34 : decode cX5_giveBack 34 = .ok (.ifCond .ne 9, 3) := by decide +kernel
theorem dX5_giveBack_37 : decode cX5_giveBack 37 = .ok (.aload_n 0, 1) := by decide +kernel
theorem dX5_giveBack_38 : decode cX5_giveBack 38 = .ok (.iconst 2, 1) := by decide +kernel
theorem dX5_giveBack_39 : decode cX5_giveBack 39 = .ok (.invokevirtual 58, 3) := by decide +kernel
theorem dX5_giveBack_42 : decode cX5_giveBack 42 = .ok (.ireturn, 1) := by decide +kernel
theorem dX5_giveBack_43 : decode cX5_giveBack 43 = .ok (.aload_n 0, 1) := by decide +kernel
theorem dX5_giveBack_44 : decode cX5_giveBack 44 = .ok (.iload_n 1, 1) := by decide +kernel
theorem dX5_giveBack_45 : decode cX5_giveBack 45 = .ok (.invokestatic 77, 3) := by decide +kernel
theorem dX5_giveBack_48 : decode cX5_giveBack 48 = .ok (.iload_n 2, 1) := by decide +kernel
theorem dX5_giveBack_49 : decode cX5_giveBack 49 = .ok (.invokevirtual 65, 3) := by decide +kernel
theorem dX5_giveBack_52 : decode cX5_giveBack 52 = .ok (.iload_n 3, 1) := by decide +kernel
theorem dX5_giveBack_53 : decode cX5_giveBack 53 = .ok (.if_icmp .ge 11, 3) := by decide +kernel
theorem dX5_giveBack_56 : decode cX5_giveBack 56 = .ok (.aload_n 0, 1) := by decide +kernel
theorem dX5_giveBack_57 : decode cX5_giveBack 57 = .ok (.iconst 3, 1) := by decide +kernel
theorem dX5_giveBack_58 : decode cX5_giveBack 58 = .ok (.invokevirtual 58, 3) := by decide +kernel
theorem dX5_giveBack_61 : decode cX5_giveBack 61 = .ok (.goto 16, 3) := by decide +kernel
theorem dX5_giveBack_64 : decode cX5_giveBack 64 = .ok (.aload_n 0, 1) := by decide +kernel
theorem dX5_giveBack_65 : decode cX5_giveBack 65 = .ok (.iload_n 1, 1) := by decide +kernel
theorem dX5_giveBack_66 : decode cX5_giveBack 66 = .ok (.invokestatic 77, 3) := by decide +kernel
theorem dX5_giveBack_69 : decode cX5_giveBack 69 = .ok (.iconst 0, 1) := by decide +kernel
theorem dX5_giveBack_70 : decode cX5_giveBack 70 = .ok (.iload_n 2, 1) := by decide +kernel
theorem dX5_giveBack_71 : decode cX5_giveBack 71 = .ok (.iload_n 3, 1) := by decide +kernel
theorem dX5_giveBack_72 : decode cX5_giveBack 72 = .ok (.bipush 9, 2) := by decide +kernel
theorem dX5_giveBack_74 : decode cX5_giveBack 74 = .ok (.invokevirtual 80, 3) := by decide +kernel
theorem dX5_giveBack_77 : decode cX5_giveBack 77 = .ok (.ireturn, 1) := by decide +kernel
set_option maxRecDepth 20000 in
theorem ggX5_pay_X5_isPrinter : GoodIn wsX5_pay wsX5_isPrinter := goodIn_r _ [13, 14, 15, 16, 12, 17, 22, 23, 24, 25, 26, 27, 28, 29, 30, 31, 32, 33, 34, 35, 36, 37, 38] (by decide +kernel) (by decide +kernel)
set_option maxRecDepth 20000 in
theorem gX5_pay_X5_isPrinter : GoodIn wsX5_pay (wsV RX5 74 RX5 yX5_isPrinter wsX5_isPrinter) := goodIn_app (goodIn_of _ (by decide +kernel)) ggX5_pay_X5_isPrinter
set_option maxRecDepth 20000 in
theorem ggX5_pay_X5_no : GoodIn wsX5_pay wsX5_no := goodIn_r _ [21, 1, 22, 23, 24, 25, 26, 27, 28, 29, 30, 31, 32, 33, 34, 35, 36, 37, 38] (by decide +kernel) (by decide +kernel)
set_option maxRecDepth 20000 in
theorem gX5_pay_X5_no : GoodIn wsX5_pay (wsV RX5 58 RX5 yX5_no wsX5_no) := goodIn_app (goodIn_of _ (by decide +kernel)) ggX5_pay_X5_no
theorem dX5_pay_0 : decode cX5_pay 0 = .ok (.aload_n 0, 1) := by decide +kernel
theorem dX5_pay_1 : decode cX5_pay 1 = .ok (.iconst 0, 1) := by decide +kernel
theorem dX5_pay_2 : decode cX5_pay 2 = .ok (.putfield 38, 3) := by decide +kernel
theorem dX5_pay_5 : decode cX5_pay 5 = .ok (.aload_n 0, 1) := by decide +kernel
theorem dX5_pay_6 : decode cX5_pay 6 = .ok (.iload_n 1, 1) := by decide +kernel
theorem dX5_pay_7 : decode cX5_pay 7 = .ok (.invokevirtual 74, 3) := by decide +kernel
theorem dX5_pay_10 : decode cX5_pay 10 = .ok (.ifCond .ne 9, 3) := by decide +kernel
theorem dX5_pay_13 : decode cX5_pay 13 = .ok (.aload_n 0, 1) := by decide +kernel
theorem dX5_pay_14 : decode cX5_pay 14 = .ok (.iconst 1, 1) := by decide +kernel
theorem dX5_pay_15 : decode cX5_pay 15 = .ok (.invokevirtual 58, 3) := by decide +kernel
theorem dX5_pay_18 : decode cX5_pay 18 = .ok (.ireturn, 1) := by decide +kernel
theorem dX5_pay_19 : decode cX5_pay 19 = .ok (.aload_n 0, 1) := by decide +kernel
theorem dX5_pay_20 : decode cX5_pay 20 = .ok (.getfield 17, 3) := by decide +kernel
theorem dX5_pay_23 : decode cX5_pay 23 = .ok (.iload_n 1, 1) := by decide +kernel
theorem dX5_pay_24 : decode cX5_pay 24 = .ok (.iaload, 1) := by decide +kernel
theorem dX5_pay_25 : decode cX5_pay 25 = .ok (.aload_n 0, 1) := by decide +kernel
theorem dX5_pay_26 : decode cX5_pay 26 = .ok (.getfield 20, 3) := by decide +kernel
theorem dX5_pay_29 : decode cX5_pay 29 = .ok (.iload_n 1, 1) := by decide +kernel
theorem dX5_pay_30 : decode cX5_pay 30 = .ok (.iaload, 1) := by decide +kernel
theorem dX5_pay_31 : decode cX5_pay 31 = .ok (.invokestatic 48, 3) := by decide +kernel
theorem dX5_pay_34 : decode cX5_pay 34 = .ok (.istore_n 2, 1) := by decide +kernel
theorem dX5_pay_35 : decode cX5_pay 35 = .ok (.aload_n 0, 1) := by decide +kernel
theorem dX5_pay_36 : decode cX5_pay 36 = .ok (.getfield 17, 3) := by decide +kernel
theorem dX5_pay_39 : decode cX5_pay 39 = .ok (.iload_n 1, 1) := by decide +kernel
theorem dX5_pay_40 : decode cX5_pay 40 = .ok (.dup2, 1) := by decide +kernel
theorem dX5_pay_41 : decode cX5_pay 41 = .ok (.iaload, 1) := by decide +kernel
theorem dX5_pay_42 : decode cX5_pay 42 = .ok (.iload_n 2, 1) := by decide +kernel
theorem dX5_pay_43 : decode cX5_pay 43 = .ok (.isub, 1) := by decide +kernel
theorem dX5_pay_44 : decode cX5_pay 44 = .ok (.iastore, 1) := by decide +kernel
theorem dX5_pay_45 : decode cX5_pay 45 = .ok (.aload_n 0, 1) := by decide +kernel
theorem dX5_pay_46 : decode cX5_pay 46 = .ok (.getfield 20, 3) := by decide +kernel
theorem dX5_pay_49 : decode cX5_pay 49 = .ok (.iload_n 1, 1) := by decide +kernel
theorem dX5_pay_50 : decode cX5_pay 50 = .ok (.dup2, 1) := by decide +kernel
theorem dX5_pay_51 : decode cX5_pay 51 = .ok (.iaload, 1) := by decide +kernel
theorem dX5_pay_52 : decode cX5_pay 52 = .ok (.iload_n 2, 1) := by decide +kernel
theorem dX5_pay_53 : decode cX5_pay 53 = .ok (.isub, 1) := by decide +kernel
theorem dX5_pay_54 : decode cX5_pay 54 = .ok (.iastore, 1) := by decide +kernel
theorem dX5_pay_55 : decode cX5_pay 55 = .ok (.aload_n 0, 1) := by decide +kernel
theorem dX5_pay_56 : decode cX5_pay 56 = .ok (.dup, 1) := by decide +kernel
theorem dX5_pay_57 : decode cX5_pay 57 = .ok (.getfield 84, 3) := by decide +kernel
theorem dX5_pay_60 : decode cX5_pay 60 = .ok (.iload_n 2, 1) := by decide +kernel
theorem dX5_pay_61 : decode cX5_pay 61 = .ok (.iadd, 1) := by decide +kernel
theorem dX5_pay_62 : decode cX5_pay 62 = .ok (.putfield 84, 3) := by decide +kernel
theorem dX5_pay_65 : decode cX5_pay 65 = .ok (.iload_n 2, 1) := by decide +kernel
theorem dX5_pay_66 : decode cX5_pay 66 = .ok (.ireturn, 1) := by decide +kernel
theorem dX5_isWord_0 : decode cX5_isWord 0 = .ok (.aload_n 0, 1) := by decide +kernel
theorem dX5_isWord_1 : decode cX5_isWord 1 = .ok (.iconst 0, 1) := by decide +kernel
theorem dX5_isWord_2 : decode cX5_isWord 2 = .ok (.putfield 87, 3) := by decide +kernel
theorem dX5_isWord_5 : decode cX5_isWord 5 = .ok (.iload_n 1, 1) := by decide +kernel
theorem dX5_isWord_6 : decode cX5_isWord 6 = .ok (.istore_n 2, 1) := by decide +kernel
theorem dX5_isWord_7 : decode cX5_isWord 7 = .ok (.iload_n 1, 1) := by decide +kernel
theorem dX5_isWord_8 : decode cX5_isWord 8 = .ok (.ifCond .le 7, 3) := by decide +kernel
theorem dX5_isWord_11 : decode cX5_isWord 11 = .ok (.iconst 1, 1) := by decide +kernel
theorem dX5_isWord_12 : decode cX5_isWord 12 = .ok (.goto 4, 3) := by decide +kernel
theorem dX5_isWord_15 : decode cX5_isWord 15 = .ok (.iconst 0, 1) := by decide +kernel
theorem dX5_isWord_16 : decode cX5_isWord 16 = .ok (.istore_n 3, 1) := by decide +kernel
theorem dX5_isWord_17 : decode cX5_isWord 17 = .ok (.iload_n 2, 1) := by decide +kernel
theorem dX5_isWord_18 : decode cX5_isWord 18 = .ok (.ifCond .le 51, 3) := by decide +kernel
theorem dX5_isWord_21 : decode cX5_isWord 21 = .ok (.iload_n 3, 1) := by decide +kernel
theorem dX5_isWord_22 : decode cX5_isWord 22 = .ok (.ifCond .eq 47, 3) := by decide +kernel
theorem dX5_isWord_25 : decode cX5_isWord 25 = .ok (.iload_n 2, 1) := by decide +kernel
theorem dX5_isWord_26 : decode cX5_isWord 26 = .ok (.bipush 27, 2) := by decide +kernel
theorem dX5_isWord_28 : decode cX5_isWord 28 = .ok (.irem, 1) := by decide +kernel
theorem dX5_isWord_29 : decode cX5_isWord 29 = .ok (.ifCond .le 16, 3) := by decide +kernel
theorem dX5_isWord_32 : decode cX5_isWord 32 = .ok (.aload_n 0, 1) := by decide +kernel
theorem dX5_isWord_33 : decode cX5_isWord 33 = .ok (.getfield 87, 3) := by decide +kernel
theorem dX5_isWord_36 : decode cX5_isWord 36 = .ok (.bipush 6, 2) := by decide +kernel
theorem dX5_isWord_38 : decode cX5_isWord 38 = .ok (.if_icmp .ge 7, 3) := by decide +kernel
theorem dX5_isWord_41 : decode cX5_isWord 41 = .ok (.iconst 1, 1) := by decide +kernel
theorem dX5_isWord_42 : decode cX5_isWord 42 = .ok (.goto 4, 3) := by decide +kernel
theorem dX5_isWord_45 : decode cX5_isWord 45 = .ok (.iconst 0, 1) := by decide +kernel
theorem dX5_isWord_46 : decode cX5_isWord 46 = .ok (.istore_n 3, 1) := by decide +kernel
theorem dX5_isWord_47 : decode cX5_isWord 47 = .ok (.iload_n 3, 1) := by decide +kernel
theorem dX5_isWord_48 : decode cX5_isWord 48 = .ok (.ifCond .eq 13, 3) := by decide +kernel
theorem dX5_isWord_51 : decode cX5_isWord 51 = .ok (.aload_n 0, 1) := by decide +kernel
theorem dX5_isWord_52 : decode cX5_isWord 52 = .ok (.dup, 1) := by decide +kernel
theorem dX5_isWord_53 : decode cX5_isWord 53 = .ok (.getfield 87, 3) := by decide +kernel
theorem dX5_isWord_56 : decode cX5_isWord 56 = .ok (.iconst 1, 1) := by decide +kernel
theorem dX5_isWord_57 : decode cX5_isWord 57 = .ok (.iadd, 1) := by decide +kernel
theorem dX5_isWord_58 : decode cX5_isWord 58 = .ok (.putfield 87, 3) := by decide +kernel
theorem dX5_isWord_61 : decode cX5_isWord 61 = .ok (.iload_n 2, 1) := by decide +kernel
theorem dX5_isWord_62 : decode cX5_isWord 62 = .ok (.bipush 27, 2) := by decide +kernel
theorem dX5_isWord_64 : decode cX5_isWord 64 = .ok (.idiv, 1) := by decide +kernel
theorem dX5_isWord_65 : decode cX5_isWord 65 = .ok (.istore_n 2, 1) := by decide +kernel
theorem dX5_isWord_66 : decode cX5_isWord 66 = .ok (.goto (-49), 3) := by decide +kernel
theorem dX5_isWord_69 : decode cX5_isWord 69 = .ok (.iload_n 1, 1) := by decide +kernel
theorem dX5_isWord_70 : decode cX5_isWord 70 = .ok (.istore_n 2, 1) := by decide +kernel
theorem dX5_isWord_71 : decode cX5_isWord 71 = .ok (.aload_n 0, 1) := by decide +kernel
theorem dX5_isWord_72 : decode cX5_isWord 72 = .ok (.getfield 87, 3) := by decide +kernel
theorem dX5_isWord_75 : decode cX5_isWord 75 = .ok (.iconst 1, 1) := by decide +kernel
theorem dX5_isWord_76 : decode cX5_isWord 76 = .ok (.isub, 1) := by decide +kernel
theorem dX5_isWord_77 : decode cX5_isWord 77 = .ok (.istore 4, 2) := by decide +kernel
theorem dX5_isWord_79 : decode cX5_isWord 79 = .ok (.iload 4, 2) := by decide +kernel
theorem dX5_isWord_81 : decode cX5_isWord 81 = .ok (.ifCond .lt 31, 3) := by decide +kernel
theorem dX5_isWord_84 : decode cX5_isWord 84 = .ok (.iload_n 3, 1) := by decide +kernel
theorem dX5_isWord_85 : decode cX5_isWord 85 = .ok (.ifCond .eq 27, 3) := by decide +kernel
theorem dX5_isWord_88 : decode cX5_isWord 88 = .ok (.aload_n 0, 1) := by decide +kernel
theorem dX5_isWord_89 : decode cX5_isWord 89 = .ok (.getfield 29, 3) := by decide +kernel
theorem dX5_isWord_92 : decode cX5_isWord 92 = .ok (.iload 4, 2) := by decide +kernel
theorem dX5_isWord_94 : decode cX5_isWord 94 = .ok (.iload_n 2, 1) := by decide +kernel
theorem dX5_isWord_95 : decode cX5_isWord 95 = .ok (.bipush 27, 2) := by decide +kernel
theorem dX5_isWord_97 : decode cX5_isWord 97 = .ok (.irem, 1) := by decide +kernel
theorem dX5_isWord_98 : decode cX5_isWord 98 = .ok (.iconst 1, 1) := by decide +kernel
theorem dX5_isWord_99 : decode cX5_isWord 99 = .ok (.isub, 1) := by decide +kernel
theorem dX5_isWord_100 : decode cX5_isWord 100 = .ok (.iastore, 1) := by decide +kernel
theorem dX5_isWord_101 : decode cX5_isWord 101 = .ok (.iload_n 2, 1) := by decide +kernel
theorem dX5_isWord_102 : decode cX5_isWord 102 = .ok (.bipush 27, 2) := by decide +kernel
theorem dX5_isWord_104 : decode cX5_isWord 104 = .ok (.idiv, 1) := by decide +kernel
theorem dX5_isWord_105 : decode cX5_isWord 105 = .ok (.istore_n 2, 1) := by decide +kernel
theorem dX5_isWord_106 : decode cX5_isWord 106 = .ok (.iinc 4 (-1), 3) := by decide +kernel
theorem dX5_isWord_109 : decode cX5_isWord 109 = .ok (.goto (-30), 3) := by decide +kernel
theorem dX5_isWord_112 : decode cX5_isWord 112 = .ok (.iload_n 3, 1) := by decide +kernel
theorem dX5_isWord_113 : decode cX5_isWord 113 = .ok (.ireturn, 1) := by decide +kernel
theorem dX5_ligature_0 : decode cX5_ligature 0 = .ok (.aload_n 0, 1) := by decide +kernel
theorem dX5_ligature_1 : decode cX5_ligature 1 = .ok (.getfield 29, 3) := by decide +kernel
theorem dX5_ligature_4 : decode cX5_ligature 4 = .ok (.iload_n 1, 1) := by decide +kernel
theorem dX5_ligature_5 : decode cX5_ligature 5 = .ok (.iaload, 1) := by decide +kernel
theorem dX5_ligature_6 : decode cX5_ligature 6 = .ok (.iconst 5, 1) := by decide +kernel
theorem dX5_ligature_7 : decode cX5_ligature 7 = .ok (.if_icmp .ne 13, 3) := by decide +kernel
theorem dX5_ligature_10 : decode cX5_ligature 10 = .ok (.iload_n 1, 1) := by decide +kernel
theorem dX5_ligature_11 : decode cX5_ligature 11 = .ok (.aload_n 0, 1) := by decide +kernel
theorem dX5_ligature_12 : decode cX5_ligature 12 = .ok (.getfield 87, 3) := by decide +kernel
theorem dX5_ligature_15 : decode cX5_ligature 15 = .ok (.iconst 1, 1) := by decide +kernel
theorem dX5_ligature_16 : decode cX5_ligature 16 = .ok (.isub, 1) := by decide +kernel
theorem dX5_ligature_17 : decode cX5_ligature 17 = .ok (.if_icmp .ne 5, 3) := by decide +kernel
theorem dX5_ligature_20 : decode cX5_ligature 20 = .ok (.iconst (-1), 1) := by decide +kernel
theorem dX5_ligature_21 : decode cX5_ligature 21 = .ok (.ireturn, 1) := by decide +kernel
theorem dX5_ligature_22 : decode cX5_ligature 22 = .ok (.aload_n 0, 1) := by decide +kernel
theorem dX5_ligature_23 : decode cX5_ligature 23 = .ok (.getfield 29, 3) := by decide +kernel
theorem dX5_ligature_26 : decode cX5_ligature 26 = .ok (.iload_n 1, 1) := by decide +kernel
theorem dX5_ligature_27 : decode cX5_ligature 27 = .ok (.iconst 1, 1) := by decide +kernel
theorem dX5_ligature_28 : decode cX5_ligature 28 = .ok (.iadd, 1) := by decide +kernel
theorem dX5_ligature_29 : decode cX5_ligature 29 = .ok (.iaload, 1) := by decide +kernel
theorem dX5_ligature_30 : decode cX5_ligature 30 = .ok (.istore_n 2, 1) := by decide +kernel
theorem dX5_ligature_31 : decode cX5_ligature 31 = .ok (.iload_n 2, 1) := by decide +kernel
theorem dX5_ligature_32 : decode cX5_ligature 32 = .ok (.bipush 8, 2) := by decide +kernel
theorem dX5_ligature_34 : decode cX5_ligature 34 = .ok (.if_icmp .ne 8, 3) := by decide +kernel
theorem dX5_ligature_37 : decode cX5_ligature 37 = .ok (.bipush 26, 2) := by decide +kernel
theorem dX5_ligature_39 : decode cX5_ligature 39 = .ok (.goto 25, 3) := by decide +kernel
theorem dX5_ligature_42 : decode cX5_ligature 42 = .ok (.iload_n 2, 1) := by decide +kernel
theorem dX5_ligature_43 : decode cX5_ligature 43 = .ok (.bipush 11, 2) := by decide +kernel
theorem dX5_ligature_45 : decode cX5_ligature 45 = .ok (.if_icmp .ne 8, 3) := by decide +kernel
theorem dX5_ligature_48 : decode cX5_ligature 48 = .ok (.bipush 27, 2) := by decide +kernel
theorem dX5_ligature_50 : decode cX5_ligature 50 = .ok (.goto 14, 3) := by decide +kernel
theorem dX5_ligature_53 : decode cX5_ligature 53 = .ok (.iload_n 2, 1) := by decide +kernel
theorem dX5_ligature_54 : decode cX5_ligature 54 = .ok (.iconst 5, 1) := by decide +kernel
theorem dX5_ligature_55 : decode cX5_ligature 55 = .ok (.if_icmp .ne 8, 3) := by decide +kernel
theorem dX5_ligature_58 : decode cX5_ligature 58 = .ok (.bipush 28, 2) := by decide +kernel
theorem dX5_ligature_60 : decode cX5_ligature 60 = .ok (.goto 4, 3) := by decide +kernel
theorem dX5_ligature_63 : decode cX5_ligature 63 = .ok (.iconst (-1), 1) := by decide +kernel
theorem dX5_ligature_64 : decode cX5_ligature 64 = .ok (.ireturn, 1) := by decide +kernel
