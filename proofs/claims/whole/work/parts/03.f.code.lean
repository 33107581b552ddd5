set_option maxRecDepth 20000 in
theorem ggX5_compose_J7_fill_53178 : GoodIn wsX5_compose wsJ7_fill_53178 := goodIn_r _ [8] (by decide +kernel) (by decide +kernel)
set_option maxRecDepth 20000 in
theorem gX5_compose_J7_fill_53178 : GoodIn wsX5_compose (va_wsS RX5 90 yJ7_fill_53178 wsJ7_fill_53178) := goodIn_app (goodIn_of _ (by decide +kernel)) ggX5_compose_J7_fill_53178
set_option maxRecDepth 20000 in
theorem ggX5_compose_X5_ligature : GoodIn wsX5_compose wsX5_ligature := goodIn_r _ [13, 4, 2, 14, 15, 16, 17, 18, 19, 20, 21, 22, 23, 24, 25, 26, 27, 28, 29, 30] (by decide +kernel) (by decide +kernel)
set_option maxRecDepth 20000 in
theorem gX5_compose_X5_ligature : GoodIn wsX5_compose (wsV RX5 96 RX5 yX5_ligature wsX5_ligature) := goodIn_app (goodIn_of _ (by decide +kernel)) ggX5_compose_X5_ligature
theorem dX5_compose_0 : decode cX5_compose 0 = .ok (.iconst 0, 1) := by decide +kernel
theorem dX5_compose_1 : decode cX5_compose 1 = .ok (.istore_n 1, 1) := by decide +kernel
theorem dX5_compose_2 : decode cX5_compose 2 = .ok (.aload_n 0, 1) := by decide +kernel
theorem dX5_compose_3 : decode cX5_compose 3 = .ok (.getfield 32, 3) := by decide +kernel
theorem dX5_compose_6 : decode cX5_compose 6 = .ok (.iconst 0, 1) := by decide +kernel
theorem dX5_compose_7 : decode cX5_compose 7 = .ok (.invokestatic 90, 3) := by decide +kernel
theorem dX5_compose_10 : decode cX5_compose 10 = .ok (.iconst 0, 1) := by decide +kernel
theorem dX5_compose_11 : decode cX5_compose 11 = .ok (.istore_n 2, 1) := by decide +kernel
theorem dX5_compose_12 : decode cX5_compose 12 = .ok (.iload_n 2, 1) := by decide +kernel
theorem dX5_compose_13 : decode cX5_compose 13 = .ok (.aload_n 0, 1) := by decide +kernel
theorem dX5_compose_14 : decode cX5_compose 14 = .ok (.getfield 87, 3) := by decide +kernel
theorem dX5_compose_17 : decode cX5_compose 17 = .ok (.if_icmp .ge 76, 3) := by decide +kernel
theorem dX5_compose_20 : decode cX5_compose 20 = .ok (.aload_n 0, 1) := by decide +kernel
theorem dX5_compose_21 : decode cX5_compose 21 = .ok (.iload_n 2, 1) := by decide +kernel
theorem dX5_compose_22 : decode cX5_compose 22 = .ok (.invokevirtual 96, 3) := by decide +kernel
theorem dX5_compose_25 : decode cX5_compose 25 = .ok (.istore_n 3, 1) := by decide +kernel
theorem dX5_compose_26 : decode cX5_compose 26 = .ok (.iload_n 3, 1) := by decide +kernel
theorem dX5_compose_27 : decode cX5_compose 27 = .ok (.iconst (-1), 1) := by decide +kernel
theorem dX5_compose_28 : decode cX5_compose 28 = .ok (.if_icmp .eq 12, 3) := by decide +kernel
theorem dX5_compose_31 : decode cX5_compose 31 = .ok (.aload_n 0, 1) := by decide +kernel
theorem dX5_compose_32 : decode cX5_compose 32 = .ok (.getfield 35, 3) := by decide +kernel
theorem dX5_compose_35 : decode cX5_compose 35 = .ok (.iload_n 3, 1) := by decide +kernel
theorem dX5_compose_36 : decode cX5_compose 36 = .ok (.iaload, 1) := by decide +kernel
theorem dX5_compose_37 : decode cX5_compose 37 = .ok (.ifCond .ne 13, 3) := by decide +kernel
theorem dX5_compose_40 : decode cX5_compose 40 = .ok (.aload_n 0, 1) := by decide +kernel
theorem dX5_compose_41 : decode cX5_compose 41 = .ok (.getfield 29, 3) := by decide +kernel
theorem dX5_compose_44 : decode cX5_compose 44 = .ok (.iload_n 2, 1) := by decide +kernel
theorem dX5_compose_45 : decode cX5_compose 45 = .ok (.iaload, 1) := by decide +kernel
theorem dX5_compose_46 : decode cX5_compose 46 = .ok (.istore_n 3, 1) := by decide +kernel
theorem dX5_compose_47 : decode cX5_compose 47 = .ok (.goto 6, 3) := by decide +kernel
theorem dX5_compose_50 : decode cX5_compose 50 = .ok (.iinc 2 1, 3) := by decide +kernel
theorem dX5_compose_53 : decode cX5_compose 53 = .ok (.aload_n 0, 1) := by decide +kernel
theorem dX5_compose_54 : decode cX5_compose 54 = .ok (.getfield 35, 3) := by decide +kernel
theorem dX5_compose_57 : decode cX5_compose 57 = .ok (.iload_n 3, 1) := by decide +kernel
theorem dX5_compose_58 : decode cX5_compose 58 = .ok (.iaload, 1) := by decide +kernel
theorem dX5_compose_59 : decode cX5_compose 59 = .ok (.ifCond .ne 5, 3) := by decide +kernel
theorem dX5_compose_62 : decode cX5_compose 62 = .ok (.iconst (-1), 1) := by decide +kernel
theorem dX5_compose_63 : decode cX5_compose 63 = .ok (.ireturn, 1) := by decide +kernel
theorem dX5_compose_64 : decode cX5_compose 64 = .ok (.aload_n 0, 1) := by decide +kernel
theorem dX5_compose_65 : decode cX5_compose 65 = .ok (.getfield 35, 3) := by decide +kernel
theorem dX5_compose_68 : decode cX5_compose 68 = .ok (.iload_n 3, 1) := by decide +kernel
theorem dX5_compose_69 : decode cX5_compose 69 = .ok (.dup2, 1) := by decide +kernel
theorem dX5_compose_70 : decode cX5_compose 70 = .ok (.iaload, 1) := by decide +kernel
theorem dX5_compose_71 : decode cX5_compose 71 = .ok (.iconst 1, 1) := by decide +kernel
theorem dX5_compose_72 : decode cX5_compose 72 = .ok (.isub, 1) := by decide +kernel
theorem dX5_compose_73 : decode cX5_compose 73 = .ok (.iastore, 1) := by decide +kernel
theorem dX5_compose_74 : decode cX5_compose 74 = .ok (.aload_n 0, 1) := by decide +kernel
theorem dX5_compose_75 : decode cX5_compose 75 = .ok (.getfield 32, 3) := by decide +kernel
theorem dX5_compose_78 : decode cX5_compose 78 = .ok (.iload_n 3, 1) := by decide +kernel
theorem dX5_compose_79 : decode cX5_compose 79 = .ok (.dup2, 1) := by decide +kernel
theorem dX5_compose_80 : decode cX5_compose 80 = .ok (.iaload, 1) := by decide +kernel
theorem dX5_compose_81 : decode cX5_compose 81 = .ok (.iconst 1, 1) := by decide +kernel
theorem dX5_compose_82 : decode cX5_compose 82 = .ok (.iadd, 1) := by decide +kernel
theorem dX5_compose_83 : decode cX5_compose 83 = .ok (.iastore, 1) := by decide +kernel
theorem dX5_compose_84 : decode cX5_compose 84 = .ok (.iinc 1 1, 3) := by decide +kernel
theorem dX5_compose_87 : decode cX5_compose 87 = .ok (.iinc 2 1, 3) := by decide +kernel
theorem dX5_compose_90 : decode cX5_compose 90 = .ok (.goto (-78), 3) := by decide +kernel
theorem dX5_compose_93 : decode cX5_compose 93 = .ok (.iload_n 1, 1) := by decide +kernel
theorem dX5_compose_94 : decode cX5_compose 94 = .ok (.ireturn, 1) := by decide +kernel
set_option maxRecDepth 20000 in
theorem ggX5_look_X5_caseOf : GoodIn wsX5_look wsX5_caseOf := goodIn_r _ [5] (by decide +kernel) (by decide +kernel)
set_option maxRecDepth 20000 in
theorem gX5_look_X5_caseOf : GoodIn wsX5_look (va_wsS RX5 77 yX5_caseOf wsX5_caseOf) := goodIn_app (goodIn_of _ (by decide +kernel)) ggX5_look_X5_caseOf
set_option maxRecDepth 20000 in
theorem ggX5_look_X5_many : GoodIn wsX5_look wsX5_many := goodIn_r _ [9, 10, 11, 12, 13, 14, 15, 16, 17, 18, 19, 20, 21, 22, 23, 24, 25, 26, 27] (by decide +kernel) (by decide +kernel)
set_option maxRecDepth 20000 in
theorem gX5_look_X5_many : GoodIn wsX5_look (wsV RX5 65 RX5 yX5_many wsX5_many) := goodIn_app (goodIn_of _ (by decide +kernel)) ggX5_look_X5_many
theorem dX5_look_0 : decode cX5_look 0 = .ok (.iconst 0, 1) := by decide +kernel
theorem dX5_look_1 : decode cX5_look 1 = .ok (.istore_n 2, 1) := by decide +kernel
theorem dX5_look_2 : decode cX5_look 2 = .ok (.iload_n 2, 1) := by decide +kernel
theorem dX5_look_3 : decode cX5_look 3 = .ok (.bipush 29, 2) := by decide +kernel
theorem dX5_look_5 : decode cX5_look 5 = .ok (.if_icmp .ge 24, 3) := by decide +kernel
theorem dX5_look_8 : decode cX5_look 8 = .ok (.aload_n 0, 1) := by decide +kernel
theorem dX5_look_9 : decode cX5_look 9 = .ok (.getfield 35, 3) := by decide +kernel
theorem dX5_look_12 : decode cX5_look 12 = .ok (.iload_n 2, 1) := by decide +kernel
theorem dX5_look_13 : decode cX5_look 13 = .ok (.aload_n 0, 1) := by decide +kernel
theorem dX5_look_14 : decode cX5_look 14 = .ok (.iload_n 1, 1) := by decide +kernel
theorem dX5_look_15 : decode cX5_look 15 = .ok (.invokestatic 77, 3) := by decide +kernel
theorem dX5_look_18 : decode cX5_look 18 = .ok (.iload_n 2, 1) := by decide +kernel
theorem dX5_look_19 : decode cX5_look 19 = .ok (.invokevirtual 65, 3) := by decide +kernel
theorem dX5_look_22 : decode cX5_look 22 = .ok (.iastore, 1) := by decide +kernel
theorem dX5_look_23 : decode cX5_look 23 = .ok (.iinc 2 1, 3) := by decide +kernel
theorem dX5_look_26 : decode cX5_look 26 = .ok (.goto (-24), 3) := by decide +kernel
theorem dX5_look_29 : decode cX5_look 29 = .ok (.return_, 1) := by decide +kernel
set_option maxRecDepth 20000 in
theorem ggX5_set_X5_isPrinter : GoodIn wsX5_set wsX5_isPrinter := goodIn_r _ [8, 9, 10, 11, 7, 12, 63, 64, 65, 66, 67, 68, 69, 70, 71, 72, 73, 74, 75, 76, 77, 78, 79] (by decide +kernel) (by decide +kernel)
set_option maxRecDepth 20000 in
theorem gX5_set_X5_isPrinter : GoodIn wsX5_set (wsV RX5 74 RX5 yX5_isPrinter wsX5_isPrinter) := goodIn_app (goodIn_of _ (by decide +kernel)) ggX5_set_X5_isPrinter
set_option maxRecDepth 20000 in
theorem ggX5_set_X5_no : GoodIn wsX5_set wsX5_no := goodIn_r _ [16, 1, 63, 64, 65, 66, 67, 68, 69, 70, 71, 72, 73, 74, 75, 76, 77, 78, 79] (by decide +kernel) (by decide +kernel)
set_option maxRecDepth 20000 in
theorem gX5_set_X5_no : GoodIn wsX5_set (wsV RX5 58 RX5 yX5_no wsX5_no) := goodIn_app (goodIn_of _ (by decide +kernel)) ggX5_set_X5_no
set_option maxRecDepth 20000 in
theorem ggX5_set_X5_isWord : GoodIn wsX5_set wsX5_isWord := goodIn_r _ [20, 21, 22, 63, 64, 65, 66, 67, 68, 69, 70, 71, 72, 73, 74, 75, 76, 77, 78, 79] (by decide +kernel) (by decide +kernel)
set_option maxRecDepth 20000 in
theorem gX5_set_X5_isWord : GoodIn wsX5_set (wsV RX5 99 RX5 yX5_isWord wsX5_isWord) := goodIn_app (goodIn_of _ (by decide +kernel)) ggX5_set_X5_isWord
set_option maxRecDepth 20000 in
theorem ggX5_set_X5_look : GoodIn wsX5_set wsX5_look := goodIn_r _ [26, 27, 28, 29, 7, 30, 31, 32, 33, 34, 35, 63, 64, 65, 66, 67, 68, 69, 70, 71, 72, 73, 74, 75, 76, 77, 78, 79] (by decide +kernel) (by decide +kernel)
set_option maxRecDepth 20000 in
theorem gX5_set_X5_look : GoodIn wsX5_set (wsV RX5 102 RX5 yX5_look wsX5_look) := goodIn_app (goodIn_of _ (by decide +kernel)) ggX5_set_X5_look
set_option maxRecDepth 20000 in
theorem ggX5_set_X5_compose : GoodIn wsX5_set wsX5_compose := goodIn_r _ [39, 2, 21, 27, 22, 40, 41, 42, 43, 44, 45, 46, 7, 47, 63, 64, 65, 66, 67, 68, 69, 70, 71, 72, 73, 74, 75, 76, 77, 78, 79] (by decide +kernel) (by decide +kernel)
set_option maxRecDepth 20000 in
theorem gX5_set_X5_compose : GoodIn wsX5_set (wsV RX5 106 RX5 yX5_compose wsX5_compose) := goodIn_app (goodIn_of _ (by decide +kernel)) ggX5_set_X5_compose
set_option maxRecDepth 20000 in
theorem ggX5_set_X5_formOf : GoodIn wsX5_set wsX5_formOf := goodIn_r _ [50] (by decide +kernel) (by decide +kernel)
set_option maxRecDepth 20000 in
theorem gX5_set_X5_formOf : GoodIn wsX5_set (va_wsS RX5 110 yX5_formOf wsX5_formOf) := goodIn_app (goodIn_of _ (by decide +kernel)) ggX5_set_X5_formOf
set_option maxRecDepth 20000 in
theorem ggX5_set_X5_all : GoodIn wsX5_set wsX5_all := goodIn_r _ [54, 35, 63, 64, 65, 66, 67, 68, 69, 70, 71, 72, 73, 74, 75, 76, 77, 78, 79] (by decide +kernel) (by decide +kernel)
set_option maxRecDepth 20000 in
theorem gX5_set_X5_all : GoodIn wsX5_set (wsV RX5 113 RX5 yX5_all wsX5_all) := goodIn_app (goodIn_of _ (by decide +kernel)) ggX5_set_X5_all
set_option maxRecDepth 20000 in
theorem ggX5_set_X5_caseOf : GoodIn wsX5_set wsX5_caseOf := goodIn_r _ [30] (by decide +kernel) (by decide +kernel)
set_option maxRecDepth 20000 in
theorem gX5_set_X5_caseOf : GoodIn wsX5_set (va_wsS RX5 77 yX5_caseOf wsX5_caseOf) := goodIn_app (goodIn_of _ (by decide +kernel)) ggX5_set_X5_caseOf
set_option maxRecDepth 20000 in
theorem ggX5_set_X5_move : GoodIn wsX5_set wsX5_move := goodIn_r _ [58, 35, 59, 60, 61, 62, 63, 64, 65, 66, 67, 68, 69, 70, 71, 72, 73, 74, 75, 76, 77, 78, 79] (by decide +kernel) (by decide +kernel)
set_option maxRecDepth 20000 in
theorem gX5_set_X5_move : GoodIn wsX5_set (wsV RX5 80 RX5 yX5_move wsX5_move) := goodIn_app (goodIn_of _ (by decide +kernel)) ggX5_set_X5_move
theorem dX5_set_0 : decode cX5_set 0 = .ok (.aload_n 0, 1) := by decide +kernel
theorem dX5_set_1 : decode cX5_set 1 = .ok (.iconst 0, 1) := by decide +kernel
theorem dX5_set_2 : decode cX5_set 2 = .ok (.putfield 38, 3) := by decide +kernel
theorem dX5_set_5 : decode cX5_set 5 = .ok (.aload_n 0, 1) := by decide +kernel
theorem dX5_set_6 : decode cX5_set 6 = .ok (.iload_n 1, 1) := by decide +kernel
theorem dX5_set_7 : decode cX5_set 7 = .ok (.invokevirtual 74, 3) := by decide +kernel
theorem dX5_set_10 : decode cX5_set 10 = .ok (.ifCond .ne 9, 3) := by decide +kernel
theorem dX5_set_13 : decode cX5_set 13 = .ok (.aload_n 0, 1) := by decide +kernel
theorem dX5_set_14 : decode cX5_set 14 = .ok (.iconst 1, 1) := by decide +kernel
theorem dX5_set_15 : decode cX5_set 15 = .ok (.invokevirtual 58, 3) := by decide +kernel
theorem dX5_set_18 : decode cX5_set 18 = .ok (.ireturn, 1) := by decide +kernel
theorem dX5_set_19 : decode cX5_set 19 = .ok (.aload_n 0, 1) := by decide +kernel
theorem dX5_set_20 : decode cX5_set 20 = .ok (.iload_n 2, 1) := by decide +kernel
theorem dX5_set_21 : decode cX5_set 21 = .ok (.invokevirtual 99, 3) := by decide +kernel
theorem dX5_set_24 : decode cX5_set 24 = .ok (.ifCond .ne 9, 3) := by decide +kernel
theorem dX5_set_27 : decode cX5_set 27 = .ok (.aload_n 0, 1) := by decide +kernel
theorem dX5_set_28 : decode cX5_set 28 = .ok (.iconst 2, 1) := by decide +kernel
theorem dX5_set_29 : decode cX5_set 29 = .ok (.invokevirtual 58, 3) := by decide +kernel
theorem dX5_set_32 : decode cX5_set 32 = .ok (.ireturn, 1) := by decide +kernel
theorem dX5_set_33 : decode cX5_set 33 = .ok (.aload_n 0, 1) := by decide +kernel
theorem dX5_set_34 : decode cX5_set 34 = .ok (.iload_n 1, 1) := by decide +kernel
theorem dX5_set_35 : decode cX5_set 35 = .ok (.invokevirtual 102, 3) := by decide +kernel
theorem dX5_set_38 : decode cX5_set 38 = .ok (.aload_n 0, 1) := by decide +kernel
theorem dX5_set_39 : decode cX5_set 39 = .ok (.invokevirtual 106, 3) := by decide +kernel
theorem dX5_set_42 : decode cX5_set 42 = .ok (.istore_n 3, 1) := by decide +kernel
theorem dX5_set_43 : decode cX5_set 43 = .ok (.iload_n 3, 1) := by decide +kernel
theorem dX5_set_44 : decode cX5_set 44 = .ok (.iconst (-1), 1) := by decide +kernel
theorem dX5_set_45 : decode cX5_set 45 = .ok (.if_icmp .eq 18, 3) := by decide +kernel
theorem dX5_set_48 : decode cX5_set 48 = .ok (.aload_n 0, 1) := by decide +kernel
theorem dX5_set_49 : decode cX5_set 49 = .ok (.iload_n 1, 1) := by decide +kernel
theorem dX5_set_50 : decode cX5_set 50 = .ok (.invokestatic 110, 3) := by decide +kernel
theorem dX5_set_53 : decode cX5_set 53 = .ok (.invokevirtual 113, 3) := by decide +kernel
theorem dX5_set_56 : decode cX5_set 56 = .ok (.iload_n 3, 1) := by decide +kernel
theorem dX5_set_57 : decode cX5_set 57 = .ok (.iadd, 1) := by decide +kernel
theorem dX5_set_58 : decode cX5_set 58 = .ok (.bipush 60, 2) := by decide +kernel
theorem dX5_set_60 : decode cX5_set 60 = .ok (.if_icmp .le 9, 3) := by decide +kernel
theorem dX5_set_63 : decode cX5_set 63 = .ok (.aload_n 0, 1) := by decide +kernel
theorem dX5_set_64 : decode cX5_set 64 = .ok (.iconst 3, 1) := by decide +kernel
theorem dX5_set_65 : decode cX5_set 65 = .ok (.invokevirtual 58, 3) := by decide +kernel
theorem dX5_set_68 : decode cX5_set 68 = .ok (.ireturn, 1) := by decide +kernel
theorem dX5_set_69 : decode cX5_set 69 = .ok (.iconst 0, 1) := by decide +kernel
theorem dX5_set_70 : decode cX5_set 70 = .ok (.istore 4, 2) := by decide +kernel
theorem dX5_set_72 : decode cX5_set 72 = .ok (.iload 4, 2) := by decide +kernel
theorem dX5_set_74 : decode cX5_set 74 = .ok (.bipush 29, 2) := by decide +kernel
theorem dX5_set_76 : decode cX5_set 76 = .ok (.if_icmp .ge 33, 3) := by decide +kernel
theorem dX5_set_79 : decode cX5_set 79 = .ok (.aload_n 0, 1) := by decide +kernel
theorem dX5_set_80 : decode cX5_set 80 = .ok (.iload_n 1, 1) := by decide +kernel
theorem dX5_set_81 : decode cX5_set 81 = .ok (.invokestatic 77, 3) := by decide +kernel
theorem dX5_set_84 : decode cX5_set 84 = .ok (.iload_n 1, 1) := by decide +kernel
theorem dX5_set_85 : decode cX5_set 85 = .ok (.invokestatic 110, 3) := by decide +kernel
theorem dX5_set_88 : decode cX5_set 88 = .ok (.iload 4, 2) := by decide +kernel
theorem dX5_set_90 : decode cX5_set 90 = .ok (.aload_n 0, 1) := by decide +kernel
theorem dX5_set_91 : decode cX5_set 91 = .ok (.getfield 32, 3) := by decide +kernel
theorem dX5_set_94 : decode cX5_set 94 = .ok (.iload 4, 2) := by decide +kernel
theorem dX5_set_96 : decode cX5_set 96 = .ok (.iaload, 1) := by decide +kernel
theorem dX5_set_97 : decode cX5_set 97 = .ok (.bipush 9, 2) := by decide +kernel
theorem dX5_set_99 : decode cX5_set 99 = .ok (.invokevirtual 80, 3) := by decide +kernel
theorem dX5_set_102 : decode cX5_set 102 = .ok (.pop, 1) := by decide +kernel
theorem dX5_set_103 : decode cX5_set 103 = .ok (.iinc 4 1, 3) := by decide +kernel
theorem dX5_set_106 : decode cX5_set 106 = .ok (.goto (-34), 3) := by decide +kernel
theorem dX5_set_109 : decode cX5_set 109 = .ok (.aload_n 0, 1) := by decide +kernel
theorem dX5_set_110 : decode cX5_set 110 = .ok (.getfield 26, 3) := by decide +kernel
theorem dX5_set_113 : decode cX5_set 113 = .ok (.iload_n 1, 1) := by decide +kernel
theorem dX5_set_114 : decode cX5_set 114 = .ok (.dup2, 1) := by decide +kernel
theorem dX5_set_115 : decode cX5_set 115 = .ok (.iaload, 1) := by decide +kernel
theorem dX5_set_116 : decode cX5_set 116 = .ok (.iconst 1, 1) := by decide +kernel
theorem dX5_set_117 : decode cX5_set 117 = .ok (.iadd, 1) := by decide +kernel
theorem dX5_set_118 : decode cX5_set 118 = .ok (.iastore, 1) := by decide +kernel
theorem dX5_set_119 : decode cX5_set 119 = .ok (.iload_n 3, 1) := by decide +kernel
theorem dX5_set_120 : decode cX5_set 120 = .ok (.ireturn, 1) := by decide +kernel
set_option maxRecDepth 20000 in
theorem ggX5_print_X5_isPrinter : GoodIn wsX5_print wsX5_isPrinter := goodIn_r _ [9, 10, 11, 12, 8, 13, 25, 26, 27, 28, 29, 30, 31, 32, 33, 34, 35, 36, 37, 38, 39, 40, 41] (by decide +kernel) (by decide +kernel)
set_option maxRecDepth 20000 in
theorem gX5_print_X5_isPrinter : GoodIn wsX5_print (wsV RX5 74 RX5 yX5_isPrinter wsX5_isPrinter) := goodIn_app (goodIn_of _ (by decide +kernel)) ggX5_print_X5_isPrinter
set_option maxRecDepth 20000 in
theorem ggX5_print_X5_no : GoodIn wsX5_print wsX5_no := goodIn_r _ [17, 1, 25, 26, 27, 28, 29, 30, 31, 32, 33, 34, 35, 36, 37, 38, 39, 40, 41] (by decide +kernel) (by decide +kernel)
set_option maxRecDepth 20000 in
theorem gX5_print_X5_no : GoodIn wsX5_print (wsV RX5 58 RX5 yX5_no wsX5_no) := goodIn_app (goodIn_of _ (by decide +kernel)) ggX5_print_X5_no
set_option maxRecDepth 20000 in
theorem ggX5_print_X5_isIn : GoodIn wsX5_print wsX5_isIn := goodIn_r _ [13] (by decide +kernel) (by decide +kernel)
set_option maxRecDepth 20000 in
theorem gX5_print_X5_isIn : GoodIn wsX5_print (va_wsS RX5 44 yX5_isIn wsX5_isIn) := goodIn_app (goodIn_of _ (by decide +kernel)) ggX5_print_X5_isIn
set_option maxRecDepth 20000 in
theorem ggX5_print_X5_formOf : GoodIn wsX5_print wsX5_formOf := goodIn_r _ [20] (by decide +kernel) (by decide +kernel)
set_option maxRecDepth 20000 in
theorem gX5_print_X5_formOf : GoodIn wsX5_print (va_wsS RX5 110 yX5_formOf wsX5_formOf) := goodIn_app (goodIn_of _ (by decide +kernel)) ggX5_print_X5_formOf
set_option maxRecDepth 20000 in
theorem ggX5_print_X5_all : GoodIn wsX5_print wsX5_all := goodIn_r _ [24, 2, 25, 26, 27, 28, 29, 30, 31, 32, 33, 34, 35, 36, 37, 38, 39, 40, 41] (by decide +kernel) (by decide +kernel)
set_option maxRecDepth 20000 in
theorem gX5_print_X5_all : GoodIn wsX5_print (wsV RX5 113 RX5 yX5_all wsX5_all) := goodIn_app (goodIn_of _ (by decide +kernel)) ggX5_print_X5_all
theorem dX5_print_0 : decode cX5_print 0 = .ok (.aload_n 0, 1) := by decide +kernel
theorem dX5_print_1 : decode cX5_print 1 = .ok (.iconst 0, 1) := by decide +kernel
theorem dX5_print_2 : decode cX5_print 2 = .ok (.putfield 38, 3) := by decide +kernel
theorem dX5_print_5 : decode cX5_print 5 = .ok (.aload_n 0, 1) := by decide +kernel
theorem dX5_print_6 : decode cX5_print 6 = .ok (.iload_n 1, 1) := by decide +kernel
theorem dX5_print_7 : decode cX5_print 7 = .ok (.invokevirtual 74, 3) := by decide +kernel
theorem dX5_print_10 : decode cX5_print 10 = .ok (.ifCond .ne 9, 3) := by decide +kernel
theorem dX5_print_13 : decode cX5_print 13 = .ok (.aload_n 0, 1) := by decide +kernel
theorem dX5_print_14 : decode cX5_print 14 = .ok (.iconst 1, 1) := by decide +kernel
theorem dX5_print_15 : decode cX5_print 15 = .ok (.invokevirtual 58, 3) := by decide +kernel
theorem dX5_print_18 : decode cX5_print 18 = .ok (.ireturn, 1) := by decide +kernel
theorem dX5_print_19 : decode cX5_print 19 = .ok (.iload_n 2, 1) := by decide +kernel
theorem dX5_print_20 : decode cX5_print 20 = .ok (.iconst 1, 1) := by decide +kernel
theorem dX5_print_21 : decode cX5_print 21 = .ok (.sipush 1000, 3) := by decide +kernel
theorem dX5_print_24 : decode cX5_print 24 = .ok (.invokestatic 44, 3) := by decide +kernel
theorem dX5_print_27 : decode cX5_print 27 = .ok (.ifCond .ne 9, 3) := by decide +kernel
theorem dX5_print_30 : decode cX5_print 30 = .ok (.aload_n 0, 1) := by decide +kernel
theorem dX5_print_31 : decode cX5_print 31 = .ok (.iconst 2, 1) := by decide +kernel
theorem dX5_print_32 : decode cX5_print 32 = .ok (.invokevirtual 58, 3) := by decide +kernel
theorem dX5_print_35 : decode cX5_print 35 = .ok (.ireturn, 1) := by decide +kernel
theorem dX5_print_36 : decode cX5_print 36 = .ok (.iload_n 1, 1) := by decide +kernel
theorem dX5_print_37 : decode cX5_print 37 = .ok (.invokestatic 110, 3) := by decide +kernel
theorem dX5_print_40 : decode cX5_print 40 = .ok (.istore_n 3, 1) := by decide +kernel
theorem dX5_print_41 : decode cX5_print 41 = .ok (.aload_n 0, 1) := by decide +kernel
theorem dX5_print_42 : decode cX5_print 42 = .ok (.iload_n 3, 1) := by decide +kernel
theorem dX5_print_43 : decode cX5_print 43 = .ok (.invokevirtual 113, 3) := by decide +kernel
theorem dX5_print_46 : decode cX5_print 46 = .ok (.ifCond .ne 9, 3) := by decide +kernel
theorem dX5_print_49 : decode cX5_print 49 = .ok (.aload_n 0, 1) := by decide +kernel
theorem dX5_print_50 : decode cX5_print 50 = .ok (.iconst 3, 1) := by decide +kernel
theorem dX5_print_51 : decode cX5_print 51 = .ok (.invokevirtual 58, 3) := by decide +kernel
theorem dX5_print_54 : decode cX5_print 54 = .ok (.ireturn, 1) := by decide +kernel
theorem dX5_print_55 : decode cX5_print 55 = .ok (.iload_n 2, 1) := by decide +kernel
theorem dX5_print_56 : decode cX5_print 56 = .ok (.bipush 50, 2) := by decide +kernel
theorem dX5_print_58 : decode cX5_print 58 = .ok (.idiv, 1) := by decide +kernel
theorem dX5_print_59 : decode cX5_print 59 = .ok (.istore 4, 2) := by decide +kernel
theorem dX5_print_61 : decode cX5_print 61 = .ok (.iconst 0, 1) := by decide +kernel
theorem dX5_print_62 : decode cX5_print 62 = .ok (.istore 5, 2) := by decide +kernel
theorem dX5_print_64 : decode cX5_print 64 = .ok (.sipush 289, 3) := by decide +kernel
theorem dX5_print_67 : decode cX5_print 67 = .ok (.istore 6, 2) := by decide +kernel
theorem dX5_print_69 : decode cX5_print 69 = .ok (.iload 6, 2) := by decide +kernel
theorem dX5_print_71 : decode cX5_print 71 = .ok (.ifCond .lt 75, 3) := by decide +kernel
theorem dX5_print_74 : decode cX5_print 74 = .ok (.iload 4, 2) := by decide +kernel
theorem dX5_print_76 : decode cX5_print 76 = .ok (.ifCond .le 70, 3) := by decide +kernel
theorem dX5_print_79 : decode cX5_print 79 = .ok (.aload_n 0, 1) := by decide +kernel
theorem dX5_print_80 : decode cX5_print 80 = .ok (.getfield 13, 3) := by decide +kernel
theorem dX5_print_83 : decode cX5_print 83 = .ok (.iload_n 3, 1) := by decide +kernel
theorem dX5_print_84 : decode cX5_print 84 = .ok (.iload 6, 2) := by decide +kernel
theorem dX5_print_86 : decode cX5_print 86 = .ok (.iadd, 1) := by decide +kernel
theorem dX5_print_87 : decode cX5_print 87 = .ok (.iaload, 1) := by decide +kernel
theorem dX5_print_88 : decode cX5_print 88 = .ok (.istore 7, 2) := by decide +kernel
theorem dX5_print_90 : decode cX5_print 90 = .ok (.aload_n 0, 1) := by decide +kernel
theorem dX5_print_91 : decode cX5_print 91 = .ok (.getfield 13, 3) := by decide +kernel
theorem dX5_print_94 : decode cX5_print 94 = .ok (.iload_n 3, 1) := by decide +kernel
theorem dX5_print_95 : decode cX5_print 95 = .ok (.iload 6, 2) := by decide +kernel
theorem dX5_print_97 : decode cX5_print 97 = .ok (.iadd, 1) := by decide +kernel
theorem dX5_print_98 : decode cX5_print 98 = .ok (.iconst 0, 1) := by decide +kernel
theorem dX5_print_99 : decode cX5_print 99 = .ok (.iastore, 1) := by decide +kernel
theorem dX5_print_100 : decode cX5_print 100 = .ok (.iload 6, 2) := by decide +kernel
theorem dX5_print_102 : decode cX5_print 102 = .ok (.bipush 10, 2) := by decide +kernel
theorem dX5_print_104 : decode cX5_print 104 = .ok (.irem, 1) := by decide +kernel
theorem dX5_print_105 : decode cX5_print 105 = .ok (.iload 4, 2) := by decide +kernel
theorem dX5_print_107 : decode cX5_print 107 = .ok (.iadd, 1) := by decide +kernel
theorem dX5_print_108 : decode cX5_print 108 = .ok (.bipush 9, 2) := by decide +kernel
theorem dX5_print_110 : decode cX5_print 110 = .ok (.if_icmp .le 13, 3) := by decide +kernel
theorem dX5_print_113 : decode cX5_print 113 = .ok (.iload 5, 2) := by decide +kernel
theorem dX5_print_115 : decode cX5_print 115 = .ok (.iload 7, 2) := by decide +kernel
theorem dX5_print_117 : decode cX5_print 117 = .ok (.iadd, 1) := by decide +kernel
theorem dX5_print_118 : decode cX5_print 118 = .ok (.istore 5, 2) := by decide +kernel
theorem dX5_print_120 : decode cX5_print 120 = .ok (.goto 20, 3) := by decide +kernel
theorem dX5_print_123 : decode cX5_print 123 = .ok (.aload_n 0, 1) := by decide +kernel
theorem dX5_print_124 : decode cX5_print 124 = .ok (.getfield 13, 3) := by decide +kernel
theorem dX5_print_127 : decode cX5_print 127 = .ok (.iload_n 3, 1) := by decide +kernel
theorem dX5_print_128 : decode cX5_print 128 = .ok (.iload 6, 2) := by decide +kernel
theorem dX5_print_130 : decode cX5_print 130 = .ok (.iadd, 1) := by decide +kernel
theorem dX5_print_131 : decode cX5_print 131 = .ok (.iload 4, 2) := by decide +kernel
theorem dX5_print_133 : decode cX5_print 133 = .ok (.iadd, 1) := by decide +kernel
theorem dX5_print_134 : decode cX5_print 134 = .ok (.dup2, 1) := by decide +kernel
theorem dX5_print_135 : decode cX5_print 135 = .ok (.iaload, 1) := by decide +kernel
theorem dX5_print_136 : decode cX5_print 136 = .ok (.iload 7, 2) := by decide +kernel
theorem dX5_print_138 : decode cX5_print 138 = .ok (.iadd, 1) := by decide +kernel
theorem dX5_print_139 : decode cX5_print 139 = .ok (.iastore, 1) := by decide +kernel
theorem dX5_print_140 : decode cX5_print 140 = .ok (.iinc 6 (-1), 3) := by decide +kernel
theorem dX5_print_143 : decode cX5_print 143 = .ok (.goto (-74), 3) := by decide +kernel
theorem dX5_print_146 : decode cX5_print 146 = .ok (.aload_n 0, 1) := by decide +kernel
theorem dX5_print_147 : decode cX5_print 147 = .ok (.getfield 23, 3) := by decide +kernel
theorem dX5_print_150 : decode cX5_print 150 = .ok (.iload_n 1, 1) := by decide +kernel
theorem dX5_print_151 : decode cX5_print 151 = .ok (.dup2, 1) := by decide +kernel
theorem dX5_print_152 : decode cX5_print 152 = .ok (.iaload, 1) := by decide +kernel
theorem dX5_print_153 : decode cX5_print 153 = .ok (.iload_n 2, 1) := by decide +kernel
theorem dX5_print_154 : decode cX5_print 154 = .ok (.iadd, 1) := by decide +kernel
theorem dX5_print_155 : decode cX5_print 155 = .ok (.iastore, 1) := by decide +kernel
theorem dX5_print_156 : decode cX5_print 156 = .ok (.aload_n 0, 1) := by decide +kernel
theorem dX5_print_157 : decode cX5_print 157 = .ok (.dup, 1) := by decide +kernel
theorem dX5_print_158 : decode cX5_print 158 = .ok (.getfield 116, 3) := by decide +kernel
theorem dX5_print_161 : decode cX5_print 161 = .ok (.iload 5, 2) := by decide +kernel
theorem dX5_print_163 : decode cX5_print 163 = .ok (.iadd, 1) := by decide +kernel
theorem dX5_print_164 : decode cX5_print 164 = .ok (.putfield 116, 3) := by decide +kernel
theorem dX5_print_167 : decode cX5_print 167 = .ok (.iload 5, 2) := by decide +kernel
theorem dX5_print_169 : decode cX5_print 169 = .ok (.ireturn, 1) := by decide +kernel
set_option maxRecDepth 20000 in
theorem ggX5_distribute_X5_isPrinter : GoodIn wsX5_distribute wsX5_isPrinter := goodIn_r _ [8, 9, 10, 11, 7, 12, 27, 28, 29, 30, 31, 32, 33, 34, 35, 36, 37, 38, 39, 40, 41, 42, 43] (by decide +kernel) (by decide +kernel)
set_option maxRecDepth 20000 in
theorem gX5_distribute_X5_isPrinter : GoodIn wsX5_distribute (wsV RX5 74 RX5 yX5_isPrinter wsX5_isPrinter) := goodIn_app (goodIn_of _ (by decide +kernel)) ggX5_distribute_X5_isPrinter
set_option maxRecDepth 20000 in
theorem ggX5_distribute_X5_no : GoodIn wsX5_distribute wsX5_no := goodIn_r _ [16, 1, 27, 28, 29, 30, 31, 32, 33, 34, 35, 36, 37, 38, 39, 40, 41, 42, 43] (by decide +kernel) (by decide +kernel)
set_option maxRecDepth 20000 in
theorem gX5_distribute_X5_no : GoodIn wsX5_distribute (wsV RX5 58 RX5 yX5_no wsX5_no) := goodIn_app (goodIn_of _ (by decide +kernel)) ggX5_distribute_X5_no
set_option maxRecDepth 20000 in
theorem ggX5_distribute_X5_formOf : GoodIn wsX5_distribute wsX5_formOf := goodIn_r _ [19] (by decide +kernel) (by decide +kernel)
set_option maxRecDepth 20000 in
theorem gX5_distribute_X5_formOf : GoodIn wsX5_distribute (va_wsS RX5 110 yX5_formOf wsX5_formOf) := goodIn_app (goodIn_of _ (by decide +kernel)) ggX5_distribute_X5_formOf
set_option maxRecDepth 20000 in
theorem ggX5_distribute_X5_all : GoodIn wsX5_distribute wsX5_all := goodIn_r _ [23, 2, 27, 28, 29, 30, 31, 32, 33, 34, 35, 36, 37, 38, 39, 40, 41, 42, 43] (by decide +kernel) (by decide +kernel)
set_option maxRecDepth 20000 in
theorem gX5_distribute_X5_all : GoodIn wsX5_distribute (wsV RX5 113 RX5 yX5_all wsX5_all) := goodIn_app (goodIn_of _ (by decide +kernel)) ggX5_distribute_X5_all
set_option maxRecDepth 20000 in
theorem ggX5_distribute_X5_caseOf : GoodIn wsX5_distribute wsX5_caseOf := goodIn_r _ [26] (by decide +kernel) (by decide +kernel)
set_option maxRecDepth 20000 in
theorem gX5_distribute_X5_caseOf : GoodIn wsX5_distribute (va_wsS RX5 77 yX5_caseOf wsX5_caseOf) := goodIn_app (goodIn_of _ (by decide +kernel)) ggX5_distribute_X5_caseOf
theorem dX5_distribute_0 : decode cX5_distribute 0 = .ok (.aload_n 0, 1) := by decide +kernel
theorem dX5_distribute_1 : decode cX5_distribute 1 = .ok (.iconst 0, 1) := by decide +kernel
theorem dX5_distribute_2 : decode cX5_distribute 2 = .ok (.putfield 38, 3) := by decide +kernel
theorem dX5_distribute_5 : decode cX5_distribute 5 = .ok (.aload_n 0, 1) := by decide +kernel
theorem dX5_distribute_6 : decode cX5_distribute 6 = .ok (.iload_n 1, 1) := by decide +kernel
theorem dX5_distribute_7 : decode cX5_distribute 7 = .ok (.invokevirtual 74, 3) := by decide +kernel
theorem dX5_distribute_10 : decode cX5_distribute 10 = .ok (.ifCond .ne 9, 3) := by decide +kernel
theorem dX5_distribute_13 : decode cX5_distribute 13 = .ok (.aload_n 0, 1) := by decide +kernel
theorem dX5_distribute_14 : decode cX5_distribute 14 = .ok (.iconst 1, 1) := by decide +kernel
theorem dX5_distribute_15 : decode cX5_distribute 15 = .ok (.invokevirtual 58, 3) := by decide +kernel
theorem dX5_distribute_18 : decode cX5_distribute 18 = .ok (.ireturn, 1) := by decide +kernel
theorem dX5_distribute_19 : decode cX5_distribute 19 = .ok (.aload_n 0, 1) := by decide +kernel
theorem dX5_distribute_20 : decode cX5_distribute 20 = .ok (.iload_n 1, 1) := by decide +kernel
theorem dX5_distribute_21 : decode cX5_distribute 21 = .ok (.invokestatic 110, 3) := by decide +kernel
theorem dX5_distribute_24 : decode cX5_distribute 24 = .ok (.invokevirtual 113, 3) := by decide +kernel
theorem dX5_distribute_27 : decode cX5_distribute 27 = .ok (.istore_n 2, 1) := by decide +kernel
theorem dX5_distribute_28 : decode cX5_distribute 28 = .ok (.iconst 0, 1) := by decide +kernel
theorem dX5_distribute_29 : decode cX5_distribute 29 = .ok (.istore_n 3, 1) := by decide +kernel
theorem dX5_distribute_30 : decode cX5_distribute 30 = .ok (.iload_n 3, 1) := by decide +kernel
theorem dX5_distribute_31 : decode cX5_distribute 31 = .ok (.sipush 290, 3) := by decide +kernel
theorem dX5_distribute_34 : decode cX5_distribute 34 = .ok (.if_icmp .ge 46, 3) := by decide +kernel
theorem dX5_distribute_37 : decode cX5_distribute 37 = .ok (.aload_n 0, 1) := by decide +kernel
theorem dX5_distribute_38 : decode cX5_distribute 38 = .ok (.getfield 13, 3) := by decide +kernel
theorem dX5_distribute_41 : decode cX5_distribute 41 = .ok (.iload_n 1, 1) := by decide +kernel
theorem dX5_distribute_42 : decode cX5_distribute 42 = .ok (.invokestatic 77, 3) := by decide +kernel
theorem dX5_distribute_45 : decode cX5_distribute 45 = .ok (.iload_n 3, 1) := by decide +kernel
theorem dX5_distribute_46 : decode cX5_distribute 46 = .ok (.iadd, 1) := by decide +kernel
theorem dX5_distribute_47 : decode cX5_distribute 47 = .ok (.dup2, 1) := by decide +kernel
theorem dX5_distribute_48 : decode cX5_distribute 48 = .ok (.iaload, 1) := by decide +kernel
theorem dX5_distribute_49 : decode cX5_distribute 49 = .ok (.aload_n 0, 1) := by decide +kernel
theorem dX5_distribute_50 : decode cX5_distribute 50 = .ok (.getfield 13, 3) := by decide +kernel
theorem dX5_distribute_53 : decode cX5_distribute 53 = .ok (.iload_n 1, 1) := by decide +kernel
theorem dX5_distribute_54 : decode cX5_distribute 54 = .ok (.invokestatic 110, 3) := by decide +kernel
theorem dX5_distribute_57 : decode cX5_distribute 57 = .ok (.iload_n 3, 1) := by decide +kernel
theorem dX5_distribute_58 : decode cX5_distribute 58 = .ok (.iadd, 1) := by decide +kernel
theorem dX5_distribute_59 : decode cX5_distribute 59 = .ok (.iaload, 1) := by decide +kernel
theorem dX5_distribute_60 : decode cX5_distribute 60 = .ok (.iadd, 1) := by decide +kernel
theorem dX5_distribute_61 : decode cX5_distribute 61 = .ok (.iastore, 1) := by decide +kernel
theorem dX5_distribute_62 : decode cX5_distribute 62 = .ok (.aload_n 0, 1) := by decide +kernel
theorem dX5_distribute_63 : decode cX5_distribute 63 = .ok (.getfield 13, 3) := by decide +kernel
theorem dX5_distribute_66 : decode cX5_distribute 66 = .ok (.iload_n 1, 1) := by decide +kernel
theorem dX5_distribute_67 : decode cX5_distribute 67 = .ok (.invokestatic 110, 3) := by decide +kernel
theorem dX5_distribute_70 : decode cX5_distribute 70 = .ok (.iload_n 3, 1) := by decide +kernel
theorem dX5_distribute_71 : decode cX5_distribute 71 = .ok (.iadd, 1) := by decide +kernel
theorem dX5_distribute_72 : decode cX5_distribute 72 = .ok (.iconst 0, 1) := by decide +kernel
theorem dX5_distribute_73 : decode cX5_distribute 73 = .ok (.iastore, 1) := by decide +kernel
theorem dX5_distribute_74 : decode cX5_distribute 74 = .ok (.iinc 3 1, 3) := by decide +kernel
theorem dX5_distribute_77 : decode cX5_distribute 77 = .ok (.goto (-47), 3) := by decide +kernel
theorem dX5_distribute_80 : decode cX5_distribute 80 = .ok (.aload_n 0, 1) := by decide +kernel
theorem dX5_distribute_81 : decode cX5_distribute 81 = .ok (.getfield 26, 3) := by decide +kernel
theorem dX5_distribute_84 : decode cX5_distribute 84 = .ok (.iload_n 1, 1) := by decide +kernel
theorem dX5_distribute_85 : decode cX5_distribute 85 = .ok (.iconst 0, 1) := by decide +kernel
theorem dX5_distribute_86 : decode cX5_distribute 86 = .ok (.iastore, 1) := by decide +kernel
theorem dX5_distribute_87 : decode cX5_distribute 87 = .ok (.iload_n 2, 1) := by decide +kernel
theorem dX5_distribute_88 : decode cX5_distribute 88 = .ok (.ireturn, 1) := by decide +kernel
set_option maxRecDepth 20000 in
theorem ggX5_pass_X5_isIn : GoodIn wsX5_pass wsX5_isIn := goodIn_r _ [8] (by decide +kernel) (by decide +kernel)
set_option maxRecDepth 20000 in
theorem gX5_pass_X5_isIn : GoodIn wsX5_pass (va_wsS RX5 44 yX5_isIn wsX5_isIn) := goodIn_app (goodIn_of _ (by decide +kernel)) ggX5_pass_X5_isIn
set_option maxRecDepth 20000 in
theorem ggX5_pass_X5_no : GoodIn wsX5_pass wsX5_no := goodIn_r _ [12, 1, 24, 25, 26, 27, 28, 29, 30, 31, 32, 33, 34, 35, 36, 37, 38, 39, 40] (by decide +kernel) (by decide +kernel)
set_option maxRecDepth 20000 in
theorem gX5_pass_X5_no : GoodIn wsX5_pass (wsV RX5 58 RX5 yX5_no wsX5_no) := goodIn_app (goodIn_of _ (by decide +kernel)) ggX5_pass_X5_no
set_option maxRecDepth 20000 in
theorem ggX5_pass_X5_caseOf : GoodIn wsX5_pass wsX5_caseOf := goodIn_r _ [15] (by decide +kernel) (by decide +kernel)
set_option maxRecDepth 20000 in
theorem gX5_pass_X5_caseOf : GoodIn wsX5_pass (va_wsS RX5 77 yX5_caseOf wsX5_caseOf) := goodIn_app (goodIn_of _ (by decide +kernel)) ggX5_pass_X5_caseOf
set_option maxRecDepth 20000 in
theorem ggX5_pass_X5_all : GoodIn wsX5_pass wsX5_all := goodIn_r _ [19, 20, 24, 25, 26, 27, 28, 29, 30, 31, 32, 33, 34, 35, 36, 37, 38, 39, 40] (by decide +kernel) (by decide +kernel)
set_option maxRecDepth 20000 in
theorem gX5_pass_X5_all : GoodIn wsX5_pass (wsV RX5 113 RX5 yX5_all wsX5_all) := goodIn_app (goodIn_of _ (by decide +kernel)) ggX5_pass_X5_all
set_option maxRecDepth 20000 in
theorem ggX5_pass_X5_formOf : GoodIn wsX5_pass wsX5_formOf := goodIn_r _ [23] (by decide +kernel) (by decide +kernel)
set_option maxRecDepth 20000 in
theorem gX5_pass_X5_formOf : GoodIn wsX5_pass (va_wsS RX5 110 yX5_formOf wsX5_formOf) := goodIn_app (goodIn_of _ (by decide +kernel)) ggX5_pass_X5_formOf
theorem dX5_pass_0 : decode cX5_pass 0 = .ok (.aload_n 0, 1) := by decide +kernel
theorem dX5_pass_1 : decode cX5_pass 1 = .ok (.iconst 0, 1) := by decide +kernel
theorem dX5_pass_2 : decode cX5_pass 2 = .ok (.putfield 38, 3) := by decide +kernel
theorem dX5_pass_5 : decode cX5_pass 5 = .ok (.iload_n 1, 1) := by decide +kernel
theorem dX5_pass_6 : decode cX5_pass 6 = .ok (.iconst 1, 1) := by decide +kernel
theorem dX5_pass_7 : decode cX5_pass 7 = .ok (.bipush 100, 2) := by decide +kernel
theorem dX5_pass_9 : decode cX5_pass 9 = .ok (.invokestatic 44, 3) := by decide +kernel
theorem dX5_pass_12 : decode cX5_pass 12 = .ok (.ifCond .ne 9, 3) := by decide +kernel
theorem dX5_pass_15 : decode cX5_pass 15 = .ok (.aload_n 0, 1) := by decide +kernel
theorem dX5_pass_16 : decode cX5_pass 16 = .ok (.iconst 1, 1) := by decide +kernel
theorem dX5_pass_17 : decode cX5_pass 17 = .ok (.invokevirtual 58, 3) := by decide +kernel
theorem dX5_pass_20 : decode cX5_pass 20 = .ok (.ireturn, 1) := by decide +kernel
theorem dX5_pass_21 : decode cX5_pass 21 = .ok (.iconst 0, 1) := by decide +kernel
theorem dX5_pass_22 : decode cX5_pass 22 = .ok (.istore_n 2, 1) := by decide +kernel
theorem dX5_pass_23 : decode cX5_pass 23 = .ok (.iconst 0, 1) := by decide +kernel
theorem dX5_pass_24 : decode cX5_pass 24 = .ok (.istore_n 3, 1) := by decide +kernel
theorem dX5_pass_25 : decode cX5_pass 25 = .ok (.iload_n 3, 1) := by decide +kernel
theorem dX5_pass_26 : decode cX5_pass 26 = .ok (.aload_n 0, 1) := by decide +kernel
theorem dX5_pass_27 : decode cX5_pass 27 = .ok (.getfield 41, 3) := by decide +kernel
theorem dX5_pass_30 : decode cX5_pass 30 = .ok (.if_icmp .ge 52, 3) := by decide +kernel
theorem dX5_pass_33 : decode cX5_pass 33 = .ok (.aload_n 0, 1) := by decide +kernel
theorem dX5_pass_34 : decode cX5_pass 34 = .ok (.getfield 20, 3) := by decide +kernel
theorem dX5_pass_37 : decode cX5_pass 37 = .ok (.iload_n 3, 1) := by decide +kernel
theorem dX5_pass_38 : decode cX5_pass 38 = .ok (.dup2, 1) := by decide +kernel
theorem dX5_pass_39 : decode cX5_pass 39 = .ok (.iaload, 1) := by decide +kernel
theorem dX5_pass_40 : decode cX5_pass 40 = .ok (.iload_n 1, 1) := by decide +kernel
theorem dX5_pass_41 : decode cX5_pass 41 = .ok (.aload_n 0, 1) := by decide +kernel
theorem dX5_pass_42 : decode cX5_pass 42 = .ok (.iload_n 3, 1) := by decide +kernel
theorem dX5_pass_43 : decode cX5_pass 43 = .ok (.invokestatic 77, 3) := by decide +kernel
theorem dX5_pass_46 : decode cX5_pass 46 = .ok (.invokevirtual 113, 3) := by decide +kernel
theorem dX5_pass_49 : decode cX5_pass 49 = .ok (.aload_n 0, 1) := by decide +kernel
theorem dX5_pass_50 : decode cX5_pass 50 = .ok (.iload_n 3, 1) := by decide +kernel
theorem dX5_pass_51 : decode cX5_pass 51 = .ok (.invokestatic 110, 3) := by decide +kernel
theorem dX5_pass_54 : decode cX5_pass 54 = .ok (.invokevirtual 113, 3) := by decide +kernel
theorem dX5_pass_57 : decode cX5_pass 57 = .ok (.iadd, 1) := by decide +kernel
theorem dX5_pass_58 : decode cX5_pass 58 = .ok (.bipush 9, 2) := by decide +kernel
theorem dX5_pass_60 : decode cX5_pass 60 = .ok (.iadd, 1) := by decide +kernel
theorem dX5_pass_61 : decode cX5_pass 61 = .ok (.bipush 10, 2) := by decide +kernel
theorem dX5_pass_63 : decode cX5_pass 63 = .ok (.idiv, 1) := by decide +kernel
theorem dX5_pass_64 : decode cX5_pass 64 = .ok (.imul, 1) := by decide +kernel
theorem dX5_pass_65 : decode cX5_pass 65 = .ok (.iadd, 1) := by decide +kernel
theorem dX5_pass_66 : decode cX5_pass 66 = .ok (.iastore, 1) := by decide +kernel
theorem dX5_pass_67 : decode cX5_pass 67 = .ok (.iload_n 2, 1) := by decide +kernel
theorem dX5_pass_68 : decode cX5_pass 68 = .ok (.aload_n 0, 1) := by decide +kernel
theorem dX5_pass_69 : decode cX5_pass 69 = .ok (.getfield 20, 3) := by decide +kernel
theorem dX5_pass_72 : decode cX5_pass 72 = .ok (.iload_n 3, 1) := by decide +kernel
theorem dX5_pass_73 : decode cX5_pass 73 = .ok (.iaload, 1) := by decide +kernel
theorem dX5_pass_74 : decode cX5_pass 74 = .ok (.iadd, 1) := by decide +kernel
theorem dX5_pass_75 : decode cX5_pass 75 = .ok (.istore_n 2, 1) := by decide +kernel
theorem dX5_pass_76 : decode cX5_pass 76 = .ok (.iinc 3 1, 3) := by decide +kernel
theorem dX5_pass_79 : decode cX5_pass 79 = .ok (.goto (-54), 3) := by decide +kernel
theorem dX5_pass_82 : decode cX5_pass 82 = .ok (.aload_n 0, 1) := by decide +kernel
theorem dX5_pass_83 : decode cX5_pass 83 = .ok (.dup, 1) := by decide +kernel
theorem dX5_pass_84 : decode cX5_pass 84 = .ok (.getfield 119, 3) := by decide +kernel
theorem dX5_pass_87 : decode cX5_pass 87 = .ok (.iload_n 1, 1) := by decide +kernel
theorem dX5_pass_88 : decode cX5_pass 88 = .ok (.iadd, 1) := by decide +kernel
theorem dX5_pass_89 : decode cX5_pass 89 = .ok (.putfield 119, 3) := by decide +kernel
theorem dX5_pass_92 : decode cX5_pass 92 = .ok (.iload_n 2, 1) := by decide +kernel
theorem dX5_pass_93 : decode cX5_pass 93 = .ok (.ireturn, 1) := by decide +kernel
set_option maxRecDepth 20000 in
theorem ggX5_sorts_X5_isPrinter : GoodIn wsX5_sorts wsX5_isPrinter := goodIn_r _ [7, 8, 9, 10, 6, 11, 22, 23, 24, 25, 26, 27, 28, 29, 30, 31, 32, 33, 34, 35, 36, 37, 38] (by decide +kernel) (by decide +kernel)
set_option maxRecDepth 20000 in
theorem gX5_sorts_X5_isPrinter : GoodIn wsX5_sorts (wsV RX5 74 RX5 yX5_isPrinter wsX5_isPrinter) := goodIn_app (goodIn_of _ (by decide +kernel)) ggX5_sorts_X5_isPrinter
set_option maxRecDepth 20000 in
theorem ggX5_sorts_X5_isSign : GoodIn wsX5_sorts wsX5_isSign := goodIn_r _ [14, 9, 10, 6, 11] (by decide +kernel) (by decide +kernel)
set_option maxRecDepth 20000 in
theorem gX5_sorts_X5_isSign : GoodIn wsX5_sorts (va_wsS RX5 54 yX5_isSign wsX5_isSign) := goodIn_app (goodIn_of _ (by decide +kernel)) ggX5_sorts_X5_isSign
set_option maxRecDepth 20000 in
theorem ggX5_sorts_X5_isIn : GoodIn wsX5_sorts wsX5_isIn := goodIn_r _ [11] (by decide +kernel) (by decide +kernel)
set_option maxRecDepth 20000 in
theorem gX5_sorts_X5_isIn : GoodIn wsX5_sorts (va_wsS RX5 44 yX5_isIn wsX5_isIn) := goodIn_app (goodIn_of _ (by decide +kernel)) ggX5_sorts_X5_isIn
set_option maxRecDepth 20000 in
theorem ggX5_sorts_X5_caseOf : GoodIn wsX5_sorts wsX5_caseOf := goodIn_r _ [17] (by decide +kernel) (by decide +kernel)
set_option maxRecDepth 20000 in
theorem gX5_sorts_X5_caseOf : GoodIn wsX5_sorts (va_wsS RX5 77 yX5_caseOf wsX5_caseOf) := goodIn_app (goodIn_of _ (by decide +kernel)) ggX5_sorts_X5_caseOf
set_option maxRecDepth 20000 in
theorem ggX5_sorts_X5_no : GoodIn wsX5_sorts wsX5_no := goodIn_r _ [21, 1, 22, 23, 24, 25, 26, 27, 28, 29, 30, 31, 32, 33, 34, 35, 36, 37, 38] (by decide +kernel) (by decide +kernel)
set_option maxRecDepth 20000 in
theorem gX5_sorts_X5_no : GoodIn wsX5_sorts (wsV RX5 58 RX5 yX5_no wsX5_no) := goodIn_app (goodIn_of _ (by decide +kernel)) ggX5_sorts_X5_no
theorem dX5_sorts_0 : decode cX5_sorts 0 = .ok (.aload_n 0, 1) := by decide +kernel
theorem dX5_sorts_1 : decode cX5_sorts 1 = .ok (.iconst 0, 1) := by decide +kernel
theorem dX5_sorts_2 : decode cX5_sorts 2 = .ok (.putfield 38, 3) := by decide +kernel
theorem dX5_sorts_5 : decode cX5_sorts 5 = .ok (.iload_n 1, 1) := by decide +kernel
theorem dX5_sorts_6 : decode cX5_sorts 6 = .ok (.iconst (-1), 1) := by decide +kernel
theorem dX5_sorts_7 : decode cX5_sorts 7 = .ok (.if_icmp .eq 11, 3) := by decide +kernel
theorem dX5_sorts_10 : decode cX5_sorts 10 = .ok (.aload_n 0, 1) := by decide +kernel
theorem dX5_sorts_11 : decode cX5_sorts 11 = .ok (.iload_n 1, 1) := by decide +kernel
theorem dX5_sorts_12 : decode cX5_sorts 12 = .ok (.invokevirtual 74, 3) := by decide +kernel
theorem dX5_sorts_15 : decode cX5_sorts 15 = .ok (.ifCond .eq 24, 3) := by decide +kernel
theorem dX5_sorts_18 : decode cX5_sorts 18 = .ok (.iload_n 2, 1) := by decide +kernel
theorem dX5_sorts_19 : decode cX5_sorts 19 = .ok (.invokestatic 54, 3) := by decide +kernel
theorem dX5_sorts_22 : decode cX5_sorts 22 = .ok (.ifCond .eq 17, 3) := by decide +kernel
theorem dX5_sorts_25 : decode cX5_sorts 25 = .ok (.iload_n 3, 1) := by decide +kernel
theorem dX5_sorts_26 : decode cX5_sorts 26 = .ok (.iconst 0, 1) := by decide +kernel
theorem dX5_sorts_27 : decode cX5_sorts 27 = .ok (.bipush 9, 2) := by decide +kernel
theorem dX5_sorts_29 : decode cX5_sorts 29 = .ok (.invokestatic 44, 3) := by decide +kernel
theorem dX5_sorts_32 : decode cX5_sorts 32 = .ok (.ifCond .eq 7, 3) := by decide +kernel
theorem dX5_sorts_35 : decode cX5_sorts 35 = .ok (.iconst 1, 1) := by decide +kernel
theorem dX5_sorts_36 : decode cX5_sorts 36 = .ok (.goto 4, 3) := by decide +kernel
theorem dX5_sorts_39 : decode cX5_sorts 39 = .ok (.iconst 0, 1) := by decide +kernel
theorem dX5_sorts_40 : decode cX5_sorts 40 = .ok (.istore 4, 2) := by decide +kernel
theorem dX5_sorts_42 : decode cX5_sorts 42 = .ok (.iload 4, 2) := by decide +kernel
theorem dX5_sorts_44 : decode cX5_sorts 44 = .ok (.ifCond .eq 22, 3) := by decide +kernel
theorem dX5_sorts_47 : decode cX5_sorts 47 = .ok (.aload_n 0, 1) := by decide +kernel
theorem dX5_sorts_48 : decode cX5_sorts 48 = .ok (.getfield 13, 3) := by decide +kernel
theorem dX5_sorts_51 : decode cX5_sorts 51 = .ok (.iload_n 1, 1) := by decide +kernel
theorem dX5_sorts_52 : decode cX5_sorts 52 = .ok (.invokestatic 77, 3) := by decide +kernel
theorem dX5_sorts_55 : decode cX5_sorts 55 = .ok (.bipush 10, 2) := by decide +kernel
theorem dX5_sorts_57 : decode cX5_sorts 57 = .ok (.iload_n 2, 1) := by decide +kernel
theorem dX5_sorts_58 : decode cX5_sorts 58 = .ok (.imul, 1) := by decide +kernel
theorem dX5_sorts_59 : decode cX5_sorts 59 = .ok (.iadd, 1) := by decide +kernel
theorem dX5_sorts_60 : decode cX5_sorts 60 = .ok (.iload_n 3, 1) := by decide +kernel
theorem dX5_sorts_61 : decode cX5_sorts 61 = .ok (.iadd, 1) := by decide +kernel
theorem dX5_sorts_62 : decode cX5_sorts 62 = .ok (.iaload, 1) := by decide +kernel
theorem dX5_sorts_63 : decode cX5_sorts 63 = .ok (.goto 8, 3) := by decide +kernel
theorem dX5_sorts_66 : decode cX5_sorts 66 = .ok (.aload_n 0, 1) := by decide +kernel
theorem dX5_sorts_67 : decode cX5_sorts 67 = .ok (.iconst 1, 1) := by decide +kernel
theorem dX5_sorts_68 : decode cX5_sorts 68 = .ok (.invokevirtual 58, 3) := by decide +kernel
theorem dX5_sorts_71 : decode cX5_sorts 71 = .ok (.ireturn, 1) := by decide +kernel
set_option maxRecDepth 20000 in
theorem ggX5_told_X5_caseOf : GoodIn wsX5_told wsX5_caseOf := goodIn_r _ [9] (by decide +kernel) (by decide +kernel)
set_option maxRecDepth 20000 in
theorem gX5_told_X5_caseOf : GoodIn wsX5_told (va_wsS RX5 77 yX5_caseOf wsX5_caseOf) := goodIn_app (goodIn_of _ (by decide +kernel)) ggX5_told_X5_caseOf
set_option maxRecDepth 20000 in
theorem ggX5_told_X5_all : GoodIn wsX5_told wsX5_all := goodIn_r _ [13, 14, 22, 23, 24, 25, 26, 27, 28, 29, 30, 31, 32, 33, 34, 35, 36, 37, 38] (by decide +kernel) (by decide +kernel)
set_option maxRecDepth 20000 in
theorem gX5_told_X5_all : GoodIn wsX5_told (wsV RX5 113 RX5 yX5_all wsX5_all) := goodIn_app (goodIn_of _ (by decide +kernel)) ggX5_told_X5_all
set_option maxRecDepth 20000 in
theorem ggX5_told_X5_formOf : GoodIn wsX5_told wsX5_formOf := goodIn_r _ [17] (by decide +kernel) (by decide +kernel)
set_option maxRecDepth 20000 in
theorem gX5_told_X5_formOf : GoodIn wsX5_told (va_wsS RX5 110 yX5_formOf wsX5_formOf) := goodIn_app (goodIn_of _ (by decide +kernel)) ggX5_told_X5_formOf
set_option maxRecDepth 20000 in
theorem ggX5_told_X5_worn : GoodIn wsX5_told wsX5_worn := goodIn_r _ [21, 14, 22, 23, 24, 25, 26, 27, 28, 29, 30, 31, 32, 33, 34, 35, 36, 37, 38] (by decide +kernel) (by decide +kernel)
set_option maxRecDepth 20000 in
theorem gX5_told_X5_worn : GoodIn wsX5_told (wsV RX5 122 RX5 yX5_worn wsX5_worn) := goodIn_app (goodIn_of _ (by decide +kernel)) ggX5_told_X5_worn
theorem dX5_told_0 : decode cX5_told 0 = .ok (.bipush 7, 2) := by decide +kernel
theorem dX5_told_2 : decode cX5_told 2 = .ok (.newarray .int, 2) := by decide +kernel
theorem dX5_told_4 : decode cX5_told 4 = .ok (.dup, 1) := by decide +kernel
theorem dX5_told_5 : decode cX5_told 5 = .ok (.iconst 0, 1) := by decide +kernel
theorem dX5_told_6 : decode cX5_told 6 = .ok (.aload_n 0, 1) := by decide +kernel
theorem dX5_told_7 : decode cX5_told 7 = .ok (.getfield 17, 3) := by decide +kernel
theorem dX5_told_10 : decode cX5_told 10 = .ok (.iload_n 1, 1) := by decide +kernel
theorem dX5_told_11 : decode cX5_told 11 = .ok (.iaload, 1) := by decide +kernel
theorem dX5_told_12 : decode cX5_told 12 = .ok (.iastore, 1) := by decide +kernel
theorem dX5_told_13 : decode cX5_told 13 = .ok (.dup, 1) := by decide +kernel
theorem dX5_told_14 : decode cX5_told 14 = .ok (.iconst 1, 1) := by decide +kernel
theorem dX5_told_15 : decode cX5_told 15 = .ok (.aload_n 0, 1) := by decide +kernel
theorem dX5_told_16 : decode cX5_told 16 = .ok (.getfield 20, 3) := by decide +kernel
theorem dX5_told_19 : decode cX5_told 19 = .ok (.iload_n 1, 1) := by decide +kernel
theorem dX5_told_20 : decode cX5_told 20 = .ok (.iaload, 1) := by decide +kernel
theorem dX5_told_21 : decode cX5_told 21 = .ok (.iastore, 1) := by decide +kernel
theorem dX5_told_22 : decode cX5_told 22 = .ok (.dup, 1) := by decide +kernel
theorem dX5_told_23 : decode cX5_told 23 = .ok (.iconst 2, 1) := by decide +kernel
theorem dX5_told_24 : decode cX5_told 24 = .ok (.aload_n 0, 1) := by decide +kernel
theorem dX5_told_25 : decode cX5_told 25 = .ok (.iload_n 1, 1) := by decide +kernel
theorem dX5_told_26 : decode cX5_told 26 = .ok (.invokestatic 77, 3) := by decide +kernel
theorem dX5_told_29 : decode cX5_told 29 = .ok (.invokevirtual 113, 3) := by decide +kernel
theorem dX5_told_32 : decode cX5_told 32 = .ok (.iastore, 1) := by decide +kernel
theorem dX5_told_33 : decode cX5_told 33 = .ok (.dup, 1) := by decide +kernel
theorem dX5_told_34 : decode cX5_told 34 = .ok (.iconst 3, 1) := by decide +kernel
theorem dX5_told_35 : decode cX5_told 35 = .ok (.aload_n 0, 1) := by decide +kernel
theorem dX5_told_36 : decode cX5_told 36 = .ok (.iload_n 1, 1) := by decide +kernel
theorem dX5_told_37 : decode cX5_told 37 = .ok (.invokestatic 110, 3) := by decide +kernel
theorem dX5_told_40 : decode cX5_told 40 = .ok (.invokevirtual 113, 3) := by decide +kernel
theorem dX5_told_43 : decode cX5_told 43 = .ok (.iastore, 1) := by decide +kernel
theorem dX5_told_44 : decode cX5_told 44 = .ok (.dup, 1) := by decide +kernel
theorem dX5_told_45 : decode cX5_told 45 = .ok (.iconst 4, 1) := by decide +kernel
theorem dX5_told_46 : decode cX5_told 46 = .ok (.aload_n 0, 1) := by decide +kernel
theorem dX5_told_47 : decode cX5_told 47 = .ok (.iload_n 1, 1) := by decide +kernel
theorem dX5_told_48 : decode cX5_told 48 = .ok (.invokestatic 110, 3) := by decide +kernel
theorem dX5_told_51 : decode cX5_told 51 = .ok (.invokevirtual 122, 3) := by decide +kernel
theorem dX5_told_54 : decode cX5_told 54 = .ok (.iastore, 1) := by decide +kernel
theorem dX5_told_55 : decode cX5_told 55 = .ok (.dup, 1) := by decide +kernel
theorem dX5_told_56 : decode cX5_told 56 = .ok (.iconst 5, 1) := by decide +kernel
theorem dX5_told_57 : decode cX5_told 57 = .ok (.aload_n 0, 1) := by decide +kernel
theorem dX5_told_58 : decode cX5_told 58 = .ok (.getfield 23, 3) := by decide +kernel
theorem dX5_told_61 : decode cX5_told 61 = .ok (.iload_n 1, 1) := by decide +kernel
theorem dX5_told_62 : decode cX5_told 62 = .ok (.iaload, 1) := by decide +kernel
theorem dX5_told_63 : decode cX5_told 63 = .ok (.iastore, 1) := by decide +kernel
theorem dX5_told_64 : decode cX5_told 64 = .ok (.dup, 1) := by decide +kernel
theorem dX5_told_65 : decode cX5_told 65 = .ok (.bipush 6, 2) := by decide +kernel
theorem dX5_told_67 : decode cX5_told 67 = .ok (.aload_n 0, 1) := by decide +kernel
theorem dX5_told_68 : decode cX5_told 68 = .ok (.getfield 26, 3) := by decide +kernel
theorem dX5_told_71 : decode cX5_told 71 = .ok (.iload_n 1, 1) := by decide +kernel
theorem dX5_told_72 : decode cX5_told 72 = .ok (.iaload, 1) := by decide +kernel
theorem dX5_told_73 : decode cX5_told 73 = .ok (.iastore, 1) := by decide +kernel
theorem dX5_told_74 : decode cX5_told 74 = .ok (.astore_n 3, 1) := by decide +kernel
theorem dX5_told_75 : decode cX5_told 75 = .ok (.aload_n 3, 1) := by decide +kernel
theorem dX5_told_76 : decode cX5_told 76 = .ok (.iload_n 2, 1) := by decide +kernel
theorem dX5_told_77 : decode cX5_told 77 = .ok (.iaload, 1) := by decide +kernel
theorem dX5_told_78 : decode cX5_told 78 = .ok (.ireturn, 1) := by decide +kernel
