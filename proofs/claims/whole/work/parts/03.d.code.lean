set_option maxRecDepth 20000 in
theorem gX4_saves_X1_lay : GoodIn wsX4_saves (wsV RX4 137 RX1 yX1_lay wsX1_lay) := goodIn_app (goodIn_of _ (by decide +kernel)) ggX4_saves_X1_lay
set_option maxRecDepth 20000 in
theorem ggX4_saves_X1_takenOfPlenty : GoodIn wsX4_saves wsX1_takenOfPlenty := goodIn_r _ [55, 7, 67, 68] (by decide +kernel) (by decide +kernel)
set_option maxRecDepth 20000 in
theorem gX4_saves_X1_takenOfPlenty : GoodIn wsX4_saves (wsV RX4 204 RX1 yX1_takenOfPlenty wsX1_takenOfPlenty) := goodIn_app (goodIn_of _ (by decide +kernel)) ggX4_saves_X1_takenOfPlenty
theorem dX4_saves_0 : decode cX4_saves 0 = .ok (.aload_n 0, 1) := by decide +kernel
theorem dX4_saves_1 : decode cX4_saves 1 = .ok (.getfield 36, 3) := by decide +kernel
theorem dX4_saves_4 : decode cX4_saves 4 = .ok (.invokevirtual 201, 3) := by decide +kernel
theorem dX4_saves_7 : decode cX4_saves 7 = .ok (.aload_n 0, 1) := by decide +kernel
theorem dX4_saves_8 : decode cX4_saves 8 = .ok (.getfield 36, 3) := by decide +kernel
theorem dX4_saves_11 : decode cX4_saves 11 = .ok (.aload_n 0, 1) := by decide +kernel
theorem dX4_saves_12 : decode cX4_saves 12 = .ok (.iload_n 1, 1) := by decide +kernel
theorem dX4_saves_13 : decode cX4_saves 13 = .ok (.invokevirtual 129, 3) := by decide +kernel
theorem dX4_saves_16 : decode cX4_saves 16 = .ok (.invokevirtual 137, 3) := by decide +kernel
theorem dX4_saves_19 : decode cX4_saves 19 = .ok (.pop, 1) := by decide +kernel
theorem dX4_saves_20 : decode cX4_saves 20 = .ok (.aload_n 0, 1) := by decide +kernel
theorem dX4_saves_21 : decode cX4_saves 21 = .ok (.getfield 36, 3) := by decide +kernel
theorem dX4_saves_24 : decode cX4_saves 24 = .ok (.aload_n 0, 1) := by decide +kernel
theorem dX4_saves_25 : decode cX4_saves 25 = .ok (.iload_n 2, 1) := by decide +kernel
theorem dX4_saves_26 : decode cX4_saves 26 = .ok (.invokevirtual 129, 3) := by decide +kernel
theorem dX4_saves_29 : decode cX4_saves 29 = .ok (.invokevirtual 137, 3) := by decide +kernel
theorem dX4_saves_32 : decode cX4_saves 32 = .ok (.pop, 1) := by decide +kernel
theorem dX4_saves_33 : decode cX4_saves 33 = .ok (.iconst (-1), 1) := by decide +kernel
theorem dX4_saves_34 : decode cX4_saves 34 = .ok (.istore_n 3, 1) := by decide +kernel
theorem dX4_saves_35 : decode cX4_saves 35 = .ok (.iconst 0, 1) := by decide +kernel
theorem dX4_saves_36 : decode cX4_saves 36 = .ok (.istore 4, 2) := by decide +kernel
theorem dX4_saves_38 : decode cX4_saves 38 = .ok (.bipush 26, 2) := by decide +kernel
theorem dX4_saves_40 : decode cX4_saves 40 = .ok (.istore 5, 2) := by decide +kernel
theorem dX4_saves_42 : decode cX4_saves 42 = .ok (.iload 5, 2) := by decide +kernel
theorem dX4_saves_44 : decode cX4_saves 44 = .ok (.bipush 29, 2) := by decide +kernel
theorem dX4_saves_46 : decode cX4_saves 46 = .ok (.if_icmp .ge 34, 3) := by decide +kernel
theorem dX4_saves_49 : decode cX4_saves 49 = .ok (.aload_n 0, 1) := by decide +kernel
theorem dX4_saves_50 : decode cX4_saves 50 = .ok (.getfield 36, 3) := by decide +kernel
theorem dX4_saves_53 : decode cX4_saves 53 = .ok (.iload 5, 2) := by decide +kernel
theorem dX4_saves_55 : decode cX4_saves 55 = .ok (.invokevirtual 204, 3) := by decide +kernel
theorem dX4_saves_58 : decode cX4_saves 58 = .ok (.istore 6, 2) := by decide +kernel
theorem dX4_saves_60 : decode cX4_saves 60 = .ok (.iload 6, 2) := by decide +kernel
theorem dX4_saves_62 : decode cX4_saves 62 = .ok (.iload 4, 2) := by decide +kernel
theorem dX4_saves_64 : decode cX4_saves 64 = .ok (.if_icmp .le 10, 3) := by decide +kernel
theorem dX4_saves_67 : decode cX4_saves 67 = .ok (.iload 6, 2) := by decide +kernel
theorem dX4_saves_69 : decode cX4_saves 69 = .ok (.istore 4, 2) := by decide +kernel
theorem dX4_saves_71 : decode cX4_saves 71 = .ok (.iload 5, 2) := by decide +kernel
theorem dX4_saves_73 : decode cX4_saves 73 = .ok (.istore_n 3, 1) := by decide +kernel
theorem dX4_saves_74 : decode cX4_saves 74 = .ok (.iinc 5 1, 3) := by decide +kernel
theorem dX4_saves_77 : decode cX4_saves 77 = .ok (.goto (-35), 3) := by decide +kernel
theorem dX4_saves_80 : decode cX4_saves 80 = .ok (.iload_n 3, 1) := by decide +kernel
theorem dX4_saves_81 : decode cX4_saves 81 = .ok (.ireturn, 1) := by decide +kernel
set_option maxRecDepth 20000 in
theorem ggX4_times_X4_needPrinter : GoodIn wsX4_times wsX4_needPrinter := goodIn_ca (goodIn_r _ [6, 7, 8, 9, 82, 83, 84, 85, 86, 87, 88, 89, 90, 91, 92] (by decide +kernel) (by decide +kernel)) (goodIn_sub (fun _ h => List.mem_cons_of_mem _ (List.mem_append_left _ (List.mem_append_right _ h))) (by decide +kernel))
set_option maxRecDepth 20000 in
theorem gX4_times_X4_needPrinter : GoodIn wsX4_times (wsV RX4 98 RX4 yX4_needPrinter wsX4_needPrinter) := goodIn_app (goodIn_of _ (by decide +kernel)) ggX4_times_X4_needPrinter
set_option maxRecDepth 20000 in
theorem ggX4_times_X4_needWord : GoodIn wsX4_times wsX4_needWord := goodIn_ca (goodIn_r _ [13, 14, 15, 16, 17, 18, 19, 20, 21, 22, 23, 24, 82, 83, 84, 85, 86, 87, 88, 89, 90, 91, 92, 99, 100] (by decide +kernel) (by decide +kernel)) (goodIn_sub (fun _ h => List.mem_cons_of_mem _ (List.mem_append_right _ h)) (by decide +kernel))
set_option maxRecDepth 20000 in
theorem gX4_times_X4_needWord : GoodIn wsX4_times (wsV RX4 129 RX4 yX4_needWord wsX4_needWord) := goodIn_app (goodIn_of _ (by decide +kernel)) ggX4_times_X4_needWord
set_option maxRecDepth 20000 in
theorem ggX4_times_X1_fillFrom : GoodIn wsX4_times wsX1_fillFrom := goodIn_r _ [29, 30, 31, 32, 33, 34, 35, 36, 37, 38, 39, 40, 101, 102, 103] (by decide +kernel) (by decide +kernel)
set_option maxRecDepth 20000 in
theorem gX4_times_X1_fillFrom : GoodIn wsX4_times (wsV RX4 133 RX1 yX1_fillFrom wsX1_fillFrom) := goodIn_app (goodIn_of _ (by decide +kernel)) ggX4_times_X1_fillFrom
set_option maxRecDepth 20000 in
theorem ggX4_times_X1_layTillOneLacks : GoodIn wsX4_times wsX1_layTillOneLacks := goodIn_r _ [44, 45, 46, 47, 28, 48, 49, 30, 50, 51, 52, 53, 54, 55, 56, 20, 57, 24, 58, 59, 60, 61, 62, 63, 64, 65, 66, 67, 68, 69, 23, 70, 71, 5, 72, 73, 74, 75, 76, 77, 78, 79, 80, 81, 101, 102, 99, 100] (by decide +kernel) (by decide +kernel)
set_option maxRecDepth 20000 in
theorem gX4_times_X1_layTillOneLacks : GoodIn wsX4_times (wsV RX4 207 RX1 yX1_layTillOneLacks wsX1_layTillOneLacks) := goodIn_app (goodIn_of _ (by decide +kernel)) ggX4_times_X1_layTillOneLacks
theorem dX4_times_0 : decode cX4_times 0 = .ok (.aload_n 0, 1) := by decide +kernel
theorem dX4_times_1 : decode cX4_times 1 = .ok (.iload_n 1, 1) := by decide +kernel
theorem dX4_times_2 : decode cX4_times 2 = .ok (.invokevirtual 98, 3) := by decide +kernel
theorem dX4_times_5 : decode cX4_times 5 = .ok (.astore_n 3, 1) := by decide +kernel
theorem dX4_times_6 : decode cX4_times 6 = .ok (.aload_n 0, 1) := by decide +kernel
theorem dX4_times_7 : decode cX4_times 7 = .ok (.iload_n 2, 1) := by decide +kernel
theorem dX4_times_8 : decode cX4_times 8 = .ok (.invokevirtual 129, 3) := by decide +kernel
theorem dX4_times_11 : decode cX4_times 11 = .ok (.astore 4, 2) := by decide +kernel
theorem dX4_times_13 : decode cX4_times 13 = .ok (.aload_n 0, 1) := by decide +kernel
theorem dX4_times_14 : decode cX4_times 14 = .ok (.getfield 36, 3) := by decide +kernel
theorem dX4_times_17 : decode cX4_times 17 = .ok (.aload_n 3, 1) := by decide +kernel
theorem dX4_times_18 : decode cX4_times 18 = .ok (.getfield 104, 3) := by decide +kernel
theorem dX4_times_21 : decode cX4_times 21 = .ok (.invokevirtual 133, 3) := by decide +kernel
theorem dX4_times_24 : decode cX4_times 24 = .ok (.aload_n 0, 1) := by decide +kernel
theorem dX4_times_25 : decode cX4_times 25 = .ok (.getfield 36, 3) := by decide +kernel
theorem dX4_times_28 : decode cX4_times 28 = .ok (.aload 4, 2) := by decide +kernel
theorem dX4_times_30 : decode cX4_times 30 = .ok (.invokevirtual 207, 3) := by decide +kernel
theorem dX4_times_33 : decode cX4_times 33 = .ok (.ireturn, 1) := by decide +kernel
set_option maxRecDepth 20000 in
theorem ggX4_mean_X2_inAll : GoodIn wsX4_mean wsX2_inAll := goodIn_r _ [6, 7, 23] (by decide +kernel) (by decide +kernel)
set_option maxRecDepth 20000 in
theorem gX4_mean_X2_inAll : GoodIn wsX4_mean (wsV RX4 146 RX2 yX2_inAll wsX2_inAll) := goodIn_app (goodIn_of _ (by decide +kernel)) ggX4_mean_X2_inAll
set_option maxRecDepth 20000 in
theorem ggX4_mean_X2_wearInAll : GoodIn wsX4_mean wsX2_wearInAll := goodIn_r _ [11, 7, 23] (by decide +kernel) (by decide +kernel)
set_option maxRecDepth 20000 in
theorem gX4_mean_X2_wearInAll : GoodIn wsX4_mean (wsV RX4 210 RX2 yX2_wearInAll wsX2_wearInAll) := goodIn_app (goodIn_of _ (by decide +kernel)) ggX4_mean_X2_wearInAll
theorem dX4_mean_0 : decode cX4_mean 0 = .ok (.aload_n 0, 1) := by decide +kernel
theorem dX4_mean_1 : decode cX4_mean 1 = .ok (.getfield 10, 3) := by decide +kernel
theorem dX4_mean_4 : decode cX4_mean 4 = .ok (.invokevirtual 146, 3) := by decide +kernel
theorem dX4_mean_7 : decode cX4_mean 7 = .ok (.istore_n 1, 1) := by decide +kernel
theorem dX4_mean_8 : decode cX4_mean 8 = .ok (.iload_n 1, 1) := by decide +kernel
theorem dX4_mean_9 : decode cX4_mean 9 = .ok (.ifCond .ne 7, 3) := by decide +kernel
theorem dX4_mean_12 : decode cX4_mean 12 = .ok (.dconst 0, 1) := by decide +kernel
theorem dX4_mean_13 : decode cX4_mean 13 = .ok (.goto 14, 3) := by decide +kernel
theorem dX4_mean_16 : decode cX4_mean 16 = .ok (.aload_n 0, 1) := by decide +kernel
theorem dX4_mean_17 : decode cX4_mean 17 = .ok (.getfield 10, 3) := by decide +kernel
theorem dX4_mean_20 : decode cX4_mean 20 = .ok (.invokevirtual 210, 3) := by decide +kernel
theorem dX4_mean_23 : decode cX4_mean 23 = .ok (.i2d, 1) := by decide +kernel
theorem dX4_mean_24 : decode cX4_mean 24 = .ok (.iload_n 1, 1) := by decide +kernel
theorem dX4_mean_25 : decode cX4_mean 25 = .ok (.i2d, 1) := by decide +kernel
theorem dX4_mean_26 : decode cX4_mean 26 = .ok (.ddiv, 1) := by decide +kernel
theorem dX4_mean_27 : decode cX4_mean 27 = .ok (.dreturn, 1) := by decide +kernel
set_option maxRecDepth 20000 in
theorem ggX4_digest_X4_number : GoodIn wsX4_digest wsX4_number := goodIn_r _ [9, 10, 11, 12, 3, 13, 14, 15, 16, 17, 18, 19, 20, 21, 22, 49, 50, 51, 52, 53, 54, 55, 56, 57, 58, 59, 66] (by decide +kernel) (by decide +kernel)
set_option maxRecDepth 20000 in
theorem gX4_digest_X4_number : GoodIn wsX4_digest (wsV RX4 194 RX4 yX4_number wsX4_number) := goodIn_app (goodIn_of _ (by decide +kernel)) ggX4_digest_X4_number
set_option maxRecDepth 20000 in
theorem ggX4_digest_X2_digestOnto : GoodIn wsX4_digest wsX2_digestOnto := goodIn_r _ [26, 22, 27, 66] (by decide +kernel) (by decide +kernel)
set_option maxRecDepth 20000 in
theorem gX4_digest_X2_digestOnto : GoodIn wsX4_digest (wsV RX4 217 RX2 yX2_digestOnto wsX2_digestOnto) := goodIn_app (goodIn_of _ (by decide +kernel)) ggX4_digest_X2_digestOnto
set_option maxRecDepth 20000 in
theorem ggX4_digest_X0_digestOnto : GoodIn wsX4_digest wsX0_digestOnto := goodIn_r _ [32, 33, 34, 35, 36, 31, 37, 38, 39, 40, 41, 42, 43, 44, 18, 19, 20, 21, 22, 45, 46, 47, 48, 60, 61, 62, 63, 64, 65, 66] (by decide +kernel) (by decide +kernel)
set_option maxRecDepth 20000 in
theorem gX4_digest_X0_digestOnto : GoodIn wsX4_digest (wsV RX4 221 RX0 yX0_digestOnto wsX0_digestOnto) := goodIn_app (goodIn_of _ (by decide +kernel)) ggX4_digest_X0_digestOnto
theorem dX4_digest_0 : decode cX4_digest 0 = .ok (.ldc2_w 213, 3) := by decide +kernel
theorem dX4_digest_3 : decode cX4_digest 3 = .ok (.lstore_n 1, 1) := by decide +kernel
theorem dX4_digest_4 : decode cX4_digest 4 = .ok (.iconst 0, 1) := by decide +kernel
theorem dX4_digest_5 : decode cX4_digest 5 = .ok (.istore_n 3, 1) := by decide +kernel
theorem dX4_digest_6 : decode cX4_digest 6 = .ok (.iload_n 3, 1) := by decide +kernel
theorem dX4_digest_7 : decode cX4_digest 7 = .ok (.bipush 8, 2) := by decide +kernel
theorem dX4_digest_9 : decode cX4_digest 9 = .ok (.if_icmp .ge 22, 3) := by decide +kernel
theorem dX4_digest_12 : decode cX4_digest 12 = .ok (.lload_n 1, 1) := by decide +kernel
theorem dX4_digest_13 : decode cX4_digest 13 = .ok (.ldc2_w 215, 3) := by decide +kernel
theorem dX4_digest_16 : decode cX4_digest 16 = .ok (.lmul, 1) := by decide +kernel
theorem dX4_digest_17 : decode cX4_digest 17 = .ok (.aload_n 0, 1) := by decide +kernel
theorem dX4_digest_18 : decode cX4_digest 18 = .ok (.iload_n 3, 1) := by decide +kernel
theorem dX4_digest_19 : decode cX4_digest 19 = .ok (.invokevirtual 194, 3) := by decide +kernel
theorem dX4_digest_22 : decode cX4_digest 22 = .ok (.i2l, 1) := by decide +kernel
theorem dX4_digest_23 : decode cX4_digest 23 = .ok (.ladd, 1) := by decide +kernel
theorem dX4_digest_24 : decode cX4_digest 24 = .ok (.lstore_n 1, 1) := by decide +kernel
theorem dX4_digest_25 : decode cX4_digest 25 = .ok (.iinc 3 1, 3) := by decide +kernel
theorem dX4_digest_28 : decode cX4_digest 28 = .ok (.goto (-22), 3) := by decide +kernel
theorem dX4_digest_31 : decode cX4_digest 31 = .ok (.aload_n 0, 1) := by decide +kernel
theorem dX4_digest_32 : decode cX4_digest 32 = .ok (.getfield 10, 3) := by decide +kernel
theorem dX4_digest_35 : decode cX4_digest 35 = .ok (.lload_n 1, 1) := by decide +kernel
theorem dX4_digest_36 : decode cX4_digest 36 = .ok (.invokevirtual 217, 3) := by decide +kernel
theorem dX4_digest_39 : decode cX4_digest 39 = .ok (.lstore_n 1, 1) := by decide +kernel
theorem dX4_digest_40 : decode cX4_digest 40 = .ok (.iconst 0, 1) := by decide +kernel
theorem dX4_digest_41 : decode cX4_digest 41 = .ok (.istore_n 3, 1) := by decide +kernel
theorem dX4_digest_42 : decode cX4_digest 42 = .ok (.iload_n 3, 1) := by decide +kernel
theorem dX4_digest_43 : decode cX4_digest 43 = .ok (.aload_n 0, 1) := by decide +kernel
theorem dX4_digest_44 : decode cX4_digest 44 = .ok (.getfield 18, 3) := by decide +kernel
theorem dX4_digest_47 : decode cX4_digest 47 = .ok (.arraylength, 1) := by decide +kernel
theorem dX4_digest_48 : decode cX4_digest 48 = .ok (.if_icmp .ge 32, 3) := by decide +kernel
theorem dX4_digest_51 : decode cX4_digest 51 = .ok (.aload_n 0, 1) := by decide +kernel
theorem dX4_digest_52 : decode cX4_digest 52 = .ok (.getfield 18, 3) := by decide +kernel
theorem dX4_digest_55 : decode cX4_digest 55 = .ok (.iload_n 3, 1) := by decide +kernel
theorem dX4_digest_56 : decode cX4_digest 56 = .ok (.aaload, 1) := by decide +kernel
theorem dX4_digest_57 : decode cX4_digest 57 = .ok (.astore 4, 2) := by decide +kernel
theorem dX4_digest_59 : decode cX4_digest 59 = .ok (.aload 4, 2) := by decide +kernel
theorem dX4_digest_61 : decode cX4_digest 61 = .ok (.ifnull 13, 3) := by decide +kernel
theorem dX4_digest_64 : decode cX4_digest 64 = .ok (.aload 4, 2) := by decide +kernel
theorem dX4_digest_66 : decode cX4_digest 66 = .ok (.getfield 104, 3) := by decide +kernel
theorem dX4_digest_69 : decode cX4_digest 69 = .ok (.lload_n 1, 1) := by decide +kernel
theorem dX4_digest_70 : decode cX4_digest 70 = .ok (.invokevirtual 217, 3) := by decide +kernel
theorem dX4_digest_73 : decode cX4_digest 73 = .ok (.lstore_n 1, 1) := by decide +kernel
theorem dX4_digest_74 : decode cX4_digest 74 = .ok (.iinc 3 1, 3) := by decide +kernel
theorem dX4_digest_77 : decode cX4_digest 77 = .ok (.goto (-35), 3) := by decide +kernel
theorem dX4_digest_80 : decode cX4_digest 80 = .ok (.iconst 0, 1) := by decide +kernel
theorem dX4_digest_81 : decode cX4_digest 81 = .ok (.istore_n 3, 1) := by decide +kernel
theorem dX4_digest_82 : decode cX4_digest 82 = .ok (.iload_n 3, 1) := by decide +kernel
theorem dX4_digest_83 : decode cX4_digest 83 = .ok (.aload_n 0, 1) := by decide +kernel
theorem dX4_digest_84 : decode cX4_digest 84 = .ok (.getfield 18, 3) := by decide +kernel
theorem dX4_digest_87 : decode cX4_digest 87 = .ok (.arraylength, 1) := by decide +kernel
theorem dX4_digest_88 : decode cX4_digest 88 = .ok (.if_icmp .ge 29, 3) := by decide +kernel
theorem dX4_digest_91 : decode cX4_digest 91 = .ok (.aload_n 0, 1) := by decide +kernel
theorem dX4_digest_92 : decode cX4_digest 92 = .ok (.getfield 18, 3) := by decide +kernel
theorem dX4_digest_95 : decode cX4_digest 95 = .ok (.iload_n 3, 1) := by decide +kernel
theorem dX4_digest_96 : decode cX4_digest 96 = .ok (.aaload, 1) := by decide +kernel
theorem dX4_digest_97 : decode cX4_digest 97 = .ok (.astore 4, 2) := by decide +kernel
theorem dX4_digest_99 : decode cX4_digest 99 = .ok (.aload 4, 2) := by decide +kernel
theorem dX4_digest_101 : decode cX4_digest 101 = .ok (.ifnull 10, 3) := by decide +kernel
theorem dX4_digest_104 : decode cX4_digest 104 = .ok (.aload 4, 2) := by decide +kernel
theorem dX4_digest_106 : decode cX4_digest 106 = .ok (.lload_n 1, 1) := by decide +kernel
theorem dX4_digest_107 : decode cX4_digest 107 = .ok (.invokevirtual 221, 3) := by decide +kernel
theorem dX4_digest_110 : decode cX4_digest 110 = .ok (.lstore_n 1, 1) := by decide +kernel
theorem dX4_digest_111 : decode cX4_digest 111 = .ok (.iinc 3 1, 3) := by decide +kernel
theorem dX4_digest_114 : decode cX4_digest 114 = .ok (.goto (-32), 3) := by decide +kernel
theorem dX4_digest_117 : decode cX4_digest 117 = .ok (.lload_n 1, 1) := by decide +kernel
theorem dX4_digest_118 : decode cX4_digest 118 = .ok (.lreturn, 1) := by decide +kernel
theorem dX4_needSign_0 : decode cX4_needSign 0 = .ok (.iload_n 0, 1) := by decide +kernel
theorem dX4_needSign_1 : decode cX4_needSign 1 = .ok (.ifCond .lt 9, 3) := by decide +kernel
theorem dX4_needSign_4 : decode cX4_needSign 4 = .ok (.iload_n 0, 1) := by decide +kernel
theorem dX4_needSign_5 : decode cX4_needSign 5 = .ok (.bipush 29, 2) := by decide +kernel
theorem dX4_needSign_7 : decode cX4_needSign 7 = .ok (.if_icmp .lt 13, 3) := by decide +kernel
theorem dX4_needSign_10 : decode cX4_needSign 10 = .ok (.new 179, 3) := by decide +kernel
theorem dX4_needSign_13 : decode cX4_needSign 13 = .ok (.dup, 1) := by decide +kernel
theorem dX4_needSign_14 : decode cX4_needSign 14 = .ok (.ldc 222, 2) := by decide +kernel
theorem dX4_needSign_16 : decode cX4_needSign 16 = .ok (.invokespecial 183, 3) := by decide +kernel
theorem dX4_needSign_19 : decode cX4_needSign 19 = .ok (.athrow, 1) := by decide +kernel
theorem dX4_needSign_20 : decode cX4_needSign 20 = .ok (.return_, 1) := by decide +kernel
theorem dX4_needMany_0 : decode cX4_needMany 0 = .ok (.iload_n 0, 1) := by decide +kernel
theorem dX4_needMany_1 : decode cX4_needMany 1 = .ok (.iconst 1, 1) := by decide +kernel
theorem dX4_needMany_2 : decode cX4_needMany 2 = .ok (.if_icmp .lt 10, 3) := by decide +kernel
theorem dX4_needMany_5 : decode cX4_needMany 5 = .ok (.iload_n 0, 1) := by decide +kernel
theorem dX4_needMany_6 : decode cX4_needMany 6 = .ok (.sipush 200, 3) := by decide +kernel
theorem dX4_needMany_9 : decode cX4_needMany 9 = .ok (.if_icmp .le 13, 3) := by decide +kernel
theorem dX4_needMany_12 : decode cX4_needMany 12 = .ok (.new 71, 3) := by decide +kernel
theorem dX4_needMany_15 : decode cX4_needMany 15 = .ok (.dup, 1) := by decide +kernel
theorem dX4_needMany_16 : decode cX4_needMany 16 = .ok (.ldc 224, 2) := by decide +kernel
theorem dX4_needMany_18 : decode cX4_needMany 18 = .ok (.invokespecial 75, 3) := by decide +kernel
theorem dX4_needMany_21 : decode cX4_needMany 21 = .ok (.athrow, 1) := by decide +kernel
theorem dX4_needMany_22 : decode cX4_needMany 22 = .ok (.return_, 1) := by decide +kernel
theorem dX4_needPrinter_0 : decode cX4_needPrinter 0 = .ok (.iload_n 1, 1) := by decide +kernel
theorem dX4_needPrinter_1 : decode cX4_needPrinter 1 = .ok (.ifCond .lt 12, 3) := by decide +kernel
theorem dX4_needPrinter_4 : decode cX4_needPrinter 4 = .ok (.iload_n 1, 1) := by decide +kernel
theorem dX4_needPrinter_5 : decode cX4_needPrinter 5 = .ok (.aload_n 0, 1) := by decide +kernel
theorem dX4_needPrinter_6 : decode cX4_needPrinter 6 = .ok (.getfield 18, 3) := by decide +kernel
theorem dX4_needPrinter_9 : decode cX4_needPrinter 9 = .ok (.arraylength, 1) := by decide +kernel
theorem dX4_needPrinter_10 : decode cX4_needPrinter 10 = .ok (.if_icmp .lt 13, 3) := by decide +kernel
theorem dX4_needPrinter_13 : decode cX4_needPrinter 13 = .ok (.new 179, 3) := by decide +kernel
theorem dX4_needPrinter_16 : decode cX4_needPrinter 16 = .ok (.dup, 1) := by decide +kernel
theorem dX4_needPrinter_17 : decode cX4_needPrinter 17 = .ok (.ldc 226, 2) := by decide +kernel
theorem dX4_needPrinter_19 : decode cX4_needPrinter 19 = .ok (.invokespecial 183, 3) := by decide +kernel
theorem dX4_needPrinter_22 : decode cX4_needPrinter 22 = .ok (.athrow, 1) := by decide +kernel
theorem dX4_needPrinter_23 : decode cX4_needPrinter 23 = .ok (.aload_n 0, 1) := by decide +kernel
theorem dX4_needPrinter_24 : decode cX4_needPrinter 24 = .ok (.getfield 18, 3) := by decide +kernel
theorem dX4_needPrinter_27 : decode cX4_needPrinter 27 = .ok (.iload_n 1, 1) := by decide +kernel
theorem dX4_needPrinter_28 : decode cX4_needPrinter 28 = .ok (.aaload, 1) := by decide +kernel
theorem dX4_needPrinter_29 : decode cX4_needPrinter 29 = .ok (.astore_n 2, 1) := by decide +kernel
theorem dX4_needPrinter_30 : decode cX4_needPrinter 30 = .ok (.aload_n 2, 1) := by decide +kernel
theorem dX4_needPrinter_31 : decode cX4_needPrinter 31 = .ok (.ifnonnull 13, 3) := by decide +kernel
theorem dX4_needPrinter_34 : decode cX4_needPrinter 34 = .ok (.new 179, 3) := by decide +kernel
theorem dX4_needPrinter_37 : decode cX4_needPrinter 37 = .ok (.dup, 1) := by decide +kernel
theorem dX4_needPrinter_38 : decode cX4_needPrinter 38 = .ok (.ldc 226, 2) := by decide +kernel
theorem dX4_needPrinter_40 : decode cX4_needPrinter 40 = .ok (.invokespecial 183, 3) := by decide +kernel
theorem dX4_needPrinter_43 : decode cX4_needPrinter 43 = .ok (.athrow, 1) := by decide +kernel
theorem dX4_needPrinter_44 : decode cX4_needPrinter 44 = .ok (.aload_n 2, 1) := by decide +kernel
theorem dX4_needPrinter_45 : decode cX4_needPrinter 45 = .ok (.areturn, 1) := by decide +kernel
set_option maxRecDepth 20000 in
theorem ggX4_needWord_X3_spell : GoodIn wsX4_needWord wsX3_spell := goodIn_r _ [8, 9, 10, 11, 23, 24] (by decide +kernel) (by decide +kernel)
set_option maxRecDepth 20000 in
theorem gX4_needWord_X3_spell : GoodIn wsX4_needWord (wsV RX4 228 RX3 yX3_spell wsX3_spell) := goodIn_app (goodIn_of _ (by decide +kernel)) ggX4_needWord_X3_spell
theorem dX4_needWord_0 : decode cX4_needWord 0 = .ok (.aload_n 0, 1) := by decide +kernel
theorem dX4_needWord_1 : decode cX4_needWord 1 = .ok (.getfield 29, 3) := by decide +kernel
theorem dX4_needWord_4 : decode cX4_needWord 4 = .ok (.iload_n 1, 1) := by decide +kernel
theorem dX4_needWord_5 : decode cX4_needWord 5 = .ok (.invokevirtual 228, 3) := by decide +kernel
theorem dX4_needWord_8 : decode cX4_needWord 8 = .ok (.ifCond .ne 13, 3) := by decide +kernel
theorem dX4_needWord_11 : decode cX4_needWord 11 = .ok (.new 71, 3) := by decide +kernel
theorem dX4_needWord_14 : decode cX4_needWord 14 = .ok (.dup, 1) := by decide +kernel
theorem dX4_needWord_15 : decode cX4_needWord 15 = .ok (.ldc 231, 2) := by decide +kernel
theorem dX4_needWord_17 : decode cX4_needWord 17 = .ok (.invokespecial 75, 3) := by decide +kernel
theorem dX4_needWord_20 : decode cX4_needWord 20 = .ok (.athrow, 1) := by decide +kernel
theorem dX4_needWord_21 : decode cX4_needWord 21 = .ok (.aload_n 0, 1) := by decide +kernel
theorem dX4_needWord_22 : decode cX4_needWord 22 = .ok (.getfield 29, 3) := by decide +kernel
theorem dX4_needWord_25 : decode cX4_needWord 25 = .ok (.areturn, 1) := by decide +kernel
theorem dX4_isLigature_0 : decode cX4_isLigature 0 = .ok (.iload_n 0, 1) := by decide +kernel
theorem dX4_isLigature_1 : decode cX4_isLigature 1 = .ok (.bipush 26, 2) := by decide +kernel
theorem dX4_isLigature_3 : decode cX4_isLigature 3 = .ok (.if_icmp .lt 7, 3) := by decide +kernel
theorem dX4_isLigature_6 : decode cX4_isLigature 6 = .ok (.iconst 1, 1) := by decide +kernel
theorem dX4_isLigature_7 : decode cX4_isLigature 7 = .ok (.goto 4, 3) := by decide +kernel
theorem dX4_isLigature_10 : decode cX4_isLigature 10 = .ok (.iconst 0, 1) := by decide +kernel
theorem dX4_isLigature_11 : decode cX4_isLigature 11 = .ok (.ireturn, 1) := by decide +kernel
set_option maxRecDepth 20000 in
theorem ggX4_number_X2_inAll : GoodIn wsX4_number wsX2_inAll := goodIn_r _ [13, 14, 26] (by decide +kernel) (by decide +kernel)
set_option maxRecDepth 20000 in
theorem gX4_number_X2_inAll : GoodIn wsX4_number (wsV RX4 146 RX2 yX2_inAll wsX2_inAll) := goodIn_app (goodIn_of _ (by decide +kernel)) ggX4_number_X2_inAll
theorem dX4_number_0 : decode cX4_number 0 = .ok (.iload_n 1, 1) := by decide +kernel
theorem dX4_number_1 : decode cX4_number 1 = .ok (.tableswitch 90 0 7 #[47, 52, 57, 62, 70, 75, 80, 85], 47) := by decide +kernel
theorem dX4_number_48 : decode cX4_number 48 = .ok (.aload_n 0, 1) := by decide +kernel
theorem dX4_number_49 : decode cX4_number 49 = .ok (.getfield 173, 3) := by decide +kernel
theorem dX4_number_52 : decode cX4_number 52 = .ok (.ireturn, 1) := by decide +kernel
theorem dX4_number_53 : decode cX4_number 53 = .ok (.aload_n 0, 1) := by decide +kernel
theorem dX4_number_54 : decode cX4_number 54 = .ok (.getfield 22, 3) := by decide +kernel
theorem dX4_number_57 : decode cX4_number 57 = .ok (.ireturn, 1) := by decide +kernel
theorem dX4_number_58 : decode cX4_number 58 = .ok (.aload_n 0, 1) := by decide +kernel
theorem dX4_number_59 : decode cX4_number 59 = .ok (.getfield 128, 3) := by decide +kernel
theorem dX4_number_62 : decode cX4_number 62 = .ok (.ireturn, 1) := by decide +kernel
theorem dX4_number_63 : decode cX4_number 63 = .ok (.aload_n 0, 1) := by decide +kernel
theorem dX4_number_64 : decode cX4_number 64 = .ok (.getfield 10, 3) := by decide +kernel
theorem dX4_number_67 : decode cX4_number 67 = .ok (.invokevirtual 146, 3) := by decide +kernel
theorem dX4_number_70 : decode cX4_number 70 = .ok (.ireturn, 1) := by decide +kernel
theorem dX4_number_71 : decode cX4_number 71 = .ok (.aload_n 0, 1) := by decide +kernel
theorem dX4_number_72 : decode cX4_number 72 = .ok (.getfield 91, 3) := by decide +kernel
theorem dX4_number_75 : decode cX4_number 75 = .ok (.ireturn, 1) := by decide +kernel
theorem dX4_number_76 : decode cX4_number 76 = .ok (.aload_n 0, 1) := by decide +kernel
theorem dX4_number_77 : decode cX4_number 77 = .ok (.getfield 68, 3) := by decide +kernel
theorem dX4_number_80 : decode cX4_number 80 = .ok (.ireturn, 1) := by decide +kernel
theorem dX4_number_81 : decode cX4_number 81 = .ok (.aload_n 0, 1) := by decide +kernel
theorem dX4_number_82 : decode cX4_number 82 = .ok (.getfield 168, 3) := by decide +kernel
theorem dX4_number_85 : decode cX4_number 85 = .ok (.ireturn, 1) := by decide +kernel
theorem dX4_number_86 : decode cX4_number 86 = .ok (.aload_n 0, 1) := by decide +kernel
theorem dX4_number_87 : decode cX4_number 87 = .ok (.getfield 84, 3) := by decide +kernel
theorem dX4_number_90 : decode cX4_number 90 = .ok (.ireturn, 1) := by decide +kernel
theorem dX4_number_91 : decode cX4_number 91 = .ok (.iconst 0, 1) := by decide +kernel
theorem dX4_number_92 : decode cX4_number 92 = .ok (.ireturn, 1) := by decide +kernel
theorem dX5_init_0 : decode cX5_init 0 = .ok (.aload_n 0, 1) := by decide +kernel
theorem dX5_init_1 : decode cX5_init 1 = .ok (.invokespecial 1, 3) := by decide +kernel
theorem dX5_init_4 : decode cX5_init 4 = .ok (.aload_n 0, 1) := by decide +kernel
theorem dX5_init_5 : decode cX5_init 5 = .ok (.sipush 500, 3) := by decide +kernel
theorem dX5_init_8 : decode cX5_init 8 = .ok (.putfield 7, 3) := by decide +kernel
theorem dX5_init_11 : decode cX5_init 11 = .ok (.aload_n 0, 1) := by decide +kernel
theorem dX5_init_12 : decode cX5_init 12 = .ok (.sipush 3770, 3) := by decide +kernel
theorem dX5_init_15 : decode cX5_init 15 = .ok (.newarray .int, 2) := by decide +kernel
theorem dX5_init_17 : decode cX5_init 17 = .ok (.putfield 13, 3) := by decide +kernel
theorem dX5_init_20 : decode cX5_init 20 = .ok (.aload_n 0, 1) := by decide +kernel
theorem dX5_init_21 : decode cX5_init 21 = .ok (.bipush 6, 2) := by decide +kernel
theorem dX5_init_23 : decode cX5_init 23 = .ok (.newarray .int, 2) := by decide +kernel
theorem dX5_init_25 : decode cX5_init 25 = .ok (.putfield 17, 3) := by decide +kernel
theorem dX5_init_28 : decode cX5_init 28 = .ok (.aload_n 0, 1) := by decide +kernel
theorem dX5_init_29 : decode cX5_init 29 = .ok (.bipush 6, 2) := by decide +kernel
theorem dX5_init_31 : decode cX5_init 31 = .ok (.newarray .int, 2) := by decide +kernel
theorem dX5_init_33 : decode cX5_init 33 = .ok (.putfield 20, 3) := by decide +kernel
theorem dX5_init_36 : decode cX5_init 36 = .ok (.aload_n 0, 1) := by decide +kernel
theorem dX5_init_37 : decode cX5_init 37 = .ok (.bipush 6, 2) := by decide +kernel
theorem dX5_init_39 : decode cX5_init 39 = .ok (.newarray .int, 2) := by decide +kernel
theorem dX5_init_41 : decode cX5_init 41 = .ok (.putfield 23, 3) := by decide +kernel
theorem dX5_init_44 : decode cX5_init 44 = .ok (.aload_n 0, 1) := by decide +kernel
theorem dX5_init_45 : decode cX5_init 45 = .ok (.bipush 6, 2) := by decide +kernel
theorem dX5_init_47 : decode cX5_init 47 = .ok (.newarray .int, 2) := by decide +kernel
theorem dX5_init_49 : decode cX5_init 49 = .ok (.putfield 26, 3) := by decide +kernel
theorem dX5_init_52 : decode cX5_init 52 = .ok (.aload_n 0, 1) := by decide +kernel
theorem dX5_init_53 : decode cX5_init 53 = .ok (.bipush 6, 2) := by decide +kernel
theorem dX5_init_55 : decode cX5_init 55 = .ok (.newarray .int, 2) := by decide +kernel
theorem dX5_init_57 : decode cX5_init 57 = .ok (.putfield 29, 3) := by decide +kernel
theorem dX5_init_60 : decode cX5_init 60 = .ok (.aload_n 0, 1) := by decide +kernel
theorem dX5_init_61 : decode cX5_init 61 = .ok (.bipush 29, 2) := by decide +kernel
theorem dX5_init_63 : decode cX5_init 63 = .ok (.newarray .int, 2) := by decide +kernel
theorem dX5_init_65 : decode cX5_init 65 = .ok (.putfield 32, 3) := by decide +kernel
theorem dX5_init_68 : decode cX5_init 68 = .ok (.aload_n 0, 1) := by decide +kernel
theorem dX5_init_69 : decode cX5_init 69 = .ok (.bipush 29, 2) := by decide +kernel
theorem dX5_init_71 : decode cX5_init 71 = .ok (.newarray .int, 2) := by decide +kernel
theorem dX5_init_73 : decode cX5_init 73 = .ok (.putfield 35, 3) := by decide +kernel
theorem dX5_init_76 : decode cX5_init 76 = .ok (.return_, 1) := by decide +kernel
theorem dX5_thrown_0 : decode cX5_thrown 0 = .ok (.aload_n 0, 1) := by decide +kernel
theorem dX5_thrown_1 : decode cX5_thrown 1 = .ok (.getfield 38, 3) := by decide +kernel
theorem dX5_thrown_4 : decode cX5_thrown 4 = .ok (.ireturn, 1) := by decide +kernel
theorem dX5_no_0 : decode cX5_no 0 = .ok (.aload_n 0, 1) := by decide +kernel
theorem dX5_no_1 : decode cX5_no 1 = .ok (.iload_n 1, 1) := by decide +kernel
theorem dX5_no_2 : decode cX5_no 2 = .ok (.putfield 38, 3) := by decide +kernel
theorem dX5_no_5 : decode cX5_no 5 = .ok (.iconst 0, 1) := by decide +kernel
theorem dX5_no_6 : decode cX5_no 6 = .ok (.ireturn, 1) := by decide +kernel
theorem dX5_isIn_0 : decode cX5_isIn 0 = .ok (.iload_n 0, 1) := by decide +kernel
theorem dX5_isIn_1 : decode cX5_isIn 1 = .ok (.iload_n 1, 1) := by decide +kernel
theorem dX5_isIn_2 : decode cX5_isIn 2 = .ok (.if_icmp .lt 12, 3) := by decide +kernel
theorem dX5_isIn_5 : decode cX5_isIn 5 = .ok (.iload_n 0, 1) := by decide +kernel
theorem dX5_isIn_6 : decode cX5_isIn 6 = .ok (.iload_n 2, 1) := by decide +kernel
theorem dX5_isIn_7 : decode cX5_isIn 7 = .ok (.if_icmp .gt 7, 3) := by decide +kernel
theorem dX5_isIn_10 : decode cX5_isIn 10 = .ok (.iconst 1, 1) := by decide +kernel
theorem dX5_isIn_11 : decode cX5_isIn 11 = .ok (.goto 4, 3) := by decide +kernel
theorem dX5_isIn_14 : decode cX5_isIn 14 = .ok (.iconst 0, 1) := by decide +kernel
theorem dX5_isIn_15 : decode cX5_isIn 15 = .ok (.ireturn, 1) := by decide +kernel
set_option maxRecDepth 20000 in
theorem ggX5_isPrinter_X5_isIn : GoodIn wsX5_isPrinter wsX5_isIn := goodIn_r _ [5] (by decide +kernel) (by decide +kernel)
set_option maxRecDepth 20000 in
theorem gX5_isPrinter_X5_isIn : GoodIn wsX5_isPrinter (va_wsS RX5 44 yX5_isIn wsX5_isIn) := goodIn_app (goodIn_of _ (by decide +kernel)) ggX5_isPrinter_X5_isIn
theorem dX5_isPrinter_0 : decode cX5_isPrinter 0 = .ok (.iload_n 1, 1) := by decide +kernel
theorem dX5_isPrinter_1 : decode cX5_isPrinter 1 = .ok (.iconst 0, 1) := by decide +kernel
theorem dX5_isPrinter_2 : decode cX5_isPrinter 2 = .ok (.aload_n 0, 1) := by decide +kernel
theorem dX5_isPrinter_3 : decode cX5_isPrinter 3 = .ok (.getfield 41, 3) := by decide +kernel
theorem dX5_isPrinter_6 : decode cX5_isPrinter 6 = .ok (.iconst 1, 1) := by decide +kernel
theorem dX5_isPrinter_7 : decode cX5_isPrinter 7 = .ok (.isub, 1) := by decide +kernel
theorem dX5_isPrinter_8 : decode cX5_isPrinter 8 = .ok (.invokestatic 44, 3) := by decide +kernel
theorem dX5_isPrinter_11 : decode cX5_isPrinter 11 = .ok (.ireturn, 1) := by decide +kernel
set_option maxRecDepth 20000 in
theorem ggX5_isSign_X5_isIn : GoodIn wsX5_isSign wsX5_isIn := goodIn_r _ [4] (by decide +kernel) (by decide +kernel)
set_option maxRecDepth 20000 in
theorem gX5_isSign_X5_isIn : GoodIn wsX5_isSign (va_wsS RX5 44 yX5_isIn wsX5_isIn) := goodIn_app (goodIn_of _ (by decide +kernel)) ggX5_isSign_X5_isIn
theorem dX5_isSign_0 : decode cX5_isSign 0 = .ok (.iload_n 0, 1) := by decide +kernel
theorem dX5_isSign_1 : decode cX5_isSign 1 = .ok (.iconst 0, 1) := by decide +kernel
theorem dX5_isSign_2 : decode cX5_isSign 2 = .ok (.bipush 28, 2) := by decide +kernel
theorem dX5_isSign_4 : decode cX5_isSign 4 = .ok (.invokestatic 44, 3) := by decide +kernel
theorem dX5_isSign_7 : decode cX5_isSign 7 = .ok (.ireturn, 1) := by decide +kernel
theorem dX5_caseOf_0 : decode cX5_caseOf 0 = .ok (.sipush 290, 3) := by decide +kernel
theorem dX5_caseOf_3 : decode cX5_caseOf 3 = .ok (.iconst 1, 1) := by decide +kernel
theorem dX5_caseOf_4 : decode cX5_caseOf 4 = .ok (.iload_n 0, 1) := by decide +kernel
theorem dX5_caseOf_5 : decode cX5_caseOf 5 = .ok (.iadd, 1) := by decide +kernel
theorem dX5_caseOf_6 : decode cX5_caseOf 6 = .ok (.imul, 1) := by decide +kernel
theorem dX5_caseOf_7 : decode cX5_caseOf 7 = .ok (.ireturn, 1) := by decide +kernel
theorem dX5_formOf_0 : decode cX5_formOf 0 = .ok (.sipush 290, 3) := by decide +kernel
theorem dX5_formOf_3 : decode cX5_formOf 3 = .ok (.bipush 7, 2) := by decide +kernel
theorem dX5_formOf_5 : decode cX5_formOf 5 = .ok (.iload_n 0, 1) := by decide +kernel
theorem dX5_formOf_6 : decode cX5_formOf 6 = .ok (.iadd, 1) := by decide +kernel
theorem dX5_formOf_7 : decode cX5_formOf 7 = .ok (.imul, 1) := by decide +kernel
theorem dX5_formOf_8 : decode cX5_formOf 8 = .ok (.ireturn, 1) := by decide +kernel
theorem dX5_many_0 : decode cX5_many 0 = .ok (.iconst 0, 1) := by decide +kernel
theorem dX5_many_1 : decode cX5_many 1 = .ok (.istore_n 3, 1) := by decide +kernel
theorem dX5_many_2 : decode cX5_many 2 = .ok (.iconst 0, 1) := by decide +kernel
theorem dX5_many_3 : decode cX5_many 3 = .ok (.istore 4, 2) := by decide +kernel
theorem dX5_many_5 : decode cX5_many 5 = .ok (.iload 4, 2) := by decide +kernel
theorem dX5_many_7 : decode cX5_many 7 = .ok (.bipush 10, 2) := by decide +kernel
theorem dX5_many_9 : decode cX5_many 9 = .ok (.if_icmp .ge 26, 3) := by decide +kernel
theorem dX5_many_12 : decode cX5_many 12 = .ok (.iload_n 3, 1) := by decide +kernel
theorem dX5_many_13 : decode cX5_many 13 = .ok (.aload_n 0, 1) := by decide +kernel
theorem dX5_many_14 : decode cX5_many 14 = .ok (.getfield 13, 3) := by decide +kernel
theorem dX5_many_17 : decode cX5_many 17 = .ok (.iload_n 1, 1) := by decide +kernel
theorem dX5_many_18 : decode cX5_many 18 = .ok (.bipush 10, 2) := by decide +kernel
theorem dX5_many_20 : decode cX5_many 20 = .ok (.iload_n 2, 1) := by decide +kernel
theorem dX5_many_21 : decode cX5_many 21 = .ok (.imul, 1) := by decide +kernel
theorem dX5_many_22 : decode cX5_many 22 = .ok (.iadd, 1) := by decide +kernel
theorem dX5_many_23 : decode cX5_many 23 = .ok (.iload 4, 2) := by decide +kernel
theorem dX5_many_25 : decode cX5_many 25 = .ok (.iadd, 1) := by decide +kernel
theorem dX5_many_26 : decode cX5_many 26 = .ok (.iaload, 1) := by decide +kernel
theorem dX5_many_27 : decode cX5_many 27 = .ok (.iadd, 1) := by decide +kernel
theorem dX5_many_28 : decode cX5_many 28 = .ok (.istore_n 3, 1) := by decide +kernel
theorem dX5_many_29 : decode cX5_many 29 = .ok (.iinc 4 1, 3) := by decide +kernel
theorem dX5_many_32 : decode cX5_many 32 = .ok (.goto (-27), 3) := by decide +kernel
theorem dX5_many_35 : decode cX5_many 35 = .ok (.iload_n 3, 1) := by decide +kernel
theorem dX5_many_36 : decode cX5_many 36 = .ok (.ireturn, 1) := by decide +kernel
theorem dX5_all_0 : decode cX5_all 0 = .ok (.iconst 0, 1) := by decide +kernel
theorem dX5_all_1 : decode cX5_all 1 = .ok (.istore_n 2, 1) := by decide +kernel
theorem dX5_all_2 : decode cX5_all 2 = .ok (.iconst 0, 1) := by decide +kernel
theorem dX5_all_3 : decode cX5_all 3 = .ok (.istore_n 3, 1) := by decide +kernel
theorem dX5_all_4 : decode cX5_all 4 = .ok (.iload_n 3, 1) := by decide +kernel
theorem dX5_all_5 : decode cX5_all 5 = .ok (.sipush 290, 3) := by decide +kernel
theorem dX5_all_8 : decode cX5_all 8 = .ok (.if_icmp .ge 20, 3) := by decide +kernel
theorem dX5_all_11 : decode cX5_all 11 = .ok (.iload_n 2, 1) := by decide +kernel
theorem dX5_all_12 : decode cX5_all 12 = .ok (.aload_n 0, 1) := by decide +kernel
theorem dX5_all_13 : decode cX5_all 13 = .ok (.getfield 13, 3) := by decide +kernel
theorem dX5_all_16 : decode cX5_all 16 = .ok (.iload_n 1, 1) := by decide +kernel
theorem dX5_all_17 : decode cX5_all 17 = .ok (.iload_n 3, 1) := by decide +kernel
theorem dX5_all_18 : decode cX5_all 18 = .ok (.iadd, 1) := by decide +kernel
theorem dX5_all_19 : decode cX5_all 19 = .ok (.iaload, 1) := by decide +kernel
theorem dX5_all_20 : decode cX5_all 20 = .ok (.iadd, 1) := by decide +kernel
theorem dX5_all_21 : decode cX5_all 21 = .ok (.istore_n 2, 1) := by decide +kernel
theorem dX5_all_22 : decode cX5_all 22 = .ok (.iinc 3 1, 3) := by decide +kernel
theorem dX5_all_25 : decode cX5_all 25 = .ok (.goto (-21), 3) := by decide +kernel
theorem dX5_all_28 : decode cX5_all 28 = .ok (.iload_n 2, 1) := by decide +kernel
theorem dX5_all_29 : decode cX5_all 29 = .ok (.ireturn, 1) := by decide +kernel
theorem dX5_worn_0 : decode cX5_worn 0 = .ok (.iconst 0, 1) := by decide +kernel
theorem dX5_worn_1 : decode cX5_worn 1 = .ok (.istore_n 2, 1) := by decide +kernel
theorem dX5_worn_2 : decode cX5_worn 2 = .ok (.iconst 0, 1) := by decide +kernel
theorem dX5_worn_3 : decode cX5_worn 3 = .ok (.istore_n 3, 1) := by decide +kernel
theorem dX5_worn_4 : decode cX5_worn 4 = .ok (.iload_n 3, 1) := by decide +kernel
theorem dX5_worn_5 : decode cX5_worn 5 = .ok (.sipush 290, 3) := by decide +kernel
theorem dX5_worn_8 : decode cX5_worn 8 = .ok (.if_icmp .ge 25, 3) := by decide +kernel
theorem dX5_worn_11 : decode cX5_worn 11 = .ok (.iload_n 2, 1) := by decide +kernel
theorem dX5_worn_12 : decode cX5_worn 12 = .ok (.aload_n 0, 1) := by decide +kernel
theorem dX5_worn_13 : decode cX5_worn 13 = .ok (.getfield 13, 3) := by decide +kernel
theorem dX5_worn_16 : decode cX5_worn 16 = .ok (.iload_n 1, 1) := by decide +kernel
theorem dX5_worn_17 : decode cX5_worn 17 = .ok (.iload_n 3, 1) := by decide +kernel
theorem dX5_worn_18 : decode cX5_worn 18 = .ok (.iadd, 1) := by decide +kernel
theorem dX5_worn_19 : decode cX5_worn 19 = .ok (.iaload, 1) := by decide +kernel
theorem dX5_worn_20 : decode cX5_worn 20 = .ok (.iload_n 3, 1) := by decide +kernel
theorem dX5_worn_21 : decode cX5_worn 21 = .ok (.bipush 10, 2) := by decide +kernel
theorem dX5_worn_23 : decode cX5_worn 23 = .ok (.irem, 1) := by decide +kernel
theorem dX5_worn_24 : decode cX5_worn 24 = .ok (.imul, 1) := by decide +kernel
theorem dX5_worn_25 : decode cX5_worn 25 = .ok (.iadd, 1) := by decide +kernel
theorem dX5_worn_26 : decode cX5_worn 26 = .ok (.istore_n 2, 1) := by decide +kernel
theorem dX5_worn_27 : decode cX5_worn 27 = .ok (.iinc 3 1, 3) := by decide +kernel
theorem dX5_worn_30 : decode cX5_worn 30 = .ok (.goto (-26), 3) := by decide +kernel
theorem dX5_worn_33 : decode cX5_worn 33 = .ok (.iload_n 2, 1) := by decide +kernel
theorem dX5_worn_34 : decode cX5_worn 34 = .ok (.ireturn, 1) := by decide +kernel
theorem dX5_move_0 : decode cX5_move 0 = .ok (.iload 5, 2) := by decide +kernel
theorem dX5_move_2 : decode cX5_move 2 = .ok (.ifCond .ne 7, 3) := by decide +kernel
theorem dX5_move_5 : decode cX5_move 5 = .ok (.iconst 1, 1) := by decide +kernel
theorem dX5_move_6 : decode cX5_move 6 = .ok (.goto 4, 3) := by decide +kernel
theorem dX5_move_9 : decode cX5_move 9 = .ok (.iconst (-1), 1) := by decide +kernel
theorem dX5_move_10 : decode cX5_move 10 = .ok (.istore 6, 2) := by decide +kernel
theorem dX5_move_12 : decode cX5_move 12 = .ok (.iload 4, 2) := by decide +kernel
theorem dX5_move_14 : decode cX5_move 14 = .ok (.istore 7, 2) := by decide +kernel
theorem dX5_move_16 : decode cX5_move 16 = .ok (.iconst 0, 1) := by decide +kernel
theorem dX5_move_17 : decode cX5_move 17 = .ok (.istore 8, 2) := by decide +kernel
theorem dX5_move_19 : decode cX5_move 19 = .ok (.iload 5, 2) := by decide +kernel
theorem dX5_move_21 : decode cX5_move 21 = .ok (.istore 9, 2) := by decide +kernel
theorem dX5_move_23 : decode cX5_move 23 = .ok (.iload 7, 2) := by decide +kernel
theorem dX5_move_25 : decode cX5_move 25 = .ok (.ifCond .le 89, 3) := by decide +kernel
theorem dX5_move_28 : decode cX5_move 28 = .ok (.iload 7, 2) := by decide +kernel
theorem dX5_move_30 : decode cX5_move 30 = .ok (.aload_n 0, 1) := by decide +kernel
theorem dX5_move_31 : decode cX5_move 31 = .ok (.getfield 13, 3) := by decide +kernel
theorem dX5_move_34 : decode cX5_move 34 = .ok (.iload_n 1, 1) := by decide +kernel
theorem dX5_move_35 : decode cX5_move 35 = .ok (.bipush 10, 2) := by decide +kernel
theorem dX5_move_37 : decode cX5_move 37 = .ok (.iload_n 3, 1) := by decide +kernel
theorem dX5_move_38 : decode cX5_move 38 = .ok (.imul, 1) := by decide +kernel
theorem dX5_move_39 : decode cX5_move 39 = .ok (.iadd, 1) := by decide +kernel
theorem dX5_move_40 : decode cX5_move 40 = .ok (.iload 9, 2) := by decide +kernel
theorem dX5_move_42 : decode cX5_move 42 = .ok (.iadd, 1) := by decide +kernel
theorem dX5_move_43 : decode cX5_move 43 = .ok (.iaload, 1) := by decide +kernel
theorem dX5_move_44 : decode cX5_move 44 = .ok (.invokestatic 48, 3) := by decide +kernel
theorem dX5_move_47 : decode cX5_move 47 = .ok (.istore 10, 2) := by decide +kernel
theorem dX5_move_49 : decode cX5_move 49 = .ok (.aload_n 0, 1) := by decide +kernel
theorem dX5_move_50 : decode cX5_move 50 = .ok (.getfield 13, 3) := by decide +kernel
theorem dX5_move_53 : decode cX5_move 53 = .ok (.iload_n 1, 1) := by decide +kernel
theorem dX5_move_54 : decode cX5_move 54 = .ok (.bipush 10, 2) := by decide +kernel
theorem dX5_move_56 : decode cX5_move 56 = .ok (.iload_n 3, 1) := by decide +kernel
theorem dX5_move_57 : decode cX5_move 57 = .ok (.imul, 1) := by decide +kernel
theorem dX5_move_58 : decode cX5_move 58 = .ok (.iadd, 1) := by decide +kernel
theorem dX5_move_59 : decode cX5_move 59 = .ok (.iload 9, 2) := by decide +kernel
theorem dX5_move_61 : decode cX5_move 61 = .ok (.iadd, 1) := by decide +kernel
theorem dX5_move_62 : decode cX5_move 62 = .ok (.dup2, 1) := by decide +kernel
theorem dX5_move_63 : decode cX5_move 63 = .ok (.iaload, 1) := by decide +kernel
theorem dX5_move_64 : decode cX5_move 64 = .ok (.iload 10, 2) := by decide +kernel
theorem dX5_move_66 : decode cX5_move 66 = .ok (.isub, 1) := by decide +kernel
theorem dX5_move_67 : decode cX5_move 67 = .ok (.iastore, 1) := by decide +kernel
theorem dX5_move_68 : decode cX5_move 68 = .ok (.aload_n 0, 1) := by decide +kernel
theorem dX5_move_69 : decode cX5_move 69 = .ok (.getfield 13, 3) := by decide +kernel
theorem dX5_move_72 : decode cX5_move 72 = .ok (.iload_n 2, 1) := by decide +kernel
theorem dX5_move_73 : decode cX5_move 73 = .ok (.bipush 10, 2) := by decide +kernel
theorem dX5_move_75 : decode cX5_move 75 = .ok (.iload_n 3, 1) := by decide +kernel
theorem dX5_move_76 : decode cX5_move 76 = .ok (.imul, 1) := by decide +kernel
theorem dX5_move_77 : decode cX5_move 77 = .ok (.iadd, 1) := by decide +kernel
theorem dX5_move_78 : decode cX5_move 78 = .ok (.iload 9, 2) := by decide +kernel
theorem dX5_move_80 : decode cX5_move 80 = .ok (.iadd, 1) := by decide +kernel
theorem dX5_move_81 : decode cX5_move 81 = .ok (.dup2, 1) := by decide +kernel
theorem dX5_move_82 : decode cX5_move 82 = .ok (.iaload, 1) := by decide +kernel
theorem dX5_move_83 : decode cX5_move 83 = .ok (.iload 10, 2) := by decide +kernel
theorem dX5_move_85 : decode cX5_move 85 = .ok (.iadd, 1) := by decide +kernel
theorem dX5_move_86 : decode cX5_move 86 = .ok (.iastore, 1) := by decide +kernel
theorem dX5_move_87 : decode cX5_move 87 = .ok (.iload 7, 2) := by decide +kernel
theorem dX5_move_89 : decode cX5_move 89 = .ok (.iload 10, 2) := by decide +kernel
theorem dX5_move_91 : decode cX5_move 91 = .ok (.isub, 1) := by decide +kernel
theorem dX5_move_92 : decode cX5_move 92 = .ok (.istore 7, 2) := by decide +kernel
theorem dX5_move_94 : decode cX5_move 94 = .ok (.iload 8, 2) := by decide +kernel
theorem dX5_move_96 : decode cX5_move 96 = .ok (.iload 10, 2) := by decide +kernel
theorem dX5_move_98 : decode cX5_move 98 = .ok (.iload 9, 2) := by decide +kernel
theorem dX5_move_100 : decode cX5_move 100 = .ok (.imul, 1) := by decide +kernel
theorem dX5_move_101 : decode cX5_move 101 = .ok (.iadd, 1) := by decide +kernel
theorem dX5_move_102 : decode cX5_move 102 = .ok (.istore 8, 2) := by decide +kernel
theorem dX5_move_104 : decode cX5_move 104 = .ok (.iload 9, 2) := by decide +kernel
theorem dX5_move_106 : decode cX5_move 106 = .ok (.iload 6, 2) := by decide +kernel
theorem dX5_move_108 : decode cX5_move 108 = .ok (.iadd, 1) := by decide +kernel
theorem dX5_move_109 : decode cX5_move 109 = .ok (.istore 9, 2) := by decide +kernel
theorem dX5_move_111 : decode cX5_move 111 = .ok (.goto (-88), 3) := by decide +kernel
theorem dX5_move_114 : decode cX5_move 114 = .ok (.iload 8, 2) := by decide +kernel
theorem dX5_move_116 : decode cX5_move 116 = .ok (.ireturn, 1) := by decide +kernel
theorem dX5_price_0 : decode cX5_price 0 = .ok (.iload_n 0, 1) := by decide +kernel
theorem dX5_price_1 : decode cX5_price 1 = .ok (.bipush 26, 2) := by decide +kernel
theorem dX5_price_3 : decode cX5_price 3 = .ok (.if_icmp .ge 7, 3) := by decide +kernel
theorem dX5_price_6 : decode cX5_price 6 = .ok (.iconst 2, 1) := by decide +kernel
theorem dX5_price_7 : decode cX5_price 7 = .ok (.goto 4, 3) := by decide +kernel
theorem dX5_price_10 : decode cX5_price 10 = .ok (.iconst 3, 1) := by decide +kernel
theorem dX5_price_11 : decode cX5_price 11 = .ok (.ireturn, 1) := by decide +kernel
set_option maxRecDepth 20000 in
theorem ggX5_cast_X5_isSign : GoodIn wsX5_cast wsX5_isSign := goodIn_r _ [8, 9, 10, 7, 11] (by decide +kernel) (by decide +kernel)
set_option maxRecDepth 20000 in
theorem gX5_cast_X5_isSign : GoodIn wsX5_cast (va_wsS RX5 54 yX5_isSign wsX5_isSign) := goodIn_app (goodIn_of _ (by decide +kernel)) ggX5_cast_X5_isSign
set_option maxRecDepth 20000 in
theorem ggX5_cast_X5_no : GoodIn wsX5_cast wsX5_no := goodIn_r _ [15, 1, 23, 24, 25, 26, 27, 28, 29, 30, 31, 32, 33, 34, 35, 36, 37, 38, 39] (by decide +kernel) (by decide +kernel)
