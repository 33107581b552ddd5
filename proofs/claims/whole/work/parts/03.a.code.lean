set_option maxRecDepth 20000 in
theorem ggX0_init_X2_init : GoodIn wsX0_init wsX2_init := goodIn_r _ [11, 12, 2, 3, 13, 14, 15] (by decide +kernel) (by decide +kernel)
set_option maxRecDepth 20000 in
theorem gX0_init_X2_init_n11 : GoodIn wsX0_init (wsX2_init) := ggX0_init_X2_init
theorem dX0_init_0 : decode cX0_init 0 = .ok (.aload_n 0, 1) := by decide +kernel
theorem dX0_init_1 : decode cX0_init 1 = .ok (.invokespecial 3, 3) := by decide +kernel
theorem dX0_init_4 : decode cX0_init 4 = .ok (.aload_n 0, 1) := by decide +kernel
theorem dX0_init_5 : decode cX0_init 5 = .ok (.new 9, 3) := by decide +kernel
theorem dX0_init_8 : decode cX0_init 8 = .ok (.dup, 1) := by decide +kernel
theorem dX0_init_9 : decode cX0_init 9 = .ok (.invokespecial 11, 3) := by decide +kernel
theorem dX0_init_12 : decode cX0_init 12 = .ok (.putfield 12, 3) := by decide +kernel
theorem dX0_init_15 : decode cX0_init 15 = .ok (.aload_n 0, 1) := by decide +kernel
theorem dX0_init_16 : decode cX0_init 16 = .ok (.new 9, 3) := by decide +kernel
theorem dX0_init_19 : decode cX0_init 19 = .ok (.dup, 1) := by decide +kernel
theorem dX0_init_20 : decode cX0_init 20 = .ok (.invokespecial 11, 3) := by decide +kernel
theorem dX0_init_23 : decode cX0_init 23 = .ok (.putfield 18, 3) := by decide +kernel
theorem dX0_init_26 : decode cX0_init 26 = .ok (.aload_n 0, 1) := by decide +kernel
theorem dX0_init_27 : decode cX0_init 27 = .ok (.iload_n 1, 1) := by decide +kernel
theorem dX0_init_28 : decode cX0_init 28 = .ok (.putfield 21, 3) := by decide +kernel
theorem dX0_init_31 : decode cX0_init 31 = .ok (.return_, 1) := by decide +kernel
set_option maxRecDepth 20000 in
theorem ggX0_rentOfADay_X2_inAll : GoodIn wsX0_rentOfADay wsX2_inAll := goodIn_r _ [7, 8, 15] (by decide +kernel) (by decide +kernel)
set_option maxRecDepth 20000 in
theorem gX0_rentOfADay_X2_inAll : GoodIn wsX0_rentOfADay (wsV RX0 25 RX2 yX2_inAll wsX2_inAll) := goodIn_app (goodIn_of _ (by decide +kernel)) ggX0_rentOfADay_X2_inAll
theorem dX0_rentOfADay_0 : decode cX0_rentOfADay 0 = .ok (.aload_n 0, 1) := by decide +kernel
theorem dX0_rentOfADay_1 : decode cX0_rentOfADay 1 = .ok (.getfield 12, 3) := by decide +kernel
theorem dX0_rentOfADay_4 : decode cX0_rentOfADay 4 = .ok (.invokevirtual 25, 3) := by decide +kernel
theorem dX0_rentOfADay_7 : decode cX0_rentOfADay 7 = .ok (.aload_n 0, 1) := by decide +kernel
theorem dX0_rentOfADay_8 : decode cX0_rentOfADay 8 = .ok (.getfield 18, 3) := by decide +kernel
theorem dX0_rentOfADay_11 : decode cX0_rentOfADay 11 = .ok (.invokevirtual 25, 3) := by decide +kernel
theorem dX0_rentOfADay_14 : decode cX0_rentOfADay 14 = .ok (.iadd, 1) := by decide +kernel
theorem dX0_rentOfADay_15 : decode cX0_rentOfADay 15 = .ok (.bipush 10, 2) := by decide +kernel
theorem dX0_rentOfADay_17 : decode cX0_rentOfADay 17 = .ok (.iadd, 1) := by decide +kernel
theorem dX0_rentOfADay_18 : decode cX0_rentOfADay 18 = .ok (.iconst 1, 1) := by decide +kernel
theorem dX0_rentOfADay_19 : decode cX0_rentOfADay 19 = .ok (.isub, 1) := by decide +kernel
theorem dX0_rentOfADay_20 : decode cX0_rentOfADay 20 = .ok (.bipush 10, 2) := by decide +kernel
theorem dX0_rentOfADay_22 : decode cX0_rentOfADay 22 = .ok (.idiv, 1) := by decide +kernel
theorem dX0_rentOfADay_23 : decode cX0_rentOfADay 23 = .ok (.ireturn, 1) := by decide +kernel
set_option maxRecDepth 20000 in
theorem ggX0_number_X2_inAll : GoodIn wsX0_number wsX2_inAll := goodIn_r _ [11, 12, 23] (by decide +kernel) (by decide +kernel)
set_option maxRecDepth 20000 in
theorem gX0_number_X2_inAll : GoodIn wsX0_number (wsV RX0 25 RX2 yX2_inAll wsX2_inAll) := goodIn_app (goodIn_of _ (by decide +kernel)) ggX0_number_X2_inAll
set_option maxRecDepth 20000 in
theorem ggX0_number_X2_wearInAll : GoodIn wsX0_number wsX2_wearInAll := goodIn_r _ [16, 12, 23] (by decide +kernel) (by decide +kernel)
set_option maxRecDepth 20000 in
theorem gX0_number_X2_wearInAll : GoodIn wsX0_number (wsV RX0 32 RX2 yX2_wearInAll wsX2_wearInAll) := goodIn_app (goodIn_of _ (by decide +kernel)) ggX0_number_X2_wearInAll
theorem dX0_number_0 : decode cX0_number 0 = .ok (.iload_n 1, 1) := by decide +kernel
theorem dX0_number_1 : decode cX0_number 1 = .ok (.tableswitch 87 0 6 #[43, 48, 53, 61, 69, 77, 82], 43) := by decide +kernel
theorem dX0_number_44 : decode cX0_number 44 = .ok (.aload_n 0, 1) := by decide +kernel
theorem dX0_number_45 : decode cX0_number 45 = .ok (.getfield 21, 3) := by decide +kernel
theorem dX0_number_48 : decode cX0_number 48 = .ok (.ireturn, 1) := by decide +kernel
theorem dX0_number_49 : decode cX0_number 49 = .ok (.aload_n 0, 1) := by decide +kernel
theorem dX0_number_50 : decode cX0_number 50 = .ok (.getfield 29, 3) := by decide +kernel
theorem dX0_number_53 : decode cX0_number 53 = .ok (.ireturn, 1) := by decide +kernel
theorem dX0_number_54 : decode cX0_number 54 = .ok (.aload_n 0, 1) := by decide +kernel
theorem dX0_number_55 : decode cX0_number 55 = .ok (.getfield 12, 3) := by decide +kernel
theorem dX0_number_58 : decode cX0_number 58 = .ok (.invokevirtual 25, 3) := by decide +kernel
theorem dX0_number_61 : decode cX0_number 61 = .ok (.ireturn, 1) := by decide +kernel
theorem dX0_number_62 : decode cX0_number 62 = .ok (.aload_n 0, 1) := by decide +kernel
theorem dX0_number_63 : decode cX0_number 63 = .ok (.getfield 18, 3) := by decide +kernel
theorem dX0_number_66 : decode cX0_number 66 = .ok (.invokevirtual 25, 3) := by decide +kernel
theorem dX0_number_69 : decode cX0_number 69 = .ok (.ireturn, 1) := by decide +kernel
theorem dX0_number_70 : decode cX0_number 70 = .ok (.aload_n 0, 1) := by decide +kernel
theorem dX0_number_71 : decode cX0_number 71 = .ok (.getfield 18, 3) := by decide +kernel
theorem dX0_number_74 : decode cX0_number 74 = .ok (.invokevirtual 32, 3) := by decide +kernel
theorem dX0_number_77 : decode cX0_number 77 = .ok (.ireturn, 1) := by decide +kernel
theorem dX0_number_78 : decode cX0_number 78 = .ok (.aload_n 0, 1) := by decide +kernel
theorem dX0_number_79 : decode cX0_number 79 = .ok (.getfield 35, 3) := by decide +kernel
theorem dX0_number_82 : decode cX0_number 82 = .ok (.ireturn, 1) := by decide +kernel
theorem dX0_number_83 : decode cX0_number 83 = .ok (.aload_n 0, 1) := by decide +kernel
theorem dX0_number_84 : decode cX0_number 84 = .ok (.getfield 38, 3) := by decide +kernel
theorem dX0_number_87 : decode cX0_number 87 = .ok (.ireturn, 1) := by decide +kernel
theorem dX0_number_88 : decode cX0_number 88 = .ok (.iconst 0, 1) := by decide +kernel
theorem dX0_number_89 : decode cX0_number 89 = .ok (.ireturn, 1) := by decide +kernel
set_option maxRecDepth 20000 in
theorem ggX0_digestOnto_X0_number : GoodIn wsX0_digestOnto wsX0_number := goodIn_r _ [6, 7, 8, 9, 10, 11, 12, 13, 14, 15, 16, 17, 18, 19, 20, 21, 22, 23, 24, 25, 26, 27, 28, 29] (by decide +kernel) (by decide +kernel)
set_option maxRecDepth 20000 in
theorem gX0_digestOnto_X0_number : GoodIn wsX0_digestOnto (wsV RX0 43 RX0 yX0_number wsX0_number) := goodIn_app (goodIn_of _ (by decide +kernel)) ggX0_digestOnto_X0_number
theorem dX0_digestOnto_0 : decode cX0_digestOnto 0 = .ok (.lload_n 1, 1) := by decide +kernel
theorem dX0_digestOnto_1 : decode cX0_digestOnto 1 = .ok (.lstore_n 3, 1) := by decide +kernel
theorem dX0_digestOnto_2 : decode cX0_digestOnto 2 = .ok (.iconst 0, 1) := by decide +kernel
theorem dX0_digestOnto_3 : decode cX0_digestOnto 3 = .ok (.istore 5, 2) := by decide +kernel
theorem dX0_digestOnto_5 : decode cX0_digestOnto 5 = .ok (.iload 5, 2) := by decide +kernel
theorem dX0_digestOnto_7 : decode cX0_digestOnto 7 = .ok (.bipush 7, 2) := by decide +kernel
theorem dX0_digestOnto_9 : decode cX0_digestOnto 9 = .ok (.if_icmp .ge 23, 3) := by decide +kernel
theorem dX0_digestOnto_12 : decode cX0_digestOnto 12 = .ok (.lload_n 3, 1) := by decide +kernel
theorem dX0_digestOnto_13 : decode cX0_digestOnto 13 = .ok (.ldc2_w 41, 3) := by decide +kernel
theorem dX0_digestOnto_16 : decode cX0_digestOnto 16 = .ok (.lmul, 1) := by decide +kernel
theorem dX0_digestOnto_17 : decode cX0_digestOnto 17 = .ok (.aload_n 0, 1) := by decide +kernel
theorem dX0_digestOnto_18 : decode cX0_digestOnto 18 = .ok (.iload 5, 2) := by decide +kernel
theorem dX0_digestOnto_20 : decode cX0_digestOnto 20 = .ok (.invokevirtual 43, 3) := by decide +kernel
theorem dX0_digestOnto_23 : decode cX0_digestOnto 23 = .ok (.i2l, 1) := by decide +kernel
theorem dX0_digestOnto_24 : decode cX0_digestOnto 24 = .ok (.ladd, 1) := by decide +kernel
theorem dX0_digestOnto_25 : decode cX0_digestOnto 25 = .ok (.lstore_n 3, 1) := by decide +kernel
theorem dX0_digestOnto_26 : decode cX0_digestOnto 26 = .ok (.iinc 5 1, 3) := by decide +kernel
theorem dX0_digestOnto_29 : decode cX0_digestOnto 29 = .ok (.goto (-24), 3) := by decide +kernel
theorem dX0_digestOnto_32 : decode cX0_digestOnto 32 = .ok (.lload_n 3, 1) := by decide +kernel
theorem dX0_digestOnto_33 : decode cX0_digestOnto 33 = .ok (.lreturn, 1) := by decide +kernel
theorem dX1_init_0 : decode cX1_init 0 = .ok (.aload_n 0, 1) := by decide +kernel
theorem dX1_init_1 : decode cX1_init 1 = .ok (.invokespecial 3, 3) := by decide +kernel
theorem dX1_init_4 : decode cX1_init 4 = .ok (.aload_n 0, 1) := by decide +kernel
theorem dX1_init_5 : decode cX1_init 5 = .ok (.bipush 29, 2) := by decide +kernel
theorem dX1_init_7 : decode cX1_init 7 = .ok (.newarray .int, 2) := by decide +kernel
theorem dX1_init_9 : decode cX1_init 9 = .ok (.putfield 9, 3) := by decide +kernel
theorem dX1_init_12 : decode cX1_init 12 = .ok (.aload_n 0, 1) := by decide +kernel
theorem dX1_init_13 : decode cX1_init 13 = .ok (.bipush 29, 2) := by decide +kernel
theorem dX1_init_15 : decode cX1_init 15 = .ok (.newarray .int, 2) := by decide +kernel
theorem dX1_init_17 : decode cX1_init 17 = .ok (.putfield 15, 3) := by decide +kernel
theorem dX1_init_20 : decode cX1_init 20 = .ok (.return_, 1) := by decide +kernel
set_option maxRecDepth 20000 in
theorem ggX1_fillFrom_X2_ofSign : GoodIn wsX1_fillFrom wsX2_ofSign := goodIn_r _ [6, 7, 8, 9, 5, 10, 11, 14] (by decide +kernel) (by decide +kernel)
set_option maxRecDepth 20000 in
theorem gX1_fillFrom_X2_ofSign : GoodIn wsX1_fillFrom (wsV RX1 18 RX2 yX2_ofSign wsX2_ofSign) := goodIn_app (goodIn_of _ (by decide +kernel)) ggX1_fillFrom_X2_ofSign
theorem dX1_fillFrom_0 : decode cX1_fillFrom 0 = .ok (.iconst 0, 1) := by decide +kernel
theorem dX1_fillFrom_1 : decode cX1_fillFrom 1 = .ok (.istore_n 2, 1) := by decide +kernel
theorem dX1_fillFrom_2 : decode cX1_fillFrom 2 = .ok (.iload_n 2, 1) := by decide +kernel
theorem dX1_fillFrom_3 : decode cX1_fillFrom 3 = .ok (.bipush 29, 2) := by decide +kernel
theorem dX1_fillFrom_5 : decode cX1_fillFrom 5 = .ok (.if_icmp .ge 20, 3) := by decide +kernel
theorem dX1_fillFrom_8 : decode cX1_fillFrom 8 = .ok (.aload_n 0, 1) := by decide +kernel
theorem dX1_fillFrom_9 : decode cX1_fillFrom 9 = .ok (.getfield 9, 3) := by decide +kernel
theorem dX1_fillFrom_12 : decode cX1_fillFrom 12 = .ok (.iload_n 2, 1) := by decide +kernel
theorem dX1_fillFrom_13 : decode cX1_fillFrom 13 = .ok (.aload_n 1, 1) := by decide +kernel
theorem dX1_fillFrom_14 : decode cX1_fillFrom 14 = .ok (.iload_n 2, 1) := by decide +kernel
theorem dX1_fillFrom_15 : decode cX1_fillFrom 15 = .ok (.invokevirtual 18, 3) := by decide +kernel
theorem dX1_fillFrom_18 : decode cX1_fillFrom 18 = .ok (.iastore, 1) := by decide +kernel
theorem dX1_fillFrom_19 : decode cX1_fillFrom 19 = .ok (.iinc 2 1, 3) := by decide +kernel
theorem dX1_fillFrom_22 : decode cX1_fillFrom 22 = .ok (.goto (-20), 3) := by decide +kernel
theorem dX1_fillFrom_25 : decode cX1_fillFrom 25 = .ok (.return_, 1) := by decide +kernel
set_option maxRecDepth 20000 in
theorem ggX1_fillWithoutEnd_J7_fill_53178 : GoodIn wsX1_fillWithoutEnd wsJ7_fill_53178 := goodIn_r _ [5] (by decide +kernel) (by decide +kernel)
set_option maxRecDepth 20000 in
theorem gX1_fillWithoutEnd_J7_fill_53178 : GoodIn wsX1_fillWithoutEnd (va_wsS RX1 24 yJ7_fill_53178 wsJ7_fill_53178) := goodIn_app (goodIn_of _ (by decide +kernel)) ggX1_fillWithoutEnd_J7_fill_53178
theorem dX1_fillWithoutEnd_0 : decode cX1_fillWithoutEnd 0 = .ok (.aload_n 0, 1) := by decide +kernel
theorem dX1_fillWithoutEnd_1 : decode cX1_fillWithoutEnd 1 = .ok (.getfield 9, 3) := by decide +kernel
theorem dX1_fillWithoutEnd_4 : decode cX1_fillWithoutEnd 4 = .ok (.bipush 100, 2) := by decide +kernel
theorem dX1_fillWithoutEnd_6 : decode cX1_fillWithoutEnd 6 = .ok (.invokestatic 24, 3) := by decide +kernel
theorem dX1_fillWithoutEnd_9 : decode cX1_fillWithoutEnd 9 = .ok (.return_, 1) := by decide +kernel
theorem dX1_takenOfPlenty_0 : decode cX1_takenOfPlenty 0 = .ok (.iload_n 1, 1) := by decide +kernel
theorem dX1_takenOfPlenty_1 : decode cX1_takenOfPlenty 1 = .ok (.ifCond .lt 9, 3) := by decide +kernel
theorem dX1_takenOfPlenty_4 : decode cX1_takenOfPlenty 4 = .ok (.iload_n 1, 1) := by decide +kernel
theorem dX1_takenOfPlenty_5 : decode cX1_takenOfPlenty 5 = .ok (.bipush 29, 2) := by decide +kernel
theorem dX1_takenOfPlenty_7 : decode cX1_takenOfPlenty 7 = .ok (.if_icmp .lt 7, 3) := by decide +kernel
theorem dX1_takenOfPlenty_10 : decode cX1_takenOfPlenty 10 = .ok (.iconst 0, 1) := by decide +kernel
theorem dX1_takenOfPlenty_11 : decode cX1_takenOfPlenty 11 = .ok (.goto 12, 3) := by decide +kernel
theorem dX1_takenOfPlenty_14 : decode cX1_takenOfPlenty 14 = .ok (.bipush 100, 2) := by decide +kernel
theorem dX1_takenOfPlenty_16 : decode cX1_takenOfPlenty 16 = .ok (.aload_n 0, 1) := by decide +kernel
theorem dX1_takenOfPlenty_17 : decode cX1_takenOfPlenty 17 = .ok (.getfield 9, 3) := by decide +kernel
theorem dX1_takenOfPlenty_20 : decode cX1_takenOfPlenty 20 = .ok (.iload_n 1, 1) := by decide +kernel
theorem dX1_takenOfPlenty_21 : decode cX1_takenOfPlenty 21 = .ok (.iaload, 1) := by decide +kernel
theorem dX1_takenOfPlenty_22 : decode cX1_takenOfPlenty 22 = .ok (.isub, 1) := by decide +kernel
theorem dX1_takenOfPlenty_23 : decode cX1_takenOfPlenty 23 = .ok (.ireturn, 1) := by decide +kernel
theorem dX1_taken_0 : decode cX1_taken 0 = .ok (.iload_n 1, 1) := by decide +kernel
theorem dX1_taken_1 : decode cX1_taken 1 = .ok (.ifCond .lt 9, 3) := by decide +kernel
theorem dX1_taken_4 : decode cX1_taken 4 = .ok (.iload_n 1, 1) := by decide +kernel
theorem dX1_taken_5 : decode cX1_taken 5 = .ok (.bipush 29, 2) := by decide +kernel
theorem dX1_taken_7 : decode cX1_taken 7 = .ok (.if_icmp .lt 7, 3) := by decide +kernel
theorem dX1_taken_10 : decode cX1_taken 10 = .ok (.iconst 0, 1) := by decide +kernel
theorem dX1_taken_11 : decode cX1_taken 11 = .ok (.goto 9, 3) := by decide +kernel
theorem dX1_taken_14 : decode cX1_taken 14 = .ok (.aload_n 0, 1) := by decide +kernel
theorem dX1_taken_15 : decode cX1_taken 15 = .ok (.getfield 15, 3) := by decide +kernel
theorem dX1_taken_18 : decode cX1_taken 18 = .ok (.iload_n 1, 1) := by decide +kernel
theorem dX1_taken_19 : decode cX1_taken 19 = .ok (.iaload, 1) := by decide +kernel
theorem dX1_taken_20 : decode cX1_taken 20 = .ok (.ireturn, 1) := by decide +kernel
set_option maxRecDepth 20000 in
theorem ggX1_lay_J7_fill_53178 : GoodIn wsX1_lay wsJ7_fill_53178 := goodIn_r _ [6] (by decide +kernel) (by decide +kernel)
set_option maxRecDepth 20000 in
theorem gX1_lay_J7_fill_53178 : GoodIn wsX1_lay (va_wsS RX1 24 yJ7_fill_53178 wsJ7_fill_53178) := goodIn_app (goodIn_of _ (by decide +kernel)) ggX1_lay_J7_fill_53178
set_option maxRecDepth 20000 in
theorem ggX1_lay_X3_firstPlace : GoodIn wsX1_lay wsX3_firstPlace := goodIn_r _ [11, 12, 33, 34] (by decide +kernel) (by decide +kernel)
set_option maxRecDepth 20000 in
theorem gX1_lay_X3_firstPlace : GoodIn wsX1_lay (wsV RX1 30 RX3 yX3_firstPlace wsX3_firstPlace) := goodIn_app (goodIn_of _ (by decide +kernel)) ggX1_lay_X3_firstPlace
set_option maxRecDepth 20000 in
theorem ggX1_lay_X1_signFor : GoodIn wsX1_lay wsX1_signFor := goodIn_r _ [17, 2, 18, 19, 20, 10, 21, 22, 23, 24, 25, 12, 26, 27, 31, 32, 33, 34] (by decide +kernel) (by decide +kernel)
set_option maxRecDepth 20000 in
theorem gX1_lay_X1_signFor : GoodIn wsX1_lay (wsV RX1 36 RX1 yX1_signFor wsX1_signFor) := goodIn_app (goodIn_of _ (by decide +kernel)) ggX1_lay_X1_signFor
set_option maxRecDepth 20000 in
theorem ggX1_lay_X4_isLigature : GoodIn wsX1_lay wsX4_isLigature := goodIn_r _ [30] (by decide +kernel) (by decide +kernel)
set_option maxRecDepth 20000 in
theorem gX1_lay_X4_isLigature_n40 : GoodIn wsX1_lay (wsX4_isLigature) := ggX1_lay_X4_isLigature
theorem dX1_lay_0 : decode cX1_lay 0 = .ok (.aload_n 0, 1) := by decide +kernel
theorem dX1_lay_1 : decode cX1_lay 1 = .ok (.getfield 15, 3) := by decide +kernel
theorem dX1_lay_4 : decode cX1_lay 4 = .ok (.iconst 0, 1) := by decide +kernel
theorem dX1_lay_5 : decode cX1_lay 5 = .ok (.invokestatic 24, 3) := by decide +kernel
theorem dX1_lay_8 : decode cX1_lay 8 = .ok (.iconst 0, 1) := by decide +kernel
theorem dX1_lay_9 : decode cX1_lay 9 = .ok (.istore_n 2, 1) := by decide +kernel
theorem dX1_lay_10 : decode cX1_lay 10 = .ok (.aload_n 1, 1) := by decide +kernel
theorem dX1_lay_11 : decode cX1_lay 11 = .ok (.invokevirtual 30, 3) := by decide +kernel
theorem dX1_lay_14 : decode cX1_lay 14 = .ok (.istore_n 3, 1) := by decide +kernel
theorem dX1_lay_15 : decode cX1_lay 15 = .ok (.iload_n 3, 1) := by decide +kernel
theorem dX1_lay_16 : decode cX1_lay 16 = .ok (.bipush 6, 2) := by decide +kernel
theorem dX1_lay_18 : decode cX1_lay 18 = .ok (.if_icmp .ge 80, 3) := by decide +kernel
theorem dX1_lay_21 : decode cX1_lay 21 = .ok (.aload_n 0, 1) := by decide +kernel
theorem dX1_lay_22 : decode cX1_lay 22 = .ok (.aload_n 1, 1) := by decide +kernel
theorem dX1_lay_23 : decode cX1_lay 23 = .ok (.iload_n 3, 1) := by decide +kernel
theorem dX1_lay_24 : decode cX1_lay 24 = .ok (.invokevirtual 36, 3) := by decide +kernel
theorem dX1_lay_27 : decode cX1_lay 27 = .ok (.istore 4, 2) := by decide +kernel
theorem dX1_lay_29 : decode cX1_lay 29 = .ok (.iload 4, 2) := by decide +kernel
theorem dX1_lay_31 : decode cX1_lay 31 = .ok (.ifCond .lt 21, 3) := by decide +kernel
theorem dX1_lay_34 : decode cX1_lay 34 = .ok (.iload 4, 2) := by decide +kernel
theorem dX1_lay_36 : decode cX1_lay 36 = .ok (.bipush 29, 2) := by decide +kernel
theorem dX1_lay_38 : decode cX1_lay 38 = .ok (.if_icmp .ge 14, 3) := by decide +kernel
theorem dX1_lay_41 : decode cX1_lay 41 = .ok (.aload_n 0, 1) := by decide +kernel
theorem dX1_lay_42 : decode cX1_lay 42 = .ok (.getfield 9, 3) := by decide +kernel
theorem dX1_lay_45 : decode cX1_lay 45 = .ok (.iload 4, 2) := by decide +kernel
theorem dX1_lay_47 : decode cX1_lay 47 = .ok (.iaload, 1) := by decide +kernel
theorem dX1_lay_48 : decode cX1_lay 48 = .ok (.iconst 1, 1) := by decide +kernel
theorem dX1_lay_49 : decode cX1_lay 49 = .ok (.if_icmp .ge 5, 3) := by decide +kernel
theorem dX1_lay_52 : decode cX1_lay 52 = .ok (.iconst (-1), 1) := by decide +kernel
theorem dX1_lay_53 : decode cX1_lay 53 = .ok (.ireturn, 1) := by decide +kernel
theorem dX1_lay_54 : decode cX1_lay 54 = .ok (.aload_n 0, 1) := by decide +kernel
theorem dX1_lay_55 : decode cX1_lay 55 = .ok (.getfield 9, 3) := by decide +kernel
theorem dX1_lay_58 : decode cX1_lay 58 = .ok (.iload 4, 2) := by decide +kernel
theorem dX1_lay_60 : decode cX1_lay 60 = .ok (.dup2, 1) := by decide +kernel
theorem dX1_lay_61 : decode cX1_lay 61 = .ok (.iaload, 1) := by decide +kernel
theorem dX1_lay_62 : decode cX1_lay 62 = .ok (.iconst 1, 1) := by decide +kernel
theorem dX1_lay_63 : decode cX1_lay 63 = .ok (.isub, 1) := by decide +kernel
theorem dX1_lay_64 : decode cX1_lay 64 = .ok (.iastore, 1) := by decide +kernel
theorem dX1_lay_65 : decode cX1_lay 65 = .ok (.aload_n 0, 1) := by decide +kernel
theorem dX1_lay_66 : decode cX1_lay 66 = .ok (.getfield 15, 3) := by decide +kernel
theorem dX1_lay_69 : decode cX1_lay 69 = .ok (.iload 4, 2) := by decide +kernel
theorem dX1_lay_71 : decode cX1_lay 71 = .ok (.dup2, 1) := by decide +kernel
theorem dX1_lay_72 : decode cX1_lay 72 = .ok (.iaload, 1) := by decide +kernel
theorem dX1_lay_73 : decode cX1_lay 73 = .ok (.iconst 1, 1) := by decide +kernel
theorem dX1_lay_74 : decode cX1_lay 74 = .ok (.iadd, 1) := by decide +kernel
theorem dX1_lay_75 : decode cX1_lay 75 = .ok (.iastore, 1) := by decide +kernel
theorem dX1_lay_76 : decode cX1_lay 76 = .ok (.iinc 2 1, 3) := by decide +kernel
theorem dX1_lay_79 : decode cX1_lay 79 = .ok (.iload_n 3, 1) := by decide +kernel
theorem dX1_lay_80 : decode cX1_lay 80 = .ok (.iload 4, 2) := by decide +kernel
theorem dX1_lay_82 : decode cX1_lay 82 = .ok (.invokestatic 40, 3) := by decide +kernel
theorem dX1_lay_85 : decode cX1_lay 85 = .ok (.ifCond .eq 7, 3) := by decide +kernel
theorem dX1_lay_88 : decode cX1_lay 88 = .ok (.iconst 2, 1) := by decide +kernel
theorem dX1_lay_89 : decode cX1_lay 89 = .ok (.goto 4, 3) := by decide +kernel
theorem dX1_lay_92 : decode cX1_lay 92 = .ok (.iconst 1, 1) := by decide +kernel
theorem dX1_lay_93 : decode cX1_lay 93 = .ok (.iadd, 1) := by decide +kernel
theorem dX1_lay_94 : decode cX1_lay 94 = .ok (.istore_n 3, 1) := by decide +kernel
theorem dX1_lay_95 : decode cX1_lay 95 = .ok (.goto (-80), 3) := by decide +kernel
theorem dX1_lay_98 : decode cX1_lay 98 = .ok (.iload_n 2, 1) := by decide +kernel
theorem dX1_lay_99 : decode cX1_lay 99 = .ok (.ireturn, 1) := by decide +kernel
set_option maxRecDepth 20000 in
theorem ggX1_layTillOneLacks_X1_lay : GoodIn wsX1_layTillOneLacks wsX1_lay := goodIn_r _ [5, 6, 7, 8, 9, 10, 11, 12, 13, 14, 15, 16, 17, 18, 19, 20, 4, 21, 22, 23, 24, 25, 26, 27, 28, 29, 30, 31, 32, 33, 34, 44, 45, 46, 47] (by decide +kernel) (by decide +kernel)
set_option maxRecDepth 20000 in
theorem gX1_layTillOneLacks_X1_lay : GoodIn wsX1_layTillOneLacks (wsV RX1 44 RX1 yX1_lay wsX1_lay) := goodIn_app (goodIn_of _ (by decide +kernel)) ggX1_layTillOneLacks_X1_lay
set_option maxRecDepth 20000 in
theorem ggX1_layTillOneLacks_X1_layTheSameAgain : GoodIn wsX1_layTillOneLacks wsX1_layTheSameAgain := goodIn_r _ [38, 39, 6, 7, 40, 41, 42, 43, 44, 45] (by decide +kernel) (by decide +kernel)
set_option maxRecDepth 20000 in
theorem gX1_layTillOneLacks_X1_layTheSameAgain : GoodIn wsX1_layTillOneLacks (wsV RX1 48 RX1 yX1_layTheSameAgain wsX1_layTheSameAgain) := goodIn_app (goodIn_of _ (by decide +kernel)) ggX1_layTillOneLacks_X1_layTheSameAgain
theorem dX1_layTillOneLacks_0 : decode cX1_layTillOneLacks 0 = .ok (.iconst 0, 1) := by decide +kernel
theorem dX1_layTillOneLacks_1 : decode cX1_layTillOneLacks 1 = .ok (.istore_n 2, 1) := by decide +kernel
theorem dX1_layTillOneLacks_2 : decode cX1_layTillOneLacks 2 = .ok (.iconst 0, 1) := by decide +kernel
theorem dX1_layTillOneLacks_3 : decode cX1_layTillOneLacks 3 = .ok (.istore_n 3, 1) := by decide +kernel
theorem dX1_layTillOneLacks_4 : decode cX1_layTillOneLacks 4 = .ok (.iload_n 3, 1) := by decide +kernel
theorem dX1_layTillOneLacks_5 : decode cX1_layTillOneLacks 5 = .ok (.sipush 1000, 3) := by decide +kernel
theorem dX1_layTillOneLacks_8 : decode cX1_layTillOneLacks 8 = .ok (.if_icmp .ge 29, 3) := by decide +kernel
theorem dX1_layTillOneLacks_11 : decode cX1_layTillOneLacks 11 = .ok (.aload_n 0, 1) := by decide +kernel
theorem dX1_layTillOneLacks_12 : decode cX1_layTillOneLacks 12 = .ok (.aload_n 1, 1) := by decide +kernel
theorem dX1_layTillOneLacks_13 : decode cX1_layTillOneLacks 13 = .ok (.invokevirtual 44, 3) := by decide +kernel
theorem dX1_layTillOneLacks_16 : decode cX1_layTillOneLacks 16 = .ok (.iconst 1, 1) := by decide +kernel
theorem dX1_layTillOneLacks_17 : decode cX1_layTillOneLacks 17 = .ok (.if_icmp .ge 5, 3) := by decide +kernel
theorem dX1_layTillOneLacks_20 : decode cX1_layTillOneLacks 20 = .ok (.iload_n 2, 1) := by decide +kernel
theorem dX1_layTillOneLacks_21 : decode cX1_layTillOneLacks 21 = .ok (.ireturn, 1) := by decide +kernel
theorem dX1_layTillOneLacks_22 : decode cX1_layTillOneLacks 22 = .ok (.iload_n 2, 1) := by decide +kernel
theorem dX1_layTillOneLacks_23 : decode cX1_layTillOneLacks 23 = .ok (.iconst 1, 1) := by decide +kernel
theorem dX1_layTillOneLacks_24 : decode cX1_layTillOneLacks 24 = .ok (.aload_n 0, 1) := by decide +kernel
theorem dX1_layTillOneLacks_25 : decode cX1_layTillOneLacks 25 = .ok (.invokevirtual 48, 3) := by decide +kernel
theorem dX1_layTillOneLacks_28 : decode cX1_layTillOneLacks 28 = .ok (.iadd, 1) := by decide +kernel
theorem dX1_layTillOneLacks_29 : decode cX1_layTillOneLacks 29 = .ok (.iadd, 1) := by decide +kernel
theorem dX1_layTillOneLacks_30 : decode cX1_layTillOneLacks 30 = .ok (.istore_n 2, 1) := by decide +kernel
theorem dX1_layTillOneLacks_31 : decode cX1_layTillOneLacks 31 = .ok (.iinc 3 1, 3) := by decide +kernel
theorem dX1_layTillOneLacks_34 : decode cX1_layTillOneLacks 34 = .ok (.goto (-30), 3) := by decide +kernel
theorem dX1_layTillOneLacks_37 : decode cX1_layTillOneLacks 37 = .ok (.iload_n 2, 1) := by decide +kernel
theorem dX1_layTillOneLacks_38 : decode cX1_layTillOneLacks 38 = .ok (.ireturn, 1) := by decide +kernel
theorem dX1_layTheSameAgain_0 : decode cX1_layTheSameAgain 0 = .ok (.ldc 53, 2) := by decide +kernel
theorem dX1_layTheSameAgain_2 : decode cX1_layTheSameAgain 2 = .ok (.istore_n 1, 1) := by decide +kernel
theorem dX1_layTheSameAgain_3 : decode cX1_layTheSameAgain 3 = .ok (.iconst 0, 1) := by decide +kernel
theorem dX1_layTheSameAgain_4 : decode cX1_layTheSameAgain 4 = .ok (.istore_n 2, 1) := by decide +kernel
theorem dX1_layTheSameAgain_5 : decode cX1_layTheSameAgain 5 = .ok (.iload_n 2, 1) := by decide +kernel
theorem dX1_layTheSameAgain_6 : decode cX1_layTheSameAgain 6 = .ok (.bipush 29, 2) := by decide +kernel
theorem dX1_layTheSameAgain_8 : decode cX1_layTheSameAgain 8 = .ok (.if_icmp .ge 36, 3) := by decide +kernel
theorem dX1_layTheSameAgain_11 : decode cX1_layTheSameAgain 11 = .ok (.aload_n 0, 1) := by decide +kernel
theorem dX1_layTheSameAgain_12 : decode cX1_layTheSameAgain 12 = .ok (.getfield 15, 3) := by decide +kernel
theorem dX1_layTheSameAgain_15 : decode cX1_layTheSameAgain 15 = .ok (.iload_n 2, 1) := by decide +kernel
theorem dX1_layTheSameAgain_16 : decode cX1_layTheSameAgain 16 = .ok (.iaload, 1) := by decide +kernel
theorem dX1_layTheSameAgain_17 : decode cX1_layTheSameAgain 17 = .ok (.ifCond .le 21, 3) := by decide +kernel
theorem dX1_layTheSameAgain_20 : decode cX1_layTheSameAgain 20 = .ok (.iload_n 1, 1) := by decide +kernel
theorem dX1_layTheSameAgain_21 : decode cX1_layTheSameAgain 21 = .ok (.aload_n 0, 1) := by decide +kernel
theorem dX1_layTheSameAgain_22 : decode cX1_layTheSameAgain 22 = .ok (.getfield 9, 3) := by decide +kernel
theorem dX1_layTheSameAgain_25 : decode cX1_layTheSameAgain 25 = .ok (.iload_n 2, 1) := by decide +kernel
theorem dX1_layTheSameAgain_26 : decode cX1_layTheSameAgain 26 = .ok (.iaload, 1) := by decide +kernel
theorem dX1_layTheSameAgain_27 : decode cX1_layTheSameAgain 27 = .ok (.aload_n 0, 1) := by decide +kernel
theorem dX1_layTheSameAgain_28 : decode cX1_layTheSameAgain 28 = .ok (.getfield 15, 3) := by decide +kernel
theorem dX1_layTheSameAgain_31 : decode cX1_layTheSameAgain 31 = .ok (.iload_n 2, 1) := by decide +kernel
theorem dX1_layTheSameAgain_32 : decode cX1_layTheSameAgain 32 = .ok (.iaload, 1) := by decide +kernel
theorem dX1_layTheSameAgain_33 : decode cX1_layTheSameAgain 33 = .ok (.idiv, 1) := by decide +kernel
theorem dX1_layTheSameAgain_34 : decode cX1_layTheSameAgain 34 = .ok (.invokestatic 54, 3) := by decide +kernel
theorem dX1_layTheSameAgain_37 : decode cX1_layTheSameAgain 37 = .ok (.istore_n 1, 1) := by decide +kernel
theorem dX1_layTheSameAgain_38 : decode cX1_layTheSameAgain 38 = .ok (.iinc 2 1, 3) := by decide +kernel
theorem dX1_layTheSameAgain_41 : decode cX1_layTheSameAgain 41 = .ok (.goto (-36), 3) := by decide +kernel
theorem dX1_layTheSameAgain_44 : decode cX1_layTheSameAgain 44 = .ok (.iconst 0, 1) := by decide +kernel
theorem dX1_layTheSameAgain_45 : decode cX1_layTheSameAgain 45 = .ok (.istore_n 2, 1) := by decide +kernel
theorem dX1_layTheSameAgain_46 : decode cX1_layTheSameAgain 46 = .ok (.iload_n 2, 1) := by decide +kernel
theorem dX1_layTheSameAgain_47 : decode cX1_layTheSameAgain 47 = .ok (.bipush 29, 2) := by decide +kernel
theorem dX1_layTheSameAgain_49 : decode cX1_layTheSameAgain 49 = .ok (.if_icmp .ge 26, 3) := by decide +kernel
theorem dX1_layTheSameAgain_52 : decode cX1_layTheSameAgain 52 = .ok (.aload_n 0, 1) := by decide +kernel
theorem dX1_layTheSameAgain_53 : decode cX1_layTheSameAgain 53 = .ok (.getfield 9, 3) := by decide +kernel
theorem dX1_layTheSameAgain_56 : decode cX1_layTheSameAgain 56 = .ok (.iload_n 2, 1) := by decide +kernel
theorem dX1_layTheSameAgain_57 : decode cX1_layTheSameAgain 57 = .ok (.dup2, 1) := by decide +kernel
theorem dX1_layTheSameAgain_58 : decode cX1_layTheSameAgain 58 = .ok (.iaload, 1) := by decide +kernel
theorem dX1_layTheSameAgain_59 : decode cX1_layTheSameAgain 59 = .ok (.iload_n 1, 1) := by decide +kernel
theorem dX1_layTheSameAgain_60 : decode cX1_layTheSameAgain 60 = .ok (.aload_n 0, 1) := by decide +kernel
theorem dX1_layTheSameAgain_61 : decode cX1_layTheSameAgain 61 = .ok (.getfield 15, 3) := by decide +kernel
theorem dX1_layTheSameAgain_64 : decode cX1_layTheSameAgain 64 = .ok (.iload_n 2, 1) := by decide +kernel
theorem dX1_layTheSameAgain_65 : decode cX1_layTheSameAgain 65 = .ok (.iaload, 1) := by decide +kernel
theorem dX1_layTheSameAgain_66 : decode cX1_layTheSameAgain 66 = .ok (.imul, 1) := by decide +kernel
theorem dX1_layTheSameAgain_67 : decode cX1_layTheSameAgain 67 = .ok (.isub, 1) := by decide +kernel
theorem dX1_layTheSameAgain_68 : decode cX1_layTheSameAgain 68 = .ok (.iastore, 1) := by decide +kernel
theorem dX1_layTheSameAgain_69 : decode cX1_layTheSameAgain 69 = .ok (.iinc 2 1, 3) := by decide +kernel
theorem dX1_layTheSameAgain_72 : decode cX1_layTheSameAgain 72 = .ok (.goto (-26), 3) := by decide +kernel
theorem dX1_layTheSameAgain_75 : decode cX1_layTheSameAgain 75 = .ok (.iload_n 1, 1) := by decide +kernel
theorem dX1_layTheSameAgain_76 : decode cX1_layTheSameAgain 76 = .ok (.ireturn, 1) := by decide +kernel
set_option maxRecDepth 20000 in
theorem ggX1_signFor_X3_ligatureAt : GoodIn wsX1_signFor wsX3_ligatureAt := goodIn_r _ [6, 7, 8, 9, 5, 10, 11, 12, 16, 17] (by decide +kernel) (by decide +kernel)
set_option maxRecDepth 20000 in
theorem gX1_signFor_X3_ligatureAt : GoodIn wsX1_signFor (wsV RX1 60 RX3 yX3_ligatureAt wsX3_ligatureAt) := goodIn_app (goodIn_of _ (by decide +kernel)) ggX1_signFor_X3_ligatureAt
set_option maxRecDepth 20000 in
theorem ggX1_signFor_X3_letterAt : GoodIn wsX1_signFor wsX3_letterAt := goodIn_r _ [10, 11, 12, 16, 17] (by decide +kernel) (by decide +kernel)
set_option maxRecDepth 20000 in
theorem gX1_signFor_X3_letterAt : GoodIn wsX1_signFor (wsV RX1 63 RX3 yX3_letterAt wsX3_letterAt) := goodIn_app (goodIn_of _ (by decide +kernel)) ggX1_signFor_X3_letterAt
theorem dX1_signFor_0 : decode cX1_signFor 0 = .ok (.aload_n 1, 1) := by decide +kernel
theorem dX1_signFor_1 : decode cX1_signFor 1 = .ok (.iload_n 2, 1) := by decide +kernel
theorem dX1_signFor_2 : decode cX1_signFor 2 = .ok (.invokevirtual 60, 3) := by decide +kernel
theorem dX1_signFor_5 : decode cX1_signFor 5 = .ok (.istore_n 3, 1) := by decide +kernel
theorem dX1_signFor_6 : decode cX1_signFor 6 = .ok (.iload_n 3, 1) := by decide +kernel
theorem dX1_signFor_7 : decode cX1_signFor 7 = .ok (.ifCond .lt 20, 3) := by decide +kernel
theorem dX1_signFor_10 : decode cX1_signFor 10 = .ok (.iload_n 3, 1) := by decide +kernel
theorem dX1_signFor_11 : decode cX1_signFor 11 = .ok (.bipush 29, 2) := by decide +kernel
theorem dX1_signFor_13 : decode cX1_signFor 13 = .ok (.if_icmp .ge 14, 3) := by decide +kernel
theorem dX1_signFor_16 : decode cX1_signFor 16 = .ok (.aload_n 0, 1) := by decide +kernel
theorem dX1_signFor_17 : decode cX1_signFor 17 = .ok (.getfield 9, 3) := by decide +kernel
theorem dX1_signFor_20 : decode cX1_signFor 20 = .ok (.iload_n 3, 1) := by decide +kernel
theorem dX1_signFor_21 : decode cX1_signFor 21 = .ok (.iaload, 1) := by decide +kernel
theorem dX1_signFor_22 : decode cX1_signFor 22 = .ok (.ifCond .le 5, 3) := by decide +kernel
theorem dX1_signFor_25 : decode cX1_signFor 25 = .ok (.iload_n 3, 1) := by decide +kernel
theorem dX1_signFor_26 : decode cX1_signFor 26 = .ok (.ireturn, 1) := by decide +kernel
theorem dX1_signFor_27 : decode cX1_signFor 27 = .ok (.aload_n 1, 1) := by decide +kernel
theorem dX1_signFor_28 : decode cX1_signFor 28 = .ok (.iload_n 2, 1) := by decide +kernel
theorem dX1_signFor_29 : decode cX1_signFor 29 = .ok (.invokevirtual 63, 3) := by decide +kernel
theorem dX1_signFor_32 : decode cX1_signFor 32 = .ok (.ireturn, 1) := by decide +kernel
theorem dX2_init_0 : decode cX2_init 0 = .ok (.aload_n 0, 1) := by decide +kernel
theorem dX2_init_1 : decode cX2_init 1 = .ok (.invokespecial 3, 3) := by decide +kernel
theorem dX2_init_4 : decode cX2_init 4 = .ok (.aload_n 0, 1) := by decide +kernel
theorem dX2_init_5 : decode cX2_init 5 = .ok (.sipush 290, 3) := by decide +kernel
theorem dX2_init_8 : decode cX2_init 8 = .ok (.newarray .int, 2) := by decide +kernel
theorem dX2_init_10 : decode cX2_init 10 = .ok (.putfield 9, 3) := by decide +kernel
theorem dX2_init_13 : decode cX2_init 13 = .ok (.return_, 1) := by decide +kernel
theorem dX2_at_0 : decode cX2_at 0 = .ok (.iload_n 1, 1) := by decide +kernel
theorem dX2_at_1 : decode cX2_at 1 = .ok (.ifCond .lt 19, 3) := by decide +kernel
theorem dX2_at_4 : decode cX2_at 4 = .ok (.iload_n 1, 1) := by decide +kernel
theorem dX2_at_5 : decode cX2_at 5 = .ok (.bipush 29, 2) := by decide +kernel
theorem dX2_at_7 : decode cX2_at 7 = .ok (.if_icmp .ge 13, 3) := by decide +kernel
theorem dX2_at_10 : decode cX2_at 10 = .ok (.iload_n 2, 1) := by decide +kernel
theorem dX2_at_11 : decode cX2_at 11 = .ok (.ifCond .lt 9, 3) := by decide +kernel
theorem dX2_at_14 : decode cX2_at 14 = .ok (.iload_n 2, 1) := by decide +kernel
theorem dX2_at_15 : decode cX2_at 15 = .ok (.bipush 10, 2) := by decide +kernel
theorem dX2_at_17 : decode cX2_at 17 = .ok (.if_icmp .lt 5, 3) := by decide +kernel
theorem dX2_at_20 : decode cX2_at 20 = .ok (.iconst 0, 1) := by decide +kernel
theorem dX2_at_21 : decode cX2_at 21 = .ok (.ireturn, 1) := by decide +kernel
theorem dX2_at_22 : decode cX2_at 22 = .ok (.aload_n 0, 1) := by decide +kernel
theorem dX2_at_23 : decode cX2_at 23 = .ok (.getfield 9, 3) := by decide +kernel
theorem dX2_at_26 : decode cX2_at 26 = .ok (.iload_n 1, 1) := by decide +kernel
theorem dX2_at_27 : decode cX2_at 27 = .ok (.bipush 10, 2) := by decide +kernel
theorem dX2_at_29 : decode cX2_at 29 = .ok (.imul, 1) := by decide +kernel
theorem dX2_at_30 : decode cX2_at 30 = .ok (.iload_n 2, 1) := by decide +kernel
theorem dX2_at_31 : decode cX2_at 31 = .ok (.iadd, 1) := by decide +kernel
theorem dX2_at_32 : decode cX2_at 32 = .ok (.iaload, 1) := by decide +kernel
theorem dX2_at_33 : decode cX2_at 33 = .ok (.ireturn, 1) := by decide +kernel
theorem dX2_change_0 : decode cX2_change 0 = .ok (.iload_n 1, 1) := by decide +kernel
theorem dX2_change_1 : decode cX2_change 1 = .ok (.ifCond .lt 19, 3) := by decide +kernel
theorem dX2_change_4 : decode cX2_change 4 = .ok (.iload_n 1, 1) := by decide +kernel
theorem dX2_change_5 : decode cX2_change 5 = .ok (.bipush 29, 2) := by decide +kernel
theorem dX2_change_7 : decode cX2_change 7 = .ok (.if_icmp .ge 13, 3) := by decide +kernel
theorem dX2_change_10 : decode cX2_change 10 = .ok (.iload_n 2, 1) := by decide +kernel
theorem dX2_change_11 : decode cX2_change 11 = .ok (.ifCond .lt 9, 3) := by decide +kernel
theorem dX2_change_14 : decode cX2_change 14 = .ok (.iload_n 2, 1) := by decide +kernel
theorem dX2_change_15 : decode cX2_change 15 = .ok (.bipush 10, 2) := by decide +kernel
theorem dX2_change_17 : decode cX2_change 17 = .ok (.if_icmp .lt 4, 3) := by decide +kernel
theorem dX2_change_20 : decode cX2_change 20 = .ok (.return_, 1) := by decide +kernel
theorem dX2_change_21 : decode cX2_change 21 = .ok (.aload_n 0, 1) := by decide +kernel
theorem dX2_change_22 : decode cX2_change 22 = .ok (.getfield 9, 3) := by decide +kernel
theorem dX2_change_25 : decode cX2_change 25 = .ok (.iload_n 1, 1) := by decide +kernel
theorem dX2_change_26 : decode cX2_change 26 = .ok (.bipush 10, 2) := by decide +kernel
theorem dX2_change_28 : decode cX2_change 28 = .ok (.imul, 1) := by decide +kernel
theorem dX2_change_29 : decode cX2_change 29 = .ok (.iload_n 2, 1) := by decide +kernel
theorem dX2_change_30 : decode cX2_change 30 = .ok (.iadd, 1) := by decide +kernel
theorem dX2_change_31 : decode cX2_change 31 = .ok (.dup2, 1) := by decide +kernel
theorem dX2_change_32 : decode cX2_change 32 = .ok (.iaload, 1) := by decide +kernel
theorem dX2_change_33 : decode cX2_change 33 = .ok (.iload_n 3, 1) := by decide +kernel
theorem dX2_change_34 : decode cX2_change 34 = .ok (.iadd, 1) := by decide +kernel
theorem dX2_change_35 : decode cX2_change 35 = .ok (.iastore, 1) := by decide +kernel
theorem dX2_change_36 : decode cX2_change 36 = .ok (.return_, 1) := by decide +kernel
set_option maxRecDepth 20000 in
theorem ggX2_ofSign_X2_at : GoodIn wsX2_ofSign wsX2_at := goodIn_r _ [5, 6, 7] (by decide +kernel) (by decide +kernel)
set_option maxRecDepth 20000 in
theorem gX2_ofSign_X2_at : GoodIn wsX2_ofSign (wsV RX2 15 RX2 yX2_at wsX2_at) := goodIn_app (goodIn_of _ (by decide +kernel)) ggX2_ofSign_X2_at
theorem dX2_ofSign_0 : decode cX2_ofSign 0 = .ok (.iconst 0, 1) := by decide +kernel
theorem dX2_ofSign_1 : decode cX2_ofSign 1 = .ok (.istore_n 2, 1) := by decide +kernel
theorem dX2_ofSign_2 : decode cX2_ofSign 2 = .ok (.iconst 0, 1) := by decide +kernel
theorem dX2_ofSign_3 : decode cX2_ofSign 3 = .ok (.istore_n 3, 1) := by decide +kernel
theorem dX2_ofSign_4 : decode cX2_ofSign 4 = .ok (.iload_n 3, 1) := by decide +kernel
theorem dX2_ofSign_5 : decode cX2_ofSign 5 = .ok (.bipush 10, 2) := by decide +kernel
theorem dX2_ofSign_7 : decode cX2_ofSign 7 = .ok (.if_icmp .ge 18, 3) := by decide +kernel
theorem dX2_ofSign_10 : decode cX2_ofSign 10 = .ok (.iload_n 2, 1) := by decide +kernel
theorem dX2_ofSign_11 : decode cX2_ofSign 11 = .ok (.aload_n 0, 1) := by decide +kernel
theorem dX2_ofSign_12 : decode cX2_ofSign 12 = .ok (.iload_n 1, 1) := by decide +kernel
theorem dX2_ofSign_13 : decode cX2_ofSign 13 = .ok (.iload_n 3, 1) := by decide +kernel
theorem dX2_ofSign_14 : decode cX2_ofSign 14 = .ok (.invokevirtual 15, 3) := by decide +kernel
theorem dX2_ofSign_17 : decode cX2_ofSign 17 = .ok (.iadd, 1) := by decide +kernel
theorem dX2_ofSign_18 : decode cX2_ofSign 18 = .ok (.istore_n 2, 1) := by decide +kernel
theorem dX2_ofSign_19 : decode cX2_ofSign 19 = .ok (.iinc 3 1, 3) := by decide +kernel
theorem dX2_ofSign_22 : decode cX2_ofSign 22 = .ok (.goto (-18), 3) := by decide +kernel
theorem dX2_ofSign_25 : decode cX2_ofSign 25 = .ok (.iload_n 2, 1) := by decide +kernel
theorem dX2_ofSign_26 : decode cX2_ofSign 26 = .ok (.ireturn, 1) := by decide +kernel
theorem dX2_inAll_0 : decode cX2_inAll 0 = .ok (.iconst 0, 1) := by decide +kernel
theorem dX2_inAll_1 : decode cX2_inAll 1 = .ok (.istore_n 1, 1) := by decide +kernel
theorem dX2_inAll_2 : decode cX2_inAll 2 = .ok (.iconst 0, 1) := by decide +kernel
theorem dX2_inAll_3 : decode cX2_inAll 3 = .ok (.istore_n 2, 1) := by decide +kernel
theorem dX2_inAll_4 : decode cX2_inAll 4 = .ok (.iload_n 2, 1) := by decide +kernel
theorem dX2_inAll_5 : decode cX2_inAll 5 = .ok (.aload_n 0, 1) := by decide +kernel
theorem dX2_inAll_6 : decode cX2_inAll 6 = .ok (.getfield 9, 3) := by decide +kernel
theorem dX2_inAll_9 : decode cX2_inAll 9 = .ok (.arraylength, 1) := by decide +kernel
theorem dX2_inAll_10 : decode cX2_inAll 10 = .ok (.if_icmp .ge 18, 3) := by decide +kernel
theorem dX2_inAll_13 : decode cX2_inAll 13 = .ok (.iload_n 1, 1) := by decide +kernel
theorem dX2_inAll_14 : decode cX2_inAll 14 = .ok (.aload_n 0, 1) := by decide +kernel
theorem dX2_inAll_15 : decode cX2_inAll 15 = .ok (.getfield 9, 3) := by decide +kernel
theorem dX2_inAll_18 : decode cX2_inAll 18 = .ok (.iload_n 2, 1) := by decide +kernel
theorem dX2_inAll_19 : decode cX2_inAll 19 = .ok (.iaload, 1) := by decide +kernel
theorem dX2_inAll_20 : decode cX2_inAll 20 = .ok (.iadd, 1) := by decide +kernel
theorem dX2_inAll_21 : decode cX2_inAll 21 = .ok (.istore_n 1, 1) := by decide +kernel
theorem dX2_inAll_22 : decode cX2_inAll 22 = .ok (.iinc 2 1, 3) := by decide +kernel
theorem dX2_inAll_25 : decode cX2_inAll 25 = .ok (.goto (-21), 3) := by decide +kernel
theorem dX2_inAll_28 : decode cX2_inAll 28 = .ok (.iload_n 1, 1) := by decide +kernel
theorem dX2_inAll_29 : decode cX2_inAll 29 = .ok (.ireturn, 1) := by decide +kernel
theorem dX2_wearInAll_0 : decode cX2_wearInAll 0 = .ok (.iconst 0, 1) := by decide +kernel
theorem dX2_wearInAll_1 : decode cX2_wearInAll 1 = .ok (.istore_n 1, 1) := by decide +kernel
theorem dX2_wearInAll_2 : decode cX2_wearInAll 2 = .ok (.iconst 0, 1) := by decide +kernel
theorem dX2_wearInAll_3 : decode cX2_wearInAll 3 = .ok (.istore_n 2, 1) := by decide +kernel
theorem dX2_wearInAll_4 : decode cX2_wearInAll 4 = .ok (.iload_n 2, 1) := by decide +kernel
theorem dX2_wearInAll_5 : decode cX2_wearInAll 5 = .ok (.aload_n 0, 1) := by decide +kernel
theorem dX2_wearInAll_6 : decode cX2_wearInAll 6 = .ok (.getfield 9, 3) := by decide +kernel
theorem dX2_wearInAll_9 : decode cX2_wearInAll 9 = .ok (.arraylength, 1) := by decide +kernel
theorem dX2_wearInAll_10 : decode cX2_wearInAll 10 = .ok (.if_icmp .ge 23, 3) := by decide +kernel
theorem dX2_wearInAll_13 : decode cX2_wearInAll 13 = .ok (.iload_n 1, 1) := by decide +kernel
theorem dX2_wearInAll_14 : decode cX2_wearInAll 14 = .ok (.aload_n 0, 1) := by decide +kernel
theorem dX2_wearInAll_15 : decode cX2_wearInAll 15 = .ok (.getfield 9, 3) := by decide +kernel
theorem dX2_wearInAll_18 : decode cX2_wearInAll 18 = .ok (.iload_n 2, 1) := by decide +kernel
theorem dX2_wearInAll_19 : decode cX2_wearInAll 19 = .ok (.iaload, 1) := by decide +kernel
theorem dX2_wearInAll_20 : decode cX2_wearInAll 20 = .ok (.iload_n 2, 1) := by decide +kernel
theorem dX2_wearInAll_21 : decode cX2_wearInAll 21 = .ok (.bipush 10, 2) := by decide +kernel
theorem dX2_wearInAll_23 : decode cX2_wearInAll 23 = .ok (.irem, 1) := by decide +kernel
theorem dX2_wearInAll_24 : decode cX2_wearInAll 24 = .ok (.imul, 1) := by decide +kernel
theorem dX2_wearInAll_25 : decode cX2_wearInAll 25 = .ok (.iadd, 1) := by decide +kernel
theorem dX2_wearInAll_26 : decode cX2_wearInAll 26 = .ok (.istore_n 1, 1) := by decide +kernel
theorem dX2_wearInAll_27 : decode cX2_wearInAll 27 = .ok (.iinc 2 1, 3) := by decide +kernel
theorem dX2_wearInAll_30 : decode cX2_wearInAll 30 = .ok (.goto (-26), 3) := by decide +kernel
theorem dX2_wearInAll_33 : decode cX2_wearInAll 33 = .ok (.iload_n 1, 1) := by decide +kernel
theorem dX2_wearInAll_34 : decode cX2_wearInAll 34 = .ok (.ireturn, 1) := by decide +kernel
theorem dX2_greatestWear_0 : decode cX2_greatestWear 0 = .ok (.iconst (-1), 1) := by decide +kernel
theorem dX2_greatestWear_1 : decode cX2_greatestWear 1 = .ok (.istore_n 1, 1) := by decide +kernel
theorem dX2_greatestWear_2 : decode cX2_greatestWear 2 = .ok (.iconst 0, 1) := by decide +kernel
theorem dX2_greatestWear_3 : decode cX2_greatestWear 3 = .ok (.istore_n 2, 1) := by decide +kernel
theorem dX2_greatestWear_4 : decode cX2_greatestWear 4 = .ok (.iload_n 2, 1) := by decide +kernel
theorem dX2_greatestWear_5 : decode cX2_greatestWear 5 = .ok (.aload_n 0, 1) := by decide +kernel
theorem dX2_greatestWear_6 : decode cX2_greatestWear 6 = .ok (.getfield 9, 3) := by decide +kernel
theorem dX2_greatestWear_9 : decode cX2_greatestWear 9 = .ok (.arraylength, 1) := by decide +kernel
theorem dX2_greatestWear_10 : decode cX2_greatestWear 10 = .ok (.if_icmp .ge 27, 3) := by decide +kernel
theorem dX2_greatestWear_13 : decode cX2_greatestWear 13 = .ok (.aload_n 0, 1) := by decide +kernel
theorem dX2_greatestWear_14 : decode cX2_greatestWear 14 = .ok (.getfield 9, 3) := by decide +kernel
theorem dX2_greatestWear_17 : decode cX2_greatestWear 17 = .ok (.iload_n 2, 1) := by decide +kernel
theorem dX2_greatestWear_18 : decode cX2_greatestWear 18 = .ok (.iaload, 1) := by decide +kernel
theorem dX2_greatestWear_19 : decode cX2_greatestWear 19 = .ok (.ifCond .le 12, 3) := by decide +kernel
theorem dX2_greatestWear_22 : decode cX2_greatestWear 22 = .ok (.iload_n 1, 1) := by decide +kernel
theorem dX2_greatestWear_23 : decode cX2_greatestWear 23 = .ok (.iload_n 2, 1) := by decide +kernel
theorem dX2_greatestWear_24 : decode cX2_greatestWear 24 = .ok (.bipush 10, 2) := by decide +kernel
theorem dX2_greatestWear_26 : decode cX2_greatestWear 26 = .ok (.irem, 1) := by decide +kernel
theorem dX2_greatestWear_27 : decode cX2_greatestWear 27 = .ok (.invokestatic 19, 3) := by decide +kernel
theorem dX2_greatestWear_30 : decode cX2_greatestWear 30 = .ok (.istore_n 1, 1) := by decide +kernel
theorem dX2_greatestWear_31 : decode cX2_greatestWear 31 = .ok (.iinc 2 1, 3) := by decide +kernel
theorem dX2_greatestWear_34 : decode cX2_greatestWear 34 = .ok (.goto (-30), 3) := by decide +kernel
theorem dX2_greatestWear_37 : decode cX2_greatestWear 37 = .ok (.iload_n 1, 1) := by decide +kernel
theorem dX2_greatestWear_38 : decode cX2_greatestWear 38 = .ok (.ireturn, 1) := by decide +kernel
set_option maxRecDepth 20000 in
theorem ggX2_metalFrom_X2_at : GoodIn wsX2_metalFrom wsX2_at := goodIn_r _ [5, 6, 10] (by decide +kernel) (by decide +kernel)
set_option maxRecDepth 20000 in
theorem gX2_metalFrom_X2_at : GoodIn wsX2_metalFrom (wsV RX2 15 RX2 yX2_at wsX2_at) := goodIn_app (goodIn_of _ (by decide +kernel)) ggX2_metalFrom_X2_at
set_option maxRecDepth 20000 in
theorem ggX2_metalFrom_X4_isLigature : GoodIn wsX2_metalFrom wsX4_isLigature := goodIn_r _ [9] (by decide +kernel) (by decide +kernel)
set_option maxRecDepth 20000 in
theorem gX2_metalFrom_X4_isLigature_n24 : GoodIn wsX2_metalFrom (wsX4_isLigature) := ggX2_metalFrom_X4_isLigature
theorem dX2_metalFrom_0 : decode cX2_metalFrom 0 = .ok (.iconst 0, 1) := by decide +kernel
theorem dX2_metalFrom_1 : decode cX2_metalFrom 1 = .ok (.istore_n 2, 1) := by decide +kernel
theorem dX2_metalFrom_2 : decode cX2_metalFrom 2 = .ok (.iconst 0, 1) := by decide +kernel
theorem dX2_metalFrom_3 : decode cX2_metalFrom 3 = .ok (.istore_n 3, 1) := by decide +kernel
theorem dX2_metalFrom_4 : decode cX2_metalFrom 4 = .ok (.iload_n 3, 1) := by decide +kernel
theorem dX2_metalFrom_5 : decode cX2_metalFrom 5 = .ok (.bipush 29, 2) := by decide +kernel
theorem dX2_metalFrom_7 : decode cX2_metalFrom 7 = .ok (.if_icmp .ge 48, 3) := by decide +kernel
theorem dX2_metalFrom_10 : decode cX2_metalFrom 10 = .ok (.iload_n 1, 1) := by decide +kernel
theorem dX2_metalFrom_11 : decode cX2_metalFrom 11 = .ok (.istore 4, 2) := by decide +kernel
theorem dX2_metalFrom_13 : decode cX2_metalFrom 13 = .ok (.iload 4, 2) := by decide +kernel
theorem dX2_metalFrom_15 : decode cX2_metalFrom 15 = .ok (.bipush 10, 2) := by decide +kernel
theorem dX2_metalFrom_17 : decode cX2_metalFrom 17 = .ok (.if_icmp .ge 32, 3) := by decide +kernel
theorem dX2_metalFrom_20 : decode cX2_metalFrom 20 = .ok (.iload_n 2, 1) := by decide +kernel
theorem dX2_metalFrom_21 : decode cX2_metalFrom 21 = .ok (.aload_n 0, 1) := by decide +kernel
theorem dX2_metalFrom_22 : decode cX2_metalFrom 22 = .ok (.iload_n 3, 1) := by decide +kernel
theorem dX2_metalFrom_23 : decode cX2_metalFrom 23 = .ok (.iload 4, 2) := by decide +kernel
theorem dX2_metalFrom_25 : decode cX2_metalFrom 25 = .ok (.invokevirtual 15, 3) := by decide +kernel
theorem dX2_metalFrom_28 : decode cX2_metalFrom 28 = .ok (.iload_n 3, 1) := by decide +kernel
theorem dX2_metalFrom_29 : decode cX2_metalFrom 29 = .ok (.invokestatic 24, 3) := by decide +kernel
theorem dX2_metalFrom_32 : decode cX2_metalFrom 32 = .ok (.ifCond .eq 7, 3) := by decide +kernel
theorem dX2_metalFrom_35 : decode cX2_metalFrom 35 = .ok (.iconst 2, 1) := by decide +kernel
theorem dX2_metalFrom_36 : decode cX2_metalFrom 36 = .ok (.goto 4, 3) := by decide +kernel
theorem dX2_metalFrom_39 : decode cX2_metalFrom 39 = .ok (.iconst 1, 1) := by decide +kernel
theorem dX2_metalFrom_40 : decode cX2_metalFrom 40 = .ok (.imul, 1) := by decide +kernel
theorem dX2_metalFrom_41 : decode cX2_metalFrom 41 = .ok (.iadd, 1) := by decide +kernel
theorem dX2_metalFrom_42 : decode cX2_metalFrom 42 = .ok (.istore_n 2, 1) := by decide +kernel
theorem dX2_metalFrom_43 : decode cX2_metalFrom 43 = .ok (.iinc 4 1, 3) := by decide +kernel
theorem dX2_metalFrom_46 : decode cX2_metalFrom 46 = .ok (.goto (-33), 3) := by decide +kernel
theorem dX2_metalFrom_49 : decode cX2_metalFrom 49 = .ok (.iinc 3 1, 3) := by decide +kernel
theorem dX2_metalFrom_52 : decode cX2_metalFrom 52 = .ok (.goto (-48), 3) := by decide +kernel
theorem dX2_metalFrom_55 : decode cX2_metalFrom 55 = .ok (.iload_n 2, 1) := by decide +kernel
theorem dX2_metalFrom_56 : decode cX2_metalFrom 56 = .ok (.ireturn, 1) := by decide +kernel
set_option maxRecDepth 20000 in
theorem ggX2_dropFrom_X2_empty : GoodIn wsX2_dropFrom wsX2_empty := goodIn_r _ [5, 6, 7, 8, 4, 9, 10, 11, 12, 13, 14, 15] (by decide +kernel) (by decide +kernel)
set_option maxRecDepth 20000 in
theorem gX2_dropFrom_X2_empty : GoodIn wsX2_dropFrom (wsV RX2 28 RX2 yX2_empty wsX2_empty) := goodIn_app (goodIn_of _ (by decide +kernel)) ggX2_dropFrom_X2_empty
theorem dX2_dropFrom_0 : decode cX2_dropFrom 0 = .ok (.iconst 0, 1) := by decide +kernel
theorem dX2_dropFrom_1 : decode cX2_dropFrom 1 = .ok (.istore_n 2, 1) := by decide +kernel
theorem dX2_dropFrom_2 : decode cX2_dropFrom 2 = .ok (.iconst 0, 1) := by decide +kernel
theorem dX2_dropFrom_3 : decode cX2_dropFrom 3 = .ok (.istore_n 3, 1) := by decide +kernel
theorem dX2_dropFrom_4 : decode cX2_dropFrom 4 = .ok (.iload_n 3, 1) := by decide +kernel
theorem dX2_dropFrom_5 : decode cX2_dropFrom 5 = .ok (.bipush 29, 2) := by decide +kernel
theorem dX2_dropFrom_7 : decode cX2_dropFrom 7 = .ok (.if_icmp .ge 35, 3) := by decide +kernel
theorem dX2_dropFrom_10 : decode cX2_dropFrom 10 = .ok (.iload_n 1, 1) := by decide +kernel
theorem dX2_dropFrom_11 : decode cX2_dropFrom 11 = .ok (.istore 4, 2) := by decide +kernel
theorem dX2_dropFrom_13 : decode cX2_dropFrom 13 = .ok (.iload 4, 2) := by decide +kernel
theorem dX2_dropFrom_15 : decode cX2_dropFrom 15 = .ok (.bipush 10, 2) := by decide +kernel
theorem dX2_dropFrom_17 : decode cX2_dropFrom 17 = .ok (.if_icmp .ge 19, 3) := by decide +kernel
theorem dX2_dropFrom_20 : decode cX2_dropFrom 20 = .ok (.iload_n 2, 1) := by decide +kernel
theorem dX2_dropFrom_21 : decode cX2_dropFrom 21 = .ok (.aload_n 0, 1) := by decide +kernel
theorem dX2_dropFrom_22 : decode cX2_dropFrom 22 = .ok (.iload_n 3, 1) := by decide +kernel
theorem dX2_dropFrom_23 : decode cX2_dropFrom 23 = .ok (.iload 4, 2) := by decide +kernel
theorem dX2_dropFrom_25 : decode cX2_dropFrom 25 = .ok (.invokevirtual 28, 3) := by decide +kernel
theorem dX2_dropFrom_28 : decode cX2_dropFrom 28 = .ok (.iadd, 1) := by decide +kernel
theorem dX2_dropFrom_29 : decode cX2_dropFrom 29 = .ok (.istore_n 2, 1) := by decide +kernel
theorem dX2_dropFrom_30 : decode cX2_dropFrom 30 = .ok (.iinc 4 1, 3) := by decide +kernel
theorem dX2_dropFrom_33 : decode cX2_dropFrom 33 = .ok (.goto (-20), 3) := by decide +kernel
theorem dX2_dropFrom_36 : decode cX2_dropFrom 36 = .ok (.iinc 3 1, 3) := by decide +kernel
theorem dX2_dropFrom_39 : decode cX2_dropFrom 39 = .ok (.goto (-35), 3) := by decide +kernel
theorem dX2_dropFrom_42 : decode cX2_dropFrom 42 = .ok (.iload_n 2, 1) := by decide +kernel
theorem dX2_dropFrom_43 : decode cX2_dropFrom 43 = .ok (.ireturn, 1) := by decide +kernel
