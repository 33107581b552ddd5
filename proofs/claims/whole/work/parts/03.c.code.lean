set_option maxRecDepth 20000 in
theorem ggX4_rent_X4_needPrinter : GoodIn wsX4_rent wsX4_needPrinter := goodIn_ca (goodIn_r _ [8, 9, 10, 11, 46, 47, 48, 49, 50, 51, 52, 53, 54, 55, 56] (by decide +kernel) (by decide +kernel)) (goodIn_sub (fun _ h => List.mem_cons_of_mem _ (List.mem_append_left _ (List.mem_append_right _ h))) (by decide +kernel))
set_option maxRecDepth 20000 in
theorem gX4_rent_X4_needPrinter : GoodIn wsX4_rent (wsV RX4 98 RX4 yX4_needPrinter wsX4_needPrinter) := goodIn_app (goodIn_of _ (by decide +kernel)) ggX4_rent_X4_needPrinter
set_option maxRecDepth 20000 in
theorem ggX4_rent_X4_needSign : GoodIn wsX4_rent wsX4_needSign := goodIn_ca (goodIn_r _ [14, 9, 10] (by decide +kernel) (by decide +kernel)) (goodIn_sub (fun _ h => List.mem_cons_of_mem _ (List.mem_append_left _ (List.mem_append_right _ h))) (by decide +kernel))
set_option maxRecDepth 20000 in
theorem gX4_rent_X4_needSign : GoodIn wsX4_rent (va_wsS RX4 40 yX4_needSign wsX4_needSign) := goodIn_app (goodIn_of _ (by decide +kernel)) ggX4_rent_X4_needSign
set_option maxRecDepth 20000 in
theorem ggX4_rent_X4_needMany : GoodIn wsX4_rent wsX4_needMany := goodIn_ca (goodIn_r _ [17, 18, 19] (by decide +kernel) (by decide +kernel)) (goodIn_sub (fun _ h => List.mem_cons_of_mem _ (List.mem_append_right _ h)) (by decide +kernel))
set_option maxRecDepth 20000 in
theorem gX4_rent_X4_needMany : GoodIn wsX4_rent (va_wsS RX4 44 yX4_needMany wsX4_needMany) := goodIn_app (goodIn_of _ (by decide +kernel)) ggX4_rent_X4_needMany
set_option maxRecDepth 20000 in
theorem ggX4_rent_X2_ofSign : GoodIn wsX4_rent wsX2_ofSign := goodIn_r _ [24, 25, 26, 27, 23, 28, 29, 63] (by decide +kernel) (by decide +kernel)
set_option maxRecDepth 20000 in
theorem gX4_rent_X2_ofSign : GoodIn wsX4_rent (wsV RX4 58 RX2 yX2_ofSign wsX2_ofSign) := goodIn_app (goodIn_of _ (by decide +kernel)) ggX4_rent_X2_ofSign
set_option maxRecDepth 20000 in
theorem ggX4_rent_X2_moveLeastWorn : GoodIn wsX4_rent wsX2_moveLeastWorn := goodIn_r _ [33, 34, 35, 36, 23, 37, 38, 39, 40, 41, 25, 26, 27, 28, 29, 42, 43, 44, 45, 63] (by decide +kernel) (by decide +kernel)
set_option maxRecDepth 20000 in
theorem gX4_rent_X2_moveLeastWorn : GoodIn wsX4_rent (wsV RX4 107 RX2 yX2_moveLeastWorn wsX2_moveLeastWorn) := goodIn_app (goodIn_of _ (by decide +kernel)) ggX4_rent_X2_moveLeastWorn
theorem dX4_rent_0 : decode cX4_rent 0 = .ok (.aload_n 0, 1) := by decide +kernel
theorem dX4_rent_1 : decode cX4_rent 1 = .ok (.iload_n 1, 1) := by decide +kernel
theorem dX4_rent_2 : decode cX4_rent 2 = .ok (.invokevirtual 98, 3) := by decide +kernel
theorem dX4_rent_5 : decode cX4_rent 5 = .ok (.astore 4, 2) := by decide +kernel
theorem dX4_rent_7 : decode cX4_rent 7 = .ok (.iload_n 2, 1) := by decide +kernel
theorem dX4_rent_8 : decode cX4_rent 8 = .ok (.invokestatic 40, 3) := by decide +kernel
theorem dX4_rent_11 : decode cX4_rent 11 = .ok (.iload_n 3, 1) := by decide +kernel
theorem dX4_rent_12 : decode cX4_rent 12 = .ok (.invokestatic 44, 3) := by decide +kernel
theorem dX4_rent_15 : decode cX4_rent 15 = .ok (.aload_n 0, 1) := by decide +kernel
theorem dX4_rent_16 : decode cX4_rent 16 = .ok (.getfield 10, 3) := by decide +kernel
theorem dX4_rent_19 : decode cX4_rent 19 = .ok (.iload_n 2, 1) := by decide +kernel
theorem dX4_rent_20 : decode cX4_rent 20 = .ok (.invokevirtual 58, 3) := by decide +kernel
theorem dX4_rent_23 : decode cX4_rent 23 = .ok (.iload_n 3, 1) := by decide +kernel
theorem dX4_rent_24 : decode cX4_rent 24 = .ok (.if_icmp .ge 13, 3) := by decide +kernel
theorem dX4_rent_27 : decode cX4_rent 27 = .ok (.new 51, 3) := by decide +kernel
theorem dX4_rent_30 : decode cX4_rent 30 = .ok (.dup, 1) := by decide +kernel
theorem dX4_rent_31 : decode cX4_rent 31 = .ok (.ldc 102, 2) := by decide +kernel
theorem dX4_rent_33 : decode cX4_rent 33 = .ok (.invokespecial 55, 3) := by decide +kernel
theorem dX4_rent_36 : decode cX4_rent 36 = .ok (.athrow, 1) := by decide +kernel
theorem dX4_rent_37 : decode cX4_rent 37 = .ok (.aload_n 0, 1) := by decide +kernel
theorem dX4_rent_38 : decode cX4_rent 38 = .ok (.getfield 10, 3) := by decide +kernel
theorem dX4_rent_41 : decode cX4_rent 41 = .ok (.aload 4, 2) := by decide +kernel
theorem dX4_rent_43 : decode cX4_rent 43 = .ok (.getfield 104, 3) := by decide +kernel
theorem dX4_rent_46 : decode cX4_rent 46 = .ok (.iload_n 2, 1) := by decide +kernel
theorem dX4_rent_47 : decode cX4_rent 47 = .ok (.iload_n 3, 1) := by decide +kernel
theorem dX4_rent_48 : decode cX4_rent 48 = .ok (.invokevirtual 107, 3) := by decide +kernel
theorem dX4_rent_51 : decode cX4_rent 51 = .ok (.ireturn, 1) := by decide +kernel
set_option maxRecDepth 20000 in
theorem ggX4_giveBack_X4_needPrinter : GoodIn wsX4_giveBack wsX4_needPrinter := goodIn_ca (goodIn_r _ [8, 9, 10, 11, 52, 53, 54, 55, 56, 57, 58, 59, 60, 61, 62] (by decide +kernel) (by decide +kernel)) (goodIn_sub (fun _ h => List.mem_cons_of_mem _ (List.mem_append_left _ (List.mem_append_right _ h))) (by decide +kernel))
set_option maxRecDepth 20000 in
theorem gX4_giveBack_X4_needPrinter : GoodIn wsX4_giveBack (wsV RX4 98 RX4 yX4_needPrinter wsX4_needPrinter) := goodIn_app (goodIn_of _ (by decide +kernel)) ggX4_giveBack_X4_needPrinter
set_option maxRecDepth 20000 in
theorem ggX4_giveBack_X4_needSign : GoodIn wsX4_giveBack wsX4_needSign := goodIn_ca (goodIn_r _ [14, 9, 10] (by decide +kernel) (by decide +kernel)) (goodIn_sub (fun _ h => List.mem_cons_of_mem _ (List.mem_append_left _ (List.mem_append_right _ h))) (by decide +kernel))
set_option maxRecDepth 20000 in
theorem gX4_giveBack_X4_needSign : GoodIn wsX4_giveBack (va_wsS RX4 40 yX4_needSign wsX4_needSign) := goodIn_app (goodIn_of _ (by decide +kernel)) ggX4_giveBack_X4_needSign
set_option maxRecDepth 20000 in
theorem ggX4_giveBack_X4_needMany : GoodIn wsX4_giveBack wsX4_needMany := goodIn_ca (goodIn_r _ [17, 18, 19] (by decide +kernel) (by decide +kernel)) (goodIn_sub (fun _ h => List.mem_cons_of_mem _ (List.mem_append_right _ h)) (by decide +kernel))
set_option maxRecDepth 20000 in
theorem gX4_giveBack_X4_needMany : GoodIn wsX4_giveBack (va_wsS RX4 44 yX4_needMany wsX4_needMany) := goodIn_app (goodIn_of _ (by decide +kernel)) ggX4_giveBack_X4_needMany
set_option maxRecDepth 20000 in
theorem ggX4_giveBack_X2_ofSign : GoodIn wsX4_giveBack wsX2_ofSign := goodIn_r _ [24, 25, 26, 27, 23, 28, 29, 63] (by decide +kernel) (by decide +kernel)
set_option maxRecDepth 20000 in
theorem gX4_giveBack_X2_ofSign : GoodIn wsX4_giveBack (wsV RX4 58 RX2 yX2_ofSign wsX2_ofSign) := goodIn_app (goodIn_of _ (by decide +kernel)) ggX4_giveBack_X2_ofSign
set_option maxRecDepth 20000 in
theorem ggX4_giveBack_X2_moveMostWorn : GoodIn wsX4_giveBack wsX2_moveMostWorn := goodIn_r _ [33, 34, 35, 36, 23, 37, 38, 39, 40, 41, 25, 26, 27, 28, 29, 42, 43, 44, 45, 63] (by decide +kernel) (by decide +kernel)
set_option maxRecDepth 20000 in
theorem gX4_giveBack_X2_moveMostWorn : GoodIn wsX4_giveBack (wsV RX4 113 RX2 yX2_moveMostWorn wsX2_moveMostWorn) := goodIn_app (goodIn_of _ (by decide +kernel)) ggX4_giveBack_X2_moveMostWorn
theorem dX4_giveBack_0 : decode cX4_giveBack 0 = .ok (.aload_n 0, 1) := by decide +kernel
theorem dX4_giveBack_1 : decode cX4_giveBack 1 = .ok (.iload_n 1, 1) := by decide +kernel
theorem dX4_giveBack_2 : decode cX4_giveBack 2 = .ok (.invokevirtual 98, 3) := by decide +kernel
theorem dX4_giveBack_5 : decode cX4_giveBack 5 = .ok (.astore 4, 2) := by decide +kernel
theorem dX4_giveBack_7 : decode cX4_giveBack 7 = .ok (.iload_n 2, 1) := by decide +kernel
theorem dX4_giveBack_8 : decode cX4_giveBack 8 = .ok (.invokestatic 40, 3) := by decide +kernel
theorem dX4_giveBack_11 : decode cX4_giveBack 11 = .ok (.iload_n 3, 1) := by decide +kernel
theorem dX4_giveBack_12 : decode cX4_giveBack 12 = .ok (.invokestatic 44, 3) := by decide +kernel
theorem dX4_giveBack_15 : decode cX4_giveBack 15 = .ok (.aload 4, 2) := by decide +kernel
theorem dX4_giveBack_17 : decode cX4_giveBack 17 = .ok (.getfield 104, 3) := by decide +kernel
theorem dX4_giveBack_20 : decode cX4_giveBack 20 = .ok (.iload_n 2, 1) := by decide +kernel
theorem dX4_giveBack_21 : decode cX4_giveBack 21 = .ok (.invokevirtual 58, 3) := by decide +kernel
theorem dX4_giveBack_24 : decode cX4_giveBack 24 = .ok (.iload_n 3, 1) := by decide +kernel
theorem dX4_giveBack_25 : decode cX4_giveBack 25 = .ok (.if_icmp .ge 13, 3) := by decide +kernel
theorem dX4_giveBack_28 : decode cX4_giveBack 28 = .ok (.new 51, 3) := by decide +kernel
theorem dX4_giveBack_31 : decode cX4_giveBack 31 = .ok (.dup, 1) := by decide +kernel
theorem dX4_giveBack_32 : decode cX4_giveBack 32 = .ok (.ldc 111, 2) := by decide +kernel
theorem dX4_giveBack_34 : decode cX4_giveBack 34 = .ok (.invokespecial 55, 3) := by decide +kernel
theorem dX4_giveBack_37 : decode cX4_giveBack 37 = .ok (.athrow, 1) := by decide +kernel
theorem dX4_giveBack_38 : decode cX4_giveBack 38 = .ok (.aload 4, 2) := by decide +kernel
theorem dX4_giveBack_40 : decode cX4_giveBack 40 = .ok (.getfield 104, 3) := by decide +kernel
theorem dX4_giveBack_43 : decode cX4_giveBack 43 = .ok (.aload_n 0, 1) := by decide +kernel
theorem dX4_giveBack_44 : decode cX4_giveBack 44 = .ok (.getfield 10, 3) := by decide +kernel
theorem dX4_giveBack_47 : decode cX4_giveBack 47 = .ok (.iload_n 2, 1) := by decide +kernel
theorem dX4_giveBack_48 : decode cX4_giveBack 48 = .ok (.iload_n 3, 1) := by decide +kernel
theorem dX4_giveBack_49 : decode cX4_giveBack 49 = .ok (.invokevirtual 113, 3) := by decide +kernel
theorem dX4_giveBack_52 : decode cX4_giveBack 52 = .ok (.ireturn, 1) := by decide +kernel
set_option maxRecDepth 20000 in
theorem ggX4_pay_X4_needPrinter : GoodIn wsX4_pay wsX4_needPrinter := goodIn_ca (goodIn_r _ [10, 11, 12, 13, 20, 21, 22, 23, 24, 25, 26, 27, 28, 29, 30] (by decide +kernel) (by decide +kernel)) (goodIn_sub (fun _ h => List.mem_cons_of_mem _ (List.mem_append_right _ h)) (by decide +kernel))
set_option maxRecDepth 20000 in
theorem gX4_pay_X4_needPrinter : GoodIn wsX4_pay (wsV RX4 98 RX4 yX4_needPrinter wsX4_needPrinter) := goodIn_app (goodIn_of _ (by decide +kernel)) ggX4_pay_X4_needPrinter
theorem dX4_pay_0 : decode cX4_pay 0 = .ok (.aload_n 0, 1) := by decide +kernel
theorem dX4_pay_1 : decode cX4_pay 1 = .ok (.iload_n 1, 1) := by decide +kernel
theorem dX4_pay_2 : decode cX4_pay 2 = .ok (.invokevirtual 98, 3) := by decide +kernel
theorem dX4_pay_5 : decode cX4_pay 5 = .ok (.astore_n 2, 1) := by decide +kernel
theorem dX4_pay_6 : decode cX4_pay 6 = .ok (.aload_n 2, 1) := by decide +kernel
theorem dX4_pay_7 : decode cX4_pay 7 = .ok (.getfield 116, 3) := by decide +kernel
theorem dX4_pay_10 : decode cX4_pay 10 = .ok (.aload_n 2, 1) := by decide +kernel
theorem dX4_pay_11 : decode cX4_pay 11 = .ok (.getfield 119, 3) := by decide +kernel
theorem dX4_pay_14 : decode cX4_pay 14 = .ok (.invokestatic 122, 3) := by decide +kernel
theorem dX4_pay_17 : decode cX4_pay 17 = .ok (.istore_n 3, 1) := by decide +kernel
theorem dX4_pay_18 : decode cX4_pay 18 = .ok (.aload_n 2, 1) := by decide +kernel
theorem dX4_pay_19 : decode cX4_pay 19 = .ok (.dup, 1) := by decide +kernel
theorem dX4_pay_20 : decode cX4_pay 20 = .ok (.getfield 116, 3) := by decide +kernel
theorem dX4_pay_23 : decode cX4_pay 23 = .ok (.iload_n 3, 1) := by decide +kernel
theorem dX4_pay_24 : decode cX4_pay 24 = .ok (.isub, 1) := by decide +kernel
theorem dX4_pay_25 : decode cX4_pay 25 = .ok (.putfield 116, 3) := by decide +kernel
theorem dX4_pay_28 : decode cX4_pay 28 = .ok (.aload_n 2, 1) := by decide +kernel
theorem dX4_pay_29 : decode cX4_pay 29 = .ok (.dup, 1) := by decide +kernel
theorem dX4_pay_30 : decode cX4_pay 30 = .ok (.getfield 119, 3) := by decide +kernel
theorem dX4_pay_33 : decode cX4_pay 33 = .ok (.iload_n 3, 1) := by decide +kernel
theorem dX4_pay_34 : decode cX4_pay 34 = .ok (.isub, 1) := by decide +kernel
theorem dX4_pay_35 : decode cX4_pay 35 = .ok (.putfield 119, 3) := by decide +kernel
theorem dX4_pay_38 : decode cX4_pay 38 = .ok (.aload_n 0, 1) := by decide +kernel
theorem dX4_pay_39 : decode cX4_pay 39 = .ok (.dup, 1) := by decide +kernel
theorem dX4_pay_40 : decode cX4_pay 40 = .ok (.getfield 128, 3) := by decide +kernel
theorem dX4_pay_43 : decode cX4_pay 43 = .ok (.iload_n 3, 1) := by decide +kernel
theorem dX4_pay_44 : decode cX4_pay 44 = .ok (.iadd, 1) := by decide +kernel
theorem dX4_pay_45 : decode cX4_pay 45 = .ok (.putfield 128, 3) := by decide +kernel
theorem dX4_pay_48 : decode cX4_pay 48 = .ok (.iload_n 3, 1) := by decide +kernel
theorem dX4_pay_49 : decode cX4_pay 49 = .ok (.ireturn, 1) := by decide +kernel
set_option maxRecDepth 20000 in
theorem ggX4_set_X4_needPrinter : GoodIn wsX4_set wsX4_needPrinter := goodIn_ca (goodIn_r _ [8, 9, 10, 11, 95, 96, 97, 98, 99, 100, 101, 102, 103, 104, 105] (by decide +kernel) (by decide +kernel)) (goodIn_sub (fun _ h => List.mem_cons_of_mem _ (List.mem_append_left _ (List.mem_append_right _ h))) (by decide +kernel))
set_option maxRecDepth 20000 in
theorem gX4_set_X4_needPrinter : GoodIn wsX4_set (wsV RX4 98 RX4 yX4_needPrinter wsX4_needPrinter) := goodIn_app (goodIn_of _ (by decide +kernel)) ggX4_set_X4_needPrinter
set_option maxRecDepth 20000 in
theorem ggX4_set_X4_needWord : GoodIn wsX4_set wsX4_needWord := goodIn_ca (goodIn_r _ [15, 16, 17, 18, 19, 20, 21, 22, 23, 24, 25, 26, 95, 96, 97, 98, 99, 100, 101, 102, 103, 104, 105, 112, 113] (by decide +kernel) (by decide +kernel)) (goodIn_sub (fun _ h => List.mem_cons_of_mem _ (List.mem_append_right _ h)) (by decide +kernel))
set_option maxRecDepth 20000 in
theorem gX4_set_X4_needWord : GoodIn wsX4_set (wsV RX4 129 RX4 yX4_needWord wsX4_needWord) := goodIn_app (goodIn_of _ (by decide +kernel)) ggX4_set_X4_needWord
set_option maxRecDepth 20000 in
theorem ggX4_set_X1_fillFrom : GoodIn wsX4_set wsX1_fillFrom := goodIn_r _ [31, 32, 33, 34, 35, 36, 37, 38, 39, 40, 41, 42, 114, 115, 116] (by decide +kernel) (by decide +kernel)
set_option maxRecDepth 20000 in
theorem gX4_set_X1_fillFrom : GoodIn wsX4_set (wsV RX4 133 RX1 yX1_fillFrom wsX1_fillFrom) := goodIn_app (goodIn_of _ (by decide +kernel)) ggX4_set_X1_fillFrom
set_option maxRecDepth 20000 in
theorem ggX4_set_X1_lay : GoodIn wsX4_set wsX1_lay := goodIn_r _ [46, 47, 32, 48, 49, 50, 51, 52, 53, 54, 22, 55, 26, 56, 57, 58, 30, 59, 60, 61, 62, 63, 64, 65, 66, 67, 25, 68, 69, 7, 70, 114, 115, 112, 113] (by decide +kernel) (by decide +kernel)
set_option maxRecDepth 20000 in
theorem gX4_set_X1_lay : GoodIn wsX4_set (wsV RX4 137 RX1 yX1_lay wsX1_lay) := goodIn_app (goodIn_of _ (by decide +kernel)) ggX4_set_X1_lay
set_option maxRecDepth 20000 in
theorem ggX4_set_X2_inAll : GoodIn wsX4_set wsX2_inAll := goodIn_r _ [74, 42, 116] (by decide +kernel) (by decide +kernel)
set_option maxRecDepth 20000 in
theorem gX4_set_X2_inAll : GoodIn wsX4_set (wsV RX4 146 RX2 yX2_inAll wsX2_inAll) := goodIn_app (goodIn_of _ (by decide +kernel)) ggX4_set_X2_inAll
set_option maxRecDepth 20000 in
theorem ggX4_set_X1_taken : GoodIn wsX4_set wsX1_taken := goodIn_r _ [78, 47, 114, 115] (by decide +kernel) (by decide +kernel)
set_option maxRecDepth 20000 in
theorem gX4_set_X1_taken : GoodIn wsX4_set (wsV RX4 152 RX1 yX1_taken wsX1_taken) := goodIn_app (goodIn_of _ (by decide +kernel)) ggX4_set_X1_taken
set_option maxRecDepth 20000 in
theorem ggX4_set_X2_moveMostWorn : GoodIn wsX4_set wsX2_moveMostWorn := goodIn_r _ [82, 83, 84, 85, 36, 86, 87, 88, 89, 90, 38, 39, 40, 41, 42, 91, 92, 93, 94, 116] (by decide +kernel) (by decide +kernel)
set_option maxRecDepth 20000 in
theorem gX4_set_X2_moveMostWorn : GoodIn wsX4_set (wsV RX4 113 RX2 yX2_moveMostWorn wsX2_moveMostWorn) := goodIn_app (goodIn_of _ (by decide +kernel)) ggX4_set_X2_moveMostWorn
theorem dX4_set_0 : decode cX4_set 0 = .ok (.aload_n 0, 1) := by decide +kernel
theorem dX4_set_1 : decode cX4_set 1 = .ok (.iload_n 1, 1) := by decide +kernel
theorem dX4_set_2 : decode cX4_set 2 = .ok (.invokevirtual 98, 3) := by decide +kernel
theorem dX4_set_5 : decode cX4_set 5 = .ok (.astore_n 3, 1) := by decide +kernel
theorem dX4_set_6 : decode cX4_set 6 = .ok (.aload_n 0, 1) := by decide +kernel
theorem dX4_set_7 : decode cX4_set 7 = .ok (.iload_n 2, 1) := by decide +kernel
theorem dX4_set_8 : decode cX4_set 8 = .ok (.invokevirtual 129, 3) := by decide +kernel
theorem dX4_set_11 : decode cX4_set 11 = .ok (.astore 4, 2) := by decide +kernel
theorem dX4_set_13 : decode cX4_set 13 = .ok (.aload_n 0, 1) := by decide +kernel
theorem dX4_set_14 : decode cX4_set 14 = .ok (.getfield 36, 3) := by decide +kernel
theorem dX4_set_17 : decode cX4_set 17 = .ok (.aload_n 3, 1) := by decide +kernel
theorem dX4_set_18 : decode cX4_set 18 = .ok (.getfield 104, 3) := by decide +kernel
theorem dX4_set_21 : decode cX4_set 21 = .ok (.invokevirtual 133, 3) := by decide +kernel
theorem dX4_set_24 : decode cX4_set 24 = .ok (.aload_n 0, 1) := by decide +kernel
theorem dX4_set_25 : decode cX4_set 25 = .ok (.getfield 36, 3) := by decide +kernel
theorem dX4_set_28 : decode cX4_set 28 = .ok (.aload 4, 2) := by decide +kernel
theorem dX4_set_30 : decode cX4_set 30 = .ok (.invokevirtual 137, 3) := by decide +kernel
theorem dX4_set_33 : decode cX4_set 33 = .ok (.istore 5, 2) := by decide +kernel
theorem dX4_set_35 : decode cX4_set 35 = .ok (.iload 5, 2) := by decide +kernel
theorem dX4_set_37 : decode cX4_set 37 = .ok (.iconst (-1), 1) := by decide +kernel
theorem dX4_set_38 : decode cX4_set 38 = .ok (.if_icmp .ne 13, 3) := by decide +kernel
theorem dX4_set_41 : decode cX4_set 41 = .ok (.new 51, 3) := by decide +kernel
theorem dX4_set_44 : decode cX4_set 44 = .ok (.dup, 1) := by decide +kernel
theorem dX4_set_45 : decode cX4_set 45 = .ok (.ldc 141, 2) := by decide +kernel
theorem dX4_set_47 : decode cX4_set 47 = .ok (.invokespecial 55, 3) := by decide +kernel
theorem dX4_set_50 : decode cX4_set 50 = .ok (.athrow, 1) := by decide +kernel
theorem dX4_set_51 : decode cX4_set 51 = .ok (.aload_n 3, 1) := by decide +kernel
theorem dX4_set_52 : decode cX4_set 52 = .ok (.getfield 143, 3) := by decide +kernel
theorem dX4_set_55 : decode cX4_set 55 = .ok (.invokevirtual 146, 3) := by decide +kernel
theorem dX4_set_58 : decode cX4_set 58 = .ok (.iload 5, 2) := by decide +kernel
theorem dX4_set_60 : decode cX4_set 60 = .ok (.iadd, 1) := by decide +kernel
theorem dX4_set_61 : decode cX4_set 61 = .ok (.bipush 60, 2) := by decide +kernel
theorem dX4_set_63 : decode cX4_set 63 = .ok (.if_icmp .le 13, 3) := by decide +kernel
theorem dX4_set_66 : decode cX4_set 66 = .ok (.new 51, 3) := by decide +kernel
theorem dX4_set_69 : decode cX4_set 69 = .ok (.dup, 1) := by decide +kernel
theorem dX4_set_70 : decode cX4_set 70 = .ok (.ldc 150, 2) := by decide +kernel
theorem dX4_set_72 : decode cX4_set 72 = .ok (.invokespecial 55, 3) := by decide +kernel
theorem dX4_set_75 : decode cX4_set 75 = .ok (.athrow, 1) := by decide +kernel
theorem dX4_set_76 : decode cX4_set 76 = .ok (.iconst 0, 1) := by decide +kernel
theorem dX4_set_77 : decode cX4_set 77 = .ok (.istore 6, 2) := by decide +kernel
theorem dX4_set_79 : decode cX4_set 79 = .ok (.iload 6, 2) := by decide +kernel
theorem dX4_set_81 : decode cX4_set 81 = .ok (.bipush 29, 2) := by decide +kernel
theorem dX4_set_83 : decode cX4_set 83 = .ok (.if_icmp .ge 32, 3) := by decide +kernel
theorem dX4_set_86 : decode cX4_set 86 = .ok (.aload_n 3, 1) := by decide +kernel
theorem dX4_set_87 : decode cX4_set 87 = .ok (.getfield 104, 3) := by decide +kernel
theorem dX4_set_90 : decode cX4_set 90 = .ok (.aload_n 3, 1) := by decide +kernel
theorem dX4_set_91 : decode cX4_set 91 = .ok (.getfield 143, 3) := by decide +kernel
theorem dX4_set_94 : decode cX4_set 94 = .ok (.iload 6, 2) := by decide +kernel
theorem dX4_set_96 : decode cX4_set 96 = .ok (.aload_n 0, 1) := by decide +kernel
theorem dX4_set_97 : decode cX4_set 97 = .ok (.getfield 36, 3) := by decide +kernel
theorem dX4_set_100 : decode cX4_set 100 = .ok (.iload 6, 2) := by decide +kernel
theorem dX4_set_102 : decode cX4_set 102 = .ok (.invokevirtual 152, 3) := by decide +kernel
theorem dX4_set_105 : decode cX4_set 105 = .ok (.invokevirtual 113, 3) := by decide +kernel
theorem dX4_set_108 : decode cX4_set 108 = .ok (.pop, 1) := by decide +kernel
theorem dX4_set_109 : decode cX4_set 109 = .ok (.iinc 6 1, 3) := by decide +kernel
theorem dX4_set_112 : decode cX4_set 112 = .ok (.goto (-33), 3) := by decide +kernel
theorem dX4_set_115 : decode cX4_set 115 = .ok (.aload_n 3, 1) := by decide +kernel
theorem dX4_set_116 : decode cX4_set 116 = .ok (.dup, 1) := by decide +kernel
theorem dX4_set_117 : decode cX4_set 117 = .ok (.getfield 155, 3) := by decide +kernel
theorem dX4_set_120 : decode cX4_set 120 = .ok (.iconst 1, 1) := by decide +kernel
theorem dX4_set_121 : decode cX4_set 121 = .ok (.iadd, 1) := by decide +kernel
theorem dX4_set_122 : decode cX4_set 122 = .ok (.putfield 155, 3) := by decide +kernel
theorem dX4_set_125 : decode cX4_set 125 = .ok (.iload 5, 2) := by decide +kernel
theorem dX4_set_127 : decode cX4_set 127 = .ok (.ireturn, 1) := by decide +kernel
set_option maxRecDepth 20000 in
theorem ggX4_print_X4_needPrinter : GoodIn wsX4_print wsX4_needPrinter := goodIn_ca (goodIn_r _ [10, 11, 12, 13, 42, 43, 44, 45, 46, 47, 48, 49, 50, 51, 52] (by decide +kernel) (by decide +kernel)) (goodIn_sub (fun _ h => List.mem_cons_of_mem _ (List.mem_append_right _ h)) (by decide +kernel))
set_option maxRecDepth 20000 in
theorem gX4_print_X4_needPrinter : GoodIn wsX4_print (wsV RX4 98 RX4 yX4_needPrinter wsX4_needPrinter) := goodIn_app (goodIn_of _ (by decide +kernel)) ggX4_print_X4_needPrinter
set_option maxRecDepth 20000 in
theorem ggX4_print_X2_inAll : GoodIn wsX4_print wsX2_inAll := goodIn_r _ [18, 19, 53] (by decide +kernel) (by decide +kernel)
set_option maxRecDepth 20000 in
theorem gX4_print_X2_inAll : GoodIn wsX4_print (wsV RX4 146 RX2 yX2_inAll wsX2_inAll) := goodIn_app (goodIn_of _ (by decide +kernel)) ggX4_print_X2_inAll
set_option maxRecDepth 20000 in
theorem ggX4_print_X2_wearBy : GoodIn wsX4_print wsX2_wearBy := goodIn_r _ [23, 24, 25, 26, 17, 27, 28, 29, 30, 31, 19, 32, 33, 34, 35, 53] (by decide +kernel) (by decide +kernel)
set_option maxRecDepth 20000 in
theorem gX4_print_X2_wearBy : GoodIn wsX4_print (wsV RX4 162 RX2 yX2_wearBy wsX2_wearBy) := goodIn_app (goodIn_of _ (by decide +kernel)) ggX4_print_X2_wearBy
theorem dX4_print_0 : decode cX4_print 0 = .ok (.aload_n 0, 1) := by decide +kernel
theorem dX4_print_1 : decode cX4_print 1 = .ok (.iload_n 1, 1) := by decide +kernel
theorem dX4_print_2 : decode cX4_print 2 = .ok (.invokevirtual 98, 3) := by decide +kernel
theorem dX4_print_5 : decode cX4_print 5 = .ok (.astore_n 3, 1) := by decide +kernel
theorem dX4_print_6 : decode cX4_print 6 = .ok (.iload_n 2, 1) := by decide +kernel
theorem dX4_print_7 : decode cX4_print 7 = .ok (.iconst 1, 1) := by decide +kernel
theorem dX4_print_8 : decode cX4_print 8 = .ok (.if_icmp .lt 10, 3) := by decide +kernel
theorem dX4_print_11 : decode cX4_print 11 = .ok (.iload_n 2, 1) := by decide +kernel
theorem dX4_print_12 : decode cX4_print 12 = .ok (.sipush 1000, 3) := by decide +kernel
theorem dX4_print_15 : decode cX4_print 15 = .ok (.if_icmp .le 13, 3) := by decide +kernel
theorem dX4_print_18 : decode cX4_print 18 = .ok (.new 71, 3) := by decide +kernel
theorem dX4_print_21 : decode cX4_print 21 = .ok (.dup, 1) := by decide +kernel
theorem dX4_print_22 : decode cX4_print 22 = .ok (.ldc 158, 2) := by decide +kernel
theorem dX4_print_24 : decode cX4_print 24 = .ok (.invokespecial 75, 3) := by decide +kernel
theorem dX4_print_27 : decode cX4_print 27 = .ok (.athrow, 1) := by decide +kernel
theorem dX4_print_28 : decode cX4_print 28 = .ok (.aload_n 3, 1) := by decide +kernel
theorem dX4_print_29 : decode cX4_print 29 = .ok (.getfield 143, 3) := by decide +kernel
theorem dX4_print_32 : decode cX4_print 32 = .ok (.invokevirtual 146, 3) := by decide +kernel
theorem dX4_print_35 : decode cX4_print 35 = .ok (.ifCond .ne 13, 3) := by decide +kernel
theorem dX4_print_38 : decode cX4_print 38 = .ok (.new 51, 3) := by decide +kernel
theorem dX4_print_41 : decode cX4_print 41 = .ok (.dup, 1) := by decide +kernel
theorem dX4_print_42 : decode cX4_print 42 = .ok (.ldc 160, 2) := by decide +kernel
theorem dX4_print_44 : decode cX4_print 44 = .ok (.invokespecial 55, 3) := by decide +kernel
theorem dX4_print_47 : decode cX4_print 47 = .ok (.athrow, 1) := by decide +kernel
theorem dX4_print_48 : decode cX4_print 48 = .ok (.aload_n 3, 1) := by decide +kernel
theorem dX4_print_49 : decode cX4_print 49 = .ok (.getfield 143, 3) := by decide +kernel
theorem dX4_print_52 : decode cX4_print 52 = .ok (.iload_n 2, 1) := by decide +kernel
theorem dX4_print_53 : decode cX4_print 53 = .ok (.bipush 50, 2) := by decide +kernel
theorem dX4_print_55 : decode cX4_print 55 = .ok (.idiv, 1) := by decide +kernel
theorem dX4_print_56 : decode cX4_print 56 = .ok (.invokevirtual 162, 3) := by decide +kernel
theorem dX4_print_59 : decode cX4_print 59 = .ok (.istore 4, 2) := by decide +kernel
theorem dX4_print_61 : decode cX4_print 61 = .ok (.aload_n 3, 1) := by decide +kernel
theorem dX4_print_62 : decode cX4_print 62 = .ok (.dup, 1) := by decide +kernel
theorem dX4_print_63 : decode cX4_print 63 = .ok (.getfield 165, 3) := by decide +kernel
theorem dX4_print_66 : decode cX4_print 66 = .ok (.iload_n 2, 1) := by decide +kernel
theorem dX4_print_67 : decode cX4_print 67 = .ok (.iadd, 1) := by decide +kernel
theorem dX4_print_68 : decode cX4_print 68 = .ok (.putfield 165, 3) := by decide +kernel
theorem dX4_print_71 : decode cX4_print 71 = .ok (.aload_n 0, 1) := by decide +kernel
theorem dX4_print_72 : decode cX4_print 72 = .ok (.dup, 1) := by decide +kernel
theorem dX4_print_73 : decode cX4_print 73 = .ok (.getfield 168, 3) := by decide +kernel
theorem dX4_print_76 : decode cX4_print 76 = .ok (.iload 4, 2) := by decide +kernel
theorem dX4_print_78 : decode cX4_print 78 = .ok (.iadd, 1) := by decide +kernel
theorem dX4_print_79 : decode cX4_print 79 = .ok (.putfield 168, 3) := by decide +kernel
theorem dX4_print_82 : decode cX4_print 82 = .ok (.iload 4, 2) := by decide +kernel
theorem dX4_print_84 : decode cX4_print 84 = .ok (.ireturn, 1) := by decide +kernel
set_option maxRecDepth 20000 in
theorem ggX4_distribute_X4_needPrinter : GoodIn wsX4_distribute wsX4_needPrinter := goodIn_ca (goodIn_r _ [5, 6, 7, 8, 45, 46, 47, 48, 49, 50, 51, 52, 53, 54, 55] (by decide +kernel) (by decide +kernel)) (goodIn_sub (fun _ h => List.mem_cons_of_mem _ (List.mem_append_right _ h)) (by decide +kernel))
set_option maxRecDepth 20000 in
theorem gX4_distribute_X4_needPrinter : GoodIn wsX4_distribute (wsV RX4 98 RX4 yX4_needPrinter wsX4_needPrinter) := goodIn_app (goodIn_of _ (by decide +kernel)) ggX4_distribute_X4_needPrinter
set_option maxRecDepth 20000 in
theorem ggX4_distribute_X2_inAll : GoodIn wsX4_distribute wsX2_inAll := goodIn_r _ [13, 14, 56] (by decide +kernel) (by decide +kernel)
set_option maxRecDepth 20000 in
theorem gX4_distribute_X2_inAll : GoodIn wsX4_distribute (wsV RX4 146 RX2 yX2_inAll wsX2_inAll) := goodIn_app (goodIn_of _ (by decide +kernel)) ggX4_distribute_X2_inAll
set_option maxRecDepth 20000 in
theorem ggX4_distribute_X2_ofSign : GoodIn wsX4_distribute wsX2_ofSign := goodIn_r _ [18, 19, 20, 21, 12, 22, 14, 56] (by decide +kernel) (by decide +kernel)
set_option maxRecDepth 20000 in
theorem gX4_distribute_X2_ofSign : GoodIn wsX4_distribute (wsV RX4 58 RX2 yX2_ofSign wsX2_ofSign) := goodIn_app (goodIn_of _ (by decide +kernel)) ggX4_distribute_X2_ofSign
set_option maxRecDepth 20000 in
theorem ggX4_distribute_X2_moveLeastWorn : GoodIn wsX4_distribute wsX2_moveLeastWorn := goodIn_r _ [26, 27, 28, 29, 12, 30, 31, 32, 33, 34, 19, 20, 21, 22, 14, 35, 36, 37, 38, 56] (by decide +kernel) (by decide +kernel)
set_option maxRecDepth 20000 in
theorem gX4_distribute_X2_moveLeastWorn : GoodIn wsX4_distribute (wsV RX4 107 RX2 yX2_moveLeastWorn wsX2_moveLeastWorn) := goodIn_app (goodIn_of _ (by decide +kernel)) ggX4_distribute_X2_moveLeastWorn
theorem dX4_distribute_0 : decode cX4_distribute 0 = .ok (.aload_n 0, 1) := by decide +kernel
theorem dX4_distribute_1 : decode cX4_distribute 1 = .ok (.iload_n 1, 1) := by decide +kernel
theorem dX4_distribute_2 : decode cX4_distribute 2 = .ok (.invokevirtual 98, 3) := by decide +kernel
theorem dX4_distribute_5 : decode cX4_distribute 5 = .ok (.astore_n 2, 1) := by decide +kernel
theorem dX4_distribute_6 : decode cX4_distribute 6 = .ok (.aload_n 2, 1) := by decide +kernel
theorem dX4_distribute_7 : decode cX4_distribute 7 = .ok (.getfield 143, 3) := by decide +kernel
theorem dX4_distribute_10 : decode cX4_distribute 10 = .ok (.invokevirtual 146, 3) := by decide +kernel
theorem dX4_distribute_13 : decode cX4_distribute 13 = .ok (.istore_n 3, 1) := by decide +kernel
theorem dX4_distribute_14 : decode cX4_distribute 14 = .ok (.iconst 0, 1) := by decide +kernel
theorem dX4_distribute_15 : decode cX4_distribute 15 = .ok (.istore 4, 2) := by decide +kernel
theorem dX4_distribute_17 : decode cX4_distribute 17 = .ok (.iload 4, 2) := by decide +kernel
theorem dX4_distribute_19 : decode cX4_distribute 19 = .ok (.bipush 29, 2) := by decide +kernel
theorem dX4_distribute_21 : decode cX4_distribute 21 = .ok (.if_icmp .ge 32, 3) := by decide +kernel
theorem dX4_distribute_24 : decode cX4_distribute 24 = .ok (.aload_n 2, 1) := by decide +kernel
theorem dX4_distribute_25 : decode cX4_distribute 25 = .ok (.getfield 143, 3) := by decide +kernel
theorem dX4_distribute_28 : decode cX4_distribute 28 = .ok (.aload_n 2, 1) := by decide +kernel
theorem dX4_distribute_29 : decode cX4_distribute 29 = .ok (.getfield 104, 3) := by decide +kernel
theorem dX4_distribute_32 : decode cX4_distribute 32 = .ok (.iload 4, 2) := by decide +kernel
theorem dX4_distribute_34 : decode cX4_distribute 34 = .ok (.aload_n 2, 1) := by decide +kernel
theorem dX4_distribute_35 : decode cX4_distribute 35 = .ok (.getfield 143, 3) := by decide +kernel
theorem dX4_distribute_38 : decode cX4_distribute 38 = .ok (.iload 4, 2) := by decide +kernel
theorem dX4_distribute_40 : decode cX4_distribute 40 = .ok (.invokevirtual 58, 3) := by decide +kernel
theorem dX4_distribute_43 : decode cX4_distribute 43 = .ok (.invokevirtual 107, 3) := by decide +kernel
theorem dX4_distribute_46 : decode cX4_distribute 46 = .ok (.pop, 1) := by decide +kernel
theorem dX4_distribute_47 : decode cX4_distribute 47 = .ok (.iinc 4 1, 3) := by decide +kernel
theorem dX4_distribute_50 : decode cX4_distribute 50 = .ok (.goto (-33), 3) := by decide +kernel
theorem dX4_distribute_53 : decode cX4_distribute 53 = .ok (.aload_n 2, 1) := by decide +kernel
theorem dX4_distribute_54 : decode cX4_distribute 54 = .ok (.iconst 0, 1) := by decide +kernel
theorem dX4_distribute_55 : decode cX4_distribute 55 = .ok (.putfield 155, 3) := by decide +kernel
theorem dX4_distribute_58 : decode cX4_distribute 58 = .ok (.iload_n 3, 1) := by decide +kernel
theorem dX4_distribute_59 : decode cX4_distribute 59 = .ok (.ireturn, 1) := by decide +kernel
set_option maxRecDepth 20000 in
theorem ggX4_pass_X0_rentOfADay : GoodIn wsX4_pass wsX0_rentOfADay := goodIn_r _ [9, 10, 11, 12, 13, 14, 15, 16, 17, 29, 30, 31, 32, 33, 34, 35] (by decide +kernel) (by decide +kernel)
set_option maxRecDepth 20000 in
theorem gX4_pass_X0_rentOfADay : GoodIn wsX4_pass (wsV RX4 176 RX0 yX0_rentOfADay wsX0_rentOfADay) := goodIn_app (goodIn_of _ (by decide +kernel)) ggX4_pass_X0_rentOfADay
theorem dX4_pass_0 : decode cX4_pass 0 = .ok (.iload_n 1, 1) := by decide +kernel
theorem dX4_pass_1 : decode cX4_pass 1 = .ok (.iconst 1, 1) := by decide +kernel
theorem dX4_pass_2 : decode cX4_pass 2 = .ok (.if_icmp .lt 9, 3) := by decide +kernel
theorem dX4_pass_5 : decode cX4_pass 5 = .ok (.iload_n 1, 1) := by decide +kernel
theorem dX4_pass_6 : decode cX4_pass 6 = .ok (.bipush 100, 2) := by decide +kernel
theorem dX4_pass_8 : decode cX4_pass 8 = .ok (.if_icmp .le 13, 3) := by decide +kernel
theorem dX4_pass_11 : decode cX4_pass 11 = .ok (.new 71, 3) := by decide +kernel
theorem dX4_pass_14 : decode cX4_pass 14 = .ok (.dup, 1) := by decide +kernel
theorem dX4_pass_15 : decode cX4_pass 15 = .ok (.ldc 171, 2) := by decide +kernel
theorem dX4_pass_17 : decode cX4_pass 17 = .ok (.invokespecial 75, 3) := by decide +kernel
theorem dX4_pass_20 : decode cX4_pass 20 = .ok (.athrow, 1) := by decide +kernel
theorem dX4_pass_21 : decode cX4_pass 21 = .ok (.aload_n 0, 1) := by decide +kernel
theorem dX4_pass_22 : decode cX4_pass 22 = .ok (.dup, 1) := by decide +kernel
theorem dX4_pass_23 : decode cX4_pass 23 = .ok (.getfield 173, 3) := by decide +kernel
theorem dX4_pass_26 : decode cX4_pass 26 = .ok (.iload_n 1, 1) := by decide +kernel
theorem dX4_pass_27 : decode cX4_pass 27 = .ok (.iadd, 1) := by decide +kernel
theorem dX4_pass_28 : decode cX4_pass 28 = .ok (.putfield 173, 3) := by decide +kernel
theorem dX4_pass_31 : decode cX4_pass 31 = .ok (.iconst 0, 1) := by decide +kernel
theorem dX4_pass_32 : decode cX4_pass 32 = .ok (.istore_n 2, 1) := by decide +kernel
theorem dX4_pass_33 : decode cX4_pass 33 = .ok (.iconst 0, 1) := by decide +kernel
theorem dX4_pass_34 : decode cX4_pass 34 = .ok (.istore_n 3, 1) := by decide +kernel
theorem dX4_pass_35 : decode cX4_pass 35 = .ok (.iload_n 3, 1) := by decide +kernel
theorem dX4_pass_36 : decode cX4_pass 36 = .ok (.aload_n 0, 1) := by decide +kernel
theorem dX4_pass_37 : decode cX4_pass 37 = .ok (.getfield 18, 3) := by decide +kernel
theorem dX4_pass_40 : decode cX4_pass 40 = .ok (.arraylength, 1) := by decide +kernel
theorem dX4_pass_41 : decode cX4_pass 41 = .ok (.if_icmp .ge 47, 3) := by decide +kernel
theorem dX4_pass_44 : decode cX4_pass 44 = .ok (.aload_n 0, 1) := by decide +kernel
theorem dX4_pass_45 : decode cX4_pass 45 = .ok (.getfield 18, 3) := by decide +kernel
theorem dX4_pass_48 : decode cX4_pass 48 = .ok (.iload_n 3, 1) := by decide +kernel
theorem dX4_pass_49 : decode cX4_pass 49 = .ok (.aaload, 1) := by decide +kernel
theorem dX4_pass_50 : decode cX4_pass 50 = .ok (.astore 4, 2) := by decide +kernel
theorem dX4_pass_52 : decode cX4_pass 52 = .ok (.aload 4, 2) := by decide +kernel
theorem dX4_pass_54 : decode cX4_pass 54 = .ok (.ifnull 28, 3) := by decide +kernel
theorem dX4_pass_57 : decode cX4_pass 57 = .ok (.aload 4, 2) := by decide +kernel
theorem dX4_pass_59 : decode cX4_pass 59 = .ok (.dup, 1) := by decide +kernel
theorem dX4_pass_60 : decode cX4_pass 60 = .ok (.getfield 116, 3) := by decide +kernel
theorem dX4_pass_63 : decode cX4_pass 63 = .ok (.iload_n 1, 1) := by decide +kernel
theorem dX4_pass_64 : decode cX4_pass 64 = .ok (.aload 4, 2) := by decide +kernel
theorem dX4_pass_66 : decode cX4_pass 66 = .ok (.invokevirtual 176, 3) := by decide +kernel
theorem dX4_pass_69 : decode cX4_pass 69 = .ok (.imul, 1) := by decide +kernel
theorem dX4_pass_70 : decode cX4_pass 70 = .ok (.iadd, 1) := by decide +kernel
theorem dX4_pass_71 : decode cX4_pass 71 = .ok (.putfield 116, 3) := by decide +kernel
theorem dX4_pass_74 : decode cX4_pass 74 = .ok (.iload_n 2, 1) := by decide +kernel
theorem dX4_pass_75 : decode cX4_pass 75 = .ok (.aload 4, 2) := by decide +kernel
theorem dX4_pass_77 : decode cX4_pass 77 = .ok (.getfield 116, 3) := by decide +kernel
theorem dX4_pass_80 : decode cX4_pass 80 = .ok (.iadd, 1) := by decide +kernel
theorem dX4_pass_81 : decode cX4_pass 81 = .ok (.istore_n 2, 1) := by decide +kernel
theorem dX4_pass_82 : decode cX4_pass 82 = .ok (.iinc 3 1, 3) := by decide +kernel
theorem dX4_pass_85 : decode cX4_pass 85 = .ok (.goto (-50), 3) := by decide +kernel
theorem dX4_pass_88 : decode cX4_pass 88 = .ok (.iload_n 2, 1) := by decide +kernel
theorem dX4_pass_89 : decode cX4_pass 89 = .ok (.ireturn, 1) := by decide +kernel
set_option maxRecDepth 20000 in
theorem ggX4_sorts_X4_needPrinter : GoodIn wsX4_sorts wsX4_needPrinter := goodIn_ca (goodIn_r _ [8, 1, 2, 9, 19, 20, 21, 22, 23, 24, 25, 26, 27, 28, 29] (by decide +kernel) (by decide +kernel)) (goodIn_sub (fun _ h => List.mem_cons_of_mem _ (List.mem_append_right _ h)) (by decide +kernel))
set_option maxRecDepth 20000 in
theorem gX4_sorts_X4_needPrinter : GoodIn wsX4_sorts (wsV RX4 98 RX4 yX4_needPrinter wsX4_needPrinter) := goodIn_app (goodIn_of _ (by decide +kernel)) ggX4_sorts_X4_needPrinter
set_option maxRecDepth 20000 in
theorem ggX4_sorts_X4_needSign : GoodIn wsX4_sorts wsX4_needSign := goodIn_ca (goodIn_r _ [12, 1, 2] (by decide +kernel) (by decide +kernel)) (goodIn_sub (fun _ h => List.mem_cons_of_mem _ (List.mem_append_right _ h)) (by decide +kernel))
set_option maxRecDepth 20000 in
theorem gX4_sorts_X4_needSign : GoodIn wsX4_sorts (va_wsS RX4 40 yX4_needSign wsX4_needSign) := goodIn_app (goodIn_of _ (by decide +kernel)) ggX4_sorts_X4_needSign
set_option maxRecDepth 20000 in
theorem ggX4_sorts_X2_at : GoodIn wsX4_sorts wsX2_at := goodIn_r _ [17, 18, 36] (by decide +kernel) (by decide +kernel)
set_option maxRecDepth 20000 in
theorem gX4_sorts_X2_at : GoodIn wsX4_sorts (wsV RX4 184 RX2 yX2_at wsX2_at) := goodIn_app (goodIn_of _ (by decide +kernel)) ggX4_sorts_X2_at
theorem dX4_sorts_0 : decode cX4_sorts 0 = .ok (.iload_n 1, 1) := by decide +kernel
theorem dX4_sorts_1 : decode cX4_sorts 1 = .ok (.iconst (-1), 1) := by decide +kernel
theorem dX4_sorts_2 : decode cX4_sorts 2 = .ok (.if_icmp .ne 10, 3) := by decide +kernel
theorem dX4_sorts_5 : decode cX4_sorts 5 = .ok (.aload_n 0, 1) := by decide +kernel
theorem dX4_sorts_6 : decode cX4_sorts 6 = .ok (.getfield 10, 3) := by decide +kernel
theorem dX4_sorts_9 : decode cX4_sorts 9 = .ok (.goto 11, 3) := by decide +kernel
theorem dX4_sorts_12 : decode cX4_sorts 12 = .ok (.aload_n 0, 1) := by decide +kernel
theorem dX4_sorts_13 : decode cX4_sorts 13 = .ok (.iload_n 1, 1) := by decide +kernel
theorem dX4_sorts_14 : decode cX4_sorts 14 = .ok (.invokevirtual 98, 3) := by decide +kernel
theorem dX4_sorts_17 : decode cX4_sorts 17 = .ok (.getfield 104, 3) := by decide +kernel
theorem dX4_sorts_20 : decode cX4_sorts 20 = .ok (.astore 4, 2) := by decide +kernel
theorem dX4_sorts_22 : decode cX4_sorts 22 = .ok (.iload_n 2, 1) := by decide +kernel
theorem dX4_sorts_23 : decode cX4_sorts 23 = .ok (.invokestatic 40, 3) := by decide +kernel
theorem dX4_sorts_26 : decode cX4_sorts 26 = .ok (.iload_n 3, 1) := by decide +kernel
theorem dX4_sorts_27 : decode cX4_sorts 27 = .ok (.ifCond .lt 9, 3) := by decide +kernel
theorem dX4_sorts_30 : decode cX4_sorts 30 = .ok (.iload_n 3, 1) := by decide +kernel
theorem dX4_sorts_31 : decode cX4_sorts 31 = .ok (.bipush 10, 2) := by decide +kernel
theorem dX4_sorts_33 : decode cX4_sorts 33 = .ok (.if_icmp .lt 13, 3) := by decide +kernel
theorem dX4_sorts_36 : decode cX4_sorts 36 = .ok (.new 179, 3) := by decide +kernel
theorem dX4_sorts_39 : decode cX4_sorts 39 = .ok (.dup, 1) := by decide +kernel
theorem dX4_sorts_40 : decode cX4_sorts 40 = .ok (.ldc 181, 2) := by decide +kernel
theorem dX4_sorts_42 : decode cX4_sorts 42 = .ok (.invokespecial 183, 3) := by decide +kernel
theorem dX4_sorts_45 : decode cX4_sorts 45 = .ok (.athrow, 1) := by decide +kernel
theorem dX4_sorts_46 : decode cX4_sorts 46 = .ok (.aload 4, 2) := by decide +kernel
theorem dX4_sorts_48 : decode cX4_sorts 48 = .ok (.iload_n 2, 1) := by decide +kernel
theorem dX4_sorts_49 : decode cX4_sorts 49 = .ok (.iload_n 3, 1) := by decide +kernel
theorem dX4_sorts_50 : decode cX4_sorts 50 = .ok (.invokevirtual 184, 3) := by decide +kernel
theorem dX4_sorts_53 : decode cX4_sorts 53 = .ok (.ireturn, 1) := by decide +kernel
set_option maxRecDepth 20000 in
theorem ggX4_printer_X4_needPrinter : GoodIn wsX4_printer wsX4_needPrinter := goodIn_ca (goodIn_r _ [7, 1, 2, 8, 30, 31, 32, 33, 34, 35, 36, 37, 38, 39, 40] (by decide +kernel) (by decide +kernel)) (goodIn_sub (fun _ h => List.mem_cons_of_mem _ (List.mem_append_right _ h)) (by decide +kernel))
set_option maxRecDepth 20000 in
theorem gX4_printer_X4_needPrinter : GoodIn wsX4_printer (wsV RX4 98 RX4 yX4_needPrinter wsX4_needPrinter) := goodIn_app (goodIn_of _ (by decide +kernel)) ggX4_printer_X4_needPrinter
set_option maxRecDepth 20000 in
theorem ggX4_printer_X0_number : GoodIn wsX4_printer wsX0_number := goodIn_r _ [13, 14, 15, 16, 17, 18, 19, 20, 21, 22, 23, 24, 25, 26, 27, 28, 29, 41, 42, 43, 44, 45, 46, 47] (by decide +kernel) (by decide +kernel)
set_option maxRecDepth 20000 in
theorem gX4_printer_X0_number : GoodIn wsX4_printer (wsV RX4 189 RX0 yX0_number wsX0_number) := goodIn_app (goodIn_of _ (by decide +kernel)) ggX4_printer_X0_number
theorem dX4_printer_0 : decode cX4_printer 0 = .ok (.aload_n 0, 1) := by decide +kernel
theorem dX4_printer_1 : decode cX4_printer 1 = .ok (.iload_n 1, 1) := by decide +kernel
theorem dX4_printer_2 : decode cX4_printer 2 = .ok (.invokevirtual 98, 3) := by decide +kernel
theorem dX4_printer_5 : decode cX4_printer 5 = .ok (.astore_n 3, 1) := by decide +kernel
theorem dX4_printer_6 : decode cX4_printer 6 = .ok (.iload_n 2, 1) := by decide +kernel
theorem dX4_printer_7 : decode cX4_printer 7 = .ok (.ifCond .lt 9, 3) := by decide +kernel
theorem dX4_printer_10 : decode cX4_printer 10 = .ok (.iload_n 2, 1) := by decide +kernel
theorem dX4_printer_11 : decode cX4_printer 11 = .ok (.bipush 7, 2) := by decide +kernel
theorem dX4_printer_13 : decode cX4_printer 13 = .ok (.if_icmp .lt 13, 3) := by decide +kernel
theorem dX4_printer_16 : decode cX4_printer 16 = .ok (.new 179, 3) := by decide +kernel
theorem dX4_printer_19 : decode cX4_printer 19 = .ok (.dup, 1) := by decide +kernel
theorem dX4_printer_20 : decode cX4_printer 20 = .ok (.ldc 187, 2) := by decide +kernel
theorem dX4_printer_22 : decode cX4_printer 22 = .ok (.invokespecial 183, 3) := by decide +kernel
theorem dX4_printer_25 : decode cX4_printer 25 = .ok (.athrow, 1) := by decide +kernel
theorem dX4_printer_26 : decode cX4_printer 26 = .ok (.aload_n 3, 1) := by decide +kernel
theorem dX4_printer_27 : decode cX4_printer 27 = .ok (.iload_n 2, 1) := by decide +kernel
theorem dX4_printer_28 : decode cX4_printer 28 = .ok (.invokevirtual 189, 3) := by decide +kernel
theorem dX4_printer_31 : decode cX4_printer 31 = .ok (.ireturn, 1) := by decide +kernel
set_option maxRecDepth 20000 in
theorem ggX4_count_X4_number : GoodIn wsX4_count wsX4_number := goodIn_r _ [7, 8, 9, 10, 11, 12, 13, 14, 15, 16, 17, 18, 19, 20, 21, 22, 23, 24, 25, 26, 27, 28, 29, 30, 31, 32, 33] (by decide +kernel) (by decide +kernel)
set_option maxRecDepth 20000 in
theorem gX4_count_X4_number : GoodIn wsX4_count (wsV RX4 194 RX4 yX4_number wsX4_number) := goodIn_app (goodIn_of _ (by decide +kernel)) ggX4_count_X4_number
theorem dX4_count_0 : decode cX4_count 0 = .ok (.iload_n 1, 1) := by decide +kernel
theorem dX4_count_1 : decode cX4_count 1 = .ok (.ifCond .lt 9, 3) := by decide +kernel
theorem dX4_count_4 : decode cX4_count 4 = .ok (.iload_n 1, 1) := by decide +kernel
theorem dX4_count_5 : decode cX4_count 5 = .ok (.bipush 8, 2) := by decide +kernel
theorem dX4_count_7 : decode cX4_count 7 = .ok (.if_icmp .lt 13, 3) := by decide +kernel
theorem dX4_count_10 : decode cX4_count 10 = .ok (.new 179, 3) := by decide +kernel
theorem dX4_count_13 : decode cX4_count 13 = .ok (.dup, 1) := by decide +kernel
theorem dX4_count_14 : decode cX4_count 14 = .ok (.ldc 192, 2) := by decide +kernel
theorem dX4_count_16 : decode cX4_count 16 = .ok (.invokespecial 183, 3) := by decide +kernel
theorem dX4_count_19 : decode cX4_count 19 = .ok (.athrow, 1) := by decide +kernel
theorem dX4_count_20 : decode cX4_count 20 = .ok (.aload_n 0, 1) := by decide +kernel
theorem dX4_count_21 : decode cX4_count 21 = .ok (.iload_n 1, 1) := by decide +kernel
theorem dX4_count_22 : decode cX4_count 22 = .ok (.invokevirtual 194, 3) := by decide +kernel
theorem dX4_count_25 : decode cX4_count 25 = .ok (.ireturn, 1) := by decide +kernel
set_option maxRecDepth 20000 in
theorem ggX4_takes_X4_needPrinter : GoodIn wsX4_takes wsX4_needPrinter := goodIn_ca (goodIn_r _ [6, 7, 8, 9, 69, 70, 71, 72, 73, 74, 75, 76, 77, 78, 79] (by decide +kernel) (by decide +kernel)) (goodIn_sub (fun _ h => List.mem_cons_of_mem _ (List.mem_append_left _ (List.mem_append_right _ h))) (by decide +kernel))
set_option maxRecDepth 20000 in
theorem gX4_takes_X4_needPrinter : GoodIn wsX4_takes (wsV RX4 98 RX4 yX4_needPrinter wsX4_needPrinter) := goodIn_app (goodIn_of _ (by decide +kernel)) ggX4_takes_X4_needPrinter
set_option maxRecDepth 20000 in
theorem ggX4_takes_X4_needWord : GoodIn wsX4_takes wsX4_needWord := goodIn_ca (goodIn_r _ [13, 14, 15, 16, 17, 18, 19, 20, 21, 22, 23, 24, 69, 70, 71, 72, 73, 74, 75, 76, 77, 78, 79, 86, 87] (by decide +kernel) (by decide +kernel)) (goodIn_sub (fun _ h => List.mem_cons_of_mem _ (List.mem_append_right _ h)) (by decide +kernel))
set_option maxRecDepth 20000 in
theorem gX4_takes_X4_needWord : GoodIn wsX4_takes (wsV RX4 129 RX4 yX4_needWord wsX4_needWord) := goodIn_app (goodIn_of _ (by decide +kernel)) ggX4_takes_X4_needWord
set_option maxRecDepth 20000 in
theorem ggX4_takes_X1_fillFrom : GoodIn wsX4_takes wsX1_fillFrom := goodIn_r _ [29, 30, 31, 32, 33, 34, 35, 36, 37, 38, 39, 40, 88, 89, 90] (by decide +kernel) (by decide +kernel)
set_option maxRecDepth 20000 in
theorem gX4_takes_X1_fillFrom : GoodIn wsX4_takes (wsV RX4 133 RX1 yX1_fillFrom wsX1_fillFrom) := goodIn_app (goodIn_of _ (by decide +kernel)) ggX4_takes_X1_fillFrom
set_option maxRecDepth 20000 in
theorem ggX4_takes_X1_lay : GoodIn wsX4_takes wsX1_lay := goodIn_r _ [44, 45, 30, 46, 47, 48, 49, 50, 51, 52, 20, 53, 24, 54, 55, 56, 28, 57, 58, 59, 60, 61, 62, 63, 64, 65, 23, 66, 67, 5, 68, 88, 89, 86, 87] (by decide +kernel) (by decide +kernel)
set_option maxRecDepth 20000 in
theorem gX4_takes_X1_lay : GoodIn wsX4_takes (wsV RX4 137 RX1 yX1_lay wsX1_lay) := goodIn_app (goodIn_of _ (by decide +kernel)) ggX4_takes_X1_lay
theorem dX4_takes_0 : decode cX4_takes 0 = .ok (.aload_n 0, 1) := by decide +kernel
theorem dX4_takes_1 : decode cX4_takes 1 = .ok (.iload_n 1, 1) := by decide +kernel
theorem dX4_takes_2 : decode cX4_takes 2 = .ok (.invokevirtual 98, 3) := by decide +kernel
theorem dX4_takes_5 : decode cX4_takes 5 = .ok (.astore_n 3, 1) := by decide +kernel
theorem dX4_takes_6 : decode cX4_takes 6 = .ok (.aload_n 0, 1) := by decide +kernel
theorem dX4_takes_7 : decode cX4_takes 7 = .ok (.iload_n 2, 1) := by decide +kernel
theorem dX4_takes_8 : decode cX4_takes 8 = .ok (.invokevirtual 129, 3) := by decide +kernel
theorem dX4_takes_11 : decode cX4_takes 11 = .ok (.astore 4, 2) := by decide +kernel
theorem dX4_takes_13 : decode cX4_takes 13 = .ok (.aload_n 0, 1) := by decide +kernel
theorem dX4_takes_14 : decode cX4_takes 14 = .ok (.getfield 36, 3) := by decide +kernel
theorem dX4_takes_17 : decode cX4_takes 17 = .ok (.aload_n 3, 1) := by decide +kernel
theorem dX4_takes_18 : decode cX4_takes 18 = .ok (.getfield 104, 3) := by decide +kernel
theorem dX4_takes_21 : decode cX4_takes 21 = .ok (.invokevirtual 133, 3) := by decide +kernel
theorem dX4_takes_24 : decode cX4_takes 24 = .ok (.aload_n 0, 1) := by decide +kernel
theorem dX4_takes_25 : decode cX4_takes 25 = .ok (.getfield 36, 3) := by decide +kernel
theorem dX4_takes_28 : decode cX4_takes 28 = .ok (.aload 4, 2) := by decide +kernel
theorem dX4_takes_30 : decode cX4_takes 30 = .ok (.invokevirtual 137, 3) := by decide +kernel
theorem dX4_takes_33 : decode cX4_takes 33 = .ok (.ireturn, 1) := by decide +kernel
set_option maxRecDepth 20000 in
theorem ggX4_lacks_X4_needPrinter : GoodIn wsX4_lacks wsX4_needPrinter := goodIn_ca (goodIn_r _ [5, 6, 7, 8, 48, 49, 50, 51, 52, 53, 54, 55, 56, 57, 58] (by decide +kernel) (by decide +kernel)) (goodIn_sub (fun _ h => List.mem_cons_of_mem _ (List.mem_append_left _ (List.mem_append_right _ h))) (by decide +kernel))
set_option maxRecDepth 20000 in
theorem gX4_lacks_X4_needPrinter : GoodIn wsX4_lacks (wsV RX4 98 RX4 yX4_needPrinter wsX4_needPrinter) := goodIn_app (goodIn_of _ (by decide +kernel)) ggX4_lacks_X4_needPrinter
set_option maxRecDepth 20000 in
theorem ggX4_lacks_X4_needWord : GoodIn wsX4_lacks wsX4_needWord := goodIn_ca (goodIn_r _ [12, 13, 14, 15, 16, 17, 18, 19, 20, 21, 22, 23, 48, 49, 50, 51, 52, 53, 54, 55, 56, 57, 58, 59, 60] (by decide +kernel) (by decide +kernel)) (goodIn_sub (fun _ h => List.mem_cons_of_mem _ (List.mem_append_right _ h)) (by decide +kernel))
set_option maxRecDepth 20000 in
theorem gX4_lacks_X4_needWord : GoodIn wsX4_lacks (wsV RX4 129 RX4 yX4_needWord wsX4_needWord) := goodIn_app (goodIn_of _ (by decide +kernel)) ggX4_lacks_X4_needWord
set_option maxRecDepth 20000 in
theorem ggX4_lacks_X3_howOften : GoodIn wsX4_lacks wsX3_howOften := goodIn_r _ [27, 23, 28, 29, 30, 19, 31, 22, 59, 60] (by decide +kernel) (by decide +kernel)
set_option maxRecDepth 20000 in
theorem gX4_lacks_X3_howOften : GoodIn wsX4_lacks (wsV RX4 195 RX3 yX3_howOften wsX3_howOften) := goodIn_app (goodIn_of _ (by decide +kernel)) ggX4_lacks_X3_howOften
set_option maxRecDepth 20000 in
theorem ggX4_lacks_X2_ofSign : GoodIn wsX4_lacks wsX2_ofSign := goodIn_r _ [36, 37, 38, 39, 35, 40, 41, 61] (by decide +kernel) (by decide +kernel)
set_option maxRecDepth 20000 in
theorem gX4_lacks_X2_ofSign : GoodIn wsX4_lacks (wsV RX4 58 RX2 yX2_ofSign wsX2_ofSign) := goodIn_app (goodIn_of _ (by decide +kernel)) ggX4_lacks_X2_ofSign
theorem dX4_lacks_0 : decode cX4_lacks 0 = .ok (.aload_n 0, 1) := by decide +kernel
theorem dX4_lacks_1 : decode cX4_lacks 1 = .ok (.iload_n 1, 1) := by decide +kernel
theorem dX4_lacks_2 : decode cX4_lacks 2 = .ok (.invokevirtual 98, 3) := by decide +kernel
theorem dX4_lacks_5 : decode cX4_lacks 5 = .ok (.astore_n 3, 1) := by decide +kernel
theorem dX4_lacks_6 : decode cX4_lacks 6 = .ok (.aload_n 0, 1) := by decide +kernel
theorem dX4_lacks_7 : decode cX4_lacks 7 = .ok (.iload_n 2, 1) := by decide +kernel
theorem dX4_lacks_8 : decode cX4_lacks 8 = .ok (.invokevirtual 129, 3) := by decide +kernel
theorem dX4_lacks_11 : decode cX4_lacks 11 = .ok (.astore 4, 2) := by decide +kernel
theorem dX4_lacks_13 : decode cX4_lacks 13 = .ok (.iconst (-1), 1) := by decide +kernel
theorem dX4_lacks_14 : decode cX4_lacks 14 = .ok (.istore 5, 2) := by decide +kernel
theorem dX4_lacks_16 : decode cX4_lacks 16 = .ok (.iconst 0, 1) := by decide +kernel
theorem dX4_lacks_17 : decode cX4_lacks 17 = .ok (.istore 6, 2) := by decide +kernel
theorem dX4_lacks_19 : decode cX4_lacks 19 = .ok (.iconst 0, 1) := by decide +kernel
theorem dX4_lacks_20 : decode cX4_lacks 20 = .ok (.istore 7, 2) := by decide +kernel
theorem dX4_lacks_22 : decode cX4_lacks 22 = .ok (.iload 7, 2) := by decide +kernel
theorem dX4_lacks_24 : decode cX4_lacks 24 = .ok (.bipush 26, 2) := by decide +kernel
theorem dX4_lacks_26 : decode cX4_lacks 26 = .ok (.if_icmp .ge 43, 3) := by decide +kernel
theorem dX4_lacks_29 : decode cX4_lacks 29 = .ok (.aload 4, 2) := by decide +kernel
theorem dX4_lacks_31 : decode cX4_lacks 31 = .ok (.iload 7, 2) := by decide +kernel
theorem dX4_lacks_33 : decode cX4_lacks 33 = .ok (.invokevirtual 195, 3) := by decide +kernel
theorem dX4_lacks_36 : decode cX4_lacks 36 = .ok (.aload_n 3, 1) := by decide +kernel
theorem dX4_lacks_37 : decode cX4_lacks 37 = .ok (.getfield 104, 3) := by decide +kernel
theorem dX4_lacks_40 : decode cX4_lacks 40 = .ok (.iload 7, 2) := by decide +kernel
theorem dX4_lacks_42 : decode cX4_lacks 42 = .ok (.invokevirtual 58, 3) := by decide +kernel
theorem dX4_lacks_45 : decode cX4_lacks 45 = .ok (.isub, 1) := by decide +kernel
theorem dX4_lacks_46 : decode cX4_lacks 46 = .ok (.istore 8, 2) := by decide +kernel
theorem dX4_lacks_48 : decode cX4_lacks 48 = .ok (.iload 8, 2) := by decide +kernel
theorem dX4_lacks_50 : decode cX4_lacks 50 = .ok (.iload 6, 2) := by decide +kernel
theorem dX4_lacks_52 : decode cX4_lacks 52 = .ok (.if_icmp .le 11, 3) := by decide +kernel
theorem dX4_lacks_55 : decode cX4_lacks 55 = .ok (.iload 8, 2) := by decide +kernel
theorem dX4_lacks_57 : decode cX4_lacks 57 = .ok (.istore 6, 2) := by decide +kernel
theorem dX4_lacks_59 : decode cX4_lacks 59 = .ok (.iload 7, 2) := by decide +kernel
theorem dX4_lacks_61 : decode cX4_lacks 61 = .ok (.istore 5, 2) := by decide +kernel
theorem dX4_lacks_63 : decode cX4_lacks 63 = .ok (.iinc 7 1, 3) := by decide +kernel
theorem dX4_lacks_66 : decode cX4_lacks 66 = .ok (.goto (-44), 3) := by decide +kernel
theorem dX4_lacks_69 : decode cX4_lacks 69 = .ok (.iload 5, 2) := by decide +kernel
theorem dX4_lacks_71 : decode cX4_lacks 71 = .ok (.ireturn, 1) := by decide +kernel
set_option maxRecDepth 20000 in
theorem ggX4_bears_X4_needPrinter : GoodIn wsX4_bears wsX4_needPrinter := goodIn_ca (goodIn_r _ [5, 6, 7, 8, 25, 26, 27, 28, 29, 30, 31, 32, 33, 34, 35] (by decide +kernel) (by decide +kernel)) (goodIn_sub (fun _ h => List.mem_cons_of_mem _ (List.mem_append_right _ h)) (by decide +kernel))
set_option maxRecDepth 20000 in
theorem gX4_bears_X4_needPrinter : GoodIn wsX4_bears (wsV RX4 98 RX4 yX4_needPrinter wsX4_needPrinter) := goodIn_app (goodIn_of _ (by decide +kernel)) ggX4_bears_X4_needPrinter
set_option maxRecDepth 20000 in
theorem ggX4_bears_X2_greatestWear : GoodIn wsX4_bears wsX2_greatestWear := goodIn_r _ [13, 14, 15, 16, 17, 18, 36] (by decide +kernel) (by decide +kernel)
set_option maxRecDepth 20000 in
theorem gX4_bears_X2_greatestWear : GoodIn wsX4_bears (wsV RX4 198 RX2 yX2_greatestWear wsX2_greatestWear) := goodIn_app (goodIn_of _ (by decide +kernel)) ggX4_bears_X2_greatestWear
theorem dX4_bears_0 : decode cX4_bears 0 = .ok (.aload_n 0, 1) := by decide +kernel
theorem dX4_bears_1 : decode cX4_bears 1 = .ok (.iload_n 1, 1) := by decide +kernel
theorem dX4_bears_2 : decode cX4_bears 2 = .ok (.invokevirtual 98, 3) := by decide +kernel
theorem dX4_bears_5 : decode cX4_bears 5 = .ok (.astore_n 2, 1) := by decide +kernel
theorem dX4_bears_6 : decode cX4_bears 6 = .ok (.aload_n 2, 1) := by decide +kernel
theorem dX4_bears_7 : decode cX4_bears 7 = .ok (.getfield 143, 3) := by decide +kernel
theorem dX4_bears_10 : decode cX4_bears 10 = .ok (.invokevirtual 198, 3) := by decide +kernel
theorem dX4_bears_13 : decode cX4_bears 13 = .ok (.istore_n 3, 1) := by decide +kernel
theorem dX4_bears_14 : decode cX4_bears 14 = .ok (.iload_n 3, 1) := by decide +kernel
theorem dX4_bears_15 : decode cX4_bears 15 = .ok (.iconst (-1), 1) := by decide +kernel
theorem dX4_bears_16 : decode cX4_bears 16 = .ok (.if_icmp .ne 7, 3) := by decide +kernel
theorem dX4_bears_19 : decode cX4_bears 19 = .ok (.iconst 0, 1) := by decide +kernel
theorem dX4_bears_20 : decode cX4_bears 20 = .ok (.goto 12, 3) := by decide +kernel
theorem dX4_bears_23 : decode cX4_bears 23 = .ok (.bipush 50, 2) := by decide +kernel
theorem dX4_bears_25 : decode cX4_bears 25 = .ok (.bipush 10, 2) := by decide +kernel
theorem dX4_bears_27 : decode cX4_bears 27 = .ok (.iload_n 3, 1) := by decide +kernel
theorem dX4_bears_28 : decode cX4_bears 28 = .ok (.isub, 1) := by decide +kernel
theorem dX4_bears_29 : decode cX4_bears 29 = .ok (.imul, 1) := by decide +kernel
theorem dX4_bears_30 : decode cX4_bears 30 = .ok (.iconst 1, 1) := by decide +kernel
theorem dX4_bears_31 : decode cX4_bears 31 = .ok (.isub, 1) := by decide +kernel
theorem dX4_bears_32 : decode cX4_bears 32 = .ok (.ireturn, 1) := by decide +kernel
set_option maxRecDepth 20000 in
theorem ggX4_saves_X1_fillWithoutEnd : GoodIn wsX4_saves wsX1_fillWithoutEnd := goodIn_r _ [6, 7, 8, 9, 10, 11, 67, 68] (by decide +kernel) (by decide +kernel)
set_option maxRecDepth 20000 in
theorem gX4_saves_X1_fillWithoutEnd : GoodIn wsX4_saves (wsV RX4 201 RX1 yX1_fillWithoutEnd wsX1_fillWithoutEnd) := goodIn_app (goodIn_of _ (by decide +kernel)) ggX4_saves_X1_fillWithoutEnd
set_option maxRecDepth 20000 in
theorem ggX4_saves_X4_needWord : GoodIn wsX4_saves wsX4_needWord := goodIn_ca (goodIn_r _ [16, 17, 18, 19, 20, 21, 22, 23, 24, 25, 26, 27, 56, 57, 58, 59, 60, 61, 62, 63, 64, 65, 66, 69, 70] (by decide +kernel) (by decide +kernel)) (goodIn_sub (fun _ h => List.mem_cons_of_mem _ (List.mem_append_right _ h)) (by decide +kernel))
set_option maxRecDepth 20000 in
theorem gX4_saves_X4_needWord : GoodIn wsX4_saves (wsV RX4 129 RX4 yX4_needWord wsX4_needWord) := goodIn_app (goodIn_of _ (by decide +kernel)) ggX4_saves_X4_needWord
set_option maxRecDepth 20000 in
theorem ggX4_saves_X1_lay : GoodIn wsX4_saves wsX1_lay := goodIn_r _ [31, 32, 7, 8, 9, 10, 11, 33, 34, 35, 23, 36, 27, 37, 38, 39, 5, 40, 41, 42, 43, 44, 45, 46, 47, 48, 26, 49, 50, 15, 51, 67, 68, 69, 70] (by decide +kernel) (by decide +kernel)
