set_option maxRecDepth 20000 in
theorem ggX5_printer_X5_isPrinter : GoodIn wsX5_printer wsX5_isPrinter := goodIn_r _ [6, 7, 8, 9, 5, 10, 39, 40, 41, 42, 43, 44, 45, 46, 47, 48, 49, 50, 51, 52, 53, 54, 55] (by decide +kernel) (by decide +kernel)
set_option maxRecDepth 20000 in
theorem gX5_printer_X5_isPrinter : GoodIn wsX5_printer (wsV RX5 74 RX5 yX5_isPrinter wsX5_isPrinter) := goodIn_app (goodIn_of _ (by decide +kernel)) ggX5_printer_X5_isPrinter
set_option maxRecDepth 20000 in
theorem ggX5_printer_X5_isIn : GoodIn wsX5_printer wsX5_isIn := goodIn_r _ [10] (by decide +kernel) (by decide +kernel)
set_option maxRecDepth 20000 in
theorem gX5_printer_X5_isIn : GoodIn wsX5_printer (va_wsS RX5 44 yX5_isIn wsX5_isIn) := goodIn_app (goodIn_of _ (by decide +kernel)) ggX5_printer_X5_isIn
set_option maxRecDepth 20000 in
theorem ggX5_printer_X5_told : GoodIn wsX5_printer wsX5_told := goodIn_r _ [14, 15, 16, 17, 18, 19, 20, 21, 5, 22, 23, 24, 25, 26, 27, 28, 29, 30, 31, 32, 33, 34, 39, 40, 41, 42, 43, 44, 45, 46, 47, 48, 49, 50, 51, 52, 53, 54, 55] (by decide +kernel) (by decide +kernel)
set_option maxRecDepth 20000 in
theorem gX5_printer_X5_told : GoodIn wsX5_printer (wsV RX5 125 RX5 yX5_told wsX5_told) := goodIn_app (goodIn_of _ (by decide +kernel)) ggX5_printer_X5_told
set_option maxRecDepth 20000 in
theorem ggX5_printer_X5_no : GoodIn wsX5_printer wsX5_no := goodIn_r _ [38, 1, 39, 40, 41, 42, 43, 44, 45, 46, 47, 48, 49, 50, 51, 52, 53, 54, 55] (by decide +kernel) (by decide +kernel)
set_option maxRecDepth 20000 in
theorem gX5_printer_X5_no : GoodIn wsX5_printer (wsV RX5 58 RX5 yX5_no wsX5_no) := goodIn_app (goodIn_of _ (by decide +kernel)) ggX5_printer_X5_no
theorem dX5_printer_0 : decode cX5_printer 0 = .ok (.aload_n 0, 1) := by decide +kernel
theorem dX5_printer_1 : decode cX5_printer 1 = .ok (.iconst 0, 1) := by decide +kernel
theorem dX5_printer_2 : decode cX5_printer 2 = .ok (.putfield 38, 3) := by decide +kernel
theorem dX5_printer_5 : decode cX5_printer 5 = .ok (.aload_n 0, 1) := by decide +kernel
theorem dX5_printer_6 : decode cX5_printer 6 = .ok (.iload_n 1, 1) := by decide +kernel
theorem dX5_printer_7 : decode cX5_printer 7 = .ok (.invokevirtual 74, 3) := by decide +kernel
theorem dX5_printer_10 : decode cX5_printer 10 = .ok (.ifCond .eq 22, 3) := by decide +kernel
theorem dX5_printer_13 : decode cX5_printer 13 = .ok (.iload_n 2, 1) := by decide +kernel
theorem dX5_printer_14 : decode cX5_printer 14 = .ok (.iconst 0, 1) := by decide +kernel
theorem dX5_printer_15 : decode cX5_printer 15 = .ok (.bipush 6, 2) := by decide +kernel
theorem dX5_printer_17 : decode cX5_printer 17 = .ok (.invokestatic 44, 3) := by decide +kernel
theorem dX5_printer_20 : decode cX5_printer 20 = .ok (.ifCond .eq 12, 3) := by decide +kernel
theorem dX5_printer_23 : decode cX5_printer 23 = .ok (.aload_n 0, 1) := by decide +kernel
theorem dX5_printer_24 : decode cX5_printer 24 = .ok (.iload_n 1, 1) := by decide +kernel
theorem dX5_printer_25 : decode cX5_printer 25 = .ok (.iload_n 2, 1) := by decide +kernel
theorem dX5_printer_26 : decode cX5_printer 26 = .ok (.invokevirtual 125, 3) := by decide +kernel
theorem dX5_printer_29 : decode cX5_printer 29 = .ok (.goto 8, 3) := by decide +kernel
theorem dX5_printer_32 : decode cX5_printer 32 = .ok (.aload_n 0, 1) := by decide +kernel
theorem dX5_printer_33 : decode cX5_printer 33 = .ok (.iconst 1, 1) := by decide +kernel
theorem dX5_printer_34 : decode cX5_printer 34 = .ok (.invokevirtual 58, 3) := by decide +kernel
theorem dX5_printer_37 : decode cX5_printer 37 = .ok (.ireturn, 1) := by decide +kernel
set_option maxRecDepth 20000 in
theorem ggX5_counted_X5_all : GoodIn wsX5_counted wsX5_all := goodIn_r _ [13, 14, 15, 16, 17, 18, 19, 20, 21, 22, 23, 24, 25, 26, 27, 28, 29, 30, 31] (by decide +kernel) (by decide +kernel)
set_option maxRecDepth 20000 in
theorem gX5_counted_X5_all : GoodIn wsX5_counted (wsV RX5 113 RX5 yX5_all wsX5_all) := goodIn_app (goodIn_of _ (by decide +kernel)) ggX5_counted_X5_all
theorem dX5_counted_0 : decode cX5_counted 0 = .ok (.bipush 8, 2) := by decide +kernel
theorem dX5_counted_2 : decode cX5_counted 2 = .ok (.newarray .int, 2) := by decide +kernel
theorem dX5_counted_4 : decode cX5_counted 4 = .ok (.dup, 1) := by decide +kernel
theorem dX5_counted_5 : decode cX5_counted 5 = .ok (.iconst 0, 1) := by decide +kernel
theorem dX5_counted_6 : decode cX5_counted 6 = .ok (.aload_n 0, 1) := by decide +kernel
theorem dX5_counted_7 : decode cX5_counted 7 = .ok (.getfield 119, 3) := by decide +kernel
theorem dX5_counted_10 : decode cX5_counted 10 = .ok (.iastore, 1) := by decide +kernel
theorem dX5_counted_11 : decode cX5_counted 11 = .ok (.dup, 1) := by decide +kernel
theorem dX5_counted_12 : decode cX5_counted 12 = .ok (.iconst 1, 1) := by decide +kernel
theorem dX5_counted_13 : decode cX5_counted 13 = .ok (.aload_n 0, 1) := by decide +kernel
theorem dX5_counted_14 : decode cX5_counted 14 = .ok (.getfield 7, 3) := by decide +kernel
theorem dX5_counted_17 : decode cX5_counted 17 = .ok (.iastore, 1) := by decide +kernel
theorem dX5_counted_18 : decode cX5_counted 18 = .ok (.dup, 1) := by decide +kernel
theorem dX5_counted_19 : decode cX5_counted 19 = .ok (.iconst 2, 1) := by decide +kernel
theorem dX5_counted_20 : decode cX5_counted 20 = .ok (.aload_n 0, 1) := by decide +kernel
theorem dX5_counted_21 : decode cX5_counted 21 = .ok (.getfield 84, 3) := by decide +kernel
theorem dX5_counted_24 : decode cX5_counted 24 = .ok (.iastore, 1) := by decide +kernel
theorem dX5_counted_25 : decode cX5_counted 25 = .ok (.dup, 1) := by decide +kernel
theorem dX5_counted_26 : decode cX5_counted 26 = .ok (.iconst 3, 1) := by decide +kernel
theorem dX5_counted_27 : decode cX5_counted 27 = .ok (.aload_n 0, 1) := by decide +kernel
theorem dX5_counted_28 : decode cX5_counted 28 = .ok (.iconst 0, 1) := by decide +kernel
theorem dX5_counted_29 : decode cX5_counted 29 = .ok (.invokevirtual 113, 3) := by decide +kernel
theorem dX5_counted_32 : decode cX5_counted 32 = .ok (.iastore, 1) := by decide +kernel
theorem dX5_counted_33 : decode cX5_counted 33 = .ok (.dup, 1) := by decide +kernel
theorem dX5_counted_34 : decode cX5_counted 34 = .ok (.iconst 4, 1) := by decide +kernel
theorem dX5_counted_35 : decode cX5_counted 35 = .ok (.aload_n 0, 1) := by decide +kernel
theorem dX5_counted_36 : decode cX5_counted 36 = .ok (.getfield 41, 3) := by decide +kernel
theorem dX5_counted_39 : decode cX5_counted 39 = .ok (.iastore, 1) := by decide +kernel
theorem dX5_counted_40 : decode cX5_counted 40 = .ok (.dup, 1) := by decide +kernel
theorem dX5_counted_41 : decode cX5_counted 41 = .ok (.iconst 5, 1) := by decide +kernel
theorem dX5_counted_42 : decode cX5_counted 42 = .ok (.aload_n 0, 1) := by decide +kernel
theorem dX5_counted_43 : decode cX5_counted 43 = .ok (.getfield 68, 3) := by decide +kernel
theorem dX5_counted_46 : decode cX5_counted 46 = .ok (.iastore, 1) := by decide +kernel
theorem dX5_counted_47 : decode cX5_counted 47 = .ok (.dup, 1) := by decide +kernel
theorem dX5_counted_48 : decode cX5_counted 48 = .ok (.bipush 6, 2) := by decide +kernel
theorem dX5_counted_50 : decode cX5_counted 50 = .ok (.aload_n 0, 1) := by decide +kernel
theorem dX5_counted_51 : decode cX5_counted 51 = .ok (.getfield 116, 3) := by decide +kernel
theorem dX5_counted_54 : decode cX5_counted 54 = .ok (.iastore, 1) := by decide +kernel
theorem dX5_counted_55 : decode cX5_counted 55 = .ok (.dup, 1) := by decide +kernel
theorem dX5_counted_56 : decode cX5_counted 56 = .ok (.bipush 7, 2) := by decide +kernel
theorem dX5_counted_58 : decode cX5_counted 58 = .ok (.aload_n 0, 1) := by decide +kernel
theorem dX5_counted_59 : decode cX5_counted 59 = .ok (.getfield 71, 3) := by decide +kernel
theorem dX5_counted_62 : decode cX5_counted 62 = .ok (.iastore, 1) := by decide +kernel
theorem dX5_counted_63 : decode cX5_counted 63 = .ok (.astore_n 2, 1) := by decide +kernel
theorem dX5_counted_64 : decode cX5_counted 64 = .ok (.aload_n 2, 1) := by decide +kernel
theorem dX5_counted_65 : decode cX5_counted 65 = .ok (.iload_n 1, 1) := by decide +kernel
theorem dX5_counted_66 : decode cX5_counted 66 = .ok (.iaload, 1) := by decide +kernel
theorem dX5_counted_67 : decode cX5_counted 67 = .ok (.ireturn, 1) := by decide +kernel
set_option maxRecDepth 20000 in
theorem ggX5_count_X5_isIn : GoodIn wsX5_count wsX5_isIn := goodIn_r _ [5] (by decide +kernel) (by decide +kernel)
set_option maxRecDepth 20000 in
theorem gX5_count_X5_isIn : GoodIn wsX5_count (va_wsS RX5 44 yX5_isIn wsX5_isIn) := goodIn_app (goodIn_of _ (by decide +kernel)) ggX5_count_X5_isIn
set_option maxRecDepth 20000 in
theorem ggX5_count_X5_counted : GoodIn wsX5_count wsX5_counted := goodIn_r _ [9, 10, 11, 12, 13, 14, 15, 16, 17, 18, 19, 20, 4, 21, 22, 27, 28, 29, 30, 31, 32, 33, 34, 35, 36, 37, 38, 39, 40, 41, 42, 43] (by decide +kernel) (by decide +kernel)
set_option maxRecDepth 20000 in
theorem gX5_count_X5_counted : GoodIn wsX5_count (wsV RX5 128 RX5 yX5_counted wsX5_counted) := goodIn_app (goodIn_of _ (by decide +kernel)) ggX5_count_X5_counted
set_option maxRecDepth 20000 in
theorem ggX5_count_X5_no : GoodIn wsX5_count wsX5_no := goodIn_r _ [26, 1, 27, 28, 29, 30, 31, 32, 33, 34, 35, 36, 37, 38, 39, 40, 41, 42, 43] (by decide +kernel) (by decide +kernel)
set_option maxRecDepth 20000 in
theorem gX5_count_X5_no : GoodIn wsX5_count (wsV RX5 58 RX5 yX5_no wsX5_no) := goodIn_app (goodIn_of _ (by decide +kernel)) ggX5_count_X5_no
theorem dX5_count_0 : decode cX5_count 0 = .ok (.aload_n 0, 1) := by decide +kernel
theorem dX5_count_1 : decode cX5_count 1 = .ok (.iconst 0, 1) := by decide +kernel
theorem dX5_count_2 : decode cX5_count 2 = .ok (.putfield 38, 3) := by decide +kernel
theorem dX5_count_5 : decode cX5_count 5 = .ok (.iload_n 1, 1) := by decide +kernel
theorem dX5_count_6 : decode cX5_count 6 = .ok (.iconst 0, 1) := by decide +kernel
theorem dX5_count_7 : decode cX5_count 7 = .ok (.bipush 7, 2) := by decide +kernel
theorem dX5_count_9 : decode cX5_count 9 = .ok (.invokestatic 44, 3) := by decide +kernel
theorem dX5_count_12 : decode cX5_count 12 = .ok (.ifCond .eq 11, 3) := by decide +kernel
theorem dX5_count_15 : decode cX5_count 15 = .ok (.aload_n 0, 1) := by decide +kernel
theorem dX5_count_16 : decode cX5_count 16 = .ok (.iload_n 1, 1) := by decide +kernel
theorem dX5_count_17 : decode cX5_count 17 = .ok (.invokevirtual 128, 3) := by decide +kernel
theorem dX5_count_20 : decode cX5_count 20 = .ok (.goto 8, 3) := by decide +kernel
theorem dX5_count_23 : decode cX5_count 23 = .ok (.aload_n 0, 1) := by decide +kernel
theorem dX5_count_24 : decode cX5_count 24 = .ok (.iconst 1, 1) := by decide +kernel
theorem dX5_count_25 : decode cX5_count 25 = .ok (.invokevirtual 58, 3) := by decide +kernel
theorem dX5_count_28 : decode cX5_count 28 = .ok (.ireturn, 1) := by decide +kernel
set_option maxRecDepth 20000 in
theorem ggX5_takes_X5_isPrinter : GoodIn wsX5_takes wsX5_isPrinter := goodIn_r _ [6, 7, 8, 9, 5, 10, 47, 48, 49, 50, 51, 52, 53, 54, 55, 56, 57, 58, 59, 60, 61, 62, 63] (by decide +kernel) (by decide +kernel)
set_option maxRecDepth 20000 in
theorem gX5_takes_X5_isPrinter : GoodIn wsX5_takes (wsV RX5 74 RX5 yX5_isPrinter wsX5_isPrinter) := goodIn_app (goodIn_of _ (by decide +kernel)) ggX5_takes_X5_isPrinter
set_option maxRecDepth 20000 in
theorem ggX5_takes_X5_no : GoodIn wsX5_takes wsX5_no := goodIn_r _ [14, 1, 47, 48, 49, 50, 51, 52, 53, 54, 55, 56, 57, 58, 59, 60, 61, 62, 63] (by decide +kernel) (by decide +kernel)
set_option maxRecDepth 20000 in
theorem gX5_takes_X5_no : GoodIn wsX5_takes (wsV RX5 58 RX5 yX5_no wsX5_no) := goodIn_app (goodIn_of _ (by decide +kernel)) ggX5_takes_X5_no
set_option maxRecDepth 20000 in
theorem ggX5_takes_X5_isWord : GoodIn wsX5_takes wsX5_isWord := goodIn_r _ [18, 19, 20, 47, 48, 49, 50, 51, 52, 53, 54, 55, 56, 57, 58, 59, 60, 61, 62, 63] (by decide +kernel) (by decide +kernel)
set_option maxRecDepth 20000 in
theorem gX5_takes_X5_isWord : GoodIn wsX5_takes (wsV RX5 99 RX5 yX5_isWord wsX5_isWord) := goodIn_app (goodIn_of _ (by decide +kernel)) ggX5_takes_X5_isWord
set_option maxRecDepth 20000 in
theorem ggX5_takes_X5_look : GoodIn wsX5_takes wsX5_look := goodIn_r _ [24, 25, 26, 27, 5, 28, 29, 30, 31, 32, 33, 47, 48, 49, 50, 51, 52, 53, 54, 55, 56, 57, 58, 59, 60, 61, 62, 63] (by decide +kernel) (by decide +kernel)
set_option maxRecDepth 20000 in
theorem gX5_takes_X5_look : GoodIn wsX5_takes (wsV RX5 102 RX5 yX5_look wsX5_look) := goodIn_app (goodIn_of _ (by decide +kernel)) ggX5_takes_X5_look
set_option maxRecDepth 20000 in
theorem ggX5_takes_X5_compose : GoodIn wsX5_takes wsX5_compose := goodIn_r _ [37, 38, 19, 25, 20, 39, 40, 41, 42, 43, 44, 45, 5, 46, 47, 48, 49, 50, 51, 52, 53, 54, 55, 56, 57, 58, 59, 60, 61, 62, 63] (by decide +kernel) (by decide +kernel)
set_option maxRecDepth 20000 in
theorem gX5_takes_X5_compose : GoodIn wsX5_takes (wsV RX5 106 RX5 yX5_compose wsX5_compose) := goodIn_app (goodIn_of _ (by decide +kernel)) ggX5_takes_X5_compose
theorem dX5_takes_0 : decode cX5_takes 0 = .ok (.aload_n 0, 1) := by decide +kernel
theorem dX5_takes_1 : decode cX5_takes 1 = .ok (.iconst 0, 1) := by decide +kernel
theorem dX5_takes_2 : decode cX5_takes 2 = .ok (.putfield 38, 3) := by decide +kernel
theorem dX5_takes_5 : decode cX5_takes 5 = .ok (.aload_n 0, 1) := by decide +kernel
theorem dX5_takes_6 : decode cX5_takes 6 = .ok (.iload_n 1, 1) := by decide +kernel
theorem dX5_takes_7 : decode cX5_takes 7 = .ok (.invokevirtual 74, 3) := by decide +kernel
theorem dX5_takes_10 : decode cX5_takes 10 = .ok (.ifCond .ne 9, 3) := by decide +kernel
theorem dX5_takes_13 : decode cX5_takes 13 = .ok (.aload_n 0, 1) := by decide +kernel
theorem dX5_takes_14 : decode cX5_takes 14 = .ok (.iconst 1, 1) := by decide +kernel
theorem dX5_takes_15 : decode cX5_takes 15 = .ok (.invokevirtual 58, 3) := by decide +kernel
theorem dX5_takes_18 : decode cX5_takes 18 = .ok (.ireturn, 1) := by decide +kernel
theorem dX5_takes_19 : decode cX5_takes 19 = .ok (.aload_n 0, 1) := by decide +kernel
theorem dX5_takes_20 : decode cX5_takes 20 = .ok (.iload_n 2, 1) := by decide +kernel
theorem dX5_takes_21 : decode cX5_takes 21 = .ok (.invokevirtual 99, 3) := by decide +kernel
theorem dX5_takes_24 : decode cX5_takes 24 = .ok (.ifCond .ne 9, 3) := by decide +kernel
theorem dX5_takes_27 : decode cX5_takes 27 = .ok (.aload_n 0, 1) := by decide +kernel
theorem dX5_takes_28 : decode cX5_takes 28 = .ok (.iconst 2, 1) := by decide +kernel
theorem dX5_takes_29 : decode cX5_takes 29 = .ok (.invokevirtual 58, 3) := by decide +kernel
theorem dX5_takes_32 : decode cX5_takes 32 = .ok (.ireturn, 1) := by decide +kernel
theorem dX5_takes_33 : decode cX5_takes 33 = .ok (.aload_n 0, 1) := by decide +kernel
theorem dX5_takes_34 : decode cX5_takes 34 = .ok (.iload_n 1, 1) := by decide +kernel
theorem dX5_takes_35 : decode cX5_takes 35 = .ok (.invokevirtual 102, 3) := by decide +kernel
theorem dX5_takes_38 : decode cX5_takes 38 = .ok (.aload_n 0, 1) := by decide +kernel
theorem dX5_takes_39 : decode cX5_takes 39 = .ok (.invokevirtual 106, 3) := by decide +kernel
theorem dX5_takes_42 : decode cX5_takes 42 = .ok (.ireturn, 1) := by decide +kernel
set_option maxRecDepth 20000 in
theorem ggX5_lacks_X5_isPrinter : GoodIn wsX5_lacks wsX5_isPrinter := goodIn_r _ [8, 9, 10, 11, 7, 12, 29, 30, 31, 32, 33, 34, 35, 36, 37, 38, 39, 40, 41, 42, 43, 44, 45] (by decide +kernel) (by decide +kernel)
set_option maxRecDepth 20000 in
theorem gX5_lacks_X5_isPrinter : GoodIn wsX5_lacks (wsV RX5 74 RX5 yX5_isPrinter wsX5_isPrinter) := goodIn_app (goodIn_of _ (by decide +kernel)) ggX5_lacks_X5_isPrinter
set_option maxRecDepth 20000 in
theorem ggX5_lacks_X5_no : GoodIn wsX5_lacks wsX5_no := goodIn_r _ [16, 1, 29, 30, 31, 32, 33, 34, 35, 36, 37, 38, 39, 40, 41, 42, 43, 44, 45] (by decide +kernel) (by decide +kernel)
set_option maxRecDepth 20000 in
theorem gX5_lacks_X5_no : GoodIn wsX5_lacks (wsV RX5 58 RX5 yX5_no wsX5_no) := goodIn_app (goodIn_of _ (by decide +kernel)) ggX5_lacks_X5_no
set_option maxRecDepth 20000 in
theorem ggX5_lacks_X5_isWord : GoodIn wsX5_lacks wsX5_isWord := goodIn_r _ [20, 2, 3, 29, 30, 31, 32, 33, 34, 35, 36, 37, 38, 39, 40, 41, 42, 43, 44, 45] (by decide +kernel) (by decide +kernel)
set_option maxRecDepth 20000 in
theorem gX5_lacks_X5_isWord : GoodIn wsX5_lacks (wsV RX5 99 RX5 yX5_isWord wsX5_isWord) := goodIn_app (goodIn_of _ (by decide +kernel)) ggX5_lacks_X5_isWord
set_option maxRecDepth 20000 in
theorem ggX5_lacks_X5_caseOf : GoodIn wsX5_lacks wsX5_caseOf := goodIn_r _ [23] (by decide +kernel) (by decide +kernel)
set_option maxRecDepth 20000 in
theorem gX5_lacks_X5_caseOf : GoodIn wsX5_lacks (va_wsS RX5 77 yX5_caseOf wsX5_caseOf) := goodIn_app (goodIn_of _ (by decide +kernel)) ggX5_lacks_X5_caseOf
set_option maxRecDepth 20000 in
theorem ggX5_lacks_X5_many : GoodIn wsX5_lacks wsX5_many := goodIn_r _ [27, 28, 29, 30, 31, 32, 33, 34, 35, 36, 37, 38, 39, 40, 41, 42, 43, 44, 45] (by decide +kernel) (by decide +kernel)
set_option maxRecDepth 20000 in
theorem gX5_lacks_X5_many : GoodIn wsX5_lacks (wsV RX5 65 RX5 yX5_many wsX5_many) := goodIn_app (goodIn_of _ (by decide +kernel)) ggX5_lacks_X5_many
theorem dX5_lacks_0 : decode cX5_lacks 0 = .ok (.aload_n 0, 1) := by decide +kernel
theorem dX5_lacks_1 : decode cX5_lacks 1 = .ok (.iconst 0, 1) := by decide +kernel
theorem dX5_lacks_2 : decode cX5_lacks 2 = .ok (.putfield 38, 3) := by decide +kernel
theorem dX5_lacks_5 : decode cX5_lacks 5 = .ok (.aload_n 0, 1) := by decide +kernel
theorem dX5_lacks_6 : decode cX5_lacks 6 = .ok (.iload_n 1, 1) := by decide +kernel
theorem dX5_lacks_7 : decode cX5_lacks 7 = .ok (.invokevirtual 74, 3) := by decide +kernel
theorem dX5_lacks_10 : decode cX5_lacks 10 = .ok (.ifCond .ne 9, 3) := by decide +kernel
theorem dX5_lacks_13 : decode cX5_lacks 13 = .ok (.aload_n 0, 1) := by decide +kernel
theorem dX5_lacks_14 : decode cX5_lacks 14 = .ok (.iconst 1, 1) := by decide +kernel
theorem dX5_lacks_15 : decode cX5_lacks 15 = .ok (.invokevirtual 58, 3) := by decide +kernel
theorem dX5_lacks_18 : decode cX5_lacks 18 = .ok (.ireturn, 1) := by decide +kernel
theorem dX5_lacks_19 : decode cX5_lacks 19 = .ok (.aload_n 0, 1) := by decide +kernel
theorem dX5_lacks_20 : decode cX5_lacks 20 = .ok (.iload_n 2, 1) := by decide +kernel
theorem dX5_lacks_21 : decode cX5_lacks 21 = .ok (.invokevirtual 99, 3) := by decide +kernel
theorem dX5_lacks_24 : decode cX5_lacks 24 = .ok (.ifCond .ne 9, 3) := by decide +kernel
theorem dX5_lacks_27 : decode cX5_lacks 27 = .ok (.aload_n 0, 1) := by decide +kernel
theorem dX5_lacks_28 : decode cX5_lacks 28 = .ok (.iconst 2, 1) := by decide +kernel
theorem dX5_lacks_29 : decode cX5_lacks 29 = .ok (.invokevirtual 58, 3) := by decide +kernel
theorem dX5_lacks_32 : decode cX5_lacks 32 = .ok (.ireturn, 1) := by decide +kernel
theorem dX5_lacks_33 : decode cX5_lacks 33 = .ok (.iconst 0, 1) := by decide +kernel
theorem dX5_lacks_34 : decode cX5_lacks 34 = .ok (.istore_n 3, 1) := by decide +kernel
theorem dX5_lacks_35 : decode cX5_lacks 35 = .ok (.iconst (-1), 1) := by decide +kernel
theorem dX5_lacks_36 : decode cX5_lacks 36 = .ok (.istore 4, 2) := by decide +kernel
theorem dX5_lacks_38 : decode cX5_lacks 38 = .ok (.iconst 0, 1) := by decide +kernel
theorem dX5_lacks_39 : decode cX5_lacks 39 = .ok (.istore 5, 2) := by decide +kernel
theorem dX5_lacks_41 : decode cX5_lacks 41 = .ok (.iload 5, 2) := by decide +kernel
theorem dX5_lacks_43 : decode cX5_lacks 43 = .ok (.bipush 26, 2) := by decide +kernel
theorem dX5_lacks_45 : decode cX5_lacks 45 = .ok (.if_icmp .ge 78, 3) := by decide +kernel
theorem dX5_lacks_48 : decode cX5_lacks 48 = .ok (.aload_n 0, 1) := by decide +kernel
theorem dX5_lacks_49 : decode cX5_lacks 49 = .ok (.iload_n 1, 1) := by decide +kernel
theorem dX5_lacks_50 : decode cX5_lacks 50 = .ok (.invokestatic 77, 3) := by decide +kernel
theorem dX5_lacks_53 : decode cX5_lacks 53 = .ok (.iload 5, 2) := by decide +kernel
theorem dX5_lacks_55 : decode cX5_lacks 55 = .ok (.invokevirtual 65, 3) := by decide +kernel
theorem dX5_lacks_58 : decode cX5_lacks 58 = .ok (.ineg, 1) := by decide +kernel
theorem dX5_lacks_59 : decode cX5_lacks 59 = .ok (.istore 6, 2) := by decide +kernel
theorem dX5_lacks_61 : decode cX5_lacks 61 = .ok (.iconst 0, 1) := by decide +kernel
theorem dX5_lacks_62 : decode cX5_lacks 62 = .ok (.istore 7, 2) := by decide +kernel
theorem dX5_lacks_64 : decode cX5_lacks 64 = .ok (.iload 7, 2) := by decide +kernel
theorem dX5_lacks_66 : decode cX5_lacks 66 = .ok (.aload_n 0, 1) := by decide +kernel
theorem dX5_lacks_67 : decode cX5_lacks 67 = .ok (.getfield 87, 3) := by decide +kernel
theorem dX5_lacks_70 : decode cX5_lacks 70 = .ok (.if_icmp .ge 31, 3) := by decide +kernel
theorem dX5_lacks_73 : decode cX5_lacks 73 = .ok (.iload 6, 2) := by decide +kernel
theorem dX5_lacks_75 : decode cX5_lacks 75 = .ok (.aload_n 0, 1) := by decide +kernel
theorem dX5_lacks_76 : decode cX5_lacks 76 = .ok (.getfield 29, 3) := by decide +kernel
theorem dX5_lacks_79 : decode cX5_lacks 79 = .ok (.iload 7, 2) := by decide +kernel
theorem dX5_lacks_81 : decode cX5_lacks 81 = .ok (.iaload, 1) := by decide +kernel
theorem dX5_lacks_82 : decode cX5_lacks 82 = .ok (.iload 5, 2) := by decide +kernel
theorem dX5_lacks_84 : decode cX5_lacks 84 = .ok (.if_icmp .ne 7, 3) := by decide +kernel
theorem dX5_lacks_87 : decode cX5_lacks 87 = .ok (.iconst 1, 1) := by decide +kernel
theorem dX5_lacks_88 : decode cX5_lacks 88 = .ok (.goto 4, 3) := by decide +kernel
theorem dX5_lacks_91 : decode cX5_lacks 91 = .ok (.iconst 0, 1) := by decide +kernel
theorem dX5_lacks_92 : decode cX5_lacks 92 = .ok (.iadd, 1) := by decide +kernel
theorem dX5_lacks_93 : decode cX5_lacks 93 = .ok (.istore 6, 2) := by decide +kernel
theorem dX5_lacks_95 : decode cX5_lacks 95 = .ok (.iinc 7 1, 3) := by decide +kernel
theorem dX5_lacks_98 : decode cX5_lacks 98 = .ok (.goto (-34), 3) := by decide +kernel
theorem dX5_lacks_101 : decode cX5_lacks 101 = .ok (.iload 6, 2) := by decide +kernel
theorem dX5_lacks_103 : decode cX5_lacks 103 = .ok (.iload_n 3, 1) := by decide +kernel
theorem dX5_lacks_104 : decode cX5_lacks 104 = .ok (.if_icmp .gt 6, 3) := by decide +kernel
theorem dX5_lacks_107 : decode cX5_lacks 107 = .ok (.goto 10, 3) := by decide +kernel
theorem dX5_lacks_110 : decode cX5_lacks 110 = .ok (.iload 6, 2) := by decide +kernel
theorem dX5_lacks_112 : decode cX5_lacks 112 = .ok (.istore_n 3, 1) := by decide +kernel
theorem dX5_lacks_113 : decode cX5_lacks 113 = .ok (.iload 5, 2) := by decide +kernel
theorem dX5_lacks_115 : decode cX5_lacks 115 = .ok (.istore 4, 2) := by decide +kernel
theorem dX5_lacks_117 : decode cX5_lacks 117 = .ok (.iinc 5 1, 3) := by decide +kernel
theorem dX5_lacks_120 : decode cX5_lacks 120 = .ok (.goto (-79), 3) := by decide +kernel
theorem dX5_lacks_123 : decode cX5_lacks 123 = .ok (.iload 4, 2) := by decide +kernel
theorem dX5_lacks_125 : decode cX5_lacks 125 = .ok (.ireturn, 1) := by decide +kernel
set_option maxRecDepth 20000 in
theorem ggX5_bears_X5_isPrinter : GoodIn wsX5_bears wsX5_isPrinter := goodIn_r _ [11, 12, 13, 14, 10, 15, 23, 24, 25, 26, 27, 28, 29, 30, 31, 32, 33, 34, 35, 36, 37, 38, 39] (by decide +kernel) (by decide +kernel)
set_option maxRecDepth 20000 in
theorem gX5_bears_X5_isPrinter : GoodIn wsX5_bears (wsV RX5 74 RX5 yX5_isPrinter wsX5_isPrinter) := goodIn_app (goodIn_of _ (by decide +kernel)) ggX5_bears_X5_isPrinter
set_option maxRecDepth 20000 in
theorem ggX5_bears_X5_no : GoodIn wsX5_bears wsX5_no := goodIn_r _ [19, 1, 23, 24, 25, 26, 27, 28, 29, 30, 31, 32, 33, 34, 35, 36, 37, 38, 39] (by decide +kernel) (by decide +kernel)
set_option maxRecDepth 20000 in
theorem gX5_bears_X5_no : GoodIn wsX5_bears (wsV RX5 58 RX5 yX5_no wsX5_no) := goodIn_app (goodIn_of _ (by decide +kernel)) ggX5_bears_X5_no
set_option maxRecDepth 20000 in
theorem ggX5_bears_X5_formOf : GoodIn wsX5_bears wsX5_formOf := goodIn_r _ [22] (by decide +kernel) (by decide +kernel)
set_option maxRecDepth 20000 in
theorem gX5_bears_X5_formOf : GoodIn wsX5_bears (va_wsS RX5 110 yX5_formOf wsX5_formOf) := goodIn_app (goodIn_of _ (by decide +kernel)) ggX5_bears_X5_formOf
theorem dX5_bears_0 : decode cX5_bears 0 = .ok (.aload_n 0, 1) := by decide +kernel
theorem dX5_bears_1 : decode cX5_bears 1 = .ok (.iconst 0, 1) := by decide +kernel
theorem dX5_bears_2 : decode cX5_bears 2 = .ok (.putfield 38, 3) := by decide +kernel
theorem dX5_bears_5 : decode cX5_bears 5 = .ok (.aload_n 0, 1) := by decide +kernel
theorem dX5_bears_6 : decode cX5_bears 6 = .ok (.iload_n 1, 1) := by decide +kernel
theorem dX5_bears_7 : decode cX5_bears 7 = .ok (.invokevirtual 74, 3) := by decide +kernel
theorem dX5_bears_10 : decode cX5_bears 10 = .ok (.ifCond .ne 9, 3) := by decide +kernel
theorem dX5_bears_13 : decode cX5_bears 13 = .ok (.aload_n 0, 1) := by decide +kernel
theorem dX5_bears_14 : decode cX5_bears 14 = .ok (.iconst 1, 1) := by decide +kernel
theorem dX5_bears_15 : decode cX5_bears 15 = .ok (.invokevirtual 58, 3) := by decide +kernel
theorem dX5_bears_18 : decode cX5_bears 18 = .ok (.ireturn, 1) := by decide +kernel
theorem dX5_bears_19 : decode cX5_bears 19 = .ok (.iconst (-1), 1) := by decide +kernel
theorem dX5_bears_20 : decode cX5_bears 20 = .ok (.istore_n 2, 1) := by decide +kernel
theorem dX5_bears_21 : decode cX5_bears 21 = .ok (.iconst 0, 1) := by decide +kernel
theorem dX5_bears_22 : decode cX5_bears 22 = .ok (.istore_n 3, 1) := by decide +kernel
theorem dX5_bears_23 : decode cX5_bears 23 = .ok (.iload_n 3, 1) := by decide +kernel
theorem dX5_bears_24 : decode cX5_bears 24 = .ok (.sipush 290, 3) := by decide +kernel
theorem dX5_bears_27 : decode cX5_bears 27 = .ok (.if_icmp .ge 32, 3) := by decide +kernel
theorem dX5_bears_30 : decode cX5_bears 30 = .ok (.aload_n 0, 1) := by decide +kernel
theorem dX5_bears_31 : decode cX5_bears 31 = .ok (.getfield 13, 3) := by decide +kernel
theorem dX5_bears_34 : decode cX5_bears 34 = .ok (.iload_n 1, 1) := by decide +kernel
theorem dX5_bears_35 : decode cX5_bears 35 = .ok (.invokestatic 110, 3) := by decide +kernel
theorem dX5_bears_38 : decode cX5_bears 38 = .ok (.iload_n 3, 1) := by decide +kernel
theorem dX5_bears_39 : decode cX5_bears 39 = .ok (.iadd, 1) := by decide +kernel
theorem dX5_bears_40 : decode cX5_bears 40 = .ok (.iaload, 1) := by decide +kernel
theorem dX5_bears_41 : decode cX5_bears 41 = .ok (.ifCond .le 12, 3) := by decide +kernel
theorem dX5_bears_44 : decode cX5_bears 44 = .ok (.iload_n 2, 1) := by decide +kernel
theorem dX5_bears_45 : decode cX5_bears 45 = .ok (.iload_n 3, 1) := by decide +kernel
theorem dX5_bears_46 : decode cX5_bears 46 = .ok (.bipush 10, 2) := by decide +kernel
theorem dX5_bears_48 : decode cX5_bears 48 = .ok (.irem, 1) := by decide +kernel
theorem dX5_bears_49 : decode cX5_bears 49 = .ok (.invokestatic 131, 3) := by decide +kernel
theorem dX5_bears_52 : decode cX5_bears 52 = .ok (.istore_n 2, 1) := by decide +kernel
theorem dX5_bears_53 : decode cX5_bears 53 = .ok (.iinc 3 1, 3) := by decide +kernel
theorem dX5_bears_56 : decode cX5_bears 56 = .ok (.goto (-33), 3) := by decide +kernel
theorem dX5_bears_59 : decode cX5_bears 59 = .ok (.iload_n 2, 1) := by decide +kernel
theorem dX5_bears_60 : decode cX5_bears 60 = .ok (.iconst (-1), 1) := by decide +kernel
theorem dX5_bears_61 : decode cX5_bears 61 = .ok (.if_icmp .ne 7, 3) := by decide +kernel
theorem dX5_bears_64 : decode cX5_bears 64 = .ok (.iconst 0, 1) := by decide +kernel
theorem dX5_bears_65 : decode cX5_bears 65 = .ok (.goto 12, 3) := by decide +kernel
theorem dX5_bears_68 : decode cX5_bears 68 = .ok (.bipush 50, 2) := by decide +kernel
theorem dX5_bears_70 : decode cX5_bears 70 = .ok (.bipush 10, 2) := by decide +kernel
theorem dX5_bears_72 : decode cX5_bears 72 = .ok (.iload_n 2, 1) := by decide +kernel
theorem dX5_bears_73 : decode cX5_bears 73 = .ok (.isub, 1) := by decide +kernel
theorem dX5_bears_74 : decode cX5_bears 74 = .ok (.imul, 1) := by decide +kernel
theorem dX5_bears_75 : decode cX5_bears 75 = .ok (.iconst 1, 1) := by decide +kernel
theorem dX5_bears_76 : decode cX5_bears 76 = .ok (.isub, 1) := by decide +kernel
theorem dX5_bears_77 : decode cX5_bears 77 = .ok (.ireturn, 1) := by decide +kernel
set_option maxRecDepth 20000 in
theorem ggX5_saves_X5_isWord : GoodIn wsX5_saves wsX5_isWord := goodIn_r _ [9, 10, 11, 28, 29, 30, 31, 32, 33, 34, 35, 36, 37, 38, 39, 40, 41, 42, 43, 44] (by decide +kernel) (by decide +kernel)
set_option maxRecDepth 20000 in
theorem gX5_saves_X5_isWord : GoodIn wsX5_saves (wsV RX5 99 RX5 yX5_isWord wsX5_isWord) := goodIn_app (goodIn_of _ (by decide +kernel)) ggX5_saves_X5_isWord
set_option maxRecDepth 20000 in
theorem ggX5_saves_X5_no : GoodIn wsX5_saves wsX5_no := goodIn_r _ [15, 1, 28, 29, 30, 31, 32, 33, 34, 35, 36, 37, 38, 39, 40, 41, 42, 43, 44] (by decide +kernel) (by decide +kernel)
set_option maxRecDepth 20000 in
theorem gX5_saves_X5_no : GoodIn wsX5_saves (wsV RX5 58 RX5 yX5_no wsX5_no) := goodIn_app (goodIn_of _ (by decide +kernel)) ggX5_saves_X5_no
set_option maxRecDepth 20000 in
theorem ggX5_saves_J7_fill_53178 : GoodIn wsX5_saves wsJ7_fill_53178 := goodIn_r _ [19] (by decide +kernel) (by decide +kernel)
set_option maxRecDepth 20000 in
theorem gX5_saves_J7_fill_53178 : GoodIn wsX5_saves (va_wsS RX5 90 yJ7_fill_53178 wsJ7_fill_53178) := goodIn_app (goodIn_of _ (by decide +kernel)) ggX5_saves_J7_fill_53178
set_option maxRecDepth 20000 in
theorem ggX5_saves_X5_compose : GoodIn wsX5_saves wsX5_compose := goodIn_r _ [23, 4, 10, 3, 11, 16, 17, 18, 19, 24, 25, 26, 8, 27, 28, 29, 30, 31, 32, 33, 34, 35, 36, 37, 38, 39, 40, 41, 42, 43, 44] (by decide +kernel) (by decide +kernel)
set_option maxRecDepth 20000 in
theorem gX5_saves_X5_compose : GoodIn wsX5_saves (wsV RX5 106 RX5 yX5_compose wsX5_compose) := goodIn_app (goodIn_of _ (by decide +kernel)) ggX5_saves_X5_compose
theorem dX5_saves_0 : decode cX5_saves 0 = .ok (.aload_n 0, 1) := by decide +kernel
theorem dX5_saves_1 : decode cX5_saves 1 = .ok (.iconst 0, 1) := by decide +kernel
theorem dX5_saves_2 : decode cX5_saves 2 = .ok (.putfield 38, 3) := by decide +kernel
theorem dX5_saves_5 : decode cX5_saves 5 = .ok (.aload_n 0, 1) := by decide +kernel
theorem dX5_saves_6 : decode cX5_saves 6 = .ok (.iload_n 1, 1) := by decide +kernel
theorem dX5_saves_7 : decode cX5_saves 7 = .ok (.invokevirtual 99, 3) := by decide +kernel
theorem dX5_saves_10 : decode cX5_saves 10 = .ok (.ifCond .eq 11, 3) := by decide +kernel
theorem dX5_saves_13 : decode cX5_saves 13 = .ok (.aload_n 0, 1) := by decide +kernel
theorem dX5_saves_14 : decode cX5_saves 14 = .ok (.iload_n 2, 1) := by decide +kernel
theorem dX5_saves_15 : decode cX5_saves 15 = .ok (.invokevirtual 99, 3) := by decide +kernel
theorem dX5_saves_18 : decode cX5_saves 18 = .ok (.ifCond .ne 9, 3) := by decide +kernel
theorem dX5_saves_21 : decode cX5_saves 21 = .ok (.aload_n 0, 1) := by decide +kernel
theorem dX5_saves_22 : decode cX5_saves 22 = .ok (.iconst 1, 1) := by decide +kernel
theorem dX5_saves_23 : decode cX5_saves 23 = .ok (.invokevirtual 58, 3) := by decide +kernel
theorem dX5_saves_26 : decode cX5_saves 26 = .ok (.ireturn, 1) := by decide +kernel
theorem dX5_saves_27 : decode cX5_saves 27 = .ok (.bipush 29, 2) := by decide +kernel
theorem dX5_saves_29 : decode cX5_saves 29 = .ok (.newarray .int, 2) := by decide +kernel
theorem dX5_saves_31 : decode cX5_saves 31 = .ok (.astore_n 3, 1) := by decide +kernel
theorem dX5_saves_32 : decode cX5_saves 32 = .ok (.iconst 0, 1) := by decide +kernel
theorem dX5_saves_33 : decode cX5_saves 33 = .ok (.istore 4, 2) := by decide +kernel
theorem dX5_saves_35 : decode cX5_saves 35 = .ok (.iload 4, 2) := by decide +kernel
theorem dX5_saves_37 : decode cX5_saves 37 = .ok (.iconst 2, 1) := by decide +kernel
theorem dX5_saves_38 : decode cX5_saves 38 = .ok (.if_icmp .ge 69, 3) := by decide +kernel
theorem dX5_saves_41 : decode cX5_saves 41 = .ok (.aload_n 0, 1) := by decide +kernel
theorem dX5_saves_42 : decode cX5_saves 42 = .ok (.iload 4, 2) := by decide +kernel
theorem dX5_saves_44 : decode cX5_saves 44 = .ok (.ifCond .ne 7, 3) := by decide +kernel
theorem dX5_saves_47 : decode cX5_saves 47 = .ok (.iload_n 1, 1) := by decide +kernel
theorem dX5_saves_48 : decode cX5_saves 48 = .ok (.goto 4, 3) := by decide +kernel
theorem dX5_saves_51 : decode cX5_saves 51 = .ok (.iload_n 2, 1) := by decide +kernel
theorem dX5_saves_52 : decode cX5_saves 52 = .ok (.invokevirtual 99, 3) := by decide +kernel
theorem dX5_saves_55 : decode cX5_saves 55 = .ok (.pop, 1) := by decide +kernel
theorem dX5_saves_56 : decode cX5_saves 56 = .ok (.aload_n 0, 1) := by decide +kernel
theorem dX5_saves_57 : decode cX5_saves 57 = .ok (.getfield 35, 3) := by decide +kernel
theorem dX5_saves_60 : decode cX5_saves 60 = .ok (.bipush 9, 2) := by decide +kernel
theorem dX5_saves_62 : decode cX5_saves 62 = .ok (.invokestatic 90, 3) := by decide +kernel
theorem dX5_saves_65 : decode cX5_saves 65 = .ok (.aload_n 0, 1) := by decide +kernel
theorem dX5_saves_66 : decode cX5_saves 66 = .ok (.invokevirtual 106, 3) := by decide +kernel
theorem dX5_saves_69 : decode cX5_saves 69 = .ok (.pop, 1) := by decide +kernel
theorem dX5_saves_70 : decode cX5_saves 70 = .ok (.bipush 26, 2) := by decide +kernel
theorem dX5_saves_72 : decode cX5_saves 72 = .ok (.istore 5, 2) := by decide +kernel
theorem dX5_saves_74 : decode cX5_saves 74 = .ok (.iload 5, 2) := by decide +kernel
theorem dX5_saves_76 : decode cX5_saves 76 = .ok (.bipush 29, 2) := by decide +kernel
theorem dX5_saves_78 : decode cX5_saves 78 = .ok (.if_icmp .ge 23, 3) := by decide +kernel
theorem dX5_saves_81 : decode cX5_saves 81 = .ok (.aload_n 3, 1) := by decide +kernel
theorem dX5_saves_82 : decode cX5_saves 82 = .ok (.iload 5, 2) := by decide +kernel
theorem dX5_saves_84 : decode cX5_saves 84 = .ok (.dup2, 1) := by decide +kernel
theorem dX5_saves_85 : decode cX5_saves 85 = .ok (.iaload, 1) := by decide +kernel
theorem dX5_saves_86 : decode cX5_saves 86 = .ok (.aload_n 0, 1) := by decide +kernel
theorem dX5_saves_87 : decode cX5_saves 87 = .ok (.getfield 32, 3) := by decide +kernel
theorem dX5_saves_90 : decode cX5_saves 90 = .ok (.iload 5, 2) := by decide +kernel
theorem dX5_saves_92 : decode cX5_saves 92 = .ok (.iaload, 1) := by decide +kernel
theorem dX5_saves_93 : decode cX5_saves 93 = .ok (.iadd, 1) := by decide +kernel
theorem dX5_saves_94 : decode cX5_saves 94 = .ok (.iastore, 1) := by decide +kernel
theorem dX5_saves_95 : decode cX5_saves 95 = .ok (.iinc 5 1, 3) := by decide +kernel
theorem dX5_saves_98 : decode cX5_saves 98 = .ok (.goto (-24), 3) := by decide +kernel
theorem dX5_saves_101 : decode cX5_saves 101 = .ok (.iinc 4 1, 3) := by decide +kernel
theorem dX5_saves_104 : decode cX5_saves 104 = .ok (.goto (-69), 3) := by decide +kernel
theorem dX5_saves_107 : decode cX5_saves 107 = .ok (.iconst (-1), 1) := by decide +kernel
theorem dX5_saves_108 : decode cX5_saves 108 = .ok (.istore 4, 2) := by decide +kernel
theorem dX5_saves_110 : decode cX5_saves 110 = .ok (.bipush 26, 2) := by decide +kernel
theorem dX5_saves_112 : decode cX5_saves 112 = .ok (.istore 5, 2) := by decide +kernel
theorem dX5_saves_114 : decode cX5_saves 114 = .ok (.iload 5, 2) := by decide +kernel
theorem dX5_saves_116 : decode cX5_saves 116 = .ok (.bipush 29, 2) := by decide +kernel
theorem dX5_saves_118 : decode cX5_saves 118 = .ok (.if_icmp .ge 34, 3) := by decide +kernel
theorem dX5_saves_121 : decode cX5_saves 121 = .ok (.aload_n 3, 1) := by decide +kernel
theorem dX5_saves_122 : decode cX5_saves 122 = .ok (.iload 5, 2) := by decide +kernel
theorem dX5_saves_124 : decode cX5_saves 124 = .ok (.iaload, 1) := by decide +kernel
theorem dX5_saves_125 : decode cX5_saves 125 = .ok (.iload 4, 2) := by decide +kernel
theorem dX5_saves_127 : decode cX5_saves 127 = .ok (.iconst (-1), 1) := by decide +kernel
theorem dX5_saves_128 : decode cX5_saves 128 = .ok (.if_icmp .ne 7, 3) := by decide +kernel
theorem dX5_saves_131 : decode cX5_saves 131 = .ok (.iconst 0, 1) := by decide +kernel
theorem dX5_saves_132 : decode cX5_saves 132 = .ok (.goto 7, 3) := by decide +kernel
theorem dX5_saves_135 : decode cX5_saves 135 = .ok (.aload_n 3, 1) := by decide +kernel
theorem dX5_saves_136 : decode cX5_saves 136 = .ok (.iload 4, 2) := by decide +kernel
theorem dX5_saves_138 : decode cX5_saves 138 = .ok (.iaload, 1) := by decide +kernel
theorem dX5_saves_139 : decode cX5_saves 139 = .ok (.if_icmp .le 7, 3) := by decide +kernel
theorem dX5_saves_142 : decode cX5_saves 142 = .ok (.iload 5, 2) := by decide +kernel
theorem dX5_saves_144 : decode cX5_saves 144 = .ok (.istore 4, 2) := by decide +kernel
theorem dX5_saves_146 : decode cX5_saves 146 = .ok (.iinc 5 1, 3) := by decide +kernel
theorem dX5_saves_149 : decode cX5_saves 149 = .ok (.goto (-35), 3) := by decide +kernel
theorem dX5_saves_152 : decode cX5_saves 152 = .ok (.iload 4, 2) := by decide +kernel
theorem dX5_saves_154 : decode cX5_saves 154 = .ok (.ireturn, 1) := by decide +kernel
set_option maxRecDepth 20000 in
theorem ggX5_times_X5_isPrinter : GoodIn wsX5_times wsX5_isPrinter := goodIn_r _ [6, 7, 8, 9, 5, 10, 47, 48, 49, 50, 51, 52, 53, 54, 55, 56, 57, 58, 59, 60, 61, 62, 63] (by decide +kernel) (by decide +kernel)
set_option maxRecDepth 20000 in
theorem gX5_times_X5_isPrinter : GoodIn wsX5_times (wsV RX5 74 RX5 yX5_isPrinter wsX5_isPrinter) := goodIn_app (goodIn_of _ (by decide +kernel)) ggX5_times_X5_isPrinter
set_option maxRecDepth 20000 in
theorem ggX5_times_X5_no : GoodIn wsX5_times wsX5_no := goodIn_r _ [14, 1, 47, 48, 49, 50, 51, 52, 53, 54, 55, 56, 57, 58, 59, 60, 61, 62, 63] (by decide +kernel) (by decide +kernel)
set_option maxRecDepth 20000 in
theorem gX5_times_X5_no : GoodIn wsX5_times (wsV RX5 58 RX5 yX5_no wsX5_no) := goodIn_app (goodIn_of _ (by decide +kernel)) ggX5_times_X5_no
set_option maxRecDepth 20000 in
theorem ggX5_times_X5_isWord : GoodIn wsX5_times wsX5_isWord := goodIn_r _ [18, 19, 20, 47, 48, 49, 50, 51, 52, 53, 54, 55, 56, 57, 58, 59, 60, 61, 62, 63] (by decide +kernel) (by decide +kernel)
set_option maxRecDepth 20000 in
theorem gX5_times_X5_isWord : GoodIn wsX5_times (wsV RX5 99 RX5 yX5_isWord wsX5_isWord) := goodIn_app (goodIn_of _ (by decide +kernel)) ggX5_times_X5_isWord
set_option maxRecDepth 20000 in
theorem ggX5_times_X5_look : GoodIn wsX5_times wsX5_look := goodIn_r _ [24, 25, 26, 27, 5, 28, 29, 30, 31, 32, 33, 47, 48, 49, 50, 51, 52, 53, 54, 55, 56, 57, 58, 59, 60, 61, 62, 63] (by decide +kernel) (by decide +kernel)
set_option maxRecDepth 20000 in
theorem gX5_times_X5_look : GoodIn wsX5_times (wsV RX5 102 RX5 yX5_look wsX5_look) := goodIn_app (goodIn_of _ (by decide +kernel)) ggX5_times_X5_look
set_option maxRecDepth 20000 in
theorem ggX5_times_X5_compose : GoodIn wsX5_times wsX5_compose := goodIn_r _ [37, 38, 19, 25, 20, 39, 40, 41, 42, 43, 44, 45, 5, 46, 47, 48, 49, 50, 51, 52, 53, 54, 55, 56, 57, 58, 59, 60, 61, 62, 63] (by decide +kernel) (by decide +kernel)
set_option maxRecDepth 20000 in
theorem gX5_times_X5_compose : GoodIn wsX5_times (wsV RX5 106 RX5 yX5_compose wsX5_compose) := goodIn_app (goodIn_of _ (by decide +kernel)) ggX5_times_X5_compose
theorem dX5_times_0 : decode cX5_times 0 = .ok (.aload_n 0, 1) := by decide +kernel
theorem dX5_times_1 : decode cX5_times 1 = .ok (.iconst 0, 1) := by decide +kernel
theorem dX5_times_2 : decode cX5_times 2 = .ok (.putfield 38, 3) := by decide +kernel
theorem dX5_times_5 : decode cX5_times 5 = .ok (.aload_n 0, 1) := by decide +kernel
theorem dX5_times_6 : decode cX5_times 6 = .ok (.iload_n 1, 1) := by decide +kernel
theorem dX5_times_7 : decode cX5_times 7 = .ok (.invokevirtual 74, 3) := by decide +kernel
theorem dX5_times_10 : decode cX5_times 10 = .ok (.ifCond .ne 9, 3) := by decide +kernel
theorem dX5_times_13 : decode cX5_times 13 = .ok (.aload_n 0, 1) := by decide +kernel
theorem dX5_times_14 : decode cX5_times 14 = .ok (.iconst 1, 1) := by decide +kernel
theorem dX5_times_15 : decode cX5_times 15 = .ok (.invokevirtual 58, 3) := by decide +kernel
theorem dX5_times_18 : decode cX5_times 18 = .ok (.ireturn, 1) := by decide +kernel
theorem dX5_times_19 : decode cX5_times 19 = .ok (.aload_n 0, 1) := by decide +kernel
theorem dX5_times_20 : decode cX5_times 20 = .ok (.iload_n 2, 1) := by decide +kernel
theorem dX5_times_21 : decode cX5_times 21 = .ok (.invokevirtual 99, 3) := by decide +kernel
theorem dX5_times_24 : decode cX5_times 24 = .ok (.ifCond .ne 9, 3) := by decide +kernel
theorem dX5_times_27 : decode cX5_times 27 = .ok (.aload_n 0, 1) := by decide +kernel
theorem dX5_times_28 : decode cX5_times 28 = .ok (.iconst 2, 1) := by decide +kernel
theorem dX5_times_29 : decode cX5_times 29 = .ok (.invokevirtual 58, 3) := by decide +kernel
theorem dX5_times_32 : decode cX5_times 32 = .ok (.ireturn, 1) := by decide +kernel
theorem dX5_times_33 : decode cX5_times 33 = .ok (.aload_n 0, 1) := by decide +kernel
theorem dX5_times_34 : decode cX5_times 34 = .ok (.iload_n 1, 1) := by decide +kernel
theorem dX5_times_35 : decode cX5_times 35 = .ok (.invokevirtual 102, 3) := by decide +kernel
theorem dX5_times_38 : decode cX5_times 38 = .ok (.iconst 0, 1) := by decide +kernel
theorem dX5_times_39 : decode cX5_times 39 = .ok (.istore_n 3, 1) := by decide +kernel
theorem dX5_times_40 : decode cX5_times 40 = .ok (.aload_n 0, 1) := by decide +kernel
theorem dX5_times_41 : decode cX5_times 41 = .ok (.invokevirtual 106, 3) := by decide +kernel
theorem dX5_times_44 : decode cX5_times 44 = .ok (.iconst (-1), 1) := by decide +kernel
theorem dX5_times_45 : decode cX5_times 45 = .ok (.if_icmp .eq 9, 3) := by decide +kernel
theorem dX5_times_48 : decode cX5_times 48 = .ok (.iinc 3 1, 3) := by decide +kernel
theorem dX5_times_51 : decode cX5_times 51 = .ok (.goto (-11), 3) := by decide +kernel
theorem dX5_times_54 : decode cX5_times 54 = .ok (.iload_n 3, 1) := by decide +kernel
theorem dX5_times_55 : decode cX5_times 55 = .ok (.ireturn, 1) := by decide +kernel
set_option maxRecDepth 20000 in
theorem ggX5_mean_X5_all : GoodIn wsX5_mean wsX5_all := goodIn_r _ [6, 7, 12, 13, 14, 15, 16, 17, 18, 19, 20, 21, 22, 23, 24, 25, 26, 27, 28] (by decide +kernel) (by decide +kernel)
set_option maxRecDepth 20000 in
theorem gX5_mean_X5_all : GoodIn wsX5_mean (wsV RX5 113 RX5 yX5_all wsX5_all) := goodIn_app (goodIn_of _ (by decide +kernel)) ggX5_mean_X5_all
set_option maxRecDepth 20000 in
theorem ggX5_mean_X5_worn : GoodIn wsX5_mean wsX5_worn := goodIn_r _ [11, 7, 12, 13, 14, 15, 16, 17, 18, 19, 20, 21, 22, 23, 24, 25, 26, 27, 28] (by decide +kernel) (by decide +kernel)
set_option maxRecDepth 20000 in
theorem gX5_mean_X5_worn : GoodIn wsX5_mean (wsV RX5 122 RX5 yX5_worn wsX5_worn) := goodIn_app (goodIn_of _ (by decide +kernel)) ggX5_mean_X5_worn
theorem dX5_mean_0 : decode cX5_mean 0 = .ok (.aload_n 0, 1) := by decide +kernel
theorem dX5_mean_1 : decode cX5_mean 1 = .ok (.iconst 0, 1) := by decide +kernel
theorem dX5_mean_2 : decode cX5_mean 2 = .ok (.putfield 38, 3) := by decide +kernel
theorem dX5_mean_5 : decode cX5_mean 5 = .ok (.aload_n 0, 1) := by decide +kernel
theorem dX5_mean_6 : decode cX5_mean 6 = .ok (.iconst 0, 1) := by decide +kernel
theorem dX5_mean_7 : decode cX5_mean 7 = .ok (.invokevirtual 113, 3) := by decide +kernel
theorem dX5_mean_10 : decode cX5_mean 10 = .ok (.istore_n 1, 1) := by decide +kernel
theorem dX5_mean_11 : decode cX5_mean 11 = .ok (.iload_n 1, 1) := by decide +kernel
theorem dX5_mean_12 : decode cX5_mean 12 = .ok (.ifCond .ne 7, 3) := by decide +kernel
theorem dX5_mean_15 : decode cX5_mean 15 = .ok (.dconst 0, 1) := by decide +kernel
theorem dX5_mean_16 : decode cX5_mean 16 = .ok (.goto 12, 3) := by decide +kernel
theorem dX5_mean_19 : decode cX5_mean 19 = .ok (.aload_n 0, 1) := by decide +kernel
theorem dX5_mean_20 : decode cX5_mean 20 = .ok (.iconst 0, 1) := by decide +kernel
theorem dX5_mean_21 : decode cX5_mean 21 = .ok (.invokevirtual 122, 3) := by decide +kernel
theorem dX5_mean_24 : decode cX5_mean 24 = .ok (.i2d, 1) := by decide +kernel
theorem dX5_mean_25 : decode cX5_mean 25 = .ok (.iload_n 1, 1) := by decide +kernel
theorem dX5_mean_26 : decode cX5_mean 26 = .ok (.i2d, 1) := by decide +kernel
theorem dX5_mean_27 : decode cX5_mean 27 = .ok (.ddiv, 1) := by decide +kernel
theorem dX5_mean_28 : decode cX5_mean 28 = .ok (.dreturn, 1) := by decide +kernel
set_option maxRecDepth 20000 in
theorem ggX5_digest_X5_counted : GoodIn wsX5_digest wsX5_counted := goodIn_r _ [10, 11, 12, 13, 14, 4, 15, 16, 17, 18, 19, 20, 9, 21, 5, 40, 41, 42, 43, 44, 45, 46, 47, 48, 49, 50, 51, 52, 53, 54, 55, 56] (by decide +kernel) (by decide +kernel)
set_option maxRecDepth 20000 in
theorem gX5_digest_X5_counted : GoodIn wsX5_digest (wsV RX5 128 RX5 yX5_counted wsX5_counted) := goodIn_app (goodIn_of _ (by decide +kernel)) ggX5_digest_X5_counted
set_option maxRecDepth 20000 in
theorem ggX5_digest_X5_told : GoodIn wsX5_digest wsX5_told := goodIn_r _ [25, 11, 26, 27, 28, 29, 30, 31, 9, 32, 18, 19, 20, 21, 5, 33, 34, 35, 36, 37, 38, 39, 40, 41, 42, 43, 44, 45, 46, 47, 48, 49, 50, 51, 52, 53, 54, 55, 56] (by decide +kernel) (by decide +kernel)
set_option maxRecDepth 20000 in
theorem gX5_digest_X5_told : GoodIn wsX5_digest (wsV RX5 125 RX5 yX5_told wsX5_told) := goodIn_app (goodIn_of _ (by decide +kernel)) ggX5_digest_X5_told
theorem dX5_digest_0 : decode cX5_digest 0 = .ok (.aload_n 0, 1) := by decide +kernel
theorem dX5_digest_1 : decode cX5_digest 1 = .ok (.iconst 0, 1) := by decide +kernel
theorem dX5_digest_2 : decode cX5_digest 2 = .ok (.putfield 38, 3) := by decide +kernel
theorem dX5_digest_5 : decode cX5_digest 5 = .ok (.ldc2_w 134, 3) := by decide +kernel
theorem dX5_digest_8 : decode cX5_digest 8 = .ok (.lstore_n 1, 1) := by decide +kernel
theorem dX5_digest_9 : decode cX5_digest 9 = .ok (.iconst 0, 1) := by decide +kernel
theorem dX5_digest_10 : decode cX5_digest 10 = .ok (.istore_n 3, 1) := by decide +kernel
theorem dX5_digest_11 : decode cX5_digest 11 = .ok (.iload_n 3, 1) := by decide +kernel
theorem dX5_digest_12 : decode cX5_digest 12 = .ok (.bipush 7, 2) := by decide +kernel
theorem dX5_digest_14 : decode cX5_digest 14 = .ok (.if_icmp .gt 22, 3) := by decide +kernel
theorem dX5_digest_17 : decode cX5_digest 17 = .ok (.lload_n 1, 1) := by decide +kernel
theorem dX5_digest_18 : decode cX5_digest 18 = .ok (.ldc2_w 136, 3) := by decide +kernel
theorem dX5_digest_21 : decode cX5_digest 21 = .ok (.lmul, 1) := by decide +kernel
theorem dX5_digest_22 : decode cX5_digest 22 = .ok (.aload_n 0, 1) := by decide +kernel
theorem dX5_digest_23 : decode cX5_digest 23 = .ok (.iload_n 3, 1) := by decide +kernel
theorem dX5_digest_24 : decode cX5_digest 24 = .ok (.invokevirtual 128, 3) := by decide +kernel
theorem dX5_digest_27 : decode cX5_digest 27 = .ok (.i2l, 1) := by decide +kernel
theorem dX5_digest_28 : decode cX5_digest 28 = .ok (.ladd, 1) := by decide +kernel
theorem dX5_digest_29 : decode cX5_digest 29 = .ok (.lstore_n 1, 1) := by decide +kernel
theorem dX5_digest_30 : decode cX5_digest 30 = .ok (.iinc 3 1, 3) := by decide +kernel
theorem dX5_digest_33 : decode cX5_digest 33 = .ok (.goto (-22), 3) := by decide +kernel
theorem dX5_digest_36 : decode cX5_digest 36 = .ok (.iconst 0, 1) := by decide +kernel
theorem dX5_digest_37 : decode cX5_digest 37 = .ok (.istore_n 3, 1) := by decide +kernel
theorem dX5_digest_38 : decode cX5_digest 38 = .ok (.iload_n 3, 1) := by decide +kernel
theorem dX5_digest_39 : decode cX5_digest 39 = .ok (.sipush 290, 3) := by decide +kernel
theorem dX5_digest_42 : decode cX5_digest 42 = .ok (.iconst 1, 1) := by decide +kernel
theorem dX5_digest_43 : decode cX5_digest 43 = .ok (.aload_n 0, 1) := by decide +kernel
theorem dX5_digest_44 : decode cX5_digest 44 = .ok (.getfield 41, 3) := by decide +kernel
theorem dX5_digest_47 : decode cX5_digest 47 = .ok (.iadd, 1) := by decide +kernel
theorem dX5_digest_48 : decode cX5_digest 48 = .ok (.imul, 1) := by decide +kernel
theorem dX5_digest_49 : decode cX5_digest 49 = .ok (.if_icmp .ge 23, 3) := by decide +kernel
theorem dX5_digest_52 : decode cX5_digest 52 = .ok (.lload_n 1, 1) := by decide +kernel
theorem dX5_digest_53 : decode cX5_digest 53 = .ok (.ldc2_w 136, 3) := by decide +kernel
theorem dX5_digest_56 : decode cX5_digest 56 = .ok (.lmul, 1) := by decide +kernel
theorem dX5_digest_57 : decode cX5_digest 57 = .ok (.aload_n 0, 1) := by decide +kernel
theorem dX5_digest_58 : decode cX5_digest 58 = .ok (.getfield 13, 3) := by decide +kernel
theorem dX5_digest_61 : decode cX5_digest 61 = .ok (.iload_n 3, 1) := by decide +kernel
theorem dX5_digest_62 : decode cX5_digest 62 = .ok (.iaload, 1) := by decide +kernel
theorem dX5_digest_63 : decode cX5_digest 63 = .ok (.i2l, 1) := by decide +kernel
theorem dX5_digest_64 : decode cX5_digest 64 = .ok (.ladd, 1) := by decide +kernel
theorem dX5_digest_65 : decode cX5_digest 65 = .ok (.lstore_n 1, 1) := by decide +kernel
theorem dX5_digest_66 : decode cX5_digest 66 = .ok (.iinc 3 1, 3) := by decide +kernel
theorem dX5_digest_69 : decode cX5_digest 69 = .ok (.goto (-31), 3) := by decide +kernel
theorem dX5_digest_72 : decode cX5_digest 72 = .ok (.iconst 0, 1) := by decide +kernel
theorem dX5_digest_73 : decode cX5_digest 73 = .ok (.istore_n 3, 1) := by decide +kernel
theorem dX5_digest_74 : decode cX5_digest 74 = .ok (.iload_n 3, 1) := by decide +kernel
theorem dX5_digest_75 : decode cX5_digest 75 = .ok (.aload_n 0, 1) := by decide +kernel
theorem dX5_digest_76 : decode cX5_digest 76 = .ok (.getfield 41, 3) := by decide +kernel
theorem dX5_digest_79 : decode cX5_digest 79 = .ok (.if_icmp .ge 40, 3) := by decide +kernel
theorem dX5_digest_82 : decode cX5_digest 82 = .ok (.iconst 0, 1) := by decide +kernel
theorem dX5_digest_83 : decode cX5_digest 83 = .ok (.istore 4, 2) := by decide +kernel
theorem dX5_digest_85 : decode cX5_digest 85 = .ok (.iload 4, 2) := by decide +kernel
theorem dX5_digest_87 : decode cX5_digest 87 = .ok (.bipush 6, 2) := by decide +kernel
theorem dX5_digest_89 : decode cX5_digest 89 = .ok (.if_icmp .gt 24, 3) := by decide +kernel
theorem dX5_digest_92 : decode cX5_digest 92 = .ok (.lload_n 1, 1) := by decide +kernel
theorem dX5_digest_93 : decode cX5_digest 93 = .ok (.ldc2_w 136, 3) := by decide +kernel
theorem dX5_digest_96 : decode cX5_digest 96 = .ok (.lmul, 1) := by decide +kernel
theorem dX5_digest_97 : decode cX5_digest 97 = .ok (.aload_n 0, 1) := by decide +kernel
theorem dX5_digest_98 : decode cX5_digest 98 = .ok (.iload_n 3, 1) := by decide +kernel
theorem dX5_digest_99 : decode cX5_digest 99 = .ok (.iload 4, 2) := by decide +kernel
theorem dX5_digest_101 : decode cX5_digest 101 = .ok (.invokevirtual 125, 3) := by decide +kernel
theorem dX5_digest_104 : decode cX5_digest 104 = .ok (.i2l, 1) := by decide +kernel
theorem dX5_digest_105 : decode cX5_digest 105 = .ok (.ladd, 1) := by decide +kernel
theorem dX5_digest_106 : decode cX5_digest 106 = .ok (.lstore_n 1, 1) := by decide +kernel
theorem dX5_digest_107 : decode cX5_digest 107 = .ok (.iinc 4 1, 3) := by decide +kernel
theorem dX5_digest_110 : decode cX5_digest 110 = .ok (.goto (-25), 3) := by decide +kernel
theorem dX5_digest_113 : decode cX5_digest 113 = .ok (.iinc 3 1, 3) := by decide +kernel
theorem dX5_digest_116 : decode cX5_digest 116 = .ok (.goto (-42), 3) := by decide +kernel
theorem dX5_digest_119 : decode cX5_digest 119 = .ok (.lload_n 1, 1) := by decide +kernel
theorem dX5_digest_120 : decode cX5_digest 120 = .ok (.lreturn, 1) := by decide +kernel
theorem dJ9_max_7cf53_0 : decode cJ9_max_7cf53 0 = .ok (.iload_n 0, 1) := by decide +kernel
theorem dJ9_max_7cf53_1 : decode cJ9_max_7cf53 1 = .ok (.iload_n 1, 1) := by decide +kernel
theorem dJ9_max_7cf53_2 : decode cJ9_max_7cf53 2 = .ok (.if_icmp .lt 7, 3) := by decide +kernel
theorem dJ9_max_7cf53_5 : decode cJ9_max_7cf53 5 = .ok (.iload_n 0, 1) := by decide +kernel
theorem dJ9_max_7cf53_6 : decode cJ9_max_7cf53 6 = .ok (.goto 4, 3) := by decide +kernel
theorem dJ9_max_7cf53_9 : decode cJ9_max_7cf53 9 = .ok (.iload_n 1, 1) := by decide +kernel
theorem dJ9_max_7cf53_10 : decode cJ9_max_7cf53 10 = .ok (.ireturn, 1) := by decide +kernel
theorem dJ9_min_7cf53_0 : decode cJ9_min_7cf53 0 = .ok (.iload_n 0, 1) := by decide +kernel
theorem dJ9_min_7cf53_1 : decode cJ9_min_7cf53 1 = .ok (.iload_n 1, 1) := by decide +kernel
theorem dJ9_min_7cf53_2 : decode cJ9_min_7cf53 2 = .ok (.if_icmp .gt 7, 3) := by decide +kernel
theorem dJ9_min_7cf53_5 : decode cJ9_min_7cf53 5 = .ok (.iload_n 0, 1) := by decide +kernel
theorem dJ9_min_7cf53_6 : decode cJ9_min_7cf53 6 = .ok (.goto 4, 3) := by decide +kernel
theorem dJ9_min_7cf53_9 : decode cJ9_min_7cf53 9 = .ok (.iload_n 1, 1) := by decide +kernel
theorem dJ9_min_7cf53_10 : decode cJ9_min_7cf53 10 = .ok (.ireturn, 1) := by decide +kernel
theorem dJ7_fill_53178_0 : decode cJ7_fill_53178 0 = .ok (.iconst 0, 1) := by decide +kernel
theorem dJ7_fill_53178_1 : decode cJ7_fill_53178 1 = .ok (.istore_n 2, 1) := by decide +kernel
theorem dJ7_fill_53178_2 : decode cJ7_fill_53178 2 = .ok (.aload_n 0, 1) := by decide +kernel
theorem dJ7_fill_53178_3 : decode cJ7_fill_53178 3 = .ok (.arraylength, 1) := by decide +kernel
theorem dJ7_fill_53178_4 : decode cJ7_fill_53178 4 = .ok (.istore_n 3, 1) := by decide +kernel
theorem dJ7_fill_53178_5 : decode cJ7_fill_53178 5 = .ok (.iload_n 2, 1) := by decide +kernel
theorem dJ7_fill_53178_6 : decode cJ7_fill_53178 6 = .ok (.iload_n 3, 1) := by decide +kernel
theorem dJ7_fill_53178_7 : decode cJ7_fill_53178 7 = .ok (.if_icmp .ge 13, 3) := by decide +kernel
theorem dJ7_fill_53178_10 : decode cJ7_fill_53178 10 = .ok (.aload_n 0, 1) := by decide +kernel
theorem dJ7_fill_53178_11 : decode cJ7_fill_53178 11 = .ok (.iload_n 2, 1) := by decide +kernel
theorem dJ7_fill_53178_12 : decode cJ7_fill_53178 12 = .ok (.iload_n 1, 1) := by decide +kernel
theorem dJ7_fill_53178_13 : decode cJ7_fill_53178 13 = .ok (.iastore, 1) := by decide +kernel
theorem dJ7_fill_53178_14 : decode cJ7_fill_53178 14 = .ok (.iinc 2 1, 3) := by decide +kernel
theorem dJ7_fill_53178_17 : decode cJ7_fill_53178 17 = .ok (.goto (-12), 3) := by decide +kernel
theorem dJ7_fill_53178_20 : decode cJ7_fill_53178 20 = .ok (.return_, 1) := by decide +kernel
