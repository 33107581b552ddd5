set_option maxRecDepth 20000 in
theorem ggX2_moveLeastWorn_X2_moveAt : GoodIn wsX2_moveLeastWorn wsX2_moveAt := goodIn_r _ [5, 6, 7, 8, 9, 10, 11, 12, 4, 13, 14, 15, 16, 17, 18, 19] (by decide +kernel) (by decide +kernel)
set_option maxRecDepth 20000 in
theorem gX2_moveLeastWorn_X2_moveAt : GoodIn wsX2_moveLeastWorn (wsV RX2 31 RX2 yX2_moveAt wsX2_moveAt) := goodIn_app (goodIn_of _ (by decide +kernel)) ggX2_moveLeastWorn_X2_moveAt
theorem dX2_moveLeastWorn_0 : decode cX2_moveLeastWorn 0 = .ok (.iconst 0, 1) := by decide +kernel
theorem dX2_moveLeastWorn_1 : decode cX2_moveLeastWorn 1 = .ok (.istore 4, 2) := by decide +kernel
theorem dX2_moveLeastWorn_3 : decode cX2_moveLeastWorn 3 = .ok (.iload_n 3, 1) := by decide +kernel
theorem dX2_moveLeastWorn_4 : decode cX2_moveLeastWorn 4 = .ok (.istore 5, 2) := by decide +kernel
theorem dX2_moveLeastWorn_6 : decode cX2_moveLeastWorn 6 = .ok (.iconst 0, 1) := by decide +kernel
theorem dX2_moveLeastWorn_7 : decode cX2_moveLeastWorn 7 = .ok (.istore 6, 2) := by decide +kernel
theorem dX2_moveLeastWorn_9 : decode cX2_moveLeastWorn 9 = .ok (.iload 6, 2) := by decide +kernel
theorem dX2_moveLeastWorn_11 : decode cX2_moveLeastWorn 11 = .ok (.bipush 10, 2) := by decide +kernel
theorem dX2_moveLeastWorn_13 : decode cX2_moveLeastWorn 13 = .ok (.if_icmp .ge 38, 3) := by decide +kernel
theorem dX2_moveLeastWorn_16 : decode cX2_moveLeastWorn 16 = .ok (.aload_n 0, 1) := by decide +kernel
theorem dX2_moveLeastWorn_17 : decode cX2_moveLeastWorn 17 = .ok (.aload_n 1, 1) := by decide +kernel
theorem dX2_moveLeastWorn_18 : decode cX2_moveLeastWorn 18 = .ok (.iload_n 2, 1) := by decide +kernel
theorem dX2_moveLeastWorn_19 : decode cX2_moveLeastWorn 19 = .ok (.iload 6, 2) := by decide +kernel
theorem dX2_moveLeastWorn_21 : decode cX2_moveLeastWorn 21 = .ok (.iload 5, 2) := by decide +kernel
theorem dX2_moveLeastWorn_23 : decode cX2_moveLeastWorn 23 = .ok (.invokevirtual 31, 3) := by decide +kernel
theorem dX2_moveLeastWorn_26 : decode cX2_moveLeastWorn 26 = .ok (.istore 7, 2) := by decide +kernel
theorem dX2_moveLeastWorn_28 : decode cX2_moveLeastWorn 28 = .ok (.iload 5, 2) := by decide +kernel
theorem dX2_moveLeastWorn_30 : decode cX2_moveLeastWorn 30 = .ok (.iload 7, 2) := by decide +kernel
theorem dX2_moveLeastWorn_32 : decode cX2_moveLeastWorn 32 = .ok (.isub, 1) := by decide +kernel
theorem dX2_moveLeastWorn_33 : decode cX2_moveLeastWorn 33 = .ok (.istore 5, 2) := by decide +kernel
theorem dX2_moveLeastWorn_35 : decode cX2_moveLeastWorn 35 = .ok (.iload 4, 2) := by decide +kernel
theorem dX2_moveLeastWorn_37 : decode cX2_moveLeastWorn 37 = .ok (.iload 7, 2) := by decide +kernel
theorem dX2_moveLeastWorn_39 : decode cX2_moveLeastWorn 39 = .ok (.iload 6, 2) := by decide +kernel
theorem dX2_moveLeastWorn_41 : decode cX2_moveLeastWorn 41 = .ok (.imul, 1) := by decide +kernel
theorem dX2_moveLeastWorn_42 : decode cX2_moveLeastWorn 42 = .ok (.iadd, 1) := by decide +kernel
theorem dX2_moveLeastWorn_43 : decode cX2_moveLeastWorn 43 = .ok (.istore 4, 2) := by decide +kernel
theorem dX2_moveLeastWorn_45 : decode cX2_moveLeastWorn 45 = .ok (.iinc 6 1, 3) := by decide +kernel
theorem dX2_moveLeastWorn_48 : decode cX2_moveLeastWorn 48 = .ok (.goto (-39), 3) := by decide +kernel
theorem dX2_moveLeastWorn_51 : decode cX2_moveLeastWorn 51 = .ok (.iload 4, 2) := by decide +kernel
theorem dX2_moveLeastWorn_53 : decode cX2_moveLeastWorn 53 = .ok (.ireturn, 1) := by decide +kernel
set_option maxRecDepth 20000 in
theorem ggX2_moveMostWorn_X2_moveAt : GoodIn wsX2_moveMostWorn wsX2_moveAt := goodIn_r _ [5, 6, 7, 8, 9, 10, 11, 12, 4, 13, 14, 15, 16, 17, 18, 19] (by decide +kernel) (by decide +kernel)
set_option maxRecDepth 20000 in
theorem gX2_moveMostWorn_X2_moveAt : GoodIn wsX2_moveMostWorn (wsV RX2 31 RX2 yX2_moveAt wsX2_moveAt) := goodIn_app (goodIn_of _ (by decide +kernel)) ggX2_moveMostWorn_X2_moveAt
theorem dX2_moveMostWorn_0 : decode cX2_moveMostWorn 0 = .ok (.iconst 0, 1) := by decide +kernel
theorem dX2_moveMostWorn_1 : decode cX2_moveMostWorn 1 = .ok (.istore 4, 2) := by decide +kernel
theorem dX2_moveMostWorn_3 : decode cX2_moveMostWorn 3 = .ok (.iload_n 3, 1) := by decide +kernel
theorem dX2_moveMostWorn_4 : decode cX2_moveMostWorn 4 = .ok (.istore 5, 2) := by decide +kernel
theorem dX2_moveMostWorn_6 : decode cX2_moveMostWorn 6 = .ok (.bipush 9, 2) := by decide +kernel
theorem dX2_moveMostWorn_8 : decode cX2_moveMostWorn 8 = .ok (.istore 6, 2) := by decide +kernel
theorem dX2_moveMostWorn_10 : decode cX2_moveMostWorn 10 = .ok (.iload 6, 2) := by decide +kernel
theorem dX2_moveMostWorn_12 : decode cX2_moveMostWorn 12 = .ok (.ifCond .lt 38, 3) := by decide +kernel
theorem dX2_moveMostWorn_15 : decode cX2_moveMostWorn 15 = .ok (.aload_n 0, 1) := by decide +kernel
theorem dX2_moveMostWorn_16 : decode cX2_moveMostWorn 16 = .ok (.aload_n 1, 1) := by decide +kernel
theorem dX2_moveMostWorn_17 : decode cX2_moveMostWorn 17 = .ok (.iload_n 2, 1) := by decide +kernel
theorem dX2_moveMostWorn_18 : decode cX2_moveMostWorn 18 = .ok (.iload 6, 2) := by decide +kernel
theorem dX2_moveMostWorn_20 : decode cX2_moveMostWorn 20 = .ok (.iload 5, 2) := by decide +kernel
theorem dX2_moveMostWorn_22 : decode cX2_moveMostWorn 22 = .ok (.invokevirtual 31, 3) := by decide +kernel
theorem dX2_moveMostWorn_25 : decode cX2_moveMostWorn 25 = .ok (.istore 7, 2) := by decide +kernel
theorem dX2_moveMostWorn_27 : decode cX2_moveMostWorn 27 = .ok (.iload 5, 2) := by decide +kernel
theorem dX2_moveMostWorn_29 : decode cX2_moveMostWorn 29 = .ok (.iload 7, 2) := by decide +kernel
theorem dX2_moveMostWorn_31 : decode cX2_moveMostWorn 31 = .ok (.isub, 1) := by decide +kernel
theorem dX2_moveMostWorn_32 : decode cX2_moveMostWorn 32 = .ok (.istore 5, 2) := by decide +kernel
theorem dX2_moveMostWorn_34 : decode cX2_moveMostWorn 34 = .ok (.iload 4, 2) := by decide +kernel
theorem dX2_moveMostWorn_36 : decode cX2_moveMostWorn 36 = .ok (.iload 7, 2) := by decide +kernel
theorem dX2_moveMostWorn_38 : decode cX2_moveMostWorn 38 = .ok (.iload 6, 2) := by decide +kernel
theorem dX2_moveMostWorn_40 : decode cX2_moveMostWorn 40 = .ok (.imul, 1) := by decide +kernel
theorem dX2_moveMostWorn_41 : decode cX2_moveMostWorn 41 = .ok (.iadd, 1) := by decide +kernel
theorem dX2_moveMostWorn_42 : decode cX2_moveMostWorn 42 = .ok (.istore 4, 2) := by decide +kernel
theorem dX2_moveMostWorn_44 : decode cX2_moveMostWorn 44 = .ok (.iinc 6 (-1), 3) := by decide +kernel
theorem dX2_moveMostWorn_47 : decode cX2_moveMostWorn 47 = .ok (.goto (-37), 3) := by decide +kernel
theorem dX2_moveMostWorn_50 : decode cX2_moveMostWorn 50 = .ok (.iload 4, 2) := by decide +kernel
theorem dX2_moveMostWorn_52 : decode cX2_moveMostWorn 52 = .ok (.ireturn, 1) := by decide +kernel
set_option maxRecDepth 20000 in
theorem ggX2_wearBy_X2_empty : GoodIn wsX2_wearBy wsX2_empty := goodIn_r _ [5, 6, 7, 8, 4, 9, 10, 11, 12, 13, 14, 15] (by decide +kernel) (by decide +kernel)
set_option maxRecDepth 20000 in
theorem gX2_wearBy_X2_empty : GoodIn wsX2_wearBy (wsV RX2 28 RX2 yX2_empty wsX2_empty) := goodIn_app (goodIn_of _ (by decide +kernel)) ggX2_wearBy_X2_empty
set_option maxRecDepth 20000 in
theorem ggX2_wearBy_X2_change : GoodIn wsX2_wearBy wsX2_change := goodIn_r _ [14, 10, 15] (by decide +kernel) (by decide +kernel)
set_option maxRecDepth 20000 in
theorem gX2_wearBy_X2_change : GoodIn wsX2_wearBy (wsV RX2 35 RX2 yX2_change wsX2_change) := goodIn_app (goodIn_of _ (by decide +kernel)) ggX2_wearBy_X2_change
theorem dX2_wearBy_0 : decode cX2_wearBy 0 = .ok (.iconst 0, 1) := by decide +kernel
theorem dX2_wearBy_1 : decode cX2_wearBy 1 = .ok (.istore_n 2, 1) := by decide +kernel
theorem dX2_wearBy_2 : decode cX2_wearBy 2 = .ok (.iconst 0, 1) := by decide +kernel
theorem dX2_wearBy_3 : decode cX2_wearBy 3 = .ok (.istore_n 3, 1) := by decide +kernel
theorem dX2_wearBy_4 : decode cX2_wearBy 4 = .ok (.iload_n 3, 1) := by decide +kernel
theorem dX2_wearBy_5 : decode cX2_wearBy 5 = .ok (.bipush 29, 2) := by decide +kernel
theorem dX2_wearBy_7 : decode cX2_wearBy 7 = .ok (.if_icmp .ge 61, 3) := by decide +kernel
theorem dX2_wearBy_10 : decode cX2_wearBy 10 = .ok (.bipush 9, 2) := by decide +kernel
theorem dX2_wearBy_12 : decode cX2_wearBy 12 = .ok (.istore 4, 2) := by decide +kernel
theorem dX2_wearBy_14 : decode cX2_wearBy 14 = .ok (.iload 4, 2) := by decide +kernel
theorem dX2_wearBy_16 : decode cX2_wearBy 16 = .ok (.ifCond .lt 46, 3) := by decide +kernel
theorem dX2_wearBy_19 : decode cX2_wearBy 19 = .ok (.aload_n 0, 1) := by decide +kernel
theorem dX2_wearBy_20 : decode cX2_wearBy 20 = .ok (.iload_n 3, 1) := by decide +kernel
theorem dX2_wearBy_21 : decode cX2_wearBy 21 = .ok (.iload 4, 2) := by decide +kernel
theorem dX2_wearBy_23 : decode cX2_wearBy 23 = .ok (.invokevirtual 28, 3) := by decide +kernel
theorem dX2_wearBy_26 : decode cX2_wearBy 26 = .ok (.istore 5, 2) := by decide +kernel
theorem dX2_wearBy_28 : decode cX2_wearBy 28 = .ok (.iload 4, 2) := by decide +kernel
theorem dX2_wearBy_30 : decode cX2_wearBy 30 = .ok (.iload_n 1, 1) := by decide +kernel
theorem dX2_wearBy_31 : decode cX2_wearBy 31 = .ok (.iadd, 1) := by decide +kernel
theorem dX2_wearBy_32 : decode cX2_wearBy 32 = .ok (.bipush 10, 2) := by decide +kernel
theorem dX2_wearBy_34 : decode cX2_wearBy 34 = .ok (.if_icmp .ge 17, 3) := by decide +kernel
theorem dX2_wearBy_37 : decode cX2_wearBy 37 = .ok (.aload_n 0, 1) := by decide +kernel
theorem dX2_wearBy_38 : decode cX2_wearBy 38 = .ok (.iload_n 3, 1) := by decide +kernel
theorem dX2_wearBy_39 : decode cX2_wearBy 39 = .ok (.iload 4, 2) := by decide +kernel
theorem dX2_wearBy_41 : decode cX2_wearBy 41 = .ok (.iload_n 1, 1) := by decide +kernel
theorem dX2_wearBy_42 : decode cX2_wearBy 42 = .ok (.iadd, 1) := by decide +kernel
theorem dX2_wearBy_43 : decode cX2_wearBy 43 = .ok (.iload 5, 2) := by decide +kernel
theorem dX2_wearBy_45 : decode cX2_wearBy 45 = .ok (.invokevirtual 35, 3) := by decide +kernel
theorem dX2_wearBy_48 : decode cX2_wearBy 48 = .ok (.goto 8, 3) := by decide +kernel
theorem dX2_wearBy_51 : decode cX2_wearBy 51 = .ok (.iload_n 2, 1) := by decide +kernel
theorem dX2_wearBy_52 : decode cX2_wearBy 52 = .ok (.iload 5, 2) := by decide +kernel
theorem dX2_wearBy_54 : decode cX2_wearBy 54 = .ok (.iadd, 1) := by decide +kernel
theorem dX2_wearBy_55 : decode cX2_wearBy 55 = .ok (.istore_n 2, 1) := by decide +kernel
theorem dX2_wearBy_56 : decode cX2_wearBy 56 = .ok (.iinc 4 (-1), 3) := by decide +kernel
theorem dX2_wearBy_59 : decode cX2_wearBy 59 = .ok (.goto (-45), 3) := by decide +kernel
theorem dX2_wearBy_62 : decode cX2_wearBy 62 = .ok (.iinc 3 1, 3) := by decide +kernel
theorem dX2_wearBy_65 : decode cX2_wearBy 65 = .ok (.goto (-61), 3) := by decide +kernel
theorem dX2_wearBy_68 : decode cX2_wearBy 68 = .ok (.iload_n 2, 1) := by decide +kernel
theorem dX2_wearBy_69 : decode cX2_wearBy 69 = .ok (.ireturn, 1) := by decide +kernel
theorem dX2_digestOnto_0 : decode cX2_digestOnto 0 = .ok (.lload_n 1, 1) := by decide +kernel
theorem dX2_digestOnto_1 : decode cX2_digestOnto 1 = .ok (.lstore_n 3, 1) := by decide +kernel
theorem dX2_digestOnto_2 : decode cX2_digestOnto 2 = .ok (.iconst 0, 1) := by decide +kernel
theorem dX2_digestOnto_3 : decode cX2_digestOnto 3 = .ok (.istore 5, 2) := by decide +kernel
theorem dX2_digestOnto_5 : decode cX2_digestOnto 5 = .ok (.iload 5, 2) := by decide +kernel
theorem dX2_digestOnto_7 : decode cX2_digestOnto 7 = .ok (.aload_n 0, 1) := by decide +kernel
theorem dX2_digestOnto_8 : decode cX2_digestOnto 8 = .ok (.getfield 9, 3) := by decide +kernel
theorem dX2_digestOnto_11 : decode cX2_digestOnto 11 = .ok (.arraylength, 1) := by decide +kernel
theorem dX2_digestOnto_12 : decode cX2_digestOnto 12 = .ok (.if_icmp .ge 24, 3) := by decide +kernel
theorem dX2_digestOnto_15 : decode cX2_digestOnto 15 = .ok (.lload_n 3, 1) := by decide +kernel
theorem dX2_digestOnto_16 : decode cX2_digestOnto 16 = .ok (.ldc2_w 39, 3) := by decide +kernel
theorem dX2_digestOnto_19 : decode cX2_digestOnto 19 = .ok (.lmul, 1) := by decide +kernel
theorem dX2_digestOnto_20 : decode cX2_digestOnto 20 = .ok (.aload_n 0, 1) := by decide +kernel
theorem dX2_digestOnto_21 : decode cX2_digestOnto 21 = .ok (.getfield 9, 3) := by decide +kernel
theorem dX2_digestOnto_24 : decode cX2_digestOnto 24 = .ok (.iload 5, 2) := by decide +kernel
theorem dX2_digestOnto_26 : decode cX2_digestOnto 26 = .ok (.iaload, 1) := by decide +kernel
theorem dX2_digestOnto_27 : decode cX2_digestOnto 27 = .ok (.i2l, 1) := by decide +kernel
theorem dX2_digestOnto_28 : decode cX2_digestOnto 28 = .ok (.ladd, 1) := by decide +kernel
theorem dX2_digestOnto_29 : decode cX2_digestOnto 29 = .ok (.lstore_n 3, 1) := by decide +kernel
theorem dX2_digestOnto_30 : decode cX2_digestOnto 30 = .ok (.iinc 5 1, 3) := by decide +kernel
theorem dX2_digestOnto_33 : decode cX2_digestOnto 33 = .ok (.goto (-28), 3) := by decide +kernel
theorem dX2_digestOnto_36 : decode cX2_digestOnto 36 = .ok (.lload_n 3, 1) := by decide +kernel
theorem dX2_digestOnto_37 : decode cX2_digestOnto 37 = .ok (.lreturn, 1) := by decide +kernel
set_option maxRecDepth 20000 in
theorem ggX2_moveAt_X2_at : GoodIn wsX2_moveAt wsX2_at := goodIn_r _ [9, 10, 15] (by decide +kernel) (by decide +kernel)
set_option maxRecDepth 20000 in
theorem gX2_moveAt_X2_at : GoodIn wsX2_moveAt (wsV RX2 15 RX2 yX2_at wsX2_at) := goodIn_app (goodIn_of _ (by decide +kernel)) ggX2_moveAt_X2_at
set_option maxRecDepth 20000 in
theorem ggX2_moveAt_X2_change : GoodIn wsX2_moveAt wsX2_change := goodIn_r _ [14, 10, 15] (by decide +kernel) (by decide +kernel)
set_option maxRecDepth 20000 in
theorem gX2_moveAt_X2_change : GoodIn wsX2_moveAt (wsV RX2 35 RX2 yX2_change wsX2_change) := goodIn_app (goodIn_of _ (by decide +kernel)) ggX2_moveAt_X2_change
theorem dX2_moveAt_0 : decode cX2_moveAt 0 = .ok (.iload 4, 2) := by decide +kernel
theorem dX2_moveAt_2 : decode cX2_moveAt 2 = .ok (.aload_n 0, 1) := by decide +kernel
theorem dX2_moveAt_3 : decode cX2_moveAt 3 = .ok (.iload_n 2, 1) := by decide +kernel
theorem dX2_moveAt_4 : decode cX2_moveAt 4 = .ok (.iload_n 3, 1) := by decide +kernel
theorem dX2_moveAt_5 : decode cX2_moveAt 5 = .ok (.invokevirtual 15, 3) := by decide +kernel
theorem dX2_moveAt_8 : decode cX2_moveAt 8 = .ok (.invokestatic 41, 3) := by decide +kernel
theorem dX2_moveAt_11 : decode cX2_moveAt 11 = .ok (.istore 5, 2) := by decide +kernel
theorem dX2_moveAt_13 : decode cX2_moveAt 13 = .ok (.aload_n 0, 1) := by decide +kernel
theorem dX2_moveAt_14 : decode cX2_moveAt 14 = .ok (.iload_n 2, 1) := by decide +kernel
theorem dX2_moveAt_15 : decode cX2_moveAt 15 = .ok (.iload_n 3, 1) := by decide +kernel
theorem dX2_moveAt_16 : decode cX2_moveAt 16 = .ok (.iload 5, 2) := by decide +kernel
theorem dX2_moveAt_18 : decode cX2_moveAt 18 = .ok (.ineg, 1) := by decide +kernel
theorem dX2_moveAt_19 : decode cX2_moveAt 19 = .ok (.invokevirtual 35, 3) := by decide +kernel
theorem dX2_moveAt_22 : decode cX2_moveAt 22 = .ok (.aload_n 1, 1) := by decide +kernel
theorem dX2_moveAt_23 : decode cX2_moveAt 23 = .ok (.iload_n 2, 1) := by decide +kernel
theorem dX2_moveAt_24 : decode cX2_moveAt 24 = .ok (.iload_n 3, 1) := by decide +kernel
theorem dX2_moveAt_25 : decode cX2_moveAt 25 = .ok (.iload 5, 2) := by decide +kernel
theorem dX2_moveAt_27 : decode cX2_moveAt 27 = .ok (.invokevirtual 35, 3) := by decide +kernel
theorem dX2_moveAt_30 : decode cX2_moveAt 30 = .ok (.iload 5, 2) := by decide +kernel
theorem dX2_moveAt_32 : decode cX2_moveAt 32 = .ok (.ireturn, 1) := by decide +kernel
set_option maxRecDepth 20000 in
theorem ggX2_empty_X2_at : GoodIn wsX2_empty wsX2_at := goodIn_r _ [5, 6, 11] (by decide +kernel) (by decide +kernel)
set_option maxRecDepth 20000 in
theorem gX2_empty_X2_at : GoodIn wsX2_empty (wsV RX2 15 RX2 yX2_at wsX2_at) := goodIn_app (goodIn_of _ (by decide +kernel)) ggX2_empty_X2_at
set_option maxRecDepth 20000 in
theorem ggX2_empty_X2_change : GoodIn wsX2_empty wsX2_change := goodIn_r _ [10, 6, 11] (by decide +kernel) (by decide +kernel)
set_option maxRecDepth 20000 in
theorem gX2_empty_X2_change : GoodIn wsX2_empty (wsV RX2 35 RX2 yX2_change wsX2_change) := goodIn_app (goodIn_of _ (by decide +kernel)) ggX2_empty_X2_change
theorem dX2_empty_0 : decode cX2_empty 0 = .ok (.aload_n 0, 1) := by decide +kernel
theorem dX2_empty_1 : decode cX2_empty 1 = .ok (.iload_n 1, 1) := by decide +kernel
theorem dX2_empty_2 : decode cX2_empty 2 = .ok (.iload_n 2, 1) := by decide +kernel
theorem dX2_empty_3 : decode cX2_empty 3 = .ok (.invokevirtual 15, 3) := by decide +kernel
theorem dX2_empty_6 : decode cX2_empty 6 = .ok (.istore_n 3, 1) := by decide +kernel
theorem dX2_empty_7 : decode cX2_empty 7 = .ok (.aload_n 0, 1) := by decide +kernel
theorem dX2_empty_8 : decode cX2_empty 8 = .ok (.iload_n 1, 1) := by decide +kernel
theorem dX2_empty_9 : decode cX2_empty 9 = .ok (.iload_n 2, 1) := by decide +kernel
theorem dX2_empty_10 : decode cX2_empty 10 = .ok (.iload_n 3, 1) := by decide +kernel
theorem dX2_empty_11 : decode cX2_empty 11 = .ok (.ineg, 1) := by decide +kernel
theorem dX2_empty_12 : decode cX2_empty 12 = .ok (.invokevirtual 35, 3) := by decide +kernel
theorem dX2_empty_15 : decode cX2_empty 15 = .ok (.iload_n 3, 1) := by decide +kernel
theorem dX2_empty_16 : decode cX2_empty 16 = .ok (.ireturn, 1) := by decide +kernel
theorem dX3_init_0 : decode cX3_init 0 = .ok (.aload_n 0, 1) := by decide +kernel
theorem dX3_init_1 : decode cX3_init 1 = .ok (.invokespecial 3, 3) := by decide +kernel
theorem dX3_init_4 : decode cX3_init 4 = .ok (.aload_n 0, 1) := by decide +kernel
theorem dX3_init_5 : decode cX3_init 5 = .ok (.bipush 6, 2) := by decide +kernel
theorem dX3_init_7 : decode cX3_init 7 = .ok (.newarray .int, 2) := by decide +kernel
theorem dX3_init_9 : decode cX3_init 9 = .ok (.putfield 9, 3) := by decide +kernel
theorem dX3_init_12 : decode cX3_init 12 = .ok (.aload_n 0, 1) := by decide +kernel
theorem dX3_init_13 : decode cX3_init 13 = .ok (.bipush 6, 2) := by decide +kernel
theorem dX3_init_15 : decode cX3_init 15 = .ok (.putfield 15, 3) := by decide +kernel
theorem dX3_init_18 : decode cX3_init 18 = .ok (.return_, 1) := by decide +kernel
theorem dX3_spell_0 : decode cX3_spell 0 = .ok (.iload_n 1, 1) := by decide +kernel
theorem dX3_spell_1 : decode cX3_spell 1 = .ok (.iconst 1, 1) := by decide +kernel
theorem dX3_spell_2 : decode cX3_spell 2 = .ok (.if_icmp .lt 9, 3) := by decide +kernel
theorem dX3_spell_5 : decode cX3_spell 5 = .ok (.iload_n 1, 1) := by decide +kernel
theorem dX3_spell_6 : decode cX3_spell 6 = .ok (.ldc 19, 2) := by decide +kernel
theorem dX3_spell_8 : decode cX3_spell 8 = .ok (.if_icmp .le 5, 3) := by decide +kernel
theorem dX3_spell_11 : decode cX3_spell 11 = .ok (.iconst 0, 1) := by decide +kernel
theorem dX3_spell_12 : decode cX3_spell 12 = .ok (.ireturn, 1) := by decide +kernel
theorem dX3_spell_13 : decode cX3_spell 13 = .ok (.iload_n 1, 1) := by decide +kernel
theorem dX3_spell_14 : decode cX3_spell 14 = .ok (.istore_n 2, 1) := by decide +kernel
theorem dX3_spell_15 : decode cX3_spell 15 = .ok (.iconst 5, 1) := by decide +kernel
theorem dX3_spell_16 : decode cX3_spell 16 = .ok (.istore_n 3, 1) := by decide +kernel
theorem dX3_spell_17 : decode cX3_spell 17 = .ok (.iload_n 3, 1) := by decide +kernel
theorem dX3_spell_18 : decode cX3_spell 18 = .ok (.ifCond .lt 46, 3) := by decide +kernel
theorem dX3_spell_21 : decode cX3_spell 21 = .ok (.iload_n 2, 1) := by decide +kernel
theorem dX3_spell_22 : decode cX3_spell 22 = .ok (.ifCond .le 42, 3) := by decide +kernel
theorem dX3_spell_25 : decode cX3_spell 25 = .ok (.iload_n 2, 1) := by decide +kernel
theorem dX3_spell_26 : decode cX3_spell 26 = .ok (.bipush 27, 2) := by decide +kernel
theorem dX3_spell_28 : decode cX3_spell 28 = .ok (.irem, 1) := by decide +kernel
theorem dX3_spell_29 : decode cX3_spell 29 = .ok (.istore 4, 2) := by decide +kernel
theorem dX3_spell_31 : decode cX3_spell 31 = .ok (.iload 4, 2) := by decide +kernel
theorem dX3_spell_33 : decode cX3_spell 33 = .ok (.ifCond .ne 5, 3) := by decide +kernel
theorem dX3_spell_36 : decode cX3_spell 36 = .ok (.iconst 0, 1) := by decide +kernel
theorem dX3_spell_37 : decode cX3_spell 37 = .ok (.ireturn, 1) := by decide +kernel
theorem dX3_spell_38 : decode cX3_spell 38 = .ok (.aload_n 0, 1) := by decide +kernel
theorem dX3_spell_39 : decode cX3_spell 39 = .ok (.getfield 9, 3) := by decide +kernel
theorem dX3_spell_42 : decode cX3_spell 42 = .ok (.iload_n 3, 1) := by decide +kernel
theorem dX3_spell_43 : decode cX3_spell 43 = .ok (.iload 4, 2) := by decide +kernel
theorem dX3_spell_45 : decode cX3_spell 45 = .ok (.iconst 1, 1) := by decide +kernel
theorem dX3_spell_46 : decode cX3_spell 46 = .ok (.isub, 1) := by decide +kernel
theorem dX3_spell_47 : decode cX3_spell 47 = .ok (.iastore, 1) := by decide +kernel
theorem dX3_spell_48 : decode cX3_spell 48 = .ok (.aload_n 0, 1) := by decide +kernel
theorem dX3_spell_49 : decode cX3_spell 49 = .ok (.iload_n 3, 1) := by decide +kernel
theorem dX3_spell_50 : decode cX3_spell 50 = .ok (.putfield 15, 3) := by decide +kernel
theorem dX3_spell_53 : decode cX3_spell 53 = .ok (.iload_n 2, 1) := by decide +kernel
theorem dX3_spell_54 : decode cX3_spell 54 = .ok (.bipush 27, 2) := by decide +kernel
theorem dX3_spell_56 : decode cX3_spell 56 = .ok (.idiv, 1) := by decide +kernel
theorem dX3_spell_57 : decode cX3_spell 57 = .ok (.istore_n 2, 1) := by decide +kernel
theorem dX3_spell_58 : decode cX3_spell 58 = .ok (.iinc 3 (-1), 3) := by decide +kernel
theorem dX3_spell_61 : decode cX3_spell 61 = .ok (.goto (-44), 3) := by decide +kernel
theorem dX3_spell_64 : decode cX3_spell 64 = .ok (.iconst 1, 1) := by decide +kernel
theorem dX3_spell_65 : decode cX3_spell 65 = .ok (.ireturn, 1) := by decide +kernel
theorem dX3_firstPlace_0 : decode cX3_firstPlace 0 = .ok (.aload_n 0, 1) := by decide +kernel
theorem dX3_firstPlace_1 : decode cX3_firstPlace 1 = .ok (.getfield 15, 3) := by decide +kernel
theorem dX3_firstPlace_4 : decode cX3_firstPlace 4 = .ok (.ireturn, 1) := by decide +kernel
theorem dX3_letterAt_0 : decode cX3_letterAt 0 = .ok (.iload_n 1, 1) := by decide +kernel
theorem dX3_letterAt_1 : decode cX3_letterAt 1 = .ok (.ifCond .lt 17, 3) := by decide +kernel
theorem dX3_letterAt_4 : decode cX3_letterAt 4 = .ok (.iload_n 1, 1) := by decide +kernel
theorem dX3_letterAt_5 : decode cX3_letterAt 5 = .ok (.aload_n 0, 1) := by decide +kernel
theorem dX3_letterAt_6 : decode cX3_letterAt 6 = .ok (.getfield 15, 3) := by decide +kernel
theorem dX3_letterAt_9 : decode cX3_letterAt 9 = .ok (.if_icmp .lt 9, 3) := by decide +kernel
theorem dX3_letterAt_12 : decode cX3_letterAt 12 = .ok (.iload_n 1, 1) := by decide +kernel
theorem dX3_letterAt_13 : decode cX3_letterAt 13 = .ok (.bipush 6, 2) := by decide +kernel
theorem dX3_letterAt_15 : decode cX3_letterAt 15 = .ok (.if_icmp .lt 5, 3) := by decide +kernel
theorem dX3_letterAt_18 : decode cX3_letterAt 18 = .ok (.iconst (-1), 1) := by decide +kernel
theorem dX3_letterAt_19 : decode cX3_letterAt 19 = .ok (.ireturn, 1) := by decide +kernel
theorem dX3_letterAt_20 : decode cX3_letterAt 20 = .ok (.aload_n 0, 1) := by decide +kernel
theorem dX3_letterAt_21 : decode cX3_letterAt 21 = .ok (.getfield 9, 3) := by decide +kernel
theorem dX3_letterAt_24 : decode cX3_letterAt 24 = .ok (.iload_n 1, 1) := by decide +kernel
theorem dX3_letterAt_25 : decode cX3_letterAt 25 = .ok (.iaload, 1) := by decide +kernel
theorem dX3_letterAt_26 : decode cX3_letterAt 26 = .ok (.ireturn, 1) := by decide +kernel
set_option maxRecDepth 20000 in
theorem ggX3_ligatureAt_X3_letterAt : GoodIn wsX3_ligatureAt wsX3_letterAt := goodIn_r _ [5, 6, 7, 8, 9] (by decide +kernel) (by decide +kernel)
set_option maxRecDepth 20000 in
theorem gX3_ligatureAt_X3_letterAt : GoodIn wsX3_ligatureAt (wsV RX3 20 RX3 yX3_letterAt wsX3_letterAt) := goodIn_app (goodIn_of _ (by decide +kernel)) ggX3_ligatureAt_X3_letterAt
theorem dX3_ligatureAt_0 : decode cX3_ligatureAt 0 = .ok (.aload_n 0, 1) := by decide +kernel
theorem dX3_ligatureAt_1 : decode cX3_ligatureAt 1 = .ok (.iload_n 1, 1) := by decide +kernel
theorem dX3_ligatureAt_2 : decode cX3_ligatureAt 2 = .ok (.invokevirtual 20, 3) := by decide +kernel
theorem dX3_ligatureAt_5 : decode cX3_ligatureAt 5 = .ok (.iconst 5, 1) := by decide +kernel
theorem dX3_ligatureAt_6 : decode cX3_ligatureAt 6 = .ok (.if_icmp .eq 5, 3) := by decide +kernel
theorem dX3_ligatureAt_9 : decode cX3_ligatureAt 9 = .ok (.iconst (-1), 1) := by decide +kernel
theorem dX3_ligatureAt_10 : decode cX3_ligatureAt 10 = .ok (.ireturn, 1) := by decide +kernel
theorem dX3_ligatureAt_11 : decode cX3_ligatureAt 11 = .ok (.aload_n 0, 1) := by decide +kernel
theorem dX3_ligatureAt_12 : decode cX3_ligatureAt 12 = .ok (.iload_n 1, 1) := by decide +kernel
theorem dX3_ligatureAt_13 : decode cX3_ligatureAt 13 = .ok (.iconst 1, 1) := by decide +kernel
theorem dX3_ligatureAt_14 : decode cX3_ligatureAt 14 = .ok (.iadd, 1) := by decide +kernel
theorem dX3_ligatureAt_15 : decode cX3_ligatureAt 15 = .ok (.invokevirtual 20, 3) := by decide +kernel
theorem dX3_ligatureAt_18 : decode cX3_ligatureAt 18 = .ok (.lookupswitch 43 #[(5, 40), (8, 34), (11, 37)], 34) := by decide +kernel
theorem dX3_ligatureAt_52 : decode cX3_ligatureAt 52 = .ok (.bipush 26, 2) := by decide +kernel
theorem dX3_ligatureAt_54 : decode cX3_ligatureAt 54 = .ok (.ireturn, 1) := by decide +kernel
theorem dX3_ligatureAt_55 : decode cX3_ligatureAt 55 = .ok (.bipush 27, 2) := by decide +kernel
theorem dX3_ligatureAt_57 : decode cX3_ligatureAt 57 = .ok (.ireturn, 1) := by decide +kernel
theorem dX3_ligatureAt_58 : decode cX3_ligatureAt 58 = .ok (.bipush 28, 2) := by decide +kernel
theorem dX3_ligatureAt_60 : decode cX3_ligatureAt 60 = .ok (.ireturn, 1) := by decide +kernel
theorem dX3_ligatureAt_61 : decode cX3_ligatureAt 61 = .ok (.iconst (-1), 1) := by decide +kernel
theorem dX3_ligatureAt_62 : decode cX3_ligatureAt 62 = .ok (.ireturn, 1) := by decide +kernel
set_option maxRecDepth 20000 in
theorem ggX3_howOften_X3_letterAt : GoodIn wsX3_howOften wsX3_letterAt := goodIn_r _ [6, 1, 7, 8, 9] (by decide +kernel) (by decide +kernel)
set_option maxRecDepth 20000 in
theorem gX3_howOften_X3_letterAt : GoodIn wsX3_howOften (wsV RX3 20 RX3 yX3_letterAt wsX3_letterAt) := goodIn_app (goodIn_of _ (by decide +kernel)) ggX3_howOften_X3_letterAt
theorem dX3_howOften_0 : decode cX3_howOften 0 = .ok (.iconst 0, 1) := by decide +kernel
theorem dX3_howOften_1 : decode cX3_howOften 1 = .ok (.istore_n 2, 1) := by decide +kernel
theorem dX3_howOften_2 : decode cX3_howOften 2 = .ok (.aload_n 0, 1) := by decide +kernel
theorem dX3_howOften_3 : decode cX3_howOften 3 = .ok (.getfield 15, 3) := by decide +kernel
theorem dX3_howOften_6 : decode cX3_howOften 6 = .ok (.istore_n 3, 1) := by decide +kernel
theorem dX3_howOften_7 : decode cX3_howOften 7 = .ok (.iload_n 3, 1) := by decide +kernel
theorem dX3_howOften_8 : decode cX3_howOften 8 = .ok (.bipush 6, 2) := by decide +kernel
theorem dX3_howOften_10 : decode cX3_howOften 10 = .ok (.if_icmp .ge 21, 3) := by decide +kernel
theorem dX3_howOften_13 : decode cX3_howOften 13 = .ok (.aload_n 0, 1) := by decide +kernel
theorem dX3_howOften_14 : decode cX3_howOften 14 = .ok (.iload_n 3, 1) := by decide +kernel
theorem dX3_howOften_15 : decode cX3_howOften 15 = .ok (.invokevirtual 20, 3) := by decide +kernel
theorem dX3_howOften_18 : decode cX3_howOften 18 = .ok (.iload_n 1, 1) := by decide +kernel
theorem dX3_howOften_19 : decode cX3_howOften 19 = .ok (.if_icmp .ne 6, 3) := by decide +kernel
theorem dX3_howOften_22 : decode cX3_howOften 22 = .ok (.iinc 2 1, 3) := by decide +kernel
theorem dX3_howOften_25 : decode cX3_howOften 25 = .ok (.iinc 3 1, 3) := by decide +kernel
theorem dX3_howOften_28 : decode cX3_howOften 28 = .ok (.goto (-21), 3) := by decide +kernel
theorem dX3_howOften_31 : decode cX3_howOften 31 = .ok (.iload_n 2, 1) := by decide +kernel
theorem dX3_howOften_32 : decode cX3_howOften 32 = .ok (.ireturn, 1) := by decide +kernel
set_option maxRecDepth 20000 in
theorem ggX4_init_X2_init : GoodIn wsX4_init wsX2_init := goodIn_r _ [20, 21, 2, 3, 22, 23, 34] (by decide +kernel) (by decide +kernel)
set_option maxRecDepth 20000 in
theorem gX4_init_X2_init_n9 : GoodIn wsX4_init (wsX2_init) := ggX4_init_X2_init
set_option maxRecDepth 20000 in
theorem ggX4_init_X3_init : GoodIn wsX4_init wsX3_init := goodIn_r _ [25, 26, 2, 3, 22, 27, 28, 46, 47] (by decide +kernel) (by decide +kernel)
set_option maxRecDepth 20000 in
theorem gX4_init_X3_init_n28 : GoodIn wsX4_init (wsX3_init) := ggX4_init_X3_init
set_option maxRecDepth 20000 in
theorem ggX4_init_X1_init : GoodIn wsX4_init wsX1_init := goodIn_r _ [30, 31, 2, 3, 22, 32, 33, 48, 49] (by decide +kernel) (by decide +kernel)
set_option maxRecDepth 20000 in
theorem gX4_init_X1_init_n35 : GoodIn wsX4_init (wsX1_init) := ggX4_init_X1_init
theorem dX4_init_0 : decode cX4_init 0 = .ok (.aload_n 0, 1) := by decide +kernel
theorem dX4_init_1 : decode cX4_init 1 = .ok (.invokespecial 1, 3) := by decide +kernel
theorem dX4_init_4 : decode cX4_init 4 = .ok (.aload_n 0, 1) := by decide +kernel
theorem dX4_init_5 : decode cX4_init 5 = .ok (.new 7, 3) := by decide +kernel
theorem dX4_init_8 : decode cX4_init 8 = .ok (.dup, 1) := by decide +kernel
theorem dX4_init_9 : decode cX4_init 9 = .ok (.invokespecial 9, 3) := by decide +kernel
theorem dX4_init_12 : decode cX4_init 12 = .ok (.putfield 10, 3) := by decide +kernel
theorem dX4_init_15 : decode cX4_init 15 = .ok (.aload_n 0, 1) := by decide +kernel
theorem dX4_init_16 : decode cX4_init 16 = .ok (.bipush 6, 2) := by decide +kernel
theorem dX4_init_18 : decode cX4_init 18 = .ok (.anewarray 16, 3) := by decide +kernel
theorem dX4_init_21 : decode cX4_init 21 = .ok (.putfield 18, 3) := by decide +kernel
theorem dX4_init_24 : decode cX4_init 24 = .ok (.aload_n 0, 1) := by decide +kernel
theorem dX4_init_25 : decode cX4_init 25 = .ok (.sipush 500, 3) := by decide +kernel
theorem dX4_init_28 : decode cX4_init 28 = .ok (.putfield 22, 3) := by decide +kernel
theorem dX4_init_31 : decode cX4_init 31 = .ok (.aload_n 0, 1) := by decide +kernel
theorem dX4_init_32 : decode cX4_init 32 = .ok (.new 26, 3) := by decide +kernel
theorem dX4_init_35 : decode cX4_init 35 = .ok (.dup, 1) := by decide +kernel
theorem dX4_init_36 : decode cX4_init 36 = .ok (.invokespecial 28, 3) := by decide +kernel
theorem dX4_init_39 : decode cX4_init 39 = .ok (.putfield 29, 3) := by decide +kernel
theorem dX4_init_42 : decode cX4_init 42 = .ok (.aload_n 0, 1) := by decide +kernel
theorem dX4_init_43 : decode cX4_init 43 = .ok (.new 33, 3) := by decide +kernel
theorem dX4_init_46 : decode cX4_init 46 = .ok (.dup, 1) := by decide +kernel
theorem dX4_init_47 : decode cX4_init 47 = .ok (.invokespecial 35, 3) := by decide +kernel
theorem dX4_init_50 : decode cX4_init 50 = .ok (.putfield 36, 3) := by decide +kernel
theorem dX4_init_53 : decode cX4_init 53 = .ok (.return_, 1) := by decide +kernel
set_option maxRecDepth 20000 in
theorem ggX4_cast_X4_needSign : GoodIn wsX4_cast wsX4_needSign := goodIn_ca (goodIn_r _ [9, 10, 11] (by decide +kernel) (by decide +kernel)) (goodIn_sub (fun _ h => List.mem_cons_of_mem _ (List.mem_append_left _ (List.mem_append_right _ h))) (by decide +kernel))
set_option maxRecDepth 20000 in
theorem gX4_cast_X4_needSign : GoodIn wsX4_cast (va_wsS RX4 40 yX4_needSign wsX4_needSign) := goodIn_app (goodIn_of _ (by decide +kernel)) ggX4_cast_X4_needSign
set_option maxRecDepth 20000 in
theorem ggX4_cast_X4_needMany : GoodIn wsX4_cast wsX4_needMany := goodIn_ca (goodIn_r _ [14, 15, 16] (by decide +kernel) (by decide +kernel)) (goodIn_sub (fun _ h => List.mem_cons_of_mem _ (List.mem_append_right _ h)) (by decide +kernel))
set_option maxRecDepth 20000 in
theorem gX4_cast_X4_needMany : GoodIn wsX4_cast (va_wsS RX4 44 yX4_needMany wsX4_needMany) := goodIn_app (goodIn_of _ (by decide +kernel)) ggX4_cast_X4_needMany
set_option maxRecDepth 20000 in
theorem ggX4_cast_X4_isLigature : GoodIn wsX4_cast wsX4_isLigature := goodIn_r _ [19] (by decide +kernel) (by decide +kernel)
set_option maxRecDepth 20000 in
theorem gX4_cast_X4_isLigature : GoodIn wsX4_cast (va_wsS RX4 47 yX4_isLigature wsX4_isLigature) := goodIn_app (goodIn_of _ (by decide +kernel)) ggX4_cast_X4_isLigature
set_option maxRecDepth 20000 in
theorem ggX4_cast_X2_ofSign : GoodIn wsX4_cast wsX2_ofSign := goodIn_r _ [24, 25, 26, 27, 23, 28, 29, 45] (by decide +kernel) (by decide +kernel)
set_option maxRecDepth 20000 in
theorem gX4_cast_X2_ofSign : GoodIn wsX4_cast (wsV RX4 58 RX2 yX2_ofSign wsX2_ofSign) := goodIn_app (goodIn_of _ (by decide +kernel)) ggX4_cast_X2_ofSign
set_option maxRecDepth 20000 in
theorem ggX4_cast_X2_change : GoodIn wsX4_cast wsX2_change := goodIn_r _ [33, 29, 45] (by decide +kernel) (by decide +kernel)
set_option maxRecDepth 20000 in
theorem gX4_cast_X2_change : GoodIn wsX4_cast (wsV RX4 64 RX2 yX2_change wsX2_change) := goodIn_app (goodIn_of _ (by decide +kernel)) ggX4_cast_X2_change
theorem dX4_cast_0 : decode cX4_cast 0 = .ok (.iload_n 1, 1) := by decide +kernel
theorem dX4_cast_1 : decode cX4_cast 1 = .ok (.invokestatic 40, 3) := by decide +kernel
theorem dX4_cast_4 : decode cX4_cast 4 = .ok (.iload_n 2, 1) := by decide +kernel
theorem dX4_cast_5 : decode cX4_cast 5 = .ok (.invokestatic 44, 3) := by decide +kernel
theorem dX4_cast_8 : decode cX4_cast 8 = .ok (.iload_n 2, 1) := by decide +kernel
theorem dX4_cast_9 : decode cX4_cast 9 = .ok (.iload_n 1, 1) := by decide +kernel
theorem dX4_cast_10 : decode cX4_cast 10 = .ok (.invokestatic 47, 3) := by decide +kernel
theorem dX4_cast_13 : decode cX4_cast 13 = .ok (.ifCond .eq 7, 3) := by decide +kernel
theorem dX4_cast_16 : decode cX4_cast 16 = .ok (.iconst 3, 1) := by decide +kernel
theorem dX4_cast_17 : decode cX4_cast 17 = .ok (.goto 4, 3) := by decide +kernel
theorem dX4_cast_20 : decode cX4_cast 20 = .ok (.iconst 2, 1) := by decide +kernel
theorem dX4_cast_21 : decode cX4_cast 21 = .ok (.imul, 1) := by decide +kernel
theorem dX4_cast_22 : decode cX4_cast 22 = .ok (.istore_n 3, 1) := by decide +kernel
theorem dX4_cast_23 : decode cX4_cast 23 = .ok (.iload_n 3, 1) := by decide +kernel
theorem dX4_cast_24 : decode cX4_cast 24 = .ok (.aload_n 0, 1) := by decide +kernel
theorem dX4_cast_25 : decode cX4_cast 25 = .ok (.getfield 22, 3) := by decide +kernel
theorem dX4_cast_28 : decode cX4_cast 28 = .ok (.if_icmp .le 13, 3) := by decide +kernel
theorem dX4_cast_31 : decode cX4_cast 31 = .ok (.new 51, 3) := by decide +kernel
theorem dX4_cast_34 : decode cX4_cast 34 = .ok (.dup, 1) := by decide +kernel
theorem dX4_cast_35 : decode cX4_cast 35 = .ok (.ldc 53, 2) := by decide +kernel
theorem dX4_cast_37 : decode cX4_cast 37 = .ok (.invokespecial 55, 3) := by decide +kernel
theorem dX4_cast_40 : decode cX4_cast 40 = .ok (.athrow, 1) := by decide +kernel
theorem dX4_cast_41 : decode cX4_cast 41 = .ok (.aload_n 0, 1) := by decide +kernel
theorem dX4_cast_42 : decode cX4_cast 42 = .ok (.getfield 10, 3) := by decide +kernel
theorem dX4_cast_45 : decode cX4_cast 45 = .ok (.iload_n 1, 1) := by decide +kernel
theorem dX4_cast_46 : decode cX4_cast 46 = .ok (.invokevirtual 58, 3) := by decide +kernel
theorem dX4_cast_49 : decode cX4_cast 49 = .ok (.iload_n 2, 1) := by decide +kernel
theorem dX4_cast_50 : decode cX4_cast 50 = .ok (.iadd, 1) := by decide +kernel
theorem dX4_cast_51 : decode cX4_cast 51 = .ok (.sipush 999, 3) := by decide +kernel
theorem dX4_cast_54 : decode cX4_cast 54 = .ok (.if_icmp .le 13, 3) := by decide +kernel
theorem dX4_cast_57 : decode cX4_cast 57 = .ok (.new 51, 3) := by decide +kernel
theorem dX4_cast_60 : decode cX4_cast 60 = .ok (.dup, 1) := by decide +kernel
theorem dX4_cast_61 : decode cX4_cast 61 = .ok (.ldc 62, 2) := by decide +kernel
theorem dX4_cast_63 : decode cX4_cast 63 = .ok (.invokespecial 55, 3) := by decide +kernel
theorem dX4_cast_66 : decode cX4_cast 66 = .ok (.athrow, 1) := by decide +kernel
theorem dX4_cast_67 : decode cX4_cast 67 = .ok (.aload_n 0, 1) := by decide +kernel
theorem dX4_cast_68 : decode cX4_cast 68 = .ok (.dup, 1) := by decide +kernel
theorem dX4_cast_69 : decode cX4_cast 69 = .ok (.getfield 22, 3) := by decide +kernel
theorem dX4_cast_72 : decode cX4_cast 72 = .ok (.iload_n 3, 1) := by decide +kernel
theorem dX4_cast_73 : decode cX4_cast 73 = .ok (.isub, 1) := by decide +kernel
theorem dX4_cast_74 : decode cX4_cast 74 = .ok (.putfield 22, 3) := by decide +kernel
theorem dX4_cast_77 : decode cX4_cast 77 = .ok (.aload_n 0, 1) := by decide +kernel
theorem dX4_cast_78 : decode cX4_cast 78 = .ok (.getfield 10, 3) := by decide +kernel
theorem dX4_cast_81 : decode cX4_cast 81 = .ok (.iload_n 1, 1) := by decide +kernel
theorem dX4_cast_82 : decode cX4_cast 82 = .ok (.iconst 0, 1) := by decide +kernel
theorem dX4_cast_83 : decode cX4_cast 83 = .ok (.iload_n 2, 1) := by decide +kernel
theorem dX4_cast_84 : decode cX4_cast 84 = .ok (.invokevirtual 64, 3) := by decide +kernel
theorem dX4_cast_87 : decode cX4_cast 87 = .ok (.aload_n 0, 1) := by decide +kernel
theorem dX4_cast_88 : decode cX4_cast 88 = .ok (.dup, 1) := by decide +kernel
theorem dX4_cast_89 : decode cX4_cast 89 = .ok (.getfield 68, 3) := by decide +kernel
theorem dX4_cast_92 : decode cX4_cast 92 = .ok (.iload_n 2, 1) := by decide +kernel
theorem dX4_cast_93 : decode cX4_cast 93 = .ok (.iadd, 1) := by decide +kernel
theorem dX4_cast_94 : decode cX4_cast 94 = .ok (.putfield 68, 3) := by decide +kernel
theorem dX4_cast_97 : decode cX4_cast 97 = .ok (.aload_n 0, 1) := by decide +kernel
theorem dX4_cast_98 : decode cX4_cast 98 = .ok (.getfield 22, 3) := by decide +kernel
theorem dX4_cast_101 : decode cX4_cast 101 = .ok (.ireturn, 1) := by decide +kernel
set_option maxRecDepth 20000 in
theorem ggX4_melt_X2_metalFrom : GoodIn wsX4_melt wsX2_metalFrom := goodIn_r _ [12, 13, 14, 15, 11, 16, 17, 18, 19, 20, 44] (by decide +kernel) (by decide +kernel)
set_option maxRecDepth 20000 in
theorem gX4_melt_X2_metalFrom : GoodIn wsX4_melt (wsV RX4 76 RX2 yX2_metalFrom wsX2_metalFrom) := goodIn_app (goodIn_of _ (by decide +kernel)) ggX4_melt_X2_metalFrom
set_option maxRecDepth 20000 in
theorem ggX4_melt_X2_dropFrom : GoodIn wsX4_melt wsX2_dropFrom := goodIn_r _ [24, 25, 26, 27, 11, 28, 13, 14, 15, 16, 17, 29, 30, 31, 32, 44] (by decide +kernel) (by decide +kernel)
set_option maxRecDepth 20000 in
theorem gX4_melt_X2_dropFrom : GoodIn wsX4_melt (wsV RX4 81 RX2 yX2_dropFrom wsX2_dropFrom) := goodIn_app (goodIn_of _ (by decide +kernel)) ggX4_melt_X2_dropFrom
theorem dX4_melt_0 : decode cX4_melt 0 = .ok (.iload_n 1, 1) := by decide +kernel
theorem dX4_melt_1 : decode cX4_melt 1 = .ok (.iconst 1, 1) := by decide +kernel
theorem dX4_melt_2 : decode cX4_melt 2 = .ok (.if_icmp .lt 9, 3) := by decide +kernel
theorem dX4_melt_5 : decode cX4_melt 5 = .ok (.iload_n 1, 1) := by decide +kernel
theorem dX4_melt_6 : decode cX4_melt 6 = .ok (.bipush 10, 2) := by decide +kernel
theorem dX4_melt_8 : decode cX4_melt 8 = .ok (.if_icmp .lt 13, 3) := by decide +kernel
theorem dX4_melt_11 : decode cX4_melt 11 = .ok (.new 71, 3) := by decide +kernel
theorem dX4_melt_14 : decode cX4_melt 14 = .ok (.dup, 1) := by decide +kernel
theorem dX4_melt_15 : decode cX4_melt 15 = .ok (.ldc 73, 2) := by decide +kernel
theorem dX4_melt_17 : decode cX4_melt 17 = .ok (.invokespecial 75, 3) := by decide +kernel
theorem dX4_melt_20 : decode cX4_melt 20 = .ok (.athrow, 1) := by decide +kernel
theorem dX4_melt_21 : decode cX4_melt 21 = .ok (.aload_n 0, 1) := by decide +kernel
theorem dX4_melt_22 : decode cX4_melt 22 = .ok (.getfield 10, 3) := by decide +kernel
theorem dX4_melt_25 : decode cX4_melt 25 = .ok (.iload_n 1, 1) := by decide +kernel
theorem dX4_melt_26 : decode cX4_melt 26 = .ok (.invokevirtual 76, 3) := by decide +kernel
theorem dX4_melt_29 : decode cX4_melt 29 = .ok (.istore_n 2, 1) := by decide +kernel
theorem dX4_melt_30 : decode cX4_melt 30 = .ok (.aload_n 0, 1) := by decide +kernel
theorem dX4_melt_31 : decode cX4_melt 31 = .ok (.getfield 22, 3) := by decide +kernel
theorem dX4_melt_34 : decode cX4_melt 34 = .ok (.iload_n 2, 1) := by decide +kernel
theorem dX4_melt_35 : decode cX4_melt 35 = .ok (.iadd, 1) := by decide +kernel
theorem dX4_melt_36 : decode cX4_melt 36 = .ok (.sipush 9999, 3) := by decide +kernel
theorem dX4_melt_39 : decode cX4_melt 39 = .ok (.if_icmp .le 13, 3) := by decide +kernel
theorem dX4_melt_42 : decode cX4_melt 42 = .ok (.new 51, 3) := by decide +kernel
theorem dX4_melt_45 : decode cX4_melt 45 = .ok (.dup, 1) := by decide +kernel
theorem dX4_melt_46 : decode cX4_melt 46 = .ok (.ldc 79, 2) := by decide +kernel
theorem dX4_melt_48 : decode cX4_melt 48 = .ok (.invokespecial 55, 3) := by decide +kernel
theorem dX4_melt_51 : decode cX4_melt 51 = .ok (.athrow, 1) := by decide +kernel
theorem dX4_melt_52 : decode cX4_melt 52 = .ok (.aload_n 0, 1) := by decide +kernel
theorem dX4_melt_53 : decode cX4_melt 53 = .ok (.getfield 10, 3) := by decide +kernel
theorem dX4_melt_56 : decode cX4_melt 56 = .ok (.iload_n 1, 1) := by decide +kernel
theorem dX4_melt_57 : decode cX4_melt 57 = .ok (.invokevirtual 81, 3) := by decide +kernel
theorem dX4_melt_60 : decode cX4_melt 60 = .ok (.istore_n 3, 1) := by decide +kernel
theorem dX4_melt_61 : decode cX4_melt 61 = .ok (.aload_n 0, 1) := by decide +kernel
theorem dX4_melt_62 : decode cX4_melt 62 = .ok (.dup, 1) := by decide +kernel
theorem dX4_melt_63 : decode cX4_melt 63 = .ok (.getfield 22, 3) := by decide +kernel
theorem dX4_melt_66 : decode cX4_melt 66 = .ok (.iload_n 2, 1) := by decide +kernel
theorem dX4_melt_67 : decode cX4_melt 67 = .ok (.iadd, 1) := by decide +kernel
theorem dX4_melt_68 : decode cX4_melt 68 = .ok (.putfield 22, 3) := by decide +kernel
theorem dX4_melt_71 : decode cX4_melt 71 = .ok (.aload_n 0, 1) := by decide +kernel
theorem dX4_melt_72 : decode cX4_melt 72 = .ok (.dup, 1) := by decide +kernel
theorem dX4_melt_73 : decode cX4_melt 73 = .ok (.getfield 84, 3) := by decide +kernel
theorem dX4_melt_76 : decode cX4_melt 76 = .ok (.iload_n 3, 1) := by decide +kernel
theorem dX4_melt_77 : decode cX4_melt 77 = .ok (.iadd, 1) := by decide +kernel
theorem dX4_melt_78 : decode cX4_melt 78 = .ok (.putfield 84, 3) := by decide +kernel
theorem dX4_melt_81 : decode cX4_melt 81 = .ok (.iload_n 3, 1) := by decide +kernel
theorem dX4_melt_82 : decode cX4_melt 82 = .ok (.ireturn, 1) := by decide +kernel
theorem dX4_buy_0 : decode cX4_buy 0 = .ok (.iload_n 1, 1) := by decide +kernel
theorem dX4_buy_1 : decode cX4_buy 1 = .ok (.iconst 1, 1) := by decide +kernel
theorem dX4_buy_2 : decode cX4_buy 2 = .ok (.if_icmp .lt 10, 3) := by decide +kernel
theorem dX4_buy_5 : decode cX4_buy 5 = .ok (.iload_n 1, 1) := by decide +kernel
theorem dX4_buy_6 : decode cX4_buy 6 = .ok (.sipush 2000, 3) := by decide +kernel
theorem dX4_buy_9 : decode cX4_buy 9 = .ok (.if_icmp .le 13, 3) := by decide +kernel
theorem dX4_buy_12 : decode cX4_buy 12 = .ok (.new 71, 3) := by decide +kernel
theorem dX4_buy_15 : decode cX4_buy 15 = .ok (.dup, 1) := by decide +kernel
theorem dX4_buy_16 : decode cX4_buy 16 = .ok (.ldc 87, 2) := by decide +kernel
theorem dX4_buy_18 : decode cX4_buy 18 = .ok (.invokespecial 75, 3) := by decide +kernel
theorem dX4_buy_21 : decode cX4_buy 21 = .ok (.athrow, 1) := by decide +kernel
theorem dX4_buy_22 : decode cX4_buy 22 = .ok (.aload_n 0, 1) := by decide +kernel
theorem dX4_buy_23 : decode cX4_buy 23 = .ok (.getfield 22, 3) := by decide +kernel
theorem dX4_buy_26 : decode cX4_buy 26 = .ok (.iload_n 1, 1) := by decide +kernel
theorem dX4_buy_27 : decode cX4_buy 27 = .ok (.iadd, 1) := by decide +kernel
theorem dX4_buy_28 : decode cX4_buy 28 = .ok (.sipush 9999, 3) := by decide +kernel
theorem dX4_buy_31 : decode cX4_buy 31 = .ok (.if_icmp .le 13, 3) := by decide +kernel
theorem dX4_buy_34 : decode cX4_buy 34 = .ok (.new 51, 3) := by decide +kernel
theorem dX4_buy_37 : decode cX4_buy 37 = .ok (.dup, 1) := by decide +kernel
theorem dX4_buy_38 : decode cX4_buy 38 = .ok (.ldc 79, 2) := by decide +kernel
theorem dX4_buy_40 : decode cX4_buy 40 = .ok (.invokespecial 55, 3) := by decide +kernel
theorem dX4_buy_43 : decode cX4_buy 43 = .ok (.athrow, 1) := by decide +kernel
theorem dX4_buy_44 : decode cX4_buy 44 = .ok (.aload_n 0, 1) := by decide +kernel
theorem dX4_buy_45 : decode cX4_buy 45 = .ok (.dup, 1) := by decide +kernel
theorem dX4_buy_46 : decode cX4_buy 46 = .ok (.getfield 22, 3) := by decide +kernel
theorem dX4_buy_49 : decode cX4_buy 49 = .ok (.iload_n 1, 1) := by decide +kernel
theorem dX4_buy_50 : decode cX4_buy 50 = .ok (.iadd, 1) := by decide +kernel
theorem dX4_buy_51 : decode cX4_buy 51 = .ok (.putfield 22, 3) := by decide +kernel
theorem dX4_buy_54 : decode cX4_buy 54 = .ok (.aload_n 0, 1) := by decide +kernel
theorem dX4_buy_55 : decode cX4_buy 55 = .ok (.getfield 22, 3) := by decide +kernel
theorem dX4_buy_58 : decode cX4_buy 58 = .ok (.ireturn, 1) := by decide +kernel
set_option maxRecDepth 20000 in
theorem ggX4_come_X0_init : GoodIn wsX4_come wsX0_init := goodIn_r _ [12, 13, 14, 15, 16, 17, 18, 19, 20, 21, 22, 23, 24, 25, 26, 44, 38, 39, 40, 41, 42, 43] (by decide +kernel) (by decide +kernel)
set_option maxRecDepth 20000 in
theorem gX4_come_X0_init : GoodIn wsX4_come (wsX0_init) := ggX4_come_X0_init
theorem dX4_come_0 : decode cX4_come 0 = .ok (.iload_n 1, 1) := by decide +kernel
theorem dX4_come_1 : decode cX4_come 1 = .ok (.ifCond .lt 10, 3) := by decide +kernel
theorem dX4_come_4 : decode cX4_come 4 = .ok (.iload_n 1, 1) := by decide +kernel
theorem dX4_come_5 : decode cX4_come 5 = .ok (.sipush 5000, 3) := by decide +kernel
theorem dX4_come_8 : decode cX4_come 8 = .ok (.if_icmp .le 13, 3) := by decide +kernel
theorem dX4_come_11 : decode cX4_come 11 = .ok (.new 71, 3) := by decide +kernel
theorem dX4_come_14 : decode cX4_come 14 = .ok (.dup, 1) := by decide +kernel
theorem dX4_come_15 : decode cX4_come 15 = .ok (.ldc 89, 2) := by decide +kernel
theorem dX4_come_17 : decode cX4_come 17 = .ok (.invokespecial 75, 3) := by decide +kernel
theorem dX4_come_20 : decode cX4_come 20 = .ok (.athrow, 1) := by decide +kernel
theorem dX4_come_21 : decode cX4_come 21 = .ok (.aload_n 0, 1) := by decide +kernel
theorem dX4_come_22 : decode cX4_come 22 = .ok (.getfield 91, 3) := by decide +kernel
theorem dX4_come_25 : decode cX4_come 25 = .ok (.istore_n 2, 1) := by decide +kernel
theorem dX4_come_26 : decode cX4_come 26 = .ok (.iload_n 2, 1) := by decide +kernel
theorem dX4_come_27 : decode cX4_come 27 = .ok (.ifCond .lt 12, 3) := by decide +kernel
theorem dX4_come_30 : decode cX4_come 30 = .ok (.iload_n 2, 1) := by decide +kernel
theorem dX4_come_31 : decode cX4_come 31 = .ok (.aload_n 0, 1) := by decide +kernel
theorem dX4_come_32 : decode cX4_come 32 = .ok (.getfield 18, 3) := by decide +kernel
theorem dX4_come_35 : decode cX4_come 35 = .ok (.arraylength, 1) := by decide +kernel
theorem dX4_come_36 : decode cX4_come 36 = .ok (.if_icmp .lt 13, 3) := by decide +kernel
theorem dX4_come_39 : decode cX4_come 39 = .ok (.new 51, 3) := by decide +kernel
theorem dX4_come_42 : decode cX4_come 42 = .ok (.dup, 1) := by decide +kernel
theorem dX4_come_43 : decode cX4_come 43 = .ok (.ldc 94, 2) := by decide +kernel
theorem dX4_come_45 : decode cX4_come 45 = .ok (.invokespecial 55, 3) := by decide +kernel
theorem dX4_come_48 : decode cX4_come 48 = .ok (.athrow, 1) := by decide +kernel
theorem dX4_come_49 : decode cX4_come 49 = .ok (.aload_n 0, 1) := by decide +kernel
theorem dX4_come_50 : decode cX4_come 50 = .ok (.getfield 18, 3) := by decide +kernel
theorem dX4_come_53 : decode cX4_come 53 = .ok (.iload_n 2, 1) := by decide +kernel
theorem dX4_come_54 : decode cX4_come 54 = .ok (.new 16, 3) := by decide +kernel
theorem dX4_come_57 : decode cX4_come 57 = .ok (.dup, 1) := by decide +kernel
theorem dX4_come_58 : decode cX4_come 58 = .ok (.iload_n 1, 1) := by decide +kernel
theorem dX4_come_59 : decode cX4_come 59 = .ok (.invokespecial 96, 3) := by decide +kernel
theorem dX4_come_62 : decode cX4_come 62 = .ok (.aastore, 1) := by decide +kernel
theorem dX4_come_63 : decode cX4_come 63 = .ok (.aload_n 0, 1) := by decide +kernel
theorem dX4_come_64 : decode cX4_come 64 = .ok (.dup, 1) := by decide +kernel
theorem dX4_come_65 : decode cX4_come 65 = .ok (.getfield 91, 3) := by decide +kernel
theorem dX4_come_68 : decode cX4_come 68 = .ok (.iconst 1, 1) := by decide +kernel
theorem dX4_come_69 : decode cX4_come 69 = .ok (.iadd, 1) := by decide +kernel
theorem dX4_come_70 : decode cX4_come 70 = .ok (.putfield 91, 3) := by decide +kernel
theorem dX4_come_73 : decode cX4_come 73 = .ok (.iload_n 2, 1) := by decide +kernel
theorem dX4_come_74 : decode cX4_come 74 = .ok (.ireturn, 1) := by decide +kernel
