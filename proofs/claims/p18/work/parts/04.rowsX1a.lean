set_option maxRecDepth 20000 in
theorem ggX1_init_X2_init : GoodIn wsX1_init wsX2_init := goodIn_r _ [10, 11, 2, 3, 12, 13, 41] (by decide +kernel) (by decide +kernel)
set_option maxRecDepth 20000 in
theorem gX1_init_X2_init : GoodIn wsX1_init (wsX2_init) := ggX1_init_X2_init
set_option maxRecDepth 20000 in
theorem ggX1_init_X1_reduce : GoodIn wsX1_init wsX1_reduce := goodIn_r _ [17, 18, 19, 16, 20, 21, 22, 23, 6, 24, 13, 25, 26, 27, 28, 29, 30, 31, 32, 33, 34, 35, 36, 37, 38, 39, 40, 41] (by decide +kernel) (by decide +kernel)
set_option maxRecDepth 20000 in
theorem gX1_init_X1_reduce : GoodIn wsX1_init (va_wsS RX1 20 yX1_reduce wsX1_reduce) := goodIn_app (goodIn_of _ (by decide +kernel)) ggX1_init_X1_reduce
set_option maxRecDepth 20000 in
theorem ggX1_init_X2_set : GoodIn wsX1_init wsX2_set := goodIn_r _ [24, 13, 41] (by decide +kernel) (by decide +kernel)
set_option maxRecDepth 20000 in
theorem gX1_init_X2_set : GoodIn wsX1_init (wsV RX1 24 RX2 yX2_set wsX2_set) := goodIn_app (goodIn_of _ (by decide +kernel)) ggX1_init_X2_set
theorem dX1_init_0 : decode cX1_init 0 = .ok (.aload_n 0, 1) := by decide +kernel
theorem dX1_init_1 : decode cX1_init 1 = .ok (.invokespecial 3, 3) := by decide +kernel
theorem dX1_init_4 : decode cX1_init 4 = .ok (.aload_n 0, 1) := by decide +kernel
theorem dX1_init_5 : decode cX1_init 5 = .ok (.new 9, 3) := by decide +kernel
theorem dX1_init_8 : decode cX1_init 8 = .ok (.dup, 1) := by decide +kernel
theorem dX1_init_9 : decode cX1_init 9 = .ok (.sipush 1296, 3) := by decide +kernel
theorem dX1_init_12 : decode cX1_init 12 = .ok (.invokespecial 11, 3) := by decide +kernel
theorem dX1_init_15 : decode cX1_init 15 = .ok (.putfield 14, 3) := by decide +kernel
theorem dX1_init_18 : decode cX1_init 18 = .ok (.new 9, 3) := by decide +kernel
theorem dX1_init_21 : decode cX1_init 21 = .ok (.dup, 1) := by decide +kernel
theorem dX1_init_22 : decode cX1_init 22 = .ok (.iconst 4, 1) := by decide +kernel
theorem dX1_init_23 : decode cX1_init 23 = .ok (.invokespecial 11, 3) := by decide +kernel
theorem dX1_init_26 : decode cX1_init 26 = .ok (.astore_n 1, 1) := by decide +kernel
theorem dX1_init_27 : decode cX1_init 27 = .ok (.iconst 0, 1) := by decide +kernel
theorem dX1_init_28 : decode cX1_init 28 = .ok (.istore_n 2, 1) := by decide +kernel
theorem dX1_init_29 : decode cX1_init 29 = .ok (.iload_n 2, 1) := by decide +kernel
theorem dX1_init_30 : decode cX1_init 30 = .ok (.sipush 1296, 3) := by decide +kernel
theorem dX1_init_33 : decode cX1_init 33 = .ok (.if_icmp .ge 22, 3) := by decide +kernel
theorem dX1_init_36 : decode cX1_init 36 = .ok (.aload_n 0, 1) := by decide +kernel
theorem dX1_init_37 : decode cX1_init 37 = .ok (.getfield 14, 3) := by decide +kernel
theorem dX1_init_40 : decode cX1_init 40 = .ok (.iload_n 2, 1) := by decide +kernel
theorem dX1_init_41 : decode cX1_init 41 = .ok (.iload_n 2, 1) := by decide +kernel
theorem dX1_init_42 : decode cX1_init 42 = .ok (.aload_n 1, 1) := by decide +kernel
theorem dX1_init_43 : decode cX1_init 43 = .ok (.invokestatic 20, 3) := by decide +kernel
theorem dX1_init_46 : decode cX1_init 46 = .ok (.invokevirtual 24, 3) := by decide +kernel
theorem dX1_init_49 : decode cX1_init 49 = .ok (.iinc 2 1, 3) := by decide +kernel
theorem dX1_init_52 : decode cX1_init 52 = .ok (.goto (-23), 3) := by decide +kernel
theorem dX1_init_55 : decode cX1_init 55 = .ok (.return_, 1) := by decide +kernel
theorem dX1_weightOf_0 : decode cX1_weightOf 0 = .ok (.iconst 1, 1) := by decide +kernel
theorem dX1_weightOf_1 : decode cX1_weightOf 1 = .ok (.istore_n 1, 1) := by decide +kernel
theorem dX1_weightOf_2 : decode cX1_weightOf 2 = .ok (.iload_n 0, 1) := by decide +kernel
theorem dX1_weightOf_3 : decode cX1_weightOf 3 = .ok (.iconst 1, 1) := by decide +kernel
theorem dX1_weightOf_4 : decode cX1_weightOf 4 = .ok (.iadd, 1) := by decide +kernel
theorem dX1_weightOf_5 : decode cX1_weightOf 5 = .ok (.istore_n 2, 1) := by decide +kernel
theorem dX1_weightOf_6 : decode cX1_weightOf 6 = .ok (.iload_n 2, 1) := by decide +kernel
theorem dX1_weightOf_7 : decode cX1_weightOf 7 = .ok (.iconst 4, 1) := by decide +kernel
theorem dX1_weightOf_8 : decode cX1_weightOf 8 = .ok (.if_icmp .ge 14, 3) := by decide +kernel
theorem dX1_weightOf_11 : decode cX1_weightOf 11 = .ok (.iload_n 1, 1) := by decide +kernel
theorem dX1_weightOf_12 : decode cX1_weightOf 12 = .ok (.bipush 6, 2) := by decide +kernel
theorem dX1_weightOf_14 : decode cX1_weightOf 14 = .ok (.imul, 1) := by decide +kernel
theorem dX1_weightOf_15 : decode cX1_weightOf 15 = .ok (.istore_n 1, 1) := by decide +kernel
theorem dX1_weightOf_16 : decode cX1_weightOf 16 = .ok (.iinc 2 1, 3) := by decide +kernel
theorem dX1_weightOf_19 : decode cX1_weightOf 19 = .ok (.goto (-13), 3) := by decide +kernel
theorem dX1_weightOf_22 : decode cX1_weightOf 22 = .ok (.iload_n 1, 1) := by decide +kernel
theorem dX1_weightOf_23 : decode cX1_weightOf 23 = .ok (.ireturn, 1) := by decide +kernel
set_option maxRecDepth 20000 in
theorem ggX1_without_X1_weightOf : GoodIn wsX1_without wsX1_weightOf := goodIn_r _ [4] (by decide +kernel) (by decide +kernel)
set_option maxRecDepth 20000 in
theorem gX1_without_X1_weightOf : GoodIn wsX1_without (va_wsS RX1 36 yX1_weightOf wsX1_weightOf) := goodIn_app (goodIn_of _ (by decide +kernel)) ggX1_without_X1_weightOf
theorem dX1_without_0 : decode cX1_without 0 = .ok (.iload_n 1, 1) := by decide +kernel
theorem dX1_without_1 : decode cX1_without 1 = .ok (.invokestatic 36, 3) := by decide +kernel
theorem dX1_without_4 : decode cX1_without 4 = .ok (.istore_n 2, 1) := by decide +kernel
theorem dX1_without_5 : decode cX1_without 5 = .ok (.iload_n 2, 1) := by decide +kernel
theorem dX1_without_6 : decode cX1_without 6 = .ok (.ifCond .le 16, 3) := by decide +kernel
theorem dX1_without_9 : decode cX1_without 9 = .ok (.iload_n 0, 1) := by decide +kernel
theorem dX1_without_10 : decode cX1_without 10 = .ok (.iload_n 0, 1) := by decide +kernel
theorem dX1_without_11 : decode cX1_without 11 = .ok (.iload_n 2, 1) := by decide +kernel
theorem dX1_without_12 : decode cX1_without 12 = .ok (.idiv, 1) := by decide +kernel
theorem dX1_without_13 : decode cX1_without 13 = .ok (.bipush 6, 2) := by decide +kernel
theorem dX1_without_15 : decode cX1_without 15 = .ok (.irem, 1) := by decide +kernel
theorem dX1_without_16 : decode cX1_without 16 = .ok (.iload_n 2, 1) := by decide +kernel
theorem dX1_without_17 : decode cX1_without 17 = .ok (.imul, 1) := by decide +kernel
theorem dX1_without_18 : decode cX1_without 18 = .ok (.isub, 1) := by decide +kernel
theorem dX1_without_19 : decode cX1_without 19 = .ok (.goto 4, 3) := by decide +kernel
theorem dX1_without_23 : decode cX1_without 23 = .ok (.ireturn, 1) := by decide +kernel
set_option maxRecDepth 20000 in
theorem ggX1_reduce_X1_unpack : GoodIn wsX1_reduce wsX1_unpack := goodIn_r _ [4, 5, 6, 7, 8, 9, 10, 27] (by decide +kernel) (by decide +kernel)
set_option maxRecDepth 20000 in
theorem gX1_reduce_X1_unpack : GoodIn wsX1_reduce (va_wsS RX1 42 yX1_unpack wsX1_unpack) := goodIn_app (goodIn_of _ (by decide +kernel)) ggX1_reduce_X1_unpack
set_option maxRecDepth 20000 in
theorem ggX1_reduce_X1_rewriteOnce : GoodIn wsX1_reduce wsX1_rewriteOnce := goodIn_r _ [13, 14, 15, 16, 8, 17, 10, 18, 19, 3, 20, 21, 22, 23, 5, 6, 7, 9, 27] (by decide +kernel) (by decide +kernel)
set_option maxRecDepth 20000 in
theorem gX1_reduce_X1_rewriteOnce : GoodIn wsX1_reduce (va_wsS RX1 46 yX1_rewriteOnce wsX1_rewriteOnce) := goodIn_app (goodIn_of _ (by decide +kernel)) ggX1_reduce_X1_rewriteOnce
set_option maxRecDepth 20000 in
theorem ggX1_reduce_X1_pack : GoodIn wsX1_reduce wsX1_pack := goodIn_r _ [26, 14, 15, 16, 8, 17, 10, 27] (by decide +kernel) (by decide +kernel)
set_option maxRecDepth 20000 in
theorem gX1_reduce_X1_pack : GoodIn wsX1_reduce (va_wsS RX1 50 yX1_pack wsX1_pack) := goodIn_app (goodIn_of _ (by decide +kernel)) ggX1_reduce_X1_pack
theorem dX1_reduce_0 : decode cX1_reduce 0 = .ok (.iload_n 0, 1) := by decide +kernel
theorem dX1_reduce_1 : decode cX1_reduce 1 = .ok (.aload_n 1, 1) := by decide +kernel
theorem dX1_reduce_2 : decode cX1_reduce 2 = .ok (.invokestatic 42, 3) := by decide +kernel
theorem dX1_reduce_5 : decode cX1_reduce 5 = .ok (.iconst 1, 1) := by decide +kernel
theorem dX1_reduce_6 : decode cX1_reduce 6 = .ok (.istore_n 2, 1) := by decide +kernel
theorem dX1_reduce_7 : decode cX1_reduce 7 = .ok (.iconst 0, 1) := by decide +kernel
theorem dX1_reduce_8 : decode cX1_reduce 8 = .ok (.istore_n 3, 1) := by decide +kernel
theorem dX1_reduce_9 : decode cX1_reduce 9 = .ok (.iload_n 2, 1) := by decide +kernel
theorem dX1_reduce_10 : decode cX1_reduce 10 = .ok (.ifCond .eq 21, 3) := by decide +kernel
theorem dX1_reduce_13 : decode cX1_reduce 13 = .ok (.iload_n 3, 1) := by decide +kernel
theorem dX1_reduce_14 : decode cX1_reduce 14 = .ok (.sipush 1000, 3) := by decide +kernel
theorem dX1_reduce_17 : decode cX1_reduce 17 = .ok (.if_icmp .ge 14, 3) := by decide +kernel
theorem dX1_reduce_20 : decode cX1_reduce 20 = .ok (.aload_n 1, 1) := by decide +kernel
theorem dX1_reduce_21 : decode cX1_reduce 21 = .ok (.invokestatic 46, 3) := by decide +kernel
theorem dX1_reduce_24 : decode cX1_reduce 24 = .ok (.istore_n 2, 1) := by decide +kernel
theorem dX1_reduce_25 : decode cX1_reduce 25 = .ok (.iinc 3 1, 3) := by decide +kernel
theorem dX1_reduce_28 : decode cX1_reduce 28 = .ok (.goto (-19), 3) := by decide +kernel
theorem dX1_reduce_31 : decode cX1_reduce 31 = .ok (.aload_n 1, 1) := by decide +kernel
theorem dX1_reduce_32 : decode cX1_reduce 32 = .ok (.invokestatic 50, 3) := by decide +kernel
theorem dX1_reduce_35 : decode cX1_reduce 35 = .ok (.ireturn, 1) := by decide +kernel
set_option maxRecDepth 20000 in
theorem ggX1_unpack_X2_set : GoodIn wsX1_unpack wsX2_set := goodIn_r _ [5, 6, 7] (by decide +kernel) (by decide +kernel)
set_option maxRecDepth 20000 in
theorem gX1_unpack_X2_set : GoodIn wsX1_unpack (wsV RX1 24 RX2 yX2_set wsX2_set) := goodIn_app (goodIn_of _ (by decide +kernel)) ggX1_unpack_X2_set
theorem dX1_unpack_0 : decode cX1_unpack 0 = .ok (.iload_n 0, 1) := by decide +kernel
theorem dX1_unpack_1 : decode cX1_unpack 1 = .ok (.istore_n 2, 1) := by decide +kernel
theorem dX1_unpack_2 : decode cX1_unpack 2 = .ok (.iconst 3, 1) := by decide +kernel
theorem dX1_unpack_3 : decode cX1_unpack 3 = .ok (.istore_n 3, 1) := by decide +kernel
theorem dX1_unpack_4 : decode cX1_unpack 4 = .ok (.iload_n 3, 1) := by decide +kernel
theorem dX1_unpack_5 : decode cX1_unpack 5 = .ok (.ifCond .lt 23, 3) := by decide +kernel
theorem dX1_unpack_8 : decode cX1_unpack 8 = .ok (.aload_n 1, 1) := by decide +kernel
theorem dX1_unpack_9 : decode cX1_unpack 9 = .ok (.iload_n 3, 1) := by decide +kernel
theorem dX1_unpack_10 : decode cX1_unpack 10 = .ok (.iload_n 2, 1) := by decide +kernel
theorem dX1_unpack_11 : decode cX1_unpack 11 = .ok (.bipush 6, 2) := by decide +kernel
theorem dX1_unpack_13 : decode cX1_unpack 13 = .ok (.irem, 1) := by decide +kernel
theorem dX1_unpack_14 : decode cX1_unpack 14 = .ok (.invokevirtual 24, 3) := by decide +kernel
theorem dX1_unpack_17 : decode cX1_unpack 17 = .ok (.iload_n 2, 1) := by decide +kernel
theorem dX1_unpack_18 : decode cX1_unpack 18 = .ok (.bipush 6, 2) := by decide +kernel
theorem dX1_unpack_20 : decode cX1_unpack 20 = .ok (.idiv, 1) := by decide +kernel
theorem dX1_unpack_21 : decode cX1_unpack 21 = .ok (.istore_n 2, 1) := by decide +kernel
theorem dX1_unpack_22 : decode cX1_unpack 22 = .ok (.iinc 3 (-1), 3) := by decide +kernel
theorem dX1_unpack_25 : decode cX1_unpack 25 = .ok (.goto (-21), 3) := by decide +kernel
theorem dX1_unpack_28 : decode cX1_unpack 28 = .ok (.return_, 1) := by decide +kernel
set_option maxRecDepth 20000 in
theorem ggX1_pack_X2_get : GoodIn wsX1_pack wsX2_get := goodIn_r _ [5, 6, 7] (by decide +kernel) (by decide +kernel)
set_option maxRecDepth 20000 in
theorem gX1_pack_X2_get : GoodIn wsX1_pack (wsV RX1 28 RX2 yX2_get wsX2_get) := goodIn_app (goodIn_of _ (by decide +kernel)) ggX1_pack_X2_get
theorem dX1_pack_0 : decode cX1_pack 0 = .ok (.iconst 0, 1) := by decide +kernel
theorem dX1_pack_1 : decode cX1_pack 1 = .ok (.istore_n 1, 1) := by decide +kernel
theorem dX1_pack_2 : decode cX1_pack 2 = .ok (.iconst 0, 1) := by decide +kernel
theorem dX1_pack_3 : decode cX1_pack 3 = .ok (.istore_n 2, 1) := by decide +kernel
theorem dX1_pack_4 : decode cX1_pack 4 = .ok (.iload_n 2, 1) := by decide +kernel
theorem dX1_pack_5 : decode cX1_pack 5 = .ok (.iconst 4, 1) := by decide +kernel
theorem dX1_pack_6 : decode cX1_pack 6 = .ok (.if_icmp .ge 20, 3) := by decide +kernel
theorem dX1_pack_9 : decode cX1_pack 9 = .ok (.iload_n 1, 1) := by decide +kernel
theorem dX1_pack_10 : decode cX1_pack 10 = .ok (.bipush 6, 2) := by decide +kernel
theorem dX1_pack_12 : decode cX1_pack 12 = .ok (.imul, 1) := by decide +kernel
theorem dX1_pack_13 : decode cX1_pack 13 = .ok (.aload_n 0, 1) := by decide +kernel
theorem dX1_pack_14 : decode cX1_pack 14 = .ok (.iload_n 2, 1) := by decide +kernel
theorem dX1_pack_15 : decode cX1_pack 15 = .ok (.invokevirtual 28, 3) := by decide +kernel
theorem dX1_pack_18 : decode cX1_pack 18 = .ok (.iadd, 1) := by decide +kernel
theorem dX1_pack_19 : decode cX1_pack 19 = .ok (.istore_n 1, 1) := by decide +kernel
theorem dX1_pack_20 : decode cX1_pack 20 = .ok (.iinc 2 1, 3) := by decide +kernel
theorem dX1_pack_23 : decode cX1_pack 23 = .ok (.goto (-19), 3) := by decide +kernel
theorem dX1_pack_26 : decode cX1_pack 26 = .ok (.iload_n 1, 1) := by decide +kernel
theorem dX1_pack_27 : decode cX1_pack 27 = .ok (.ireturn, 1) := by decide +kernel
set_option maxRecDepth 20000 in
theorem ggX1_rewriteOnce_X2_get : GoodIn wsX1_rewriteOnce wsX2_get := goodIn_r _ [5, 6, 18] (by decide +kernel) (by decide +kernel)
set_option maxRecDepth 20000 in
theorem gX1_rewriteOnce_X2_get : GoodIn wsX1_rewriteOnce (wsV RX1 28 RX2 yX2_get wsX2_get) := goodIn_app (goodIn_of _ (by decide +kernel)) ggX1_rewriteOnce_X2_get
set_option maxRecDepth 20000 in
theorem ggX1_rewriteOnce_X1_isUsable : GoodIn wsX1_rewriteOnce wsX1_isUsable := goodIn_r _ [10] (by decide +kernel) (by decide +kernel)
set_option maxRecDepth 20000 in
theorem gX1_rewriteOnce_X1_isUsable : GoodIn wsX1_rewriteOnce (va_wsS RX1 54 yX1_isUsable wsX1_isUsable) := goodIn_app (goodIn_of _ (by decide +kernel)) ggX1_rewriteOnce_X1_isUsable
set_option maxRecDepth 20000 in
theorem ggX1_rewriteOnce_X1_use : GoodIn wsX1_rewriteOnce wsX1_use := goodIn_r _ [13, 1, 2, 3, 4, 5, 6, 14, 15, 16, 17, 18] (by decide +kernel) (by decide +kernel)
set_option maxRecDepth 20000 in
theorem gX1_rewriteOnce_X1_use : GoodIn wsX1_rewriteOnce (va_wsS RX1 58 yX1_use wsX1_use) := goodIn_app (goodIn_of _ (by decide +kernel)) ggX1_rewriteOnce_X1_use
theorem dX1_rewriteOnce_0 : decode cX1_rewriteOnce 0 = .ok (.iconst 1, 1) := by decide +kernel
theorem dX1_rewriteOnce_1 : decode cX1_rewriteOnce 1 = .ok (.istore_n 1, 1) := by decide +kernel
theorem dX1_rewriteOnce_2 : decode cX1_rewriteOnce 2 = .ok (.iload_n 1, 1) := by decide +kernel
theorem dX1_rewriteOnce_3 : decode cX1_rewriteOnce 3 = .ok (.iconst 4, 1) := by decide +kernel
theorem dX1_rewriteOnce_4 : decode cX1_rewriteOnce 4 = .ok (.if_icmp .gt 51, 3) := by decide +kernel
theorem dX1_rewriteOnce_7 : decode cX1_rewriteOnce 7 = .ok (.iconst 0, 1) := by decide +kernel
theorem dX1_rewriteOnce_8 : decode cX1_rewriteOnce 8 = .ok (.istore_n 2, 1) := by decide +kernel
theorem dX1_rewriteOnce_9 : decode cX1_rewriteOnce 9 = .ok (.iload_n 2, 1) := by decide +kernel
theorem dX1_rewriteOnce_10 : decode cX1_rewriteOnce 10 = .ok (.iconst 1, 1) := by decide +kernel
theorem dX1_rewriteOnce_11 : decode cX1_rewriteOnce 11 = .ok (.iadd, 1) := by decide +kernel
theorem dX1_rewriteOnce_12 : decode cX1_rewriteOnce 12 = .ok (.iconst 4, 1) := by decide +kernel
theorem dX1_rewriteOnce_13 : decode cX1_rewriteOnce 13 = .ok (.if_icmp .ge 36, 3) := by decide +kernel
theorem dX1_rewriteOnce_16 : decode cX1_rewriteOnce 16 = .ok (.iload_n 1, 1) := by decide +kernel
theorem dX1_rewriteOnce_17 : decode cX1_rewriteOnce 17 = .ok (.aload_n 0, 1) := by decide +kernel
theorem dX1_rewriteOnce_18 : decode cX1_rewriteOnce 18 = .ok (.iload_n 2, 1) := by decide +kernel
theorem dX1_rewriteOnce_19 : decode cX1_rewriteOnce 19 = .ok (.invokevirtual 28, 3) := by decide +kernel
theorem dX1_rewriteOnce_22 : decode cX1_rewriteOnce 22 = .ok (.aload_n 0, 1) := by decide +kernel
theorem dX1_rewriteOnce_23 : decode cX1_rewriteOnce 23 = .ok (.iload_n 2, 1) := by decide +kernel
theorem dX1_rewriteOnce_24 : decode cX1_rewriteOnce 24 = .ok (.iconst 1, 1) := by decide +kernel
theorem dX1_rewriteOnce_25 : decode cX1_rewriteOnce 25 = .ok (.iadd, 1) := by decide +kernel
theorem dX1_rewriteOnce_26 : decode cX1_rewriteOnce 26 = .ok (.invokevirtual 28, 3) := by decide +kernel
theorem dX1_rewriteOnce_29 : decode cX1_rewriteOnce 29 = .ok (.invokestatic 54, 3) := by decide +kernel
theorem dX1_rewriteOnce_32 : decode cX1_rewriteOnce 32 = .ok (.ifCond .eq 11, 3) := by decide +kernel
theorem dX1_rewriteOnce_35 : decode cX1_rewriteOnce 35 = .ok (.iload_n 1, 1) := by decide +kernel
theorem dX1_rewriteOnce_36 : decode cX1_rewriteOnce 36 = .ok (.aload_n 0, 1) := by decide +kernel
theorem dX1_rewriteOnce_37 : decode cX1_rewriteOnce 37 = .ok (.iload_n 2, 1) := by decide +kernel
theorem dX1_rewriteOnce_38 : decode cX1_rewriteOnce 38 = .ok (.invokestatic 58, 3) := by decide +kernel
theorem dX1_rewriteOnce_41 : decode cX1_rewriteOnce 41 = .ok (.iconst 1, 1) := by decide +kernel
theorem dX1_rewriteOnce_42 : decode cX1_rewriteOnce 42 = .ok (.ireturn, 1) := by decide +kernel
theorem dX1_rewriteOnce_43 : decode cX1_rewriteOnce 43 = .ok (.iinc 2 1, 3) := by decide +kernel
theorem dX1_rewriteOnce_46 : decode cX1_rewriteOnce 46 = .ok (.goto (-37), 3) := by decide +kernel
theorem dX1_rewriteOnce_49 : decode cX1_rewriteOnce 49 = .ok (.iinc 1 1, 3) := by decide +kernel
theorem dX1_rewriteOnce_52 : decode cX1_rewriteOnce 52 = .ok (.goto (-50), 3) := by decide +kernel
theorem dX1_rewriteOnce_55 : decode cX1_rewriteOnce 55 = .ok (.iconst 0, 1) := by decide +kernel
theorem dX1_rewriteOnce_56 : decode cX1_rewriteOnce 56 = .ok (.ireturn, 1) := by decide +kernel
theorem dX1_isUsable_0 : decode cX1_isUsable 0 = .ok (.iload_n 0, 1) := by decide +kernel
theorem dX1_isUsable_1 : decode cX1_isUsable 1 = .ok (.tableswitch 73 1 3 #[27, 41, 57], 27) := by decide +kernel
theorem dX1_isUsable_28 : decode cX1_isUsable 28 = .ok (.iload_n 1, 1) := by decide +kernel
theorem dX1_isUsable_29 : decode cX1_isUsable 29 = .ok (.ifCond .ne 11, 3) := by decide +kernel
theorem dX1_isUsable_32 : decode cX1_isUsable 32 = .ok (.iload_n 2, 1) := by decide +kernel
theorem dX1_isUsable_33 : decode cX1_isUsable 33 = .ok (.ifCond .eq 7, 3) := by decide +kernel
theorem dX1_isUsable_36 : decode cX1_isUsable 36 = .ok (.iconst 1, 1) := by decide +kernel
theorem dX1_isUsable_37 : decode cX1_isUsable 37 = .ok (.goto 4, 3) := by decide +kernel
theorem dX1_isUsable_40 : decode cX1_isUsable 40 = .ok (.iconst 0, 1) := by decide +kernel
theorem dX1_isUsable_41 : decode cX1_isUsable 41 = .ok (.ireturn, 1) := by decide +kernel
theorem dX1_isUsable_42 : decode cX1_isUsable 42 = .ok (.iload_n 1, 1) := by decide +kernel
theorem dX1_isUsable_43 : decode cX1_isUsable 43 = .ok (.iconst 5, 1) := by decide +kernel
theorem dX1_isUsable_44 : decode cX1_isUsable 44 = .ok (.if_icmp .ne 12, 3) := by decide +kernel
theorem dX1_isUsable_47 : decode cX1_isUsable 47 = .ok (.iload_n 2, 1) := by decide +kernel
theorem dX1_isUsable_48 : decode cX1_isUsable 48 = .ok (.iconst 4, 1) := by decide +kernel
theorem dX1_isUsable_49 : decode cX1_isUsable 49 = .ok (.if_icmp .ne 7, 3) := by decide +kernel
theorem dX1_isUsable_52 : decode cX1_isUsable 52 = .ok (.iconst 1, 1) := by decide +kernel
theorem dX1_isUsable_53 : decode cX1_isUsable 53 = .ok (.goto 4, 3) := by decide +kernel
theorem dX1_isUsable_56 : decode cX1_isUsable 56 = .ok (.iconst 0, 1) := by decide +kernel
theorem dX1_isUsable_57 : decode cX1_isUsable 57 = .ok (.ireturn, 1) := by decide +kernel
theorem dX1_isUsable_58 : decode cX1_isUsable 58 = .ok (.iload_n 1, 1) := by decide +kernel
theorem dX1_isUsable_59 : decode cX1_isUsable 59 = .ok (.iconst 3, 1) := by decide +kernel
theorem dX1_isUsable_60 : decode cX1_isUsable 60 = .ok (.if_icmp .ne 12, 3) := by decide +kernel
theorem dX1_isUsable_63 : decode cX1_isUsable 63 = .ok (.iload_n 2, 1) := by decide +kernel
theorem dX1_isUsable_64 : decode cX1_isUsable 64 = .ok (.iconst 3, 1) := by decide +kernel
theorem dX1_isUsable_65 : decode cX1_isUsable 65 = .ok (.if_icmp .ne 7, 3) := by decide +kernel
theorem dX1_isUsable_68 : decode cX1_isUsable 68 = .ok (.iconst 1, 1) := by decide +kernel
theorem dX1_isUsable_69 : decode cX1_isUsable 69 = .ok (.goto 4, 3) := by decide +kernel
theorem dX1_isUsable_72 : decode cX1_isUsable 72 = .ok (.iconst 0, 1) := by decide +kernel
theorem dX1_isUsable_73 : decode cX1_isUsable 73 = .ok (.ireturn, 1) := by decide +kernel
theorem dX1_isUsable_74 : decode cX1_isUsable 74 = .ok (.iload_n 1, 1) := by decide +kernel
theorem dX1_isUsable_75 : decode cX1_isUsable 75 = .ok (.iconst 2, 1) := by decide +kernel
theorem dX1_isUsable_76 : decode cX1_isUsable 76 = .ok (.if_icmp .ne 12, 3) := by decide +kernel
theorem dX1_isUsable_79 : decode cX1_isUsable 79 = .ok (.iload_n 2, 1) := by decide +kernel
theorem dX1_isUsable_80 : decode cX1_isUsable 80 = .ok (.iconst 1, 1) := by decide +kernel
theorem dX1_isUsable_81 : decode cX1_isUsable 81 = .ok (.if_icmp .ne 7, 3) := by decide +kernel
theorem dX1_isUsable_84 : decode cX1_isUsable 84 = .ok (.iconst 1, 1) := by decide +kernel
theorem dX1_isUsable_85 : decode cX1_isUsable 85 = .ok (.goto 4, 3) := by decide +kernel
theorem dX1_isUsable_88 : decode cX1_isUsable 88 = .ok (.iconst 0, 1) := by decide +kernel
theorem dX1_isUsable_89 : decode cX1_isUsable 89 = .ok (.ireturn, 1) := by decide +kernel
set_option maxRecDepth 20000 in
theorem ggX1_use_X2_get : GoodIn wsX1_use wsX2_get := goodIn_r _ [5, 6, 11] (by decide +kernel) (by decide +kernel)
set_option maxRecDepth 20000 in
theorem gX1_use_X2_get : GoodIn wsX1_use (wsV RX1 28 RX2 yX2_get wsX2_get) := goodIn_app (goodIn_of _ (by decide +kernel)) ggX1_use_X2_get
set_option maxRecDepth 20000 in
theorem ggX1_use_X2_set : GoodIn wsX1_use wsX2_set := goodIn_r _ [10, 6, 11] (by decide +kernel) (by decide +kernel)
set_option maxRecDepth 20000 in
theorem gX1_use_X2_set : GoodIn wsX1_use (wsV RX1 24 RX2 yX2_set wsX2_set) := goodIn_app (goodIn_of _ (by decide +kernel)) ggX1_use_X2_set
theorem dX1_use_0 : decode cX1_use 0 = .ok (.aload_n 1, 1) := by decide +kernel
theorem dX1_use_1 : decode cX1_use 1 = .ok (.iload_n 2, 1) := by decide +kernel
theorem dX1_use_2 : decode cX1_use 2 = .ok (.invokevirtual 28, 3) := by decide +kernel
theorem dX1_use_5 : decode cX1_use 5 = .ok (.istore_n 3, 1) := by decide +kernel
theorem dX1_use_6 : decode cX1_use 6 = .ok (.aload_n 1, 1) := by decide +kernel
theorem dX1_use_7 : decode cX1_use 7 = .ok (.iload_n 2, 1) := by decide +kernel
theorem dX1_use_8 : decode cX1_use 8 = .ok (.iconst 1, 1) := by decide +kernel
theorem dX1_use_9 : decode cX1_use 9 = .ok (.iadd, 1) := by decide +kernel
theorem dX1_use_10 : decode cX1_use 10 = .ok (.invokevirtual 28, 3) := by decide +kernel
theorem dX1_use_13 : decode cX1_use 13 = .ok (.istore 4, 2) := by decide +kernel
theorem dX1_use_15 : decode cX1_use 15 = .ok (.iload_n 0, 1) := by decide +kernel
theorem dX1_use_16 : decode cX1_use 16 = .ok (.tableswitch 57 1 3 #[28, 28, 46], 28) := by decide +kernel
theorem dX1_use_44 : decode cX1_use 44 = .ok (.aload_n 1, 1) := by decide +kernel
theorem dX1_use_45 : decode cX1_use 45 = .ok (.iload_n 2, 1) := by decide +kernel
theorem dX1_use_46 : decode cX1_use 46 = .ok (.iload 4, 2) := by decide +kernel
theorem dX1_use_48 : decode cX1_use 48 = .ok (.invokevirtual 24, 3) := by decide +kernel
theorem dX1_use_51 : decode cX1_use 51 = .ok (.aload_n 1, 1) := by decide +kernel
theorem dX1_use_52 : decode cX1_use 52 = .ok (.iload_n 2, 1) := by decide +kernel
theorem dX1_use_53 : decode cX1_use 53 = .ok (.iconst 1, 1) := by decide +kernel
theorem dX1_use_54 : decode cX1_use 54 = .ok (.iadd, 1) := by decide +kernel
theorem dX1_use_55 : decode cX1_use 55 = .ok (.iload_n 3, 1) := by decide +kernel
theorem dX1_use_56 : decode cX1_use 56 = .ok (.invokevirtual 24, 3) := by decide +kernel
theorem dX1_use_59 : decode cX1_use 59 = .ok (.goto 28, 3) := by decide +kernel
theorem dX1_use_62 : decode cX1_use 62 = .ok (.aload_n 1, 1) := by decide +kernel
theorem dX1_use_63 : decode cX1_use 63 = .ok (.iload_n 2, 1) := by decide +kernel
theorem dX1_use_64 : decode cX1_use 64 = .ok (.iconst 1, 1) := by decide +kernel
theorem dX1_use_65 : decode cX1_use 65 = .ok (.iadd, 1) := by decide +kernel
theorem dX1_use_66 : decode cX1_use 66 = .ok (.iconst 0, 1) := by decide +kernel
theorem dX1_use_67 : decode cX1_use 67 = .ok (.invokevirtual 24, 3) := by decide +kernel
theorem dX1_use_70 : decode cX1_use 70 = .ok (.goto 17, 3) := by decide +kernel
theorem dX1_use_73 : decode cX1_use 73 = .ok (.aload_n 1, 1) := by decide +kernel
theorem dX1_use_74 : decode cX1_use 74 = .ok (.iload_n 2, 1) := by decide +kernel
theorem dX1_use_75 : decode cX1_use 75 = .ok (.iconst 0, 1) := by decide +kernel
theorem dX1_use_76 : decode cX1_use 76 = .ok (.invokevirtual 24, 3) := by decide +kernel
theorem dX1_use_79 : decode cX1_use 79 = .ok (.aload_n 1, 1) := by decide +kernel
theorem dX1_use_80 : decode cX1_use 80 = .ok (.iload_n 2, 1) := by decide +kernel
theorem dX1_use_81 : decode cX1_use 81 = .ok (.iconst 1, 1) := by decide +kernel
theorem dX1_use_82 : decode cX1_use 82 = .ok (.iadd, 1) := by decide +kernel
theorem dX1_use_83 : decode cX1_use 83 = .ok (.iconst 0, 1) := by decide +kernel
theorem dX1_use_84 : decode cX1_use 84 = .ok (.invokevirtual 24, 3) := by decide +kernel
theorem dX1_use_87 : decode cX1_use 87 = .ok (.return_, 1) := by decide +kernel

