set_option maxRecDepth 20000 in
theorem ggX3_init_X2_init : GoodIn wsX3_init wsX2_init := goodIn_r _ [11, 12, 2, 3, 13, 14, 15] (by decide +kernel) (by decide +kernel)
set_option maxRecDepth 20000 in
theorem gX3_init_X2_init : GoodIn wsX3_init (wsX2_init) := ggX3_init_X2_init
theorem dX3_init_0 : decode cX3_init 0 = .ok (.aload_n 0, 1) := by decide +kernel
theorem dX3_init_1 : decode cX3_init 1 = .ok (.invokespecial 3, 3) := by decide +kernel
theorem dX3_init_4 : decode cX3_init 4 = .ok (.aload_n 0, 1) := by decide +kernel
theorem dX3_init_5 : decode cX3_init 5 = .ok (.new 9, 3) := by decide +kernel
theorem dX3_init_8 : decode cX3_init 8 = .ok (.dup, 1) := by decide +kernel
theorem dX3_init_9 : decode cX3_init 9 = .ok (.sipush 1296, 3) := by decide +kernel
theorem dX3_init_12 : decode cX3_init 12 = .ok (.invokespecial 11, 3) := by decide +kernel
theorem dX3_init_15 : decode cX3_init 15 = .ok (.putfield 14, 3) := by decide +kernel
theorem dX3_init_18 : decode cX3_init 18 = .ok (.aload_n 0, 1) := by decide +kernel
theorem dX3_init_19 : decode cX3_init 19 = .ok (.new 9, 3) := by decide +kernel
theorem dX3_init_22 : decode cX3_init 22 = .ok (.dup, 1) := by decide +kernel
theorem dX3_init_23 : decode cX3_init 23 = .ok (.sipush 1296, 3) := by decide +kernel
theorem dX3_init_26 : decode cX3_init 26 = .ok (.invokespecial 11, 3) := by decide +kernel
theorem dX3_init_29 : decode cX3_init 29 = .ok (.putfield 20, 3) := by decide +kernel
theorem dX3_init_32 : decode cX3_init 32 = .ok (.return_, 1) := by decide +kernel
set_option maxRecDepth 20000 in
theorem ggX3_editsKnown_X2_get : GoodIn wsX3_editsKnown wsX2_get := goodIn_r _ [6, 7, 10] (by decide +kernel) (by decide +kernel)
set_option maxRecDepth 20000 in
theorem gX3_editsKnown_X2_get : GoodIn wsX3_editsKnown (wsV RX3 23 RX2 yX2_get wsX2_get) := goodIn_app (goodIn_of _ (by decide +kernel)) ggX3_editsKnown_X2_get
theorem dX3_editsKnown_0 : decode cX3_editsKnown 0 = .ok (.aload_n 0, 1) := by decide +kernel
theorem dX3_editsKnown_1 : decode cX3_editsKnown 1 = .ok (.getfield 14, 3) := by decide +kernel
theorem dX3_editsKnown_4 : decode cX3_editsKnown 4 = .ok (.iload_n 1, 1) := by decide +kernel
theorem dX3_editsKnown_5 : decode cX3_editsKnown 5 = .ok (.invokevirtual 23, 3) := by decide +kernel
theorem dX3_editsKnown_8 : decode cX3_editsKnown 8 = .ok (.ireturn, 1) := by decide +kernel
set_option maxRecDepth 20000 in
theorem ggX3_forget_X2_fill : GoodIn wsX3_forget wsX2_fill := goodIn_r _ [7, 8, 9, 10, 11, 12, 15] (by decide +kernel) (by decide +kernel)
set_option maxRecDepth 20000 in
theorem gX3_forget_X2_fill : GoodIn wsX3_forget (wsV RX3 28 RX2 yX2_fill wsX2_fill) := goodIn_app (goodIn_of _ (by decide +kernel)) ggX3_forget_X2_fill
theorem dX3_forget_0 : decode cX3_forget 0 = .ok (.aload_n 0, 1) := by decide +kernel
theorem dX3_forget_1 : decode cX3_forget 1 = .ok (.getfield 14, 3) := by decide +kernel
theorem dX3_forget_4 : decode cX3_forget 4 = .ok (.ldc 27, 2) := by decide +kernel
theorem dX3_forget_6 : decode cX3_forget 6 = .ok (.invokevirtual 28, 3) := by decide +kernel
theorem dX3_forget_9 : decode cX3_forget 9 = .ok (.return_, 1) := by decide +kernel
set_option maxRecDepth 20000 in
theorem ggX3_mark_X2_set : GoodIn wsX3_mark wsX2_set := goodIn_r _ [6, 7, 10] (by decide +kernel) (by decide +kernel)
set_option maxRecDepth 20000 in
theorem gX3_mark_X2_set : GoodIn wsX3_mark (wsV RX3 31 RX2 yX2_set wsX2_set) := goodIn_app (goodIn_of _ (by decide +kernel)) ggX3_mark_X2_set
theorem dX3_mark_0 : decode cX3_mark 0 = .ok (.aload_n 0, 1) := by decide +kernel
theorem dX3_mark_1 : decode cX3_mark 1 = .ok (.getfield 14, 3) := by decide +kernel
theorem dX3_mark_4 : decode cX3_mark 4 = .ok (.iload_n 1, 1) := by decide +kernel
theorem dX3_mark_5 : decode cX3_mark 5 = .ok (.iconst 0, 1) := by decide +kernel
theorem dX3_mark_6 : decode cX3_mark 6 = .ok (.invokevirtual 31, 3) := by decide +kernel
theorem dX3_mark_9 : decode cX3_mark 9 = .ok (.return_, 1) := by decide +kernel
set_option maxRecDepth 20000 in
theorem ggX3_countBehindOneEdit_X3_forget : GoodIn wsX3_countBehindOneEdit wsX3_forget := goodIn_r _ [5, 6, 7, 8, 9, 10, 11, 12, 13, 14, 15, 16, 17, 49, 50, 51] (by decide +kernel) (by decide +kernel)
set_option maxRecDepth 20000 in
theorem gX3_countBehindOneEdit_X3_forget : GoodIn wsX3_countBehindOneEdit (wsV RX3 35 RX3 yX3_forget wsX3_forget) := goodIn_app (goodIn_of _ (by decide +kernel)) ggX3_countBehindOneEdit_X3_forget
set_option maxRecDepth 20000 in
theorem ggX3_countBehindOneEdit_X3_mark : GoodIn wsX3_countBehindOneEdit wsX3_mark := goodIn_r _ [21, 6, 22, 23, 24, 11, 25, 13, 49, 50, 51] (by decide +kernel) (by decide +kernel)
set_option maxRecDepth 20000 in
theorem gX3_countBehindOneEdit_X3_mark : GoodIn wsX3_countBehindOneEdit (wsV RX3 38 RX3 yX3_mark wsX3_mark) := goodIn_app (goodIn_of _ (by decide +kernel)) ggX3_countBehindOneEdit_X3_mark
set_option maxRecDepth 20000 in
theorem ggX3_countBehindOneEdit_X3_queueNewBehind : GoodIn wsX3_countBehindOneEdit wsX3_queueNewBehind := goodIn_r _ [29, 6, 7, 30, 31, 32, 33, 34, 35, 36, 37, 38, 39, 40, 41, 42, 43, 44, 45, 46, 11, 47, 13, 48, 22, 23, 24, 25, 49, 50, 52, 51] (by decide +kernel) (by decide +kernel)
set_option maxRecDepth 20000 in
theorem gX3_countBehindOneEdit_X3_queueNewBehind : GoodIn wsX3_countBehindOneEdit (wsV RX3 41 RX3 yX3_queueNewBehind wsX3_queueNewBehind) := goodIn_app (goodIn_of _ (by decide +kernel)) ggX3_countBehindOneEdit_X3_queueNewBehind
theorem dX3_countBehindOneEdit_0 : decode cX3_countBehindOneEdit 0 = .ok (.aload_n 0, 1) := by decide +kernel
theorem dX3_countBehindOneEdit_1 : decode cX3_countBehindOneEdit 1 = .ok (.invokevirtual 35, 3) := by decide +kernel
theorem dX3_countBehindOneEdit_4 : decode cX3_countBehindOneEdit 4 = .ok (.aload_n 0, 1) := by decide +kernel
theorem dX3_countBehindOneEdit_5 : decode cX3_countBehindOneEdit 5 = .ok (.iload_n 2, 1) := by decide +kernel
theorem dX3_countBehindOneEdit_6 : decode cX3_countBehindOneEdit 6 = .ok (.invokevirtual 38, 3) := by decide +kernel
theorem dX3_countBehindOneEdit_9 : decode cX3_countBehindOneEdit 9 = .ok (.aload_n 0, 1) := by decide +kernel
theorem dX3_countBehindOneEdit_10 : decode cX3_countBehindOneEdit 10 = .ok (.aload_n 1, 1) := by decide +kernel
theorem dX3_countBehindOneEdit_11 : decode cX3_countBehindOneEdit 11 = .ok (.iload_n 2, 1) := by decide +kernel
theorem dX3_countBehindOneEdit_12 : decode cX3_countBehindOneEdit 12 = .ok (.iconst 1, 1) := by decide +kernel
theorem dX3_countBehindOneEdit_13 : decode cX3_countBehindOneEdit 13 = .ok (.invokevirtual 41, 3) := by decide +kernel
theorem dX3_countBehindOneEdit_16 : decode cX3_countBehindOneEdit 16 = .ok (.ireturn, 1) := by decide +kernel
set_option maxRecDepth 20000 in
theorem ggX3_goOutward_X3_forget : GoodIn wsX3_goOutward wsX3_forget := goodIn_r _ [6, 7, 8, 9, 10, 11, 12, 13, 14, 15, 16, 17, 18, 49, 50, 51] (by decide +kernel) (by decide +kernel)
set_option maxRecDepth 20000 in
theorem gX3_goOutward_X3_forget : GoodIn wsX3_goOutward (wsV RX3 35 RX3 yX3_forget wsX3_forget) := goodIn_app (goodIn_of _ (by decide +kernel)) ggX3_goOutward_X3_forget
set_option maxRecDepth 20000 in
theorem ggX3_goOutward_X3_mark : GoodIn wsX3_goOutward wsX3_mark := goodIn_r _ [22, 7, 23, 24, 25, 12, 26, 14, 49, 50, 51] (by decide +kernel) (by decide +kernel)
set_option maxRecDepth 20000 in
theorem gX3_goOutward_X3_mark : GoodIn wsX3_goOutward (wsV RX3 38 RX3 yX3_mark wsX3_mark) := goodIn_app (goodIn_of _ (by decide +kernel)) ggX3_goOutward_X3_mark
set_option maxRecDepth 20000 in
theorem ggX3_goOutward_X2_set : GoodIn wsX3_goOutward wsX2_set := goodIn_r _ [26, 14, 51] (by decide +kernel) (by decide +kernel)
set_option maxRecDepth 20000 in
theorem gX3_goOutward_X2_set : GoodIn wsX3_goOutward (wsV RX3 31 RX2 yX2_set wsX2_set) := goodIn_app (goodIn_of _ (by decide +kernel)) ggX3_goOutward_X2_set
set_option maxRecDepth 20000 in
theorem ggX3_goOutward_X2_get : GoodIn wsX3_goOutward wsX2_get := goodIn_r _ [30, 14, 51] (by decide +kernel) (by decide +kernel)
set_option maxRecDepth 20000 in
theorem gX3_goOutward_X2_get : GoodIn wsX3_goOutward (wsV RX3 23 RX2 yX2_get wsX2_get) := goodIn_app (goodIn_of _ (by decide +kernel)) ggX3_goOutward_X2_get
set_option maxRecDepth 20000 in
theorem ggX3_goOutward_X3_queueNewBehind : GoodIn wsX3_goOutward wsX3_queueNewBehind := goodIn_r _ [34, 7, 8, 1, 35, 36, 37, 38, 39, 40, 41, 42, 43, 44, 45, 46, 47, 48, 28, 29, 12, 30, 14, 27, 23, 24, 25, 26, 49, 50, 52, 51] (by decide +kernel) (by decide +kernel)
set_option maxRecDepth 20000 in
theorem gX3_goOutward_X3_queueNewBehind : GoodIn wsX3_goOutward (wsV RX3 41 RX3 yX3_queueNewBehind wsX3_queueNewBehind) := goodIn_app (goodIn_of _ (by decide +kernel)) ggX3_goOutward_X3_queueNewBehind
theorem dX3_goOutward_0 : decode cX3_goOutward 0 = .ok (.aload_n 0, 1) := by decide +kernel
theorem dX3_goOutward_1 : decode cX3_goOutward 1 = .ok (.invokevirtual 35, 3) := by decide +kernel
theorem dX3_goOutward_4 : decode cX3_goOutward 4 = .ok (.aload_n 0, 1) := by decide +kernel
theorem dX3_goOutward_5 : decode cX3_goOutward 5 = .ok (.iload_n 2, 1) := by decide +kernel
theorem dX3_goOutward_6 : decode cX3_goOutward 6 = .ok (.invokevirtual 38, 3) := by decide +kernel
theorem dX3_goOutward_9 : decode cX3_goOutward 9 = .ok (.aload_n 0, 1) := by decide +kernel
theorem dX3_goOutward_10 : decode cX3_goOutward 10 = .ok (.getfield 20, 3) := by decide +kernel
theorem dX3_goOutward_13 : decode cX3_goOutward 13 = .ok (.iconst 0, 1) := by decide +kernel
theorem dX3_goOutward_14 : decode cX3_goOutward 14 = .ok (.iload_n 2, 1) := by decide +kernel
theorem dX3_goOutward_15 : decode cX3_goOutward 15 = .ok (.invokevirtual 31, 3) := by decide +kernel
theorem dX3_goOutward_18 : decode cX3_goOutward 18 = .ok (.iconst 1, 1) := by decide +kernel
theorem dX3_goOutward_19 : decode cX3_goOutward 19 = .ok (.istore_n 3, 1) := by decide +kernel
theorem dX3_goOutward_20 : decode cX3_goOutward 20 = .ok (.iconst 0, 1) := by decide +kernel
theorem dX3_goOutward_21 : decode cX3_goOutward 21 = .ok (.istore 4, 2) := by decide +kernel
theorem dX3_goOutward_23 : decode cX3_goOutward 23 = .ok (.iload 4, 2) := by decide +kernel
theorem dX3_goOutward_25 : decode cX3_goOutward 25 = .ok (.iload_n 3, 1) := by decide +kernel
theorem dX3_goOutward_26 : decode cX3_goOutward 26 = .ok (.if_icmp .ge 33, 3) := by decide +kernel
theorem dX3_goOutward_29 : decode cX3_goOutward 29 = .ok (.iload 4, 2) := by decide +kernel
theorem dX3_goOutward_31 : decode cX3_goOutward 31 = .ok (.sipush 1296, 3) := by decide +kernel
theorem dX3_goOutward_34 : decode cX3_goOutward 34 = .ok (.if_icmp .ge 25, 3) := by decide +kernel
theorem dX3_goOutward_37 : decode cX3_goOutward 37 = .ok (.aload_n 0, 1) := by decide +kernel
theorem dX3_goOutward_38 : decode cX3_goOutward 38 = .ok (.aload_n 1, 1) := by decide +kernel
theorem dX3_goOutward_39 : decode cX3_goOutward 39 = .ok (.aload_n 0, 1) := by decide +kernel
theorem dX3_goOutward_40 : decode cX3_goOutward 40 = .ok (.getfield 20, 3) := by decide +kernel
theorem dX3_goOutward_43 : decode cX3_goOutward 43 = .ok (.iload 4, 2) := by decide +kernel
theorem dX3_goOutward_45 : decode cX3_goOutward 45 = .ok (.invokevirtual 23, 3) := by decide +kernel
theorem dX3_goOutward_48 : decode cX3_goOutward 48 = .ok (.iload_n 3, 1) := by decide +kernel
theorem dX3_goOutward_49 : decode cX3_goOutward 49 = .ok (.invokevirtual 41, 3) := by decide +kernel
theorem dX3_goOutward_52 : decode cX3_goOutward 52 = .ok (.istore_n 3, 1) := by decide +kernel
theorem dX3_goOutward_53 : decode cX3_goOutward 53 = .ok (.iinc 4 1, 3) := by decide +kernel
theorem dX3_goOutward_56 : decode cX3_goOutward 56 = .ok (.goto (-33), 3) := by decide +kernel
theorem dX3_goOutward_59 : decode cX3_goOutward 59 = .ok (.return_, 1) := by decide +kernel
set_option maxRecDepth 20000 in
theorem ggX3_queueNewBehind_X1_weightOf : GoodIn wsX3_queueNewBehind wsX1_weightOf := goodIn_r _ [7] (by decide +kernel) (by decide +kernel)
set_option maxRecDepth 20000 in
theorem gX3_queueNewBehind_X1_weightOf : GoodIn wsX3_queueNewBehind (va_wsS RX3 45 yX1_weightOf wsX1_weightOf) := goodIn_app (goodIn_of _ (by decide +kernel)) ggX3_queueNewBehind_X1_weightOf
set_option maxRecDepth 20000 in
theorem ggX3_queueNewBehind_X1_without : GoodIn wsX3_queueNewBehind wsX1_without := goodIn_r _ [10, 11, 5, 6, 7] (by decide +kernel) (by decide +kernel)
set_option maxRecDepth 20000 in
theorem gX3_queueNewBehind_X1_without : GoodIn wsX3_queueNewBehind (va_wsS RX3 50 yX1_without wsX1_without) := goodIn_app (goodIn_of _ (by decide +kernel)) ggX3_queueNewBehind_X1_without
set_option maxRecDepth 20000 in
theorem ggX3_queueNewBehind_X1_formOf : GoodIn wsX3_queueNewBehind wsX1_formOf := goodIn_r _ [15, 16, 17, 18, 19, 20, 21, 22, 30, 31] (by decide +kernel) (by decide +kernel)
set_option maxRecDepth 20000 in
theorem gX3_queueNewBehind_X1_formOf : GoodIn wsX3_queueNewBehind (wsV RX3 54 RX1 yX1_formOf wsX1_formOf) := goodIn_app (goodIn_of _ (by decide +kernel)) ggX3_queueNewBehind_X1_formOf
set_option maxRecDepth 20000 in
theorem ggX3_queueNewBehind_X2_get : GoodIn wsX3_queueNewBehind wsX2_get := goodIn_r _ [21, 22, 31] (by decide +kernel) (by decide +kernel)
set_option maxRecDepth 20000 in
theorem gX3_queueNewBehind_X2_get : GoodIn wsX3_queueNewBehind (wsV RX3 23 RX2 yX2_get wsX2_get) := goodIn_app (goodIn_of _ (by decide +kernel)) ggX3_queueNewBehind_X2_get
set_option maxRecDepth 20000 in
theorem ggX3_queueNewBehind_X2_set : GoodIn wsX3_queueNewBehind wsX2_set := goodIn_r _ [27, 22, 31] (by decide +kernel) (by decide +kernel)
set_option maxRecDepth 20000 in
theorem gX3_queueNewBehind_X2_set : GoodIn wsX3_queueNewBehind (wsV RX3 31 RX2 yX2_set wsX2_set) := goodIn_app (goodIn_of _ (by decide +kernel)) ggX3_queueNewBehind_X2_set
theorem dX3_queueNewBehind_0 : decode cX3_queueNewBehind 0 = .ok (.iload_n 3, 1) := by decide +kernel
theorem dX3_queueNewBehind_1 : decode cX3_queueNewBehind 1 = .ok (.istore 4, 2) := by decide +kernel
theorem dX3_queueNewBehind_3 : decode cX3_queueNewBehind 3 = .ok (.iconst 0, 1) := by decide +kernel
theorem dX3_queueNewBehind_4 : decode cX3_queueNewBehind 4 = .ok (.istore 5, 2) := by decide +kernel
theorem dX3_queueNewBehind_6 : decode cX3_queueNewBehind 6 = .ok (.iload 5, 2) := by decide +kernel
theorem dX3_queueNewBehind_8 : decode cX3_queueNewBehind 8 = .ok (.iconst 4, 1) := by decide +kernel
theorem dX3_queueNewBehind_9 : decode cX3_queueNewBehind 9 = .ok (.if_icmp .ge 101, 3) := by decide +kernel
theorem dX3_queueNewBehind_12 : decode cX3_queueNewBehind 12 = .ok (.iload 5, 2) := by decide +kernel
theorem dX3_queueNewBehind_14 : decode cX3_queueNewBehind 14 = .ok (.invokestatic 45, 3) := by decide +kernel
theorem dX3_queueNewBehind_17 : decode cX3_queueNewBehind 17 = .ok (.istore 6, 2) := by decide +kernel
theorem dX3_queueNewBehind_19 : decode cX3_queueNewBehind 19 = .ok (.iload_n 2, 1) := by decide +kernel
theorem dX3_queueNewBehind_20 : decode cX3_queueNewBehind 20 = .ok (.iload 5, 2) := by decide +kernel
theorem dX3_queueNewBehind_22 : decode cX3_queueNewBehind 22 = .ok (.invokestatic 50, 3) := by decide +kernel
theorem dX3_queueNewBehind_25 : decode cX3_queueNewBehind 25 = .ok (.istore 7, 2) := by decide +kernel
theorem dX3_queueNewBehind_27 : decode cX3_queueNewBehind 27 = .ok (.iconst 0, 1) := by decide +kernel
theorem dX3_queueNewBehind_28 : decode cX3_queueNewBehind 28 = .ok (.istore 8, 2) := by decide +kernel
theorem dX3_queueNewBehind_30 : decode cX3_queueNewBehind 30 = .ok (.iload 8, 2) := by decide +kernel
theorem dX3_queueNewBehind_32 : decode cX3_queueNewBehind 32 = .ok (.bipush 6, 2) := by decide +kernel
theorem dX3_queueNewBehind_34 : decode cX3_queueNewBehind 34 = .ok (.if_icmp .ge 70, 3) := by decide +kernel
theorem dX3_queueNewBehind_37 : decode cX3_queueNewBehind 37 = .ok (.aload_n 1, 1) := by decide +kernel
theorem dX3_queueNewBehind_38 : decode cX3_queueNewBehind 38 = .ok (.iload 7, 2) := by decide +kernel
theorem dX3_queueNewBehind_40 : decode cX3_queueNewBehind 40 = .ok (.iload 8, 2) := by decide +kernel
theorem dX3_queueNewBehind_42 : decode cX3_queueNewBehind 42 = .ok (.iload 6, 2) := by decide +kernel
theorem dX3_queueNewBehind_44 : decode cX3_queueNewBehind 44 = .ok (.imul, 1) := by decide +kernel
theorem dX3_queueNewBehind_45 : decode cX3_queueNewBehind 45 = .ok (.iadd, 1) := by decide +kernel
theorem dX3_queueNewBehind_46 : decode cX3_queueNewBehind 46 = .ok (.invokevirtual 54, 3) := by decide +kernel
theorem dX3_queueNewBehind_49 : decode cX3_queueNewBehind 49 = .ok (.istore 9, 2) := by decide +kernel
theorem dX3_queueNewBehind_51 : decode cX3_queueNewBehind 51 = .ok (.aload_n 0, 1) := by decide +kernel
theorem dX3_queueNewBehind_52 : decode cX3_queueNewBehind 52 = .ok (.getfield 14, 3) := by decide +kernel
theorem dX3_queueNewBehind_55 : decode cX3_queueNewBehind 55 = .ok (.iload 9, 2) := by decide +kernel
theorem dX3_queueNewBehind_57 : decode cX3_queueNewBehind 57 = .ok (.invokevirtual 23, 3) := by decide +kernel
theorem dX3_queueNewBehind_60 : decode cX3_queueNewBehind 60 = .ok (.ldc 27, 2) := by decide +kernel
theorem dX3_queueNewBehind_62 : decode cX3_queueNewBehind 62 = .ok (.if_icmp .ne 36, 3) := by decide +kernel
theorem dX3_queueNewBehind_65 : decode cX3_queueNewBehind 65 = .ok (.aload_n 0, 1) := by decide +kernel
theorem dX3_queueNewBehind_66 : decode cX3_queueNewBehind 66 = .ok (.getfield 14, 3) := by decide +kernel
theorem dX3_queueNewBehind_69 : decode cX3_queueNewBehind 69 = .ok (.iload 9, 2) := by decide +kernel
theorem dX3_queueNewBehind_71 : decode cX3_queueNewBehind 71 = .ok (.aload_n 0, 1) := by decide +kernel
theorem dX3_queueNewBehind_72 : decode cX3_queueNewBehind 72 = .ok (.getfield 14, 3) := by decide +kernel
theorem dX3_queueNewBehind_75 : decode cX3_queueNewBehind 75 = .ok (.iload_n 2, 1) := by decide +kernel
theorem dX3_queueNewBehind_76 : decode cX3_queueNewBehind 76 = .ok (.invokevirtual 23, 3) := by decide +kernel
theorem dX3_queueNewBehind_79 : decode cX3_queueNewBehind 79 = .ok (.iconst 1, 1) := by decide +kernel
theorem dX3_queueNewBehind_80 : decode cX3_queueNewBehind 80 = .ok (.iadd, 1) := by decide +kernel
theorem dX3_queueNewBehind_81 : decode cX3_queueNewBehind 81 = .ok (.invokevirtual 31, 3) := by decide +kernel
theorem dX3_queueNewBehind_84 : decode cX3_queueNewBehind 84 = .ok (.aload_n 0, 1) := by decide +kernel
theorem dX3_queueNewBehind_85 : decode cX3_queueNewBehind 85 = .ok (.getfield 20, 3) := by decide +kernel
theorem dX3_queueNewBehind_88 : decode cX3_queueNewBehind 88 = .ok (.iload 4, 2) := by decide +kernel
theorem dX3_queueNewBehind_90 : decode cX3_queueNewBehind 90 = .ok (.iload 9, 2) := by decide +kernel
theorem dX3_queueNewBehind_92 : decode cX3_queueNewBehind 92 = .ok (.invokevirtual 31, 3) := by decide +kernel
theorem dX3_queueNewBehind_95 : decode cX3_queueNewBehind 95 = .ok (.iinc 4 1, 3) := by decide +kernel
theorem dX3_queueNewBehind_98 : decode cX3_queueNewBehind 98 = .ok (.iinc 8 1, 3) := by decide +kernel
theorem dX3_queueNewBehind_101 : decode cX3_queueNewBehind 101 = .ok (.goto (-71), 3) := by decide +kernel
theorem dX3_queueNewBehind_104 : decode cX3_queueNewBehind 104 = .ok (.iinc 5 1, 3) := by decide +kernel
theorem dX3_queueNewBehind_107 : decode cX3_queueNewBehind 107 = .ok (.goto (-101), 3) := by decide +kernel
theorem dX3_queueNewBehind_110 : decode cX3_queueNewBehind 110 = .ok (.iload 4, 2) := by decide +kernel
theorem dX3_queueNewBehind_112 : decode cX3_queueNewBehind 112 = .ok (.ireturn, 1) := by decide +kernel
set_option maxRecDepth 20000 in
theorem ggX3_settle_X3_settleOnce : GoodIn wsX3_settle wsX3_settleOnce := goodIn_r _ [5, 6, 7, 8, 9, 10, 11, 12, 13, 14, 15, 16, 17, 18, 19, 20, 21, 4, 22, 23, 24, 25, 26, 27, 28, 29, 30, 31, 32, 33, 34, 35, 36, 37, 38, 39, 40, 41, 42, 43, 44, 45, 46, 47] (by decide +kernel) (by decide +kernel)
set_option maxRecDepth 20000 in
theorem gX3_settle_X3_settleOnce : GoodIn wsX3_settle (wsV RX3 57 RX3 yX3_settleOnce wsX3_settleOnce) := goodIn_app (goodIn_of _ (by decide +kernel)) ggX3_settle_X3_settleOnce
theorem dX3_settle_0 : decode cX3_settle 0 = .ok (.iconst 1, 1) := by decide +kernel
theorem dX3_settle_1 : decode cX3_settle 1 = .ok (.istore_n 2, 1) := by decide +kernel
theorem dX3_settle_2 : decode cX3_settle 2 = .ok (.iconst 0, 1) := by decide +kernel
theorem dX3_settle_3 : decode cX3_settle 3 = .ok (.istore_n 3, 1) := by decide +kernel
theorem dX3_settle_4 : decode cX3_settle 4 = .ok (.iload_n 2, 1) := by decide +kernel
theorem dX3_settle_5 : decode cX3_settle 5 = .ok (.ifCond .eq 22, 3) := by decide +kernel
theorem dX3_settle_8 : decode cX3_settle 8 = .ok (.iload_n 3, 1) := by decide +kernel
theorem dX3_settle_9 : decode cX3_settle 9 = .ok (.sipush 1296, 3) := by decide +kernel
theorem dX3_settle_12 : decode cX3_settle 12 = .ok (.if_icmp .ge 15, 3) := by decide +kernel
theorem dX3_settle_15 : decode cX3_settle 15 = .ok (.aload_n 0, 1) := by decide +kernel
theorem dX3_settle_16 : decode cX3_settle 16 = .ok (.aload_n 1, 1) := by decide +kernel
theorem dX3_settle_17 : decode cX3_settle 17 = .ok (.invokevirtual 57, 3) := by decide +kernel
theorem dX3_settle_20 : decode cX3_settle 20 = .ok (.istore_n 2, 1) := by decide +kernel
theorem dX3_settle_21 : decode cX3_settle 21 = .ok (.iinc 3 1, 3) := by decide +kernel
theorem dX3_settle_24 : decode cX3_settle 24 = .ok (.goto (-20), 3) := by decide +kernel
theorem dX3_settle_27 : decode cX3_settle 27 = .ok (.return_, 1) := by decide +kernel
set_option maxRecDepth 20000 in
theorem ggX3_settleOnce_X1_isForm : GoodIn wsX3_settleOnce wsX1_isForm := goodIn_r _ [6, 7, 8, 9, 10, 11, 12, 13, 42, 43] (by decide +kernel) (by decide +kernel)
set_option maxRecDepth 20000 in
theorem gX3_settleOnce_X1_isForm : GoodIn wsX3_settleOnce (wsV RX3 61 RX1 yX1_isForm wsX1_isForm) := goodIn_app (goodIn_of _ (by decide +kernel)) ggX3_settleOnce_X1_isForm
set_option maxRecDepth 20000 in
theorem ggX3_settleOnce_X3_leastBehind : GoodIn wsX3_settleOnce wsX3_leastBehind := goodIn_r _ [18, 19, 1, 20, 21, 22, 23, 24, 25, 5, 26, 27, 28, 29, 30, 31, 32, 33, 34, 7, 8, 9, 10, 11, 12, 13, 35, 40, 41, 42, 43] (by decide +kernel) (by decide +kernel)
set_option maxRecDepth 20000 in
theorem gX3_settleOnce_X3_leastBehind : GoodIn wsX3_settleOnce (wsV RX3 65 RX3 yX3_leastBehind wsX3_leastBehind) := goodIn_app (goodIn_of _ (by decide +kernel)) ggX3_settleOnce_X3_leastBehind
set_option maxRecDepth 20000 in
theorem ggX3_settleOnce_X2_get : GoodIn wsX3_settleOnce wsX2_get := goodIn_r _ [12, 13, 43] (by decide +kernel) (by decide +kernel)
set_option maxRecDepth 20000 in
theorem gX3_settleOnce_X2_get : GoodIn wsX3_settleOnce (wsV RX3 23 RX2 yX2_get wsX2_get) := goodIn_app (goodIn_of _ (by decide +kernel)) ggX3_settleOnce_X2_get
set_option maxRecDepth 20000 in
theorem ggX3_settleOnce_X2_set : GoodIn wsX3_settleOnce wsX2_set := goodIn_r _ [39, 13, 43] (by decide +kernel) (by decide +kernel)
set_option maxRecDepth 20000 in
theorem gX3_settleOnce_X2_set : GoodIn wsX3_settleOnce (wsV RX3 31 RX2 yX2_set wsX2_set) := goodIn_app (goodIn_of _ (by decide +kernel)) ggX3_settleOnce_X2_set
theorem dX3_settleOnce_0 : decode cX3_settleOnce 0 = .ok (.iconst 0, 1) := by decide +kernel
theorem dX3_settleOnce_1 : decode cX3_settleOnce 1 = .ok (.istore_n 2, 1) := by decide +kernel
theorem dX3_settleOnce_2 : decode cX3_settleOnce 2 = .ok (.iconst 0, 1) := by decide +kernel
theorem dX3_settleOnce_3 : decode cX3_settleOnce 3 = .ok (.istore_n 3, 1) := by decide +kernel
theorem dX3_settleOnce_4 : decode cX3_settleOnce 4 = .ok (.iload_n 3, 1) := by decide +kernel
theorem dX3_settleOnce_5 : decode cX3_settleOnce 5 = .ok (.sipush 1296, 3) := by decide +kernel
theorem dX3_settleOnce_8 : decode cX3_settleOnce 8 = .ok (.if_icmp .ge 52, 3) := by decide +kernel
theorem dX3_settleOnce_11 : decode cX3_settleOnce 11 = .ok (.aload_n 1, 1) := by decide +kernel
theorem dX3_settleOnce_12 : decode cX3_settleOnce 12 = .ok (.iload_n 3, 1) := by decide +kernel
theorem dX3_settleOnce_13 : decode cX3_settleOnce 13 = .ok (.invokevirtual 61, 3) := by decide +kernel
theorem dX3_settleOnce_16 : decode cX3_settleOnce 16 = .ok (.ifCond .eq 38, 3) := by decide +kernel
theorem dX3_settleOnce_19 : decode cX3_settleOnce 19 = .ok (.aload_n 0, 1) := by decide +kernel
theorem dX3_settleOnce_20 : decode cX3_settleOnce 20 = .ok (.aload_n 1, 1) := by decide +kernel
theorem dX3_settleOnce_21 : decode cX3_settleOnce 21 = .ok (.iload_n 3, 1) := by decide +kernel
theorem dX3_settleOnce_22 : decode cX3_settleOnce 22 = .ok (.invokevirtual 65, 3) := by decide +kernel
theorem dX3_settleOnce_25 : decode cX3_settleOnce 25 = .ok (.iconst 1, 1) := by decide +kernel
theorem dX3_settleOnce_26 : decode cX3_settleOnce 26 = .ok (.iadd, 1) := by decide +kernel
theorem dX3_settleOnce_27 : decode cX3_settleOnce 27 = .ok (.istore 4, 2) := by decide +kernel
theorem dX3_settleOnce_29 : decode cX3_settleOnce 29 = .ok (.iload 4, 2) := by decide +kernel
theorem dX3_settleOnce_31 : decode cX3_settleOnce 31 = .ok (.aload_n 0, 1) := by decide +kernel
theorem dX3_settleOnce_32 : decode cX3_settleOnce 32 = .ok (.getfield 14, 3) := by decide +kernel
theorem dX3_settleOnce_35 : decode cX3_settleOnce 35 = .ok (.iload_n 3, 1) := by decide +kernel
theorem dX3_settleOnce_36 : decode cX3_settleOnce 36 = .ok (.invokevirtual 23, 3) := by decide +kernel
theorem dX3_settleOnce_39 : decode cX3_settleOnce 39 = .ok (.if_icmp .ge 15, 3) := by decide +kernel
theorem dX3_settleOnce_42 : decode cX3_settleOnce 42 = .ok (.aload_n 0, 1) := by decide +kernel
theorem dX3_settleOnce_43 : decode cX3_settleOnce 43 = .ok (.getfield 14, 3) := by decide +kernel
theorem dX3_settleOnce_46 : decode cX3_settleOnce 46 = .ok (.iload_n 3, 1) := by decide +kernel
theorem dX3_settleOnce_47 : decode cX3_settleOnce 47 = .ok (.iload 4, 2) := by decide +kernel
theorem dX3_settleOnce_49 : decode cX3_settleOnce 49 = .ok (.invokevirtual 31, 3) := by decide +kernel
theorem dX3_settleOnce_52 : decode cX3_settleOnce 52 = .ok (.iconst 1, 1) := by decide +kernel
theorem dX3_settleOnce_53 : decode cX3_settleOnce 53 = .ok (.istore_n 2, 1) := by decide +kernel
theorem dX3_settleOnce_54 : decode cX3_settleOnce 54 = .ok (.iinc 3 1, 3) := by decide +kernel
theorem dX3_settleOnce_57 : decode cX3_settleOnce 57 = .ok (.goto (-53), 3) := by decide +kernel
theorem dX3_settleOnce_60 : decode cX3_settleOnce 60 = .ok (.iload_n 2, 1) := by decide +kernel
theorem dX3_settleOnce_61 : decode cX3_settleOnce 61 = .ok (.ireturn, 1) := by decide +kernel
set_option maxRecDepth 20000 in
theorem ggX3_leastBehind_X1_weightOf : GoodIn wsX3_leastBehind wsX1_weightOf := goodIn_r _ [10] (by decide +kernel) (by decide +kernel)
set_option maxRecDepth 20000 in
theorem gX3_leastBehind_X1_weightOf : GoodIn wsX3_leastBehind (va_wsS RX3 45 yX1_weightOf wsX1_weightOf) := goodIn_app (goodIn_of _ (by decide +kernel)) ggX3_leastBehind_X1_weightOf
set_option maxRecDepth 20000 in
theorem ggX3_leastBehind_X1_without : GoodIn wsX3_leastBehind wsX1_without := goodIn_r _ [13, 14, 8, 9, 10] (by decide +kernel) (by decide +kernel)
set_option maxRecDepth 20000 in
theorem gX3_leastBehind_X1_without : GoodIn wsX3_leastBehind (va_wsS RX3 50 yX1_without wsX1_without) := goodIn_app (goodIn_of _ (by decide +kernel)) ggX3_leastBehind_X1_without
set_option maxRecDepth 20000 in
theorem ggX3_leastBehind_X1_formOf : GoodIn wsX3_leastBehind wsX1_formOf := goodIn_r _ [18, 19, 20, 21, 22, 23, 24, 25, 29, 30] (by decide +kernel) (by decide +kernel)
set_option maxRecDepth 20000 in
theorem gX3_leastBehind_X1_formOf : GoodIn wsX3_leastBehind (wsV RX3 54 RX1 yX1_formOf wsX1_formOf) := goodIn_app (goodIn_of _ (by decide +kernel)) ggX3_leastBehind_X1_formOf
set_option maxRecDepth 20000 in
theorem ggX3_leastBehind_X2_get : GoodIn wsX3_leastBehind wsX2_get := goodIn_r _ [24, 25, 30] (by decide +kernel) (by decide +kernel)
set_option maxRecDepth 20000 in
theorem gX3_leastBehind_X2_get : GoodIn wsX3_leastBehind (wsV RX3 23 RX2 yX2_get wsX2_get) := goodIn_app (goodIn_of _ (by decide +kernel)) ggX3_leastBehind_X2_get
theorem dX3_leastBehind_0 : decode cX3_leastBehind 0 = .ok (.ldc 27, 2) := by decide +kernel
theorem dX3_leastBehind_2 : decode cX3_leastBehind 2 = .ok (.istore_n 3, 1) := by decide +kernel
theorem dX3_leastBehind_3 : decode cX3_leastBehind 3 = .ok (.iconst 0, 1) := by decide +kernel
theorem dX3_leastBehind_4 : decode cX3_leastBehind 4 = .ok (.istore 4, 2) := by decide +kernel
theorem dX3_leastBehind_6 : decode cX3_leastBehind 6 = .ok (.iload 4, 2) := by decide +kernel
theorem dX3_leastBehind_8 : decode cX3_leastBehind 8 = .ok (.iconst 4, 1) := by decide +kernel
theorem dX3_leastBehind_9 : decode cX3_leastBehind 9 = .ok (.if_icmp .ge 64, 3) := by decide +kernel
theorem dX3_leastBehind_12 : decode cX3_leastBehind 12 = .ok (.iload 4, 2) := by decide +kernel
theorem dX3_leastBehind_14 : decode cX3_leastBehind 14 = .ok (.invokestatic 45, 3) := by decide +kernel
theorem dX3_leastBehind_17 : decode cX3_leastBehind 17 = .ok (.istore 5, 2) := by decide +kernel
theorem dX3_leastBehind_19 : decode cX3_leastBehind 19 = .ok (.iload_n 2, 1) := by decide +kernel
theorem dX3_leastBehind_20 : decode cX3_leastBehind 20 = .ok (.iload 4, 2) := by decide +kernel
theorem dX3_leastBehind_22 : decode cX3_leastBehind 22 = .ok (.invokestatic 50, 3) := by decide +kernel
theorem dX3_leastBehind_25 : decode cX3_leastBehind 25 = .ok (.istore 6, 2) := by decide +kernel
theorem dX3_leastBehind_27 : decode cX3_leastBehind 27 = .ok (.iconst 0, 1) := by decide +kernel
theorem dX3_leastBehind_28 : decode cX3_leastBehind 28 = .ok (.istore 7, 2) := by decide +kernel
theorem dX3_leastBehind_30 : decode cX3_leastBehind 30 = .ok (.iload 7, 2) := by decide +kernel
theorem dX3_leastBehind_32 : decode cX3_leastBehind 32 = .ok (.bipush 6, 2) := by decide +kernel
theorem dX3_leastBehind_34 : decode cX3_leastBehind 34 = .ok (.if_icmp .ge 33, 3) := by decide +kernel
theorem dX3_leastBehind_37 : decode cX3_leastBehind 37 = .ok (.iload_n 3, 1) := by decide +kernel
theorem dX3_leastBehind_38 : decode cX3_leastBehind 38 = .ok (.aload_n 0, 1) := by decide +kernel
theorem dX3_leastBehind_39 : decode cX3_leastBehind 39 = .ok (.getfield 14, 3) := by decide +kernel
theorem dX3_leastBehind_42 : decode cX3_leastBehind 42 = .ok (.aload_n 1, 1) := by decide +kernel
theorem dX3_leastBehind_43 : decode cX3_leastBehind 43 = .ok (.iload 6, 2) := by decide +kernel
theorem dX3_leastBehind_45 : decode cX3_leastBehind 45 = .ok (.iload 7, 2) := by decide +kernel
theorem dX3_leastBehind_47 : decode cX3_leastBehind 47 = .ok (.iload 5, 2) := by decide +kernel
theorem dX3_leastBehind_49 : decode cX3_leastBehind 49 = .ok (.imul, 1) := by decide +kernel
theorem dX3_leastBehind_50 : decode cX3_leastBehind 50 = .ok (.iadd, 1) := by decide +kernel
theorem dX3_leastBehind_51 : decode cX3_leastBehind 51 = .ok (.invokevirtual 54, 3) := by decide +kernel
theorem dX3_leastBehind_54 : decode cX3_leastBehind 54 = .ok (.invokevirtual 23, 3) := by decide +kernel
theorem dX3_leastBehind_57 : decode cX3_leastBehind 57 = .ok (.invokestatic 69, 3) := by decide +kernel
theorem dX3_leastBehind_60 : decode cX3_leastBehind 60 = .ok (.istore_n 3, 1) := by decide +kernel
theorem dX3_leastBehind_61 : decode cX3_leastBehind 61 = .ok (.iinc 7 1, 3) := by decide +kernel
theorem dX3_leastBehind_64 : decode cX3_leastBehind 64 = .ok (.goto (-34), 3) := by decide +kernel
theorem dX3_leastBehind_67 : decode cX3_leastBehind 67 = .ok (.iinc 4 1, 3) := by decide +kernel
theorem dX3_leastBehind_70 : decode cX3_leastBehind 70 = .ok (.goto (-64), 3) := by decide +kernel
theorem dX3_leastBehind_73 : decode cX3_leastBehind 73 = .ok (.iload_n 3, 1) := by decide +kernel
theorem dX3_leastBehind_74 : decode cX3_leastBehind 74 = .ok (.ireturn, 1) := by decide +kernel
