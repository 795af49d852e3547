theorem dX6_pass_72 : decode cX6_pass 72 = .ok (.dup, 1) := by decide +kernel
theorem dX6_pass_73 : decode cX6_pass 73 = .ok (.getfield 97, 3) := by decide +kernel
theorem dX6_pass_76 : decode cX6_pass 76 = .ok (.iconst 1, 1) := by decide +kernel
theorem dX6_pass_77 : decode cX6_pass 77 = .ok (.iadd, 1) := by decide +kernel
theorem dX6_pass_78 : decode cX6_pass 78 = .ok (.putfield 97, 3) := by decide +kernel
theorem dX6_pass_81 : decode cX6_pass 81 = .ok (.aload_n 0, 1) := by decide +kernel
theorem dX6_pass_82 : decode cX6_pass 82 = .ok (.aload_n 0, 1) := by decide +kernel
theorem dX6_pass_83 : decode cX6_pass 83 = .ok (.getfield 7, 3) := by decide +kernel
theorem dX6_pass_86 : decode cX6_pass 86 = .ok (.iload_n 1, 1) := by decide +kernel
theorem dX6_pass_87 : decode cX6_pass 87 = .ok (.iaload, 1) := by decide +kernel
theorem dX6_pass_88 : decode cX6_pass 88 = .ok (.invokevirtual 94, 3) := by decide +kernel
theorem dX6_pass_91 : decode cX6_pass 91 = .ok (.aload_n 0, 1) := by decide +kernel
theorem dX6_pass_92 : decode cX6_pass 92 = .ok (.getfield 88, 3) := by decide +kernel
theorem dX6_pass_95 : decode cX6_pass 95 = .ok (.ireturn, 1) := by decide +kernel
set_option maxRecDepth 20000 in
theorem ggX6_end_X6_goes : GoodIn wsX6_end wsX6_goes := goodIn_r _ [10, 11, 12, 13, 14, 15, 16, 17, 18, 19, 20, 21, 22, 23, 24, 25, 26, 27, 28, 29] (by decide +kernel) (by decide +kernel)
set_option maxRecDepth 20000 in
theorem gX6_end_X6_goes : GoodIn wsX6_end (wsV RX6 74 RX6 yX6_goes wsX6_goes) := goodIn_app (goodIn_of _ (by decide +kernel)) ggX6_end_X6_goes
theorem dX6_end_0 : decode cX6_end 0 = .ok (.aload_n 0, 1) := by decide +kernel
theorem dX6_end_1 : decode cX6_end 1 = .ok (.aload_n 0, 1) := by decide +kernel
theorem dX6_end_2 : decode cX6_end 2 = .ok (.getfield 36, 3) := by decide +kernel
theorem dX6_end_5 : decode cX6_end 5 = .ok (.iconst (-1), 1) := by decide +kernel
theorem dX6_end_6 : decode cX6_end 6 = .ok (.if_icmp .ne 7, 3) := by decide +kernel
theorem dX6_end_9 : decode cX6_end 9 = .ok (.iconst 1, 1) := by decide +kernel
theorem dX6_end_10 : decode cX6_end 10 = .ok (.goto 4, 3) := by decide +kernel
theorem dX6_end_13 : decode cX6_end 13 = .ok (.iconst 0, 1) := by decide +kernel
theorem dX6_end_14 : decode cX6_end 14 = .ok (.invokevirtual 74, 3) := by decide +kernel
theorem dX6_end_17 : decode cX6_end 17 = .ok (.ifCond .ne 5, 3) := by decide +kernel
theorem dX6_end_20 : decode cX6_end 20 = .ok (.iconst 0, 1) := by decide +kernel
theorem dX6_end_21 : decode cX6_end 21 = .ok (.ireturn, 1) := by decide +kernel
theorem dX6_end_22 : decode cX6_end 22 = .ok (.aload_n 0, 1) := by decide +kernel
theorem dX6_end_23 : decode cX6_end 23 = .ok (.getfield 36, 3) := by decide +kernel
theorem dX6_end_26 : decode cX6_end 26 = .ok (.istore_n 2, 1) := by decide +kernel
theorem dX6_end_27 : decode cX6_end 27 = .ok (.aload_n 0, 1) := by decide +kernel
theorem dX6_end_28 : decode cX6_end 28 = .ok (.getfield 46, 3) := by decide +kernel
theorem dX6_end_31 : decode cX6_end 31 = .ok (.aload_n 0, 1) := by decide +kernel
theorem dX6_end_32 : decode cX6_end 32 = .ok (.getfield 100, 3) := by decide +kernel
theorem dX6_end_35 : decode cX6_end 35 = .ok (.iload_n 2, 1) := by decide +kernel
theorem dX6_end_36 : decode cX6_end 36 = .ok (.iastore, 1) := by decide +kernel
theorem dX6_end_37 : decode cX6_end 37 = .ok (.aload_n 0, 1) := by decide +kernel
theorem dX6_end_38 : decode cX6_end 38 = .ok (.getfield 49, 3) := by decide +kernel
theorem dX6_end_41 : decode cX6_end 41 = .ok (.aload_n 0, 1) := by decide +kernel
theorem dX6_end_42 : decode cX6_end 42 = .ok (.getfield 100, 3) := by decide +kernel
theorem dX6_end_45 : decode cX6_end 45 = .ok (.iload_n 1, 1) := by decide +kernel
theorem dX6_end_46 : decode cX6_end 46 = .ok (.bastore, 1) := by decide +kernel
theorem dX6_end_47 : decode cX6_end 47 = .ok (.aload_n 0, 1) := by decide +kernel
theorem dX6_end_48 : decode cX6_end 48 = .ok (.dup, 1) := by decide +kernel
theorem dX6_end_49 : decode cX6_end 49 = .ok (.getfield 100, 3) := by decide +kernel
theorem dX6_end_52 : decode cX6_end 52 = .ok (.iconst 1, 1) := by decide +kernel
theorem dX6_end_53 : decode cX6_end 53 = .ok (.iadd, 1) := by decide +kernel
theorem dX6_end_54 : decode cX6_end 54 = .ok (.putfield 100, 3) := by decide +kernel
theorem dX6_end_57 : decode cX6_end 57 = .ok (.aload_n 0, 1) := by decide +kernel
theorem dX6_end_58 : decode cX6_end 58 = .ok (.getfield 23, 3) := by decide +kernel
theorem dX6_end_61 : decode cX6_end 61 = .ok (.iload_n 2, 1) := by decide +kernel
theorem dX6_end_62 : decode cX6_end 62 = .ok (.aload_n 0, 1) := by decide +kernel
theorem dX6_end_63 : decode cX6_end 63 = .ok (.getfield 23, 3) := by decide +kernel
theorem dX6_end_66 : decode cX6_end 66 = .ok (.iload_n 2, 1) := by decide +kernel
theorem dX6_end_67 : decode cX6_end 67 = .ok (.baload, 1) := by decide +kernel
theorem dX6_end_68 : decode cX6_end 68 = .ok (.ifCond .ne 7, 3) := by decide +kernel
theorem dX6_end_71 : decode cX6_end 71 = .ok (.iload_n 1, 1) := by decide +kernel
theorem dX6_end_72 : decode cX6_end 72 = .ok (.ifCond .eq 7, 3) := by decide +kernel
theorem dX6_end_75 : decode cX6_end 75 = .ok (.iconst 1, 1) := by decide +kernel
theorem dX6_end_76 : decode cX6_end 76 = .ok (.goto 4, 3) := by decide +kernel
theorem dX6_end_79 : decode cX6_end 79 = .ok (.iconst 0, 1) := by decide +kernel
theorem dX6_end_80 : decode cX6_end 80 = .ok (.bastore, 1) := by decide +kernel
theorem dX6_end_81 : decode cX6_end 81 = .ok (.aload_n 0, 1) := by decide +kernel
theorem dX6_end_82 : decode cX6_end 82 = .ok (.iconst (-1), 1) := by decide +kernel
theorem dX6_end_83 : decode cX6_end 83 = .ok (.putfield 36, 3) := by decide +kernel
theorem dX6_end_86 : decode cX6_end 86 = .ok (.iload_n 2, 1) := by decide +kernel
theorem dX6_end_87 : decode cX6_end 87 = .ok (.ireturn, 1) := by decide +kernel
theorem dX6_at_0 : decode cX6_at 0 = .ok (.aload_n 0, 1) := by decide +kernel
theorem dX6_at_1 : decode cX6_at 1 = .ok (.iconst 0, 1) := by decide +kernel
theorem dX6_at_2 : decode cX6_at 2 = .ok (.putfield 56, 3) := by decide +kernel
theorem dX6_at_5 : decode cX6_at 5 = .ok (.aload_n 0, 1) := by decide +kernel
theorem dX6_at_6 : decode cX6_at 6 = .ok (.getfield 36, 3) := by decide +kernel
theorem dX6_at_9 : decode cX6_at 9 = .ok (.ireturn, 1) := by decide +kernel
theorem dX6_met_0 : decode cX6_met 0 = .ok (.aload_n 0, 1) := by decide +kernel
theorem dX6_met_1 : decode cX6_met 1 = .ok (.iconst 0, 1) := by decide +kernel
theorem dX6_met_2 : decode cX6_met 2 = .ok (.putfield 56, 3) := by decide +kernel
theorem dX6_met_5 : decode cX6_met 5 = .ok (.aload_n 0, 1) := by decide +kernel
theorem dX6_met_6 : decode cX6_met 6 = .ok (.getfield 88, 3) := by decide +kernel
theorem dX6_met_9 : decode cX6_met 9 = .ok (.ireturn, 1) := by decide +kernel
set_option maxRecDepth 20000 in
theorem ggX6_passings_X6_isCode : GoodIn wsX6_passings wsX6_isCode := goodIn_r _ [8] (by decide +kernel) (by decide +kernel)
set_option maxRecDepth 20000 in
theorem gX6_passings_X6_isCode : GoodIn wsX6_passings (va_wsS RX6 70 yX6_isCode wsX6_isCode) := goodIn_app (goodIn_of _ (by decide +kernel)) ggX6_passings_X6_isCode
set_option maxRecDepth 20000 in
theorem ggX6_passings_X6_goes : GoodIn wsX6_passings wsX6_goes := goodIn_r _ [12, 13, 14, 15, 16, 17, 18, 19, 20, 21, 22, 23, 24, 25, 26, 27, 28, 29, 30, 31] (by decide +kernel) (by decide +kernel)
set_option maxRecDepth 20000 in
theorem gX6_passings_X6_goes : GoodIn wsX6_passings (wsV RX6 74 RX6 yX6_goes wsX6_goes) := goodIn_app (goodIn_of _ (by decide +kernel)) ggX6_passings_X6_goes
theorem dX6_passings_0 : decode cX6_passings 0 = .ok (.aload_n 0, 1) := by decide +kernel
theorem dX6_passings_1 : decode cX6_passings 1 = .ok (.iload_n 1, 1) := by decide +kernel
theorem dX6_passings_2 : decode cX6_passings 2 = .ok (.invokestatic 70, 3) := by decide +kernel
theorem dX6_passings_5 : decode cX6_passings 5 = .ok (.ifCond .eq 14, 3) := by decide +kernel
theorem dX6_passings_8 : decode cX6_passings 8 = .ok (.iload_n 2, 1) := by decide +kernel
theorem dX6_passings_9 : decode cX6_passings 9 = .ok (.invokestatic 70, 3) := by decide +kernel
theorem dX6_passings_12 : decode cX6_passings 12 = .ok (.ifCond .eq 7, 3) := by decide +kernel
theorem dX6_passings_15 : decode cX6_passings 15 = .ok (.iconst 0, 1) := by decide +kernel
theorem dX6_passings_16 : decode cX6_passings 16 = .ok (.goto 4, 3) := by decide +kernel
theorem dX6_passings_19 : decode cX6_passings 19 = .ok (.iconst 1, 1) := by decide +kernel
theorem dX6_passings_20 : decode cX6_passings 20 = .ok (.invokevirtual 74, 3) := by decide +kernel
theorem dX6_passings_23 : decode cX6_passings 23 = .ok (.ifCond .ne 5, 3) := by decide +kernel
theorem dX6_passings_26 : decode cX6_passings 26 = .ok (.iconst 0, 1) := by decide +kernel
theorem dX6_passings_27 : decode cX6_passings 27 = .ok (.ireturn, 1) := by decide +kernel
theorem dX6_passings_28 : decode cX6_passings 28 = .ok (.iconst 0, 1) := by decide +kernel
theorem dX6_passings_29 : decode cX6_passings 29 = .ok (.istore_n 3, 1) := by decide +kernel
theorem dX6_passings_30 : decode cX6_passings 30 = .ok (.iconst 0, 1) := by decide +kernel
theorem dX6_passings_31 : decode cX6_passings 31 = .ok (.istore 4, 2) := by decide +kernel
theorem dX6_passings_33 : decode cX6_passings 33 = .ok (.iload 4, 2) := by decide +kernel
theorem dX6_passings_35 : decode cX6_passings 35 = .ok (.aload_n 0, 1) := by decide +kernel
theorem dX6_passings_36 : decode cX6_passings 36 = .ok (.getfield 97, 3) := by decide +kernel
theorem dX6_passings_39 : decode cX6_passings 39 = .ok (.if_icmp .ge 49, 3) := by decide +kernel
theorem dX6_passings_42 : decode cX6_passings 42 = .ok (.iload_n 3, 1) := by decide +kernel
theorem dX6_passings_43 : decode cX6_passings 43 = .ok (.aload_n 0, 1) := by decide +kernel
theorem dX6_passings_44 : decode cX6_passings 44 = .ok (.getfield 40, 3) := by decide +kernel
theorem dX6_passings_47 : decode cX6_passings 47 = .ok (.iload 4, 2) := by decide +kernel
theorem dX6_passings_49 : decode cX6_passings 49 = .ok (.iaload, 1) := by decide +kernel
theorem dX6_passings_50 : decode cX6_passings 50 = .ok (.aload_n 0, 1) := by decide +kernel
theorem dX6_passings_51 : decode cX6_passings 51 = .ok (.getfield 7, 3) := by decide +kernel
theorem dX6_passings_54 : decode cX6_passings 54 = .ok (.iload_n 1, 1) := by decide +kernel
theorem dX6_passings_55 : decode cX6_passings 55 = .ok (.iaload, 1) := by decide +kernel
theorem dX6_passings_56 : decode cX6_passings 56 = .ok (.if_icmp .ne 23, 3) := by decide +kernel
theorem dX6_passings_59 : decode cX6_passings 59 = .ok (.aload_n 0, 1) := by decide +kernel
theorem dX6_passings_60 : decode cX6_passings 60 = .ok (.getfield 43, 3) := by decide +kernel
theorem dX6_passings_63 : decode cX6_passings 63 = .ok (.iload 4, 2) := by decide +kernel
theorem dX6_passings_65 : decode cX6_passings 65 = .ok (.iaload, 1) := by decide +kernel
theorem dX6_passings_66 : decode cX6_passings 66 = .ok (.aload_n 0, 1) := by decide +kernel
theorem dX6_passings_67 : decode cX6_passings 67 = .ok (.getfield 7, 3) := by decide +kernel
theorem dX6_passings_70 : decode cX6_passings 70 = .ok (.iload_n 2, 1) := by decide +kernel
theorem dX6_passings_71 : decode cX6_passings 71 = .ok (.iaload, 1) := by decide +kernel
theorem dX6_passings_72 : decode cX6_passings 72 = .ok (.if_icmp .ne 7, 3) := by decide +kernel
theorem dX6_passings_75 : decode cX6_passings 75 = .ok (.iconst 1, 1) := by decide +kernel
theorem dX6_passings_76 : decode cX6_passings 76 = .ok (.goto 4, 3) := by decide +kernel
theorem dX6_passings_79 : decode cX6_passings 79 = .ok (.iconst 0, 1) := by decide +kernel
theorem dX6_passings_80 : decode cX6_passings 80 = .ok (.iadd, 1) := by decide +kernel
theorem dX6_passings_81 : decode cX6_passings 81 = .ok (.istore_n 3, 1) := by decide +kernel
theorem dX6_passings_82 : decode cX6_passings 82 = .ok (.iinc 4 1, 3) := by decide +kernel
theorem dX6_passings_85 : decode cX6_passings 85 = .ok (.goto (-52), 3) := by decide +kernel
theorem dX6_passings_88 : decode cX6_passings 88 = .ok (.iload_n 3, 1) := by decide +kernel
theorem dX6_passings_89 : decode cX6_passings 89 = .ok (.ireturn, 1) := by decide +kernel
set_option maxRecDepth 20000 in
theorem ggX6_isRight_X6_isCode : GoodIn wsX6_isRight wsX6_isCode := goodIn_r _ [6] (by decide +kernel) (by decide +kernel)
set_option maxRecDepth 20000 in
theorem gX6_isRight_X6_isCode : GoodIn wsX6_isRight (va_wsS RX6 70 yX6_isCode wsX6_isCode) := goodIn_app (goodIn_of _ (by decide +kernel)) ggX6_isRight_X6_isCode
set_option maxRecDepth 20000 in
theorem ggX6_isRight_X6_goes : GoodIn wsX6_isRight wsX6_goes := goodIn_r _ [10, 11, 12, 13, 14, 15, 16, 17, 18, 19, 20, 21, 22, 23, 24, 25, 26, 27, 28, 29] (by decide +kernel) (by decide +kernel)
set_option maxRecDepth 20000 in
theorem gX6_isRight_X6_goes : GoodIn wsX6_isRight (wsV RX6 74 RX6 yX6_goes wsX6_goes) := goodIn_app (goodIn_of _ (by decide +kernel)) ggX6_isRight_X6_goes
theorem dX6_isRight_0 : decode cX6_isRight 0 = .ok (.aload_n 0, 1) := by decide +kernel
theorem dX6_isRight_1 : decode cX6_isRight 1 = .ok (.iload_n 1, 1) := by decide +kernel
theorem dX6_isRight_2 : decode cX6_isRight 2 = .ok (.invokestatic 70, 3) := by decide +kernel
theorem dX6_isRight_5 : decode cX6_isRight 5 = .ok (.ifCond .eq 7, 3) := by decide +kernel
theorem dX6_isRight_8 : decode cX6_isRight 8 = .ok (.iconst 0, 1) := by decide +kernel
theorem dX6_isRight_9 : decode cX6_isRight 9 = .ok (.goto 4, 3) := by decide +kernel
theorem dX6_isRight_12 : decode cX6_isRight 12 = .ok (.iconst 1, 1) := by decide +kernel
theorem dX6_isRight_13 : decode cX6_isRight 13 = .ok (.invokevirtual 74, 3) := by decide +kernel
theorem dX6_isRight_16 : decode cX6_isRight 16 = .ok (.ifCond .eq 21, 3) := by decide +kernel
theorem dX6_isRight_19 : decode cX6_isRight 19 = .ok (.aload_n 0, 1) := by decide +kernel
theorem dX6_isRight_20 : decode cX6_isRight 20 = .ok (.getfield 23, 3) := by decide +kernel
theorem dX6_isRight_23 : decode cX6_isRight 23 = .ok (.aload_n 0, 1) := by decide +kernel
theorem dX6_isRight_24 : decode cX6_isRight 24 = .ok (.getfield 7, 3) := by decide +kernel
theorem dX6_isRight_27 : decode cX6_isRight 27 = .ok (.iload_n 1, 1) := by decide +kernel
theorem dX6_isRight_28 : decode cX6_isRight 28 = .ok (.iaload, 1) := by decide +kernel
theorem dX6_isRight_29 : decode cX6_isRight 29 = .ok (.baload, 1) := by decide +kernel
theorem dX6_isRight_30 : decode cX6_isRight 30 = .ok (.ifCond .eq 7, 3) := by decide +kernel
theorem dX6_isRight_33 : decode cX6_isRight 33 = .ok (.iconst 1, 1) := by decide +kernel
theorem dX6_isRight_34 : decode cX6_isRight 34 = .ok (.goto 4, 3) := by decide +kernel
theorem dX6_isRight_37 : decode cX6_isRight 37 = .ok (.iconst 0, 1) := by decide +kernel
theorem dX6_isRight_38 : decode cX6_isRight 38 = .ok (.ireturn, 1) := by decide +kernel
theorem dX6_laysWorths_0 : decode cX6_laysWorths 0 = .ok (.iconst 0, 1) := by decide +kernel
theorem dX6_laysWorths_1 : decode cX6_laysWorths 1 = .ok (.istore_n 1, 1) := by decide +kernel
theorem dX6_laysWorths_2 : decode cX6_laysWorths 2 = .ok (.iload_n 1, 1) := by decide +kernel
theorem dX6_laysWorths_3 : decode cX6_laysWorths 3 = .ok (.sipush 1296, 3) := by decide +kernel
theorem dX6_laysWorths_6 : decode cX6_laysWorths 6 = .ok (.if_icmp .ge 16, 3) := by decide +kernel
theorem dX6_laysWorths_9 : decode cX6_laysWorths 9 = .ok (.aload_n 0, 1) := by decide +kernel
theorem dX6_laysWorths_10 : decode cX6_laysWorths 10 = .ok (.getfield 26, 3) := by decide +kernel
theorem dX6_laysWorths_13 : decode cX6_laysWorths 13 = .ok (.iload_n 1, 1) := by decide +kernel
theorem dX6_laysWorths_14 : decode cX6_laysWorths 14 = .ok (.iconst 0, 1) := by decide +kernel
theorem dX6_laysWorths_15 : decode cX6_laysWorths 15 = .ok (.iastore, 1) := by decide +kernel
theorem dX6_laysWorths_16 : decode cX6_laysWorths 16 = .ok (.iinc 1 1, 3) := by decide +kernel
theorem dX6_laysWorths_19 : decode cX6_laysWorths 19 = .ok (.goto (-17), 3) := by decide +kernel
theorem dX6_laysWorths_22 : decode cX6_laysWorths 22 = .ok (.iconst 0, 1) := by decide +kernel
theorem dX6_laysWorths_23 : decode cX6_laysWorths 23 = .ok (.istore_n 1, 1) := by decide +kernel
theorem dX6_laysWorths_24 : decode cX6_laysWorths 24 = .ok (.iload_n 1, 1) := by decide +kernel
theorem dX6_laysWorths_25 : decode cX6_laysWorths 25 = .ok (.bipush 60, 2) := by decide +kernel
theorem dX6_laysWorths_27 : decode cX6_laysWorths 27 = .ok (.if_icmp .ge 205, 3) := by decide +kernel
theorem dX6_laysWorths_30 : decode cX6_laysWorths 30 = .ok (.iconst 0, 1) := by decide +kernel
theorem dX6_laysWorths_31 : decode cX6_laysWorths 31 = .ok (.istore_n 2, 1) := by decide +kernel
theorem dX6_laysWorths_32 : decode cX6_laysWorths 32 = .ok (.iload_n 2, 1) := by decide +kernel
theorem dX6_laysWorths_33 : decode cX6_laysWorths 33 = .ok (.sipush 1296, 3) := by decide +kernel
theorem dX6_laysWorths_36 : decode cX6_laysWorths 36 = .ok (.if_icmp .ge 23, 3) := by decide +kernel
theorem dX6_laysWorths_39 : decode cX6_laysWorths 39 = .ok (.aload_n 0, 1) := by decide +kernel
theorem dX6_laysWorths_40 : decode cX6_laysWorths 40 = .ok (.getfield 29, 3) := by decide +kernel
theorem dX6_laysWorths_43 : decode cX6_laysWorths 43 = .ok (.iload_n 2, 1) := by decide +kernel
theorem dX6_laysWorths_44 : decode cX6_laysWorths 44 = .ok (.lconst 0, 1) := by decide +kernel
theorem dX6_laysWorths_45 : decode cX6_laysWorths 45 = .ok (.lastore, 1) := by decide +kernel
theorem dX6_laysWorths_46 : decode cX6_laysWorths 46 = .ok (.aload_n 0, 1) := by decide +kernel
theorem dX6_laysWorths_47 : decode cX6_laysWorths 47 = .ok (.getfield 33, 3) := by decide +kernel
theorem dX6_laysWorths_50 : decode cX6_laysWorths 50 = .ok (.iload_n 2, 1) := by decide +kernel
theorem dX6_laysWorths_51 : decode cX6_laysWorths 51 = .ok (.iconst 0, 1) := by decide +kernel
theorem dX6_laysWorths_52 : decode cX6_laysWorths 52 = .ok (.iastore, 1) := by decide +kernel
theorem dX6_laysWorths_53 : decode cX6_laysWorths 53 = .ok (.iinc 2 1, 3) := by decide +kernel
theorem dX6_laysWorths_56 : decode cX6_laysWorths 56 = .ok (.goto (-24), 3) := by decide +kernel
theorem dX6_laysWorths_59 : decode cX6_laysWorths 59 = .ok (.iconst 0, 1) := by decide +kernel
theorem dX6_laysWorths_60 : decode cX6_laysWorths 60 = .ok (.istore_n 2, 1) := by decide +kernel
theorem dX6_laysWorths_61 : decode cX6_laysWorths 61 = .ok (.iload_n 2, 1) := by decide +kernel
theorem dX6_laysWorths_62 : decode cX6_laysWorths 62 = .ok (.aload_n 0, 1) := by decide +kernel
theorem dX6_laysWorths_63 : decode cX6_laysWorths 63 = .ok (.getfield 97, 3) := by decide +kernel
theorem dX6_laysWorths_66 : decode cX6_laysWorths 66 = .ok (.if_icmp .ge 50, 3) := by decide +kernel
theorem dX6_laysWorths_69 : decode cX6_laysWorths 69 = .ok (.aload_n 0, 1) := by decide +kernel
theorem dX6_laysWorths_70 : decode cX6_laysWorths 70 = .ok (.getfield 29, 3) := by decide +kernel
theorem dX6_laysWorths_73 : decode cX6_laysWorths 73 = .ok (.aload_n 0, 1) := by decide +kernel
theorem dX6_laysWorths_74 : decode cX6_laysWorths 74 = .ok (.getfield 40, 3) := by decide +kernel
theorem dX6_laysWorths_77 : decode cX6_laysWorths 77 = .ok (.iload_n 2, 1) := by decide +kernel
theorem dX6_laysWorths_78 : decode cX6_laysWorths 78 = .ok (.iaload, 1) := by decide +kernel
theorem dX6_laysWorths_79 : decode cX6_laysWorths 79 = .ok (.dup2, 1) := by decide +kernel
theorem dX6_laysWorths_80 : decode cX6_laysWorths 80 = .ok (.laload, 1) := by decide +kernel
theorem dX6_laysWorths_81 : decode cX6_laysWorths 81 = .ok (.aload_n 0, 1) := by decide +kernel
theorem dX6_laysWorths_82 : decode cX6_laysWorths 82 = .ok (.getfield 26, 3) := by decide +kernel
theorem dX6_laysWorths_85 : decode cX6_laysWorths 85 = .ok (.aload_n 0, 1) := by decide +kernel
theorem dX6_laysWorths_86 : decode cX6_laysWorths 86 = .ok (.getfield 43, 3) := by decide +kernel
theorem dX6_laysWorths_89 : decode cX6_laysWorths 89 = .ok (.iload_n 2, 1) := by decide +kernel
theorem dX6_laysWorths_90 : decode cX6_laysWorths 90 = .ok (.iaload, 1) := by decide +kernel
theorem dX6_laysWorths_91 : decode cX6_laysWorths 91 = .ok (.iaload, 1) := by decide +kernel
theorem dX6_laysWorths_92 : decode cX6_laysWorths 92 = .ok (.i2l, 1) := by decide +kernel
theorem dX6_laysWorths_93 : decode cX6_laysWorths 93 = .ok (.ladd, 1) := by decide +kernel
theorem dX6_laysWorths_94 : decode cX6_laysWorths 94 = .ok (.lastore, 1) := by decide +kernel
theorem dX6_laysWorths_95 : decode cX6_laysWorths 95 = .ok (.aload_n 0, 1) := by decide +kernel
theorem dX6_laysWorths_96 : decode cX6_laysWorths 96 = .ok (.getfield 33, 3) := by decide +kernel
theorem dX6_laysWorths_99 : decode cX6_laysWorths 99 = .ok (.aload_n 0, 1) := by decide +kernel
theorem dX6_laysWorths_100 : decode cX6_laysWorths 100 = .ok (.getfield 40, 3) := by decide +kernel
theorem dX6_laysWorths_103 : decode cX6_laysWorths 103 = .ok (.iload_n 2, 1) := by decide +kernel
theorem dX6_laysWorths_104 : decode cX6_laysWorths 104 = .ok (.iaload, 1) := by decide +kernel
theorem dX6_laysWorths_105 : decode cX6_laysWorths 105 = .ok (.dup2, 1) := by decide +kernel
theorem dX6_laysWorths_106 : decode cX6_laysWorths 106 = .ok (.iaload, 1) := by decide +kernel
theorem dX6_laysWorths_107 : decode cX6_laysWorths 107 = .ok (.iconst 1, 1) := by decide +kernel
theorem dX6_laysWorths_108 : decode cX6_laysWorths 108 = .ok (.iadd, 1) := by decide +kernel
theorem dX6_laysWorths_109 : decode cX6_laysWorths 109 = .ok (.iastore, 1) := by decide +kernel
theorem dX6_laysWorths_110 : decode cX6_laysWorths 110 = .ok (.iinc 2 1, 3) := by decide +kernel
theorem dX6_laysWorths_113 : decode cX6_laysWorths 113 = .ok (.goto (-52), 3) := by decide +kernel
theorem dX6_laysWorths_116 : decode cX6_laysWorths 116 = .ok (.iconst 0, 1) := by decide +kernel
theorem dX6_laysWorths_117 : decode cX6_laysWorths 117 = .ok (.istore_n 2, 1) := by decide +kernel
theorem dX6_laysWorths_118 : decode cX6_laysWorths 118 = .ok (.iload_n 2, 1) := by decide +kernel
theorem dX6_laysWorths_119 : decode cX6_laysWorths 119 = .ok (.aload_n 0, 1) := by decide +kernel
theorem dX6_laysWorths_120 : decode cX6_laysWorths 120 = .ok (.getfield 100, 3) := by decide +kernel
theorem dX6_laysWorths_123 : decode cX6_laysWorths 123 = .ok (.if_icmp .ge 54, 3) := by decide +kernel
theorem dX6_laysWorths_126 : decode cX6_laysWorths 126 = .ok (.aload_n 0, 1) := by decide +kernel
theorem dX6_laysWorths_127 : decode cX6_laysWorths 127 = .ok (.getfield 29, 3) := by decide +kernel
theorem dX6_laysWorths_130 : decode cX6_laysWorths 130 = .ok (.aload_n 0, 1) := by decide +kernel
theorem dX6_laysWorths_131 : decode cX6_laysWorths 131 = .ok (.getfield 46, 3) := by decide +kernel
theorem dX6_laysWorths_134 : decode cX6_laysWorths 134 = .ok (.iload_n 2, 1) := by decide +kernel
theorem dX6_laysWorths_135 : decode cX6_laysWorths 135 = .ok (.iaload, 1) := by decide +kernel
theorem dX6_laysWorths_136 : decode cX6_laysWorths 136 = .ok (.dup2, 1) := by decide +kernel
theorem dX6_laysWorths_137 : decode cX6_laysWorths 137 = .ok (.laload, 1) := by decide +kernel
theorem dX6_laysWorths_138 : decode cX6_laysWorths 138 = .ok (.aload_n 0, 1) := by decide +kernel
theorem dX6_laysWorths_139 : decode cX6_laysWorths 139 = .ok (.getfield 49, 3) := by decide +kernel
theorem dX6_laysWorths_142 : decode cX6_laysWorths 142 = .ok (.iload_n 2, 1) := by decide +kernel
theorem dX6_laysWorths_143 : decode cX6_laysWorths 143 = .ok (.baload, 1) := by decide +kernel
theorem dX6_laysWorths_144 : decode cX6_laysWorths 144 = .ok (.ifCond .eq 9, 3) := by decide +kernel
theorem dX6_laysWorths_147 : decode cX6_laysWorths 147 = .ok (.ldc2_w 103, 3) := by decide +kernel
theorem dX6_laysWorths_150 : decode cX6_laysWorths 150 = .ok (.goto 4, 3) := by decide +kernel
theorem dX6_laysWorths_153 : decode cX6_laysWorths 153 = .ok (.lconst 0, 1) := by decide +kernel
theorem dX6_laysWorths_154 : decode cX6_laysWorths 154 = .ok (.ladd, 1) := by decide +kernel
theorem dX6_laysWorths_155 : decode cX6_laysWorths 155 = .ok (.lastore, 1) := by decide +kernel
theorem dX6_laysWorths_156 : decode cX6_laysWorths 156 = .ok (.aload_n 0, 1) := by decide +kernel
theorem dX6_laysWorths_157 : decode cX6_laysWorths 157 = .ok (.getfield 33, 3) := by decide +kernel
theorem dX6_laysWorths_160 : decode cX6_laysWorths 160 = .ok (.aload_n 0, 1) := by decide +kernel
theorem dX6_laysWorths_161 : decode cX6_laysWorths 161 = .ok (.getfield 46, 3) := by decide +kernel
theorem dX6_laysWorths_164 : decode cX6_laysWorths 164 = .ok (.iload_n 2, 1) := by decide +kernel
theorem dX6_laysWorths_165 : decode cX6_laysWorths 165 = .ok (.iaload, 1) := by decide +kernel
theorem dX6_laysWorths_166 : decode cX6_laysWorths 166 = .ok (.dup2, 1) := by decide +kernel
theorem dX6_laysWorths_167 : decode cX6_laysWorths 167 = .ok (.iaload, 1) := by decide +kernel
theorem dX6_laysWorths_168 : decode cX6_laysWorths 168 = .ok (.iconst 1, 1) := by decide +kernel
theorem dX6_laysWorths_169 : decode cX6_laysWorths 169 = .ok (.iadd, 1) := by decide +kernel
theorem dX6_laysWorths_170 : decode cX6_laysWorths 170 = .ok (.iastore, 1) := by decide +kernel
theorem dX6_laysWorths_171 : decode cX6_laysWorths 171 = .ok (.iinc 2 1, 3) := by decide +kernel
theorem dX6_laysWorths_174 : decode cX6_laysWorths 174 = .ok (.goto (-56), 3) := by decide +kernel
theorem dX6_laysWorths_177 : decode cX6_laysWorths 177 = .ok (.iconst 0, 1) := by decide +kernel
theorem dX6_laysWorths_178 : decode cX6_laysWorths 178 = .ok (.istore_n 2, 1) := by decide +kernel
theorem dX6_laysWorths_179 : decode cX6_laysWorths 179 = .ok (.iload_n 2, 1) := by decide +kernel
theorem dX6_laysWorths_180 : decode cX6_laysWorths 180 = .ok (.sipush 1296, 3) := by decide +kernel
theorem dX6_laysWorths_183 : decode cX6_laysWorths 183 = .ok (.if_icmp .ge 43, 3) := by decide +kernel
theorem dX6_laysWorths_186 : decode cX6_laysWorths 186 = .ok (.aload_n 0, 1) := by decide +kernel
theorem dX6_laysWorths_187 : decode cX6_laysWorths 187 = .ok (.getfield 26, 3) := by decide +kernel
theorem dX6_laysWorths_190 : decode cX6_laysWorths 190 = .ok (.iload_n 2, 1) := by decide +kernel
theorem dX6_laysWorths_191 : decode cX6_laysWorths 191 = .ok (.aload_n 0, 1) := by decide +kernel
theorem dX6_laysWorths_192 : decode cX6_laysWorths 192 = .ok (.getfield 33, 3) := by decide +kernel
theorem dX6_laysWorths_195 : decode cX6_laysWorths 195 = .ok (.iload_n 2, 1) := by decide +kernel
theorem dX6_laysWorths_196 : decode cX6_laysWorths 196 = .ok (.iaload, 1) := by decide +kernel
theorem dX6_laysWorths_197 : decode cX6_laysWorths 197 = .ok (.ifCond .ne 7, 3) := by decide +kernel
theorem dX6_laysWorths_200 : decode cX6_laysWorths 200 = .ok (.iconst 0, 1) := by decide +kernel
theorem dX6_laysWorths_201 : decode cX6_laysWorths 201 = .ok (.goto 18, 3) := by decide +kernel
theorem dX6_laysWorths_204 : decode cX6_laysWorths 204 = .ok (.aload_n 0, 1) := by decide +kernel
theorem dX6_laysWorths_205 : decode cX6_laysWorths 205 = .ok (.getfield 29, 3) := by decide +kernel
theorem dX6_laysWorths_208 : decode cX6_laysWorths 208 = .ok (.iload_n 2, 1) := by decide +kernel
theorem dX6_laysWorths_209 : decode cX6_laysWorths 209 = .ok (.laload, 1) := by decide +kernel
theorem dX6_laysWorths_210 : decode cX6_laysWorths 210 = .ok (.aload_n 0, 1) := by decide +kernel
theorem dX6_laysWorths_211 : decode cX6_laysWorths 211 = .ok (.getfield 33, 3) := by decide +kernel
theorem dX6_laysWorths_214 : decode cX6_laysWorths 214 = .ok (.iload_n 2, 1) := by decide +kernel
theorem dX6_laysWorths_215 : decode cX6_laysWorths 215 = .ok (.iaload, 1) := by decide +kernel
theorem dX6_laysWorths_216 : decode cX6_laysWorths 216 = .ok (.i2l, 1) := by decide +kernel
theorem dX6_laysWorths_217 : decode cX6_laysWorths 217 = .ok (.ldiv, 1) := by decide +kernel
theorem dX6_laysWorths_218 : decode cX6_laysWorths 218 = .ok (.l2i, 1) := by decide +kernel
theorem dX6_laysWorths_219 : decode cX6_laysWorths 219 = .ok (.iastore, 1) := by decide +kernel
theorem dX6_laysWorths_220 : decode cX6_laysWorths 220 = .ok (.iinc 2 1, 3) := by decide +kernel
theorem dX6_laysWorths_223 : decode cX6_laysWorths 223 = .ok (.goto (-44), 3) := by decide +kernel
theorem dX6_laysWorths_226 : decode cX6_laysWorths 226 = .ok (.iinc 1 1, 3) := by decide +kernel
theorem dX6_laysWorths_229 : decode cX6_laysWorths 229 = .ok (.goto (-205), 3) := by decide +kernel
theorem dX6_laysWorths_232 : decode cX6_laysWorths 232 = .ok (.return_, 1) := by decide +kernel
set_option maxRecDepth 20000 in
theorem ggX6_worth_X6_isCode : GoodIn wsX6_worth wsX6_isCode := goodIn_r _ [6] (by decide +kernel) (by decide +kernel)
set_option maxRecDepth 20000 in
theorem gX6_worth_X6_isCode : GoodIn wsX6_worth (va_wsS RX6 70 yX6_isCode wsX6_isCode) := goodIn_app (goodIn_of _ (by decide +kernel)) ggX6_worth_X6_isCode
set_option maxRecDepth 20000 in
theorem ggX6_worth_X6_goes : GoodIn wsX6_worth wsX6_goes := goodIn_r _ [10, 11, 25, 26, 27, 28, 29, 30, 31, 32, 33, 34, 35, 36, 37, 38, 39, 40, 41, 42] (by decide +kernel) (by decide +kernel)
set_option maxRecDepth 20000 in
theorem gX6_worth_X6_goes : GoodIn wsX6_worth (wsV RX6 74 RX6 yX6_goes wsX6_goes) := goodIn_app (goodIn_of _ (by decide +kernel)) ggX6_worth_X6_goes
set_option maxRecDepth 20000 in
theorem ggX6_worth_X6_laysWorths : GoodIn wsX6_worth wsX6_laysWorths := goodIn_r _ [15, 1, 16, 17, 18, 19, 20, 21, 22, 23, 24, 25, 26, 27, 28, 29, 30, 31, 32, 33, 34, 35, 36, 37, 38, 39, 40, 41, 42] (by decide +kernel) (by decide +kernel)
set_option maxRecDepth 20000 in
theorem gX6_worth_X6_laysWorths : GoodIn wsX6_worth (wsV RX6 105 RX6 yX6_laysWorths wsX6_laysWorths) := goodIn_app (goodIn_of _ (by decide +kernel)) ggX6_worth_X6_laysWorths
theorem dX6_worth_0 : decode cX6_worth 0 = .ok (.aload_n 0, 1) := by decide +kernel
theorem dX6_worth_1 : decode cX6_worth 1 = .ok (.iload_n 1, 1) := by decide +kernel
theorem dX6_worth_2 : decode cX6_worth 2 = .ok (.invokestatic 70, 3) := by decide +kernel
theorem dX6_worth_5 : decode cX6_worth 5 = .ok (.ifCond .eq 7, 3) := by decide +kernel
theorem dX6_worth_8 : decode cX6_worth 8 = .ok (.iconst 0, 1) := by decide +kernel
theorem dX6_worth_9 : decode cX6_worth 9 = .ok (.goto 4, 3) := by decide +kernel
theorem dX6_worth_12 : decode cX6_worth 12 = .ok (.iconst 1, 1) := by decide +kernel
theorem dX6_worth_13 : decode cX6_worth 13 = .ok (.invokevirtual 74, 3) := by decide +kernel
theorem dX6_worth_16 : decode cX6_worth 16 = .ok (.ifCond .ne 5, 3) := by decide +kernel
theorem dX6_worth_19 : decode cX6_worth 19 = .ok (.iconst 0, 1) := by decide +kernel
theorem dX6_worth_20 : decode cX6_worth 20 = .ok (.ireturn, 1) := by decide +kernel
theorem dX6_worth_21 : decode cX6_worth 21 = .ok (.aload_n 0, 1) := by decide +kernel
theorem dX6_worth_22 : decode cX6_worth 22 = .ok (.invokevirtual 105, 3) := by decide +kernel
theorem dX6_worth_25 : decode cX6_worth 25 = .ok (.aload_n 0, 1) := by decide +kernel
theorem dX6_worth_26 : decode cX6_worth 26 = .ok (.getfield 26, 3) := by decide +kernel
theorem dX6_worth_29 : decode cX6_worth 29 = .ok (.aload_n 0, 1) := by decide +kernel
theorem dX6_worth_30 : decode cX6_worth 30 = .ok (.getfield 7, 3) := by decide +kernel
theorem dX6_worth_33 : decode cX6_worth 33 = .ok (.iload_n 1, 1) := by decide +kernel
theorem dX6_worth_34 : decode cX6_worth 34 = .ok (.iaload, 1) := by decide +kernel
theorem dX6_worth_35 : decode cX6_worth 35 = .ok (.iaload, 1) := by decide +kernel
theorem dX6_worth_36 : decode cX6_worth 36 = .ok (.ireturn, 1) := by decide +kernel
theorem dX6_isAnyRight_0 : decode cX6_isAnyRight 0 = .ok (.iconst 0, 1) := by decide +kernel
theorem dX6_isAnyRight_1 : decode cX6_isAnyRight 1 = .ok (.istore_n 1, 1) := by decide +kernel
theorem dX6_isAnyRight_2 : decode cX6_isAnyRight 2 = .ok (.iconst 0, 1) := by decide +kernel
theorem dX6_isAnyRight_3 : decode cX6_isAnyRight 3 = .ok (.istore_n 2, 1) := by decide +kernel
theorem dX6_isAnyRight_4 : decode cX6_isAnyRight 4 = .ok (.iload_n 2, 1) := by decide +kernel
theorem dX6_isAnyRight_5 : decode cX6_isAnyRight 5 = .ok (.aload_n 0, 1) := by decide +kernel
theorem dX6_isAnyRight_6 : decode cX6_isAnyRight 6 = .ok (.getfield 100, 3) := by decide +kernel
theorem dX6_isAnyRight_9 : decode cX6_isAnyRight 9 = .ok (.if_icmp .ge 28, 3) := by decide +kernel
theorem dX6_isAnyRight_12 : decode cX6_isAnyRight 12 = .ok (.iload_n 1, 1) := by decide +kernel
theorem dX6_isAnyRight_13 : decode cX6_isAnyRight 13 = .ok (.ifCond .ne 12, 3) := by decide +kernel
theorem dX6_isAnyRight_16 : decode cX6_isAnyRight 16 = .ok (.aload_n 0, 1) := by decide +kernel
theorem dX6_isAnyRight_17 : decode cX6_isAnyRight 17 = .ok (.getfield 49, 3) := by decide +kernel
theorem dX6_isAnyRight_20 : decode cX6_isAnyRight 20 = .ok (.iload_n 2, 1) := by decide +kernel
theorem dX6_isAnyRight_21 : decode cX6_isAnyRight 21 = .ok (.baload, 1) := by decide +kernel
theorem dX6_isAnyRight_22 : decode cX6_isAnyRight 22 = .ok (.ifCond .eq 7, 3) := by decide +kernel
theorem dX6_isAnyRight_25 : decode cX6_isAnyRight 25 = .ok (.iconst 1, 1) := by decide +kernel
theorem dX6_isAnyRight_26 : decode cX6_isAnyRight 26 = .ok (.goto 4, 3) := by decide +kernel
theorem dX6_isAnyRight_29 : decode cX6_isAnyRight 29 = .ok (.iconst 0, 1) := by decide +kernel
theorem dX6_isAnyRight_30 : decode cX6_isAnyRight 30 = .ok (.istore_n 1, 1) := by decide +kernel
theorem dX6_isAnyRight_31 : decode cX6_isAnyRight 31 = .ok (.iinc 2 1, 3) := by decide +kernel
theorem dX6_isAnyRight_34 : decode cX6_isAnyRight 34 = .ok (.goto (-30), 3) := by decide +kernel
theorem dX6_isAnyRight_37 : decode cX6_isAnyRight 37 = .ok (.iload_n 1, 1) := by decide +kernel
theorem dX6_isAnyRight_38 : decode cX6_isAnyRight 38 = .ok (.ireturn, 1) := by decide +kernel
set_option maxRecDepth 20000 in
theorem ggX6_steps_X6_isCode : GoodIn wsX6_steps wsX6_isCode := goodIn_r _ [6] (by decide +kernel) (by decide +kernel)
set_option maxRecDepth 20000 in
theorem gX6_steps_X6_isCode : GoodIn wsX6_steps (va_wsS RX6 70 yX6_isCode wsX6_isCode) := goodIn_app (goodIn_of _ (by decide +kernel)) ggX6_steps_X6_isCode
set_option maxRecDepth 20000 in
theorem ggX6_steps_X6_isAnyRight : GoodIn wsX6_steps wsX6_isAnyRight := goodIn_r _ [10, 11, 12, 30, 31, 32, 33, 34, 35, 36, 37, 38, 39, 40, 41, 42, 43, 44, 45, 46, 47] (by decide +kernel) (by decide +kernel)
set_option maxRecDepth 20000 in
theorem gX6_steps_X6_isAnyRight : GoodIn wsX6_steps (wsV RX6 108 RX6 yX6_isAnyRight wsX6_isAnyRight) := goodIn_app (goodIn_of _ (by decide +kernel)) ggX6_steps_X6_isAnyRight
set_option maxRecDepth 20000 in
theorem ggX6_steps_X6_goes : GoodIn wsX6_steps wsX6_goes := goodIn_r _ [16, 17, 30, 31, 32, 33, 34, 35, 36, 37, 38, 39, 40, 41, 42, 43, 44, 45, 46, 47] (by decide +kernel) (by decide +kernel)
set_option maxRecDepth 20000 in
theorem gX6_steps_X6_goes : GoodIn wsX6_steps (wsV RX6 74 RX6 yX6_goes wsX6_goes) := goodIn_app (goodIn_of _ (by decide +kernel)) ggX6_steps_X6_goes
set_option maxRecDepth 20000 in
theorem ggX6_steps_X6_goesInward : GoodIn wsX6_steps wsX6_goesInward := goodIn_r _ [21, 1, 22, 2, 23, 24, 25, 5, 26, 27, 28, 29, 30, 31, 32, 33, 34, 35, 36, 37, 38, 39, 40, 41, 42, 43, 44, 45, 46, 47] (by decide +kernel) (by decide +kernel)
set_option maxRecDepth 20000 in
theorem gX6_steps_X6_goesInward : GoodIn wsX6_steps (wsV RX6 85 RX6 yX6_goesInward wsX6_goesInward) := goodIn_app (goodIn_of _ (by decide +kernel)) ggX6_steps_X6_goesInward
theorem dX6_steps_0 : decode cX6_steps 0 = .ok (.aload_n 0, 1) := by decide +kernel
theorem dX6_steps_1 : decode cX6_steps 1 = .ok (.iload_n 1, 1) := by decide +kernel
theorem dX6_steps_2 : decode cX6_steps 2 = .ok (.invokestatic 70, 3) := by decide +kernel
theorem dX6_steps_5 : decode cX6_steps 5 = .ok (.ifCond .ne 7, 3) := by decide +kernel
theorem dX6_steps_8 : decode cX6_steps 8 = .ok (.iconst 1, 1) := by decide +kernel
theorem dX6_steps_9 : decode cX6_steps 9 = .ok (.goto 15, 3) := by decide +kernel
theorem dX6_steps_12 : decode cX6_steps 12 = .ok (.aload_n 0, 1) := by decide +kernel
theorem dX6_steps_13 : decode cX6_steps 13 = .ok (.invokevirtual 108, 3) := by decide +kernel
theorem dX6_steps_16 : decode cX6_steps 16 = .ok (.ifCond .eq 7, 3) := by decide +kernel
theorem dX6_steps_19 : decode cX6_steps 19 = .ok (.iconst 0, 1) := by decide +kernel
theorem dX6_steps_20 : decode cX6_steps 20 = .ok (.goto 4, 3) := by decide +kernel
theorem dX6_steps_23 : decode cX6_steps 23 = .ok (.iconst 2, 1) := by decide +kernel
theorem dX6_steps_24 : decode cX6_steps 24 = .ok (.invokevirtual 74, 3) := by decide +kernel
theorem dX6_steps_27 : decode cX6_steps 27 = .ok (.ifCond .ne 5, 3) := by decide +kernel
theorem dX6_steps_30 : decode cX6_steps 30 = .ok (.iconst 0, 1) := by decide +kernel
theorem dX6_steps_31 : decode cX6_steps 31 = .ok (.ireturn, 1) := by decide +kernel
theorem dX6_steps_32 : decode cX6_steps 32 = .ok (.aload_n 0, 1) := by decide +kernel
theorem dX6_steps_33 : decode cX6_steps 33 = .ok (.iconst (-1), 1) := by decide +kernel
theorem dX6_steps_34 : decode cX6_steps 34 = .ok (.invokevirtual 85, 3) := by decide +kernel
theorem dX6_steps_37 : decode cX6_steps 37 = .ok (.aload_n 0, 1) := by decide +kernel
theorem dX6_steps_38 : decode cX6_steps 38 = .ok (.getfield 16, 3) := by decide +kernel
theorem dX6_steps_41 : decode cX6_steps 41 = .ok (.aload_n 0, 1) := by decide +kernel
theorem dX6_steps_42 : decode cX6_steps 42 = .ok (.getfield 7, 3) := by decide +kernel
theorem dX6_steps_45 : decode cX6_steps 45 = .ok (.iload_n 1, 1) := by decide +kernel
theorem dX6_steps_46 : decode cX6_steps 46 = .ok (.iaload, 1) := by decide +kernel
theorem dX6_steps_47 : decode cX6_steps 47 = .ok (.iaload, 1) := by decide +kernel
theorem dX6_steps_48 : decode cX6_steps 48 = .ok (.ireturn, 1) := by decide +kernel
set_option maxRecDepth 20000 in
theorem ggX6_hinted_X6_edited : GoodIn wsX6_hinted wsX6_edited := goodIn_r _ [7, 8, 9, 10, 6, 11, 12, 13, 14, 15, 16, 17, 18, 19, 20, 21, 22, 23, 24, 25, 26, 27, 28, 29] (by decide +kernel) (by decide +kernel)
set_option maxRecDepth 20000 in
theorem gX6_hinted_X6_edited : GoodIn wsX6_hinted (wsV RX6 77 RX6 yX6_edited wsX6_edited) := goodIn_app (goodIn_of _ (by decide +kernel)) ggX6_hinted_X6_edited
theorem dX6_hinted_0 : decode cX6_hinted 0 = .ok (.iconst (-1), 1) := by decide +kernel
theorem dX6_hinted_1 : decode cX6_hinted 1 = .ok (.istore_n 2, 1) := by decide +kernel
theorem dX6_hinted_2 : decode cX6_hinted 2 = .ok (.iconst 0, 1) := by decide +kernel
theorem dX6_hinted_3 : decode cX6_hinted 3 = .ok (.istore_n 3, 1) := by decide +kernel
theorem dX6_hinted_4 : decode cX6_hinted 4 = .ok (.iload_n 3, 1) := by decide +kernel
theorem dX6_hinted_5 : decode cX6_hinted 5 = .ok (.bipush 24, 2) := by decide +kernel
theorem dX6_hinted_7 : decode cX6_hinted 7 = .ok (.if_icmp .ge 109, 3) := by decide +kernel
theorem dX6_hinted_10 : decode cX6_hinted 10 = .ok (.aload_n 0, 1) := by decide +kernel
theorem dX6_hinted_11 : decode cX6_hinted 11 = .ok (.iload_n 1, 1) := by decide +kernel
theorem dX6_hinted_12 : decode cX6_hinted 12 = .ok (.iload_n 3, 1) := by decide +kernel
theorem dX6_hinted_13 : decode cX6_hinted 13 = .ok (.invokevirtual 77, 3) := by decide +kernel
theorem dX6_hinted_16 : decode cX6_hinted 16 = .ok (.istore 4, 2) := by decide +kernel
theorem dX6_hinted_18 : decode cX6_hinted 18 = .ok (.aload_n 0, 1) := by decide +kernel
theorem dX6_hinted_19 : decode cX6_hinted 19 = .ok (.getfield 16, 3) := by decide +kernel
