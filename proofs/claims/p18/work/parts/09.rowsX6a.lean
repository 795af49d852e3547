set_option maxRecDepth 20000 in
theorem ggX6_init_X6_formed : GoodIn wsX6_init wsX6_formed := goodIn_r _ [24, 6, 25, 26, 27, 23, 28, 29, 30, 31, 32, 33, 34, 35, 36, 37, 38, 39, 40, 41, 42, 43, 44, 45, 46, 47, 48, 49] (by decide +kernel) (by decide +kernel)
set_option maxRecDepth 20000 in
theorem gX6_init_X6_formed : GoodIn wsX6_init (wsV RX6 52 RX6 yX6_formed wsX6_formed) := goodIn_app (goodIn_of _ (by decide +kernel)) ggX6_init_X6_formed
theorem dX6_init_0 : decode cX6_init 0 = .ok (.aload_n 0, 1) := by decide +kernel
theorem dX6_init_1 : decode cX6_init 1 = .ok (.invokespecial 1, 3) := by decide +kernel
theorem dX6_init_4 : decode cX6_init 4 = .ok (.aload_n 0, 1) := by decide +kernel
theorem dX6_init_5 : decode cX6_init 5 = .ok (.sipush 1296, 3) := by decide +kernel
theorem dX6_init_8 : decode cX6_init 8 = .ok (.newarray .int, 2) := by decide +kernel
theorem dX6_init_10 : decode cX6_init 10 = .ok (.putfield 7, 3) := by decide +kernel
theorem dX6_init_13 : decode cX6_init 13 = .ok (.aload_n 0, 1) := by decide +kernel
theorem dX6_init_14 : decode cX6_init 14 = .ok (.iconst 4, 1) := by decide +kernel
theorem dX6_init_15 : decode cX6_init 15 = .ok (.newarray .int, 2) := by decide +kernel
theorem dX6_init_17 : decode cX6_init 17 = .ok (.putfield 13, 3) := by decide +kernel
theorem dX6_init_20 : decode cX6_init 20 = .ok (.aload_n 0, 1) := by decide +kernel
theorem dX6_init_21 : decode cX6_init 21 = .ok (.sipush 1296, 3) := by decide +kernel
theorem dX6_init_24 : decode cX6_init 24 = .ok (.newarray .int, 2) := by decide +kernel
theorem dX6_init_26 : decode cX6_init 26 = .ok (.putfield 16, 3) := by decide +kernel
theorem dX6_init_29 : decode cX6_init 29 = .ok (.aload_n 0, 1) := by decide +kernel
theorem dX6_init_30 : decode cX6_init 30 = .ok (.sipush 1296, 3) := by decide +kernel
theorem dX6_init_33 : decode cX6_init 33 = .ok (.newarray .boolean, 2) := by decide +kernel
theorem dX6_init_35 : decode cX6_init 35 = .ok (.putfield 19, 3) := by decide +kernel
theorem dX6_init_38 : decode cX6_init 38 = .ok (.aload_n 0, 1) := by decide +kernel
theorem dX6_init_39 : decode cX6_init 39 = .ok (.sipush 1296, 3) := by decide +kernel
theorem dX6_init_42 : decode cX6_init 42 = .ok (.newarray .boolean, 2) := by decide +kernel
theorem dX6_init_44 : decode cX6_init 44 = .ok (.putfield 23, 3) := by decide +kernel
theorem dX6_init_47 : decode cX6_init 47 = .ok (.aload_n 0, 1) := by decide +kernel
theorem dX6_init_48 : decode cX6_init 48 = .ok (.sipush 1296, 3) := by decide +kernel
theorem dX6_init_51 : decode cX6_init 51 = .ok (.newarray .int, 2) := by decide +kernel
theorem dX6_init_53 : decode cX6_init 53 = .ok (.putfield 26, 3) := by decide +kernel
theorem dX6_init_56 : decode cX6_init 56 = .ok (.aload_n 0, 1) := by decide +kernel
theorem dX6_init_57 : decode cX6_init 57 = .ok (.sipush 1296, 3) := by decide +kernel
theorem dX6_init_60 : decode cX6_init 60 = .ok (.newarray .long, 2) := by decide +kernel
theorem dX6_init_62 : decode cX6_init 62 = .ok (.putfield 29, 3) := by decide +kernel
theorem dX6_init_65 : decode cX6_init 65 = .ok (.aload_n 0, 1) := by decide +kernel
theorem dX6_init_66 : decode cX6_init 66 = .ok (.sipush 1296, 3) := by decide +kernel
theorem dX6_init_69 : decode cX6_init 69 = .ok (.newarray .int, 2) := by decide +kernel
theorem dX6_init_71 : decode cX6_init 71 = .ok (.putfield 33, 3) := by decide +kernel
theorem dX6_init_74 : decode cX6_init 74 = .ok (.aload_n 0, 1) := by decide +kernel
theorem dX6_init_75 : decode cX6_init 75 = .ok (.iconst (-1), 1) := by decide +kernel
theorem dX6_init_76 : decode cX6_init 76 = .ok (.putfield 36, 3) := by decide +kernel
theorem dX6_init_79 : decode cX6_init 79 = .ok (.aload_n 0, 1) := by decide +kernel
theorem dX6_init_80 : decode cX6_init 80 = .ok (.sipush 300, 3) := by decide +kernel
theorem dX6_init_83 : decode cX6_init 83 = .ok (.newarray .int, 2) := by decide +kernel
theorem dX6_init_85 : decode cX6_init 85 = .ok (.putfield 40, 3) := by decide +kernel
theorem dX6_init_88 : decode cX6_init 88 = .ok (.aload_n 0, 1) := by decide +kernel
theorem dX6_init_89 : decode cX6_init 89 = .ok (.sipush 300, 3) := by decide +kernel
theorem dX6_init_92 : decode cX6_init 92 = .ok (.newarray .int, 2) := by decide +kernel
theorem dX6_init_94 : decode cX6_init 94 = .ok (.putfield 43, 3) := by decide +kernel
theorem dX6_init_97 : decode cX6_init 97 = .ok (.aload_n 0, 1) := by decide +kernel
theorem dX6_init_98 : decode cX6_init 98 = .ok (.bipush 60, 2) := by decide +kernel
theorem dX6_init_100 : decode cX6_init 100 = .ok (.newarray .int, 2) := by decide +kernel
theorem dX6_init_102 : decode cX6_init 102 = .ok (.putfield 46, 3) := by decide +kernel
theorem dX6_init_105 : decode cX6_init 105 = .ok (.aload_n 0, 1) := by decide +kernel
theorem dX6_init_106 : decode cX6_init 106 = .ok (.bipush 60, 2) := by decide +kernel
theorem dX6_init_108 : decode cX6_init 108 = .ok (.newarray .boolean, 2) := by decide +kernel
theorem dX6_init_110 : decode cX6_init 110 = .ok (.putfield 49, 3) := by decide +kernel
theorem dX6_init_113 : decode cX6_init 113 = .ok (.iconst 0, 1) := by decide +kernel
theorem dX6_init_114 : decode cX6_init 114 = .ok (.istore_n 1, 1) := by decide +kernel
theorem dX6_init_115 : decode cX6_init 115 = .ok (.iload_n 1, 1) := by decide +kernel
theorem dX6_init_116 : decode cX6_init 116 = .ok (.sipush 1296, 3) := by decide +kernel
theorem dX6_init_119 : decode cX6_init 119 = .ok (.if_icmp .ge 20, 3) := by decide +kernel
theorem dX6_init_122 : decode cX6_init 122 = .ok (.aload_n 0, 1) := by decide +kernel
theorem dX6_init_123 : decode cX6_init 123 = .ok (.getfield 7, 3) := by decide +kernel
theorem dX6_init_126 : decode cX6_init 126 = .ok (.iload_n 1, 1) := by decide +kernel
theorem dX6_init_127 : decode cX6_init 127 = .ok (.aload_n 0, 1) := by decide +kernel
theorem dX6_init_128 : decode cX6_init 128 = .ok (.iload_n 1, 1) := by decide +kernel
theorem dX6_init_129 : decode cX6_init 129 = .ok (.invokevirtual 52, 3) := by decide +kernel
theorem dX6_init_132 : decode cX6_init 132 = .ok (.iastore, 1) := by decide +kernel
theorem dX6_init_133 : decode cX6_init 133 = .ok (.iinc 1 1, 3) := by decide +kernel
theorem dX6_init_136 : decode cX6_init 136 = .ok (.goto (-21), 3) := by decide +kernel
theorem dX6_init_139 : decode cX6_init 139 = .ok (.return_, 1) := by decide +kernel
theorem dX6_fits_0 : decode cX6_fits 0 = .ok (.iload_n 0, 1) := by decide +kernel
theorem dX6_fits_1 : decode cX6_fits 1 = .ok (.iconst 1, 1) := by decide +kernel
theorem dX6_fits_2 : decode cX6_fits 2 = .ok (.if_icmp .ne 19, 3) := by decide +kernel
theorem dX6_fits_5 : decode cX6_fits 5 = .ok (.iload_n 1, 1) := by decide +kernel
theorem dX6_fits_6 : decode cX6_fits 6 = .ok (.ifCond .ne 11, 3) := by decide +kernel
theorem dX6_fits_9 : decode cX6_fits 9 = .ok (.iload_n 2, 1) := by decide +kernel
theorem dX6_fits_10 : decode cX6_fits 10 = .ok (.ifCond .le 7, 3) := by decide +kernel
theorem dX6_fits_13 : decode cX6_fits 13 = .ok (.iconst 1, 1) := by decide +kernel
theorem dX6_fits_14 : decode cX6_fits 14 = .ok (.goto 68, 3) := by decide +kernel
theorem dX6_fits_17 : decode cX6_fits 17 = .ok (.iconst 0, 1) := by decide +kernel
theorem dX6_fits_18 : decode cX6_fits 18 = .ok (.goto 64, 3) := by decide +kernel
theorem dX6_fits_21 : decode cX6_fits 21 = .ok (.iload_n 0, 1) := by decide +kernel
theorem dX6_fits_22 : decode cX6_fits 22 = .ok (.iconst 2, 1) := by decide +kernel
theorem dX6_fits_23 : decode cX6_fits 23 = .ok (.if_icmp .ne 21, 3) := by decide +kernel
theorem dX6_fits_26 : decode cX6_fits 26 = .ok (.iload_n 1, 1) := by decide +kernel
theorem dX6_fits_27 : decode cX6_fits 27 = .ok (.iconst 5, 1) := by decide +kernel
theorem dX6_fits_28 : decode cX6_fits 28 = .ok (.if_icmp .ne 12, 3) := by decide +kernel
theorem dX6_fits_31 : decode cX6_fits 31 = .ok (.iload_n 2, 1) := by decide +kernel
theorem dX6_fits_32 : decode cX6_fits 32 = .ok (.iconst 4, 1) := by decide +kernel
theorem dX6_fits_33 : decode cX6_fits 33 = .ok (.if_icmp .ne 7, 3) := by decide +kernel
theorem dX6_fits_36 : decode cX6_fits 36 = .ok (.iconst 1, 1) := by decide +kernel
theorem dX6_fits_37 : decode cX6_fits 37 = .ok (.goto 45, 3) := by decide +kernel
theorem dX6_fits_40 : decode cX6_fits 40 = .ok (.iconst 0, 1) := by decide +kernel
theorem dX6_fits_41 : decode cX6_fits 41 = .ok (.goto 41, 3) := by decide +kernel
theorem dX6_fits_44 : decode cX6_fits 44 = .ok (.iload_n 0, 1) := by decide +kernel
theorem dX6_fits_45 : decode cX6_fits 45 = .ok (.iconst 3, 1) := by decide +kernel
theorem dX6_fits_46 : decode cX6_fits 46 = .ok (.if_icmp .ne 21, 3) := by decide +kernel
theorem dX6_fits_49 : decode cX6_fits 49 = .ok (.iload_n 1, 1) := by decide +kernel
theorem dX6_fits_50 : decode cX6_fits 50 = .ok (.iconst 3, 1) := by decide +kernel
theorem dX6_fits_51 : decode cX6_fits 51 = .ok (.if_icmp .ne 12, 3) := by decide +kernel
theorem dX6_fits_54 : decode cX6_fits 54 = .ok (.iload_n 2, 1) := by decide +kernel
theorem dX6_fits_55 : decode cX6_fits 55 = .ok (.iconst 3, 1) := by decide +kernel
theorem dX6_fits_56 : decode cX6_fits 56 = .ok (.if_icmp .ne 7, 3) := by decide +kernel
theorem dX6_fits_59 : decode cX6_fits 59 = .ok (.iconst 1, 1) := by decide +kernel
theorem dX6_fits_60 : decode cX6_fits 60 = .ok (.goto 22, 3) := by decide +kernel
theorem dX6_fits_63 : decode cX6_fits 63 = .ok (.iconst 0, 1) := by decide +kernel
theorem dX6_fits_64 : decode cX6_fits 64 = .ok (.goto 18, 3) := by decide +kernel
theorem dX6_fits_67 : decode cX6_fits 67 = .ok (.iload_n 1, 1) := by decide +kernel
theorem dX6_fits_68 : decode cX6_fits 68 = .ok (.iconst 2, 1) := by decide +kernel
theorem dX6_fits_69 : decode cX6_fits 69 = .ok (.if_icmp .ne 12, 3) := by decide +kernel
theorem dX6_fits_72 : decode cX6_fits 72 = .ok (.iload_n 2, 1) := by decide +kernel
theorem dX6_fits_73 : decode cX6_fits 73 = .ok (.iconst 1, 1) := by decide +kernel
theorem dX6_fits_74 : decode cX6_fits 74 = .ok (.if_icmp .ne 7, 3) := by decide +kernel
theorem dX6_fits_77 : decode cX6_fits 77 = .ok (.iconst 1, 1) := by decide +kernel
theorem dX6_fits_78 : decode cX6_fits 78 = .ok (.goto 4, 3) := by decide +kernel
theorem dX6_fits_81 : decode cX6_fits 81 = .ok (.iconst 0, 1) := by decide +kernel
theorem dX6_fits_82 : decode cX6_fits 82 = .ok (.ireturn, 1) := by decide +kernel
set_option maxRecDepth 20000 in
theorem ggX6_uses_X6_fits : GoodIn wsX6_uses wsX6_fits := goodIn_r _ [5] (by decide +kernel) (by decide +kernel)
set_option maxRecDepth 20000 in
theorem gX6_uses_X6_fits : GoodIn wsX6_uses (va_wsS RX6 59 yX6_fits wsX6_fits) := goodIn_app (goodIn_of _ (by decide +kernel)) ggX6_uses_X6_fits
theorem dX6_uses_0 : decode cX6_uses 0 = .ok (.iconst 0, 1) := by decide +kernel
theorem dX6_uses_1 : decode cX6_uses 1 = .ok (.istore_n 1, 1) := by decide +kernel
theorem dX6_uses_2 : decode cX6_uses 2 = .ok (.iload_n 1, 1) := by decide +kernel
theorem dX6_uses_3 : decode cX6_uses 3 = .ok (.bipush 12, 2) := by decide +kernel
theorem dX6_uses_5 : decode cX6_uses 5 = .ok (.if_icmp .ge 106, 3) := by decide +kernel
theorem dX6_uses_8 : decode cX6_uses 8 = .ok (.iconst 1, 1) := by decide +kernel
theorem dX6_uses_9 : decode cX6_uses 9 = .ok (.iload_n 1, 1) := by decide +kernel
theorem dX6_uses_10 : decode cX6_uses 10 = .ok (.iconst 3, 1) := by decide +kernel
theorem dX6_uses_11 : decode cX6_uses 11 = .ok (.idiv, 1) := by decide +kernel
theorem dX6_uses_12 : decode cX6_uses 12 = .ok (.iadd, 1) := by decide +kernel
theorem dX6_uses_13 : decode cX6_uses 13 = .ok (.istore_n 2, 1) := by decide +kernel
theorem dX6_uses_14 : decode cX6_uses 14 = .ok (.iload_n 1, 1) := by decide +kernel
theorem dX6_uses_15 : decode cX6_uses 15 = .ok (.iconst 3, 1) := by decide +kernel
theorem dX6_uses_16 : decode cX6_uses 16 = .ok (.irem, 1) := by decide +kernel
theorem dX6_uses_17 : decode cX6_uses 17 = .ok (.istore_n 3, 1) := by decide +kernel
theorem dX6_uses_18 : decode cX6_uses 18 = .ok (.iload_n 2, 1) := by decide +kernel
theorem dX6_uses_19 : decode cX6_uses 19 = .ok (.aload_n 0, 1) := by decide +kernel
theorem dX6_uses_20 : decode cX6_uses 20 = .ok (.getfield 13, 3) := by decide +kernel
theorem dX6_uses_23 : decode cX6_uses 23 = .ok (.iload_n 3, 1) := by decide +kernel
theorem dX6_uses_24 : decode cX6_uses 24 = .ok (.iaload, 1) := by decide +kernel
theorem dX6_uses_25 : decode cX6_uses 25 = .ok (.aload_n 0, 1) := by decide +kernel
theorem dX6_uses_26 : decode cX6_uses 26 = .ok (.getfield 13, 3) := by decide +kernel
theorem dX6_uses_29 : decode cX6_uses 29 = .ok (.iload_n 3, 1) := by decide +kernel
theorem dX6_uses_30 : decode cX6_uses 30 = .ok (.iconst 1, 1) := by decide +kernel
theorem dX6_uses_31 : decode cX6_uses 31 = .ok (.iadd, 1) := by decide +kernel
theorem dX6_uses_32 : decode cX6_uses 32 = .ok (.iaload, 1) := by decide +kernel
theorem dX6_uses_33 : decode cX6_uses 33 = .ok (.invokestatic 59, 3) := by decide +kernel
theorem dX6_uses_36 : decode cX6_uses 36 = .ok (.ifCond .eq 69, 3) := by decide +kernel
theorem dX6_uses_39 : decode cX6_uses 39 = .ok (.aload_n 0, 1) := by decide +kernel
theorem dX6_uses_40 : decode cX6_uses 40 = .ok (.getfield 13, 3) := by decide +kernel
theorem dX6_uses_43 : decode cX6_uses 43 = .ok (.iload_n 3, 1) := by decide +kernel
theorem dX6_uses_44 : decode cX6_uses 44 = .ok (.iaload, 1) := by decide +kernel
theorem dX6_uses_45 : decode cX6_uses 45 = .ok (.istore 4, 2) := by decide +kernel
theorem dX6_uses_47 : decode cX6_uses 47 = .ok (.aload_n 0, 1) := by decide +kernel
theorem dX6_uses_48 : decode cX6_uses 48 = .ok (.getfield 13, 3) := by decide +kernel
theorem dX6_uses_51 : decode cX6_uses 51 = .ok (.iload_n 3, 1) := by decide +kernel
theorem dX6_uses_52 : decode cX6_uses 52 = .ok (.iconst 1, 1) := by decide +kernel
theorem dX6_uses_53 : decode cX6_uses 53 = .ok (.iadd, 1) := by decide +kernel
theorem dX6_uses_54 : decode cX6_uses 54 = .ok (.iaload, 1) := by decide +kernel
theorem dX6_uses_55 : decode cX6_uses 55 = .ok (.istore 5, 2) := by decide +kernel
theorem dX6_uses_57 : decode cX6_uses 57 = .ok (.aload_n 0, 1) := by decide +kernel
theorem dX6_uses_58 : decode cX6_uses 58 = .ok (.getfield 13, 3) := by decide +kernel
theorem dX6_uses_61 : decode cX6_uses 61 = .ok (.iload_n 3, 1) := by decide +kernel
theorem dX6_uses_62 : decode cX6_uses 62 = .ok (.iload_n 2, 1) := by decide +kernel
theorem dX6_uses_63 : decode cX6_uses 63 = .ok (.iconst 4, 1) := by decide +kernel
theorem dX6_uses_64 : decode cX6_uses 64 = .ok (.if_icmp .ne 7, 3) := by decide +kernel
theorem dX6_uses_67 : decode cX6_uses 67 = .ok (.iconst 0, 1) := by decide +kernel
theorem dX6_uses_68 : decode cX6_uses 68 = .ok (.goto 15, 3) := by decide +kernel
theorem dX6_uses_71 : decode cX6_uses 71 = .ok (.iload_n 2, 1) := by decide +kernel
theorem dX6_uses_72 : decode cX6_uses 72 = .ok (.iconst 3, 1) := by decide +kernel
theorem dX6_uses_73 : decode cX6_uses 73 = .ok (.if_icmp .ne 8, 3) := by decide +kernel
theorem dX6_uses_76 : decode cX6_uses 76 = .ok (.iload 4, 2) := by decide +kernel
theorem dX6_uses_78 : decode cX6_uses 78 = .ok (.goto 5, 3) := by decide +kernel
theorem dX6_uses_81 : decode cX6_uses 81 = .ok (.iload 5, 2) := by decide +kernel
theorem dX6_uses_83 : decode cX6_uses 83 = .ok (.iastore, 1) := by decide +kernel
theorem dX6_uses_84 : decode cX6_uses 84 = .ok (.aload_n 0, 1) := by decide +kernel
theorem dX6_uses_85 : decode cX6_uses 85 = .ok (.getfield 13, 3) := by decide +kernel
theorem dX6_uses_88 : decode cX6_uses 88 = .ok (.iload_n 3, 1) := by decide +kernel
theorem dX6_uses_89 : decode cX6_uses 89 = .ok (.iconst 1, 1) := by decide +kernel
theorem dX6_uses_90 : decode cX6_uses 90 = .ok (.iadd, 1) := by decide +kernel
theorem dX6_uses_91 : decode cX6_uses 91 = .ok (.iload_n 2, 1) := by decide +kernel
theorem dX6_uses_92 : decode cX6_uses 92 = .ok (.iconst 2, 1) := by decide +kernel
theorem dX6_uses_93 : decode cX6_uses 93 = .ok (.if_icmp .le 7, 3) := by decide +kernel
theorem dX6_uses_96 : decode cX6_uses 96 = .ok (.iconst 0, 1) := by decide +kernel
theorem dX6_uses_97 : decode cX6_uses 97 = .ok (.goto 5, 3) := by decide +kernel
theorem dX6_uses_100 : decode cX6_uses 100 = .ok (.iload 4, 2) := by decide +kernel
theorem dX6_uses_102 : decode cX6_uses 102 = .ok (.iastore, 1) := by decide +kernel
theorem dX6_uses_103 : decode cX6_uses 103 = .ok (.iconst 1, 1) := by decide +kernel
theorem dX6_uses_104 : decode cX6_uses 104 = .ok (.ireturn, 1) := by decide +kernel
theorem dX6_uses_105 : decode cX6_uses 105 = .ok (.iinc 1 1, 3) := by decide +kernel
theorem dX6_uses_108 : decode cX6_uses 108 = .ok (.goto (-106), 3) := by decide +kernel
theorem dX6_uses_111 : decode cX6_uses 111 = .ok (.iconst 0, 1) := by decide +kernel
theorem dX6_uses_112 : decode cX6_uses 112 = .ok (.ireturn, 1) := by decide +kernel
set_option maxRecDepth 20000 in
theorem ggX6_formed_X6_uses : GoodIn wsX6_formed wsX6_uses := goodIn_r _ [6, 1, 7, 8, 5, 9, 10, 11, 12, 13, 14, 15, 16, 17, 18, 19, 20, 21, 22, 23, 24, 25, 26, 27] (by decide +kernel) (by decide +kernel)
set_option maxRecDepth 20000 in
theorem gX6_formed_X6_uses : GoodIn wsX6_formed (wsV RX6 63 RX6 yX6_uses wsX6_uses) := goodIn_app (goodIn_of _ (by decide +kernel)) ggX6_formed_X6_uses
theorem dX6_formed_0 : decode cX6_formed 0 = .ok (.iload_n 1, 1) := by decide +kernel
theorem dX6_formed_1 : decode cX6_formed 1 = .ok (.istore_n 2, 1) := by decide +kernel
theorem dX6_formed_2 : decode cX6_formed 2 = .ok (.iconst 3, 1) := by decide +kernel
theorem dX6_formed_3 : decode cX6_formed 3 = .ok (.istore_n 3, 1) := by decide +kernel
theorem dX6_formed_4 : decode cX6_formed 4 = .ok (.iload_n 3, 1) := by decide +kernel
theorem dX6_formed_5 : decode cX6_formed 5 = .ok (.ifCond .lt 24, 3) := by decide +kernel
theorem dX6_formed_8 : decode cX6_formed 8 = .ok (.aload_n 0, 1) := by decide +kernel
theorem dX6_formed_9 : decode cX6_formed 9 = .ok (.getfield 13, 3) := by decide +kernel
theorem dX6_formed_12 : decode cX6_formed 12 = .ok (.iload_n 3, 1) := by decide +kernel
theorem dX6_formed_13 : decode cX6_formed 13 = .ok (.iload_n 2, 1) := by decide +kernel
theorem dX6_formed_14 : decode cX6_formed 14 = .ok (.bipush 6, 2) := by decide +kernel
theorem dX6_formed_16 : decode cX6_formed 16 = .ok (.irem, 1) := by decide +kernel
theorem dX6_formed_17 : decode cX6_formed 17 = .ok (.iastore, 1) := by decide +kernel
theorem dX6_formed_18 : decode cX6_formed 18 = .ok (.iload_n 2, 1) := by decide +kernel
theorem dX6_formed_19 : decode cX6_formed 19 = .ok (.bipush 6, 2) := by decide +kernel
theorem dX6_formed_21 : decode cX6_formed 21 = .ok (.idiv, 1) := by decide +kernel
theorem dX6_formed_22 : decode cX6_formed 22 = .ok (.istore_n 2, 1) := by decide +kernel
theorem dX6_formed_23 : decode cX6_formed 23 = .ok (.iinc 3 (-1), 3) := by decide +kernel
theorem dX6_formed_26 : decode cX6_formed 26 = .ok (.goto (-22), 3) := by decide +kernel
theorem dX6_formed_29 : decode cX6_formed 29 = .ok (.iconst 1, 1) := by decide +kernel
theorem dX6_formed_30 : decode cX6_formed 30 = .ok (.istore_n 3, 1) := by decide +kernel
theorem dX6_formed_31 : decode cX6_formed 31 = .ok (.iload_n 3, 1) := by decide +kernel
theorem dX6_formed_32 : decode cX6_formed 32 = .ok (.ifCond .eq 11, 3) := by decide +kernel
theorem dX6_formed_35 : decode cX6_formed 35 = .ok (.aload_n 0, 1) := by decide +kernel
theorem dX6_formed_36 : decode cX6_formed 36 = .ok (.invokevirtual 63, 3) := by decide +kernel
theorem dX6_formed_39 : decode cX6_formed 39 = .ok (.istore_n 3, 1) := by decide +kernel
theorem dX6_formed_40 : decode cX6_formed 40 = .ok (.goto (-9), 3) := by decide +kernel
theorem dX6_formed_43 : decode cX6_formed 43 = .ok (.aload_n 0, 1) := by decide +kernel
theorem dX6_formed_44 : decode cX6_formed 44 = .ok (.getfield 13, 3) := by decide +kernel
theorem dX6_formed_47 : decode cX6_formed 47 = .ok (.iconst 0, 1) := by decide +kernel
theorem dX6_formed_48 : decode cX6_formed 48 = .ok (.iaload, 1) := by decide +kernel
theorem dX6_formed_49 : decode cX6_formed 49 = .ok (.bipush 6, 2) := by decide +kernel
theorem dX6_formed_51 : decode cX6_formed 51 = .ok (.imul, 1) := by decide +kernel
theorem dX6_formed_52 : decode cX6_formed 52 = .ok (.aload_n 0, 1) := by decide +kernel
theorem dX6_formed_53 : decode cX6_formed 53 = .ok (.getfield 13, 3) := by decide +kernel
theorem dX6_formed_56 : decode cX6_formed 56 = .ok (.iconst 1, 1) := by decide +kernel
theorem dX6_formed_57 : decode cX6_formed 57 = .ok (.iaload, 1) := by decide +kernel
theorem dX6_formed_58 : decode cX6_formed 58 = .ok (.iadd, 1) := by decide +kernel
theorem dX6_formed_59 : decode cX6_formed 59 = .ok (.bipush 6, 2) := by decide +kernel
theorem dX6_formed_61 : decode cX6_formed 61 = .ok (.imul, 1) := by decide +kernel
theorem dX6_formed_62 : decode cX6_formed 62 = .ok (.aload_n 0, 1) := by decide +kernel
theorem dX6_formed_63 : decode cX6_formed 63 = .ok (.getfield 13, 3) := by decide +kernel
theorem dX6_formed_66 : decode cX6_formed 66 = .ok (.iconst 2, 1) := by decide +kernel
theorem dX6_formed_67 : decode cX6_formed 67 = .ok (.iaload, 1) := by decide +kernel
theorem dX6_formed_68 : decode cX6_formed 68 = .ok (.iadd, 1) := by decide +kernel
theorem dX6_formed_69 : decode cX6_formed 69 = .ok (.bipush 6, 2) := by decide +kernel
theorem dX6_formed_71 : decode cX6_formed 71 = .ok (.imul, 1) := by decide +kernel
theorem dX6_formed_72 : decode cX6_formed 72 = .ok (.aload_n 0, 1) := by decide +kernel
theorem dX6_formed_73 : decode cX6_formed 73 = .ok (.getfield 13, 3) := by decide +kernel
theorem dX6_formed_76 : decode cX6_formed 76 = .ok (.iconst 3, 1) := by decide +kernel
theorem dX6_formed_77 : decode cX6_formed 77 = .ok (.iaload, 1) := by decide +kernel
theorem dX6_formed_78 : decode cX6_formed 78 = .ok (.iadd, 1) := by decide +kernel
theorem dX6_formed_79 : decode cX6_formed 79 = .ok (.ireturn, 1) := by decide +kernel
