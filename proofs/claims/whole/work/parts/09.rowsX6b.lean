theorem dX6_neighbours_21 : decode cX6_neighbours 21 = .ok (.iconst 0, 1) := by decide +kernel
theorem dX6_neighbours_22 : decode cX6_neighbours 22 = .ok (.istore_n 2, 1) := by decide +kernel
theorem dX6_neighbours_23 : decode cX6_neighbours 23 = .ok (.iconst 0, 1) := by decide +kernel
theorem dX6_neighbours_24 : decode cX6_neighbours 24 = .ok (.istore_n 3, 1) := by decide +kernel
theorem dX6_neighbours_25 : decode cX6_neighbours 25 = .ok (.iload_n 3, 1) := by decide +kernel
theorem dX6_neighbours_26 : decode cX6_neighbours 26 = .ok (.bipush 24, 2) := by decide +kernel
theorem dX6_neighbours_28 : decode cX6_neighbours 28 = .ok (.if_icmp .ge 78, 3) := by decide +kernel
theorem dX6_neighbours_31 : decode cX6_neighbours 31 = .ok (.iconst 1, 1) := by decide +kernel
theorem dX6_neighbours_32 : decode cX6_neighbours 32 = .ok (.istore 4, 2) := by decide +kernel
theorem dX6_neighbours_34 : decode cX6_neighbours 34 = .ok (.iconst 0, 1) := by decide +kernel
theorem dX6_neighbours_35 : decode cX6_neighbours 35 = .ok (.istore 5, 2) := by decide +kernel
theorem dX6_neighbours_37 : decode cX6_neighbours 37 = .ok (.iload 5, 2) := by decide +kernel
theorem dX6_neighbours_39 : decode cX6_neighbours 39 = .ok (.iload_n 3, 1) := by decide +kernel
theorem dX6_neighbours_40 : decode cX6_neighbours 40 = .ok (.if_icmp .ge 47, 3) := by decide +kernel
theorem dX6_neighbours_43 : decode cX6_neighbours 43 = .ok (.iload 4, 2) := by decide +kernel
theorem dX6_neighbours_45 : decode cX6_neighbours 45 = .ok (.ifCond .eq 33, 3) := by decide +kernel
theorem dX6_neighbours_48 : decode cX6_neighbours 48 = .ok (.aload_n 0, 1) := by decide +kernel
theorem dX6_neighbours_49 : decode cX6_neighbours 49 = .ok (.aload_n 0, 1) := by decide +kernel
theorem dX6_neighbours_50 : decode cX6_neighbours 50 = .ok (.getfield 7, 3) := by decide +kernel
theorem dX6_neighbours_53 : decode cX6_neighbours 53 = .ok (.iload_n 1, 1) := by decide +kernel
theorem dX6_neighbours_54 : decode cX6_neighbours 54 = .ok (.iaload, 1) := by decide +kernel
theorem dX6_neighbours_55 : decode cX6_neighbours 55 = .ok (.iload 5, 2) := by decide +kernel
theorem dX6_neighbours_57 : decode cX6_neighbours 57 = .ok (.invokevirtual 77, 3) := by decide +kernel
theorem dX6_neighbours_60 : decode cX6_neighbours 60 = .ok (.aload_n 0, 1) := by decide +kernel
theorem dX6_neighbours_61 : decode cX6_neighbours 61 = .ok (.aload_n 0, 1) := by decide +kernel
theorem dX6_neighbours_62 : decode cX6_neighbours 62 = .ok (.getfield 7, 3) := by decide +kernel
theorem dX6_neighbours_65 : decode cX6_neighbours 65 = .ok (.iload_n 1, 1) := by decide +kernel
theorem dX6_neighbours_66 : decode cX6_neighbours 66 = .ok (.iaload, 1) := by decide +kernel
theorem dX6_neighbours_67 : decode cX6_neighbours 67 = .ok (.iload_n 3, 1) := by decide +kernel
theorem dX6_neighbours_68 : decode cX6_neighbours 68 = .ok (.invokevirtual 77, 3) := by decide +kernel
theorem dX6_neighbours_71 : decode cX6_neighbours 71 = .ok (.if_icmp .eq 7, 3) := by decide +kernel
theorem dX6_neighbours_74 : decode cX6_neighbours 74 = .ok (.iconst 1, 1) := by decide +kernel
theorem dX6_neighbours_75 : decode cX6_neighbours 75 = .ok (.goto 4, 3) := by decide +kernel
theorem dX6_neighbours_78 : decode cX6_neighbours 78 = .ok (.iconst 0, 1) := by decide +kernel
theorem dX6_neighbours_79 : decode cX6_neighbours 79 = .ok (.istore 4, 2) := by decide +kernel
theorem dX6_neighbours_81 : decode cX6_neighbours 81 = .ok (.iinc 5 1, 3) := by decide +kernel
theorem dX6_neighbours_84 : decode cX6_neighbours 84 = .ok (.goto (-47), 3) := by decide +kernel
theorem dX6_neighbours_87 : decode cX6_neighbours 87 = .ok (.iload_n 2, 1) := by decide +kernel
theorem dX6_neighbours_88 : decode cX6_neighbours 88 = .ok (.iload 4, 2) := by decide +kernel
theorem dX6_neighbours_90 : decode cX6_neighbours 90 = .ok (.ifCond .eq 7, 3) := by decide +kernel
theorem dX6_neighbours_93 : decode cX6_neighbours 93 = .ok (.iconst 1, 1) := by decide +kernel
theorem dX6_neighbours_94 : decode cX6_neighbours 94 = .ok (.goto 4, 3) := by decide +kernel
theorem dX6_neighbours_97 : decode cX6_neighbours 97 = .ok (.iconst 0, 1) := by decide +kernel
theorem dX6_neighbours_98 : decode cX6_neighbours 98 = .ok (.iadd, 1) := by decide +kernel
theorem dX6_neighbours_99 : decode cX6_neighbours 99 = .ok (.istore_n 2, 1) := by decide +kernel
theorem dX6_neighbours_100 : decode cX6_neighbours 100 = .ok (.iinc 3 1, 3) := by decide +kernel
theorem dX6_neighbours_103 : decode cX6_neighbours 103 = .ok (.goto (-78), 3) := by decide +kernel
theorem dX6_neighbours_106 : decode cX6_neighbours 106 = .ok (.iload_n 2, 1) := by decide +kernel
theorem dX6_neighbours_107 : decode cX6_neighbours 107 = .ok (.ireturn, 1) := by decide +kernel
set_option maxRecDepth 20000 in
theorem ggX6_goesOutward_X6_edited : GoodIn wsX6_goesOutward wsX6_edited := goodIn_r _ [6, 7, 8, 9, 5, 10, 11, 12, 13, 14, 15, 16, 17, 18, 19, 20, 21, 22, 23, 24, 25, 26, 27, 28] (by decide +kernel) (by decide +kernel)
set_option maxRecDepth 20000 in
theorem gX6_goesOutward_X6_edited : GoodIn wsX6_goesOutward (wsV RX6 77 RX6 yX6_edited wsX6_edited) := goodIn_app (goodIn_of _ (by decide +kernel)) ggX6_goesOutward_X6_edited
theorem dX6_goesOutward_0 : decode cX6_goesOutward 0 = .ok (.iconst 0, 1) := by decide +kernel
theorem dX6_goesOutward_1 : decode cX6_goesOutward 1 = .ok (.istore_n 2, 1) := by decide +kernel
theorem dX6_goesOutward_2 : decode cX6_goesOutward 2 = .ok (.iload_n 2, 1) := by decide +kernel
theorem dX6_goesOutward_3 : decode cX6_goesOutward 3 = .ok (.sipush 1296, 3) := by decide +kernel
theorem dX6_goesOutward_6 : decode cX6_goesOutward 6 = .ok (.if_icmp .ge 26, 3) := by decide +kernel
theorem dX6_goesOutward_9 : decode cX6_goesOutward 9 = .ok (.aload_n 0, 1) := by decide +kernel
theorem dX6_goesOutward_10 : decode cX6_goesOutward 10 = .ok (.getfield 16, 3) := by decide +kernel
theorem dX6_goesOutward_13 : decode cX6_goesOutward 13 = .ok (.iload_n 2, 1) := by decide +kernel
theorem dX6_goesOutward_14 : decode cX6_goesOutward 14 = .ok (.iload_n 2, 1) := by decide +kernel
theorem dX6_goesOutward_15 : decode cX6_goesOutward 15 = .ok (.iload_n 1, 1) := by decide +kernel
theorem dX6_goesOutward_16 : decode cX6_goesOutward 16 = .ok (.if_icmp .ne 7, 3) := by decide +kernel
theorem dX6_goesOutward_19 : decode cX6_goesOutward 19 = .ok (.iconst 0, 1) := by decide +kernel
theorem dX6_goesOutward_20 : decode cX6_goesOutward 20 = .ok (.goto 5, 3) := by decide +kernel
theorem dX6_goesOutward_23 : decode cX6_goesOutward 23 = .ok (.bipush 100, 2) := by decide +kernel
theorem dX6_goesOutward_25 : decode cX6_goesOutward 25 = .ok (.iastore, 1) := by decide +kernel
theorem dX6_goesOutward_26 : decode cX6_goesOutward 26 = .ok (.iinc 2 1, 3) := by decide +kernel
theorem dX6_goesOutward_29 : decode cX6_goesOutward 29 = .ok (.goto (-27), 3) := by decide +kernel
theorem dX6_goesOutward_32 : decode cX6_goesOutward 32 = .ok (.iconst 1, 1) := by decide +kernel
theorem dX6_goesOutward_33 : decode cX6_goesOutward 33 = .ok (.istore_n 2, 1) := by decide +kernel
theorem dX6_goesOutward_34 : decode cX6_goesOutward 34 = .ok (.iconst 0, 1) := by decide +kernel
theorem dX6_goesOutward_35 : decode cX6_goesOutward 35 = .ok (.istore_n 3, 1) := by decide +kernel
theorem dX6_goesOutward_36 : decode cX6_goesOutward 36 = .ok (.iload_n 2, 1) := by decide +kernel
theorem dX6_goesOutward_37 : decode cX6_goesOutward 37 = .ok (.ifCond .eq 119, 3) := by decide +kernel
theorem dX6_goesOutward_40 : decode cX6_goesOutward 40 = .ok (.iconst 0, 1) := by decide +kernel
theorem dX6_goesOutward_41 : decode cX6_goesOutward 41 = .ok (.istore_n 2, 1) := by decide +kernel
theorem dX6_goesOutward_42 : decode cX6_goesOutward 42 = .ok (.iconst 0, 1) := by decide +kernel
theorem dX6_goesOutward_43 : decode cX6_goesOutward 43 = .ok (.istore 4, 2) := by decide +kernel
theorem dX6_goesOutward_45 : decode cX6_goesOutward 45 = .ok (.iload 4, 2) := by decide +kernel
theorem dX6_goesOutward_47 : decode cX6_goesOutward 47 = .ok (.sipush 1296, 3) := by decide +kernel
theorem dX6_goesOutward_50 : decode cX6_goesOutward 50 = .ok (.if_icmp .ge 100, 3) := by decide +kernel
theorem dX6_goesOutward_53 : decode cX6_goesOutward 53 = .ok (.iconst 0, 1) := by decide +kernel
theorem dX6_goesOutward_54 : decode cX6_goesOutward 54 = .ok (.istore 5, 2) := by decide +kernel
theorem dX6_goesOutward_56 : decode cX6_goesOutward 56 = .ok (.iload 5, 2) := by decide +kernel
theorem dX6_goesOutward_58 : decode cX6_goesOutward 58 = .ok (.bipush 24, 2) := by decide +kernel
theorem dX6_goesOutward_60 : decode cX6_goesOutward 60 = .ok (.if_icmp .ge 84, 3) := by decide +kernel
theorem dX6_goesOutward_63 : decode cX6_goesOutward 63 = .ok (.aload_n 0, 1) := by decide +kernel
theorem dX6_goesOutward_64 : decode cX6_goesOutward 64 = .ok (.getfield 16, 3) := by decide +kernel
theorem dX6_goesOutward_67 : decode cX6_goesOutward 67 = .ok (.iload 4, 2) := by decide +kernel
theorem dX6_goesOutward_69 : decode cX6_goesOutward 69 = .ok (.iaload, 1) := by decide +kernel
theorem dX6_goesOutward_70 : decode cX6_goesOutward 70 = .ok (.iload_n 3, 1) := by decide +kernel
theorem dX6_goesOutward_71 : decode cX6_goesOutward 71 = .ok (.if_icmp .ne 73, 3) := by decide +kernel
theorem dX6_goesOutward_74 : decode cX6_goesOutward 74 = .ok (.aload_n 0, 1) := by decide +kernel
theorem dX6_goesOutward_75 : decode cX6_goesOutward 75 = .ok (.iload 4, 2) := by decide +kernel
theorem dX6_goesOutward_77 : decode cX6_goesOutward 77 = .ok (.iload 5, 2) := by decide +kernel
theorem dX6_goesOutward_79 : decode cX6_goesOutward 79 = .ok (.invokevirtual 77, 3) := by decide +kernel
theorem dX6_goesOutward_82 : decode cX6_goesOutward 82 = .ok (.istore 6, 2) := by decide +kernel
theorem dX6_goesOutward_84 : decode cX6_goesOutward 84 = .ok (.iload_n 2, 1) := by decide +kernel
theorem dX6_goesOutward_85 : decode cX6_goesOutward 85 = .ok (.ifCond .ne 15, 3) := by decide +kernel
theorem dX6_goesOutward_88 : decode cX6_goesOutward 88 = .ok (.aload_n 0, 1) := by decide +kernel
theorem dX6_goesOutward_89 : decode cX6_goesOutward 89 = .ok (.getfield 16, 3) := by decide +kernel
theorem dX6_goesOutward_92 : decode cX6_goesOutward 92 = .ok (.iload 6, 2) := by decide +kernel
theorem dX6_goesOutward_94 : decode cX6_goesOutward 94 = .ok (.iaload, 1) := by decide +kernel
theorem dX6_goesOutward_95 : decode cX6_goesOutward 95 = .ok (.bipush 100, 2) := by decide +kernel
theorem dX6_goesOutward_97 : decode cX6_goesOutward 97 = .ok (.if_icmp .ne 7, 3) := by decide +kernel
theorem dX6_goesOutward_100 : decode cX6_goesOutward 100 = .ok (.iconst 1, 1) := by decide +kernel
theorem dX6_goesOutward_101 : decode cX6_goesOutward 101 = .ok (.goto 4, 3) := by decide +kernel
theorem dX6_goesOutward_104 : decode cX6_goesOutward 104 = .ok (.iconst 0, 1) := by decide +kernel
theorem dX6_goesOutward_105 : decode cX6_goesOutward 105 = .ok (.istore_n 2, 1) := by decide +kernel
theorem dX6_goesOutward_106 : decode cX6_goesOutward 106 = .ok (.aload_n 0, 1) := by decide +kernel
theorem dX6_goesOutward_107 : decode cX6_goesOutward 107 = .ok (.getfield 16, 3) := by decide +kernel
theorem dX6_goesOutward_110 : decode cX6_goesOutward 110 = .ok (.iload 6, 2) := by decide +kernel
theorem dX6_goesOutward_112 : decode cX6_goesOutward 112 = .ok (.aload_n 0, 1) := by decide +kernel
theorem dX6_goesOutward_113 : decode cX6_goesOutward 113 = .ok (.getfield 16, 3) := by decide +kernel
theorem dX6_goesOutward_116 : decode cX6_goesOutward 116 = .ok (.iload 6, 2) := by decide +kernel
theorem dX6_goesOutward_118 : decode cX6_goesOutward 118 = .ok (.iaload, 1) := by decide +kernel
theorem dX6_goesOutward_119 : decode cX6_goesOutward 119 = .ok (.bipush 100, 2) := by decide +kernel
theorem dX6_goesOutward_121 : decode cX6_goesOutward 121 = .ok (.if_icmp .ne 9, 3) := by decide +kernel
theorem dX6_goesOutward_124 : decode cX6_goesOutward 124 = .ok (.iload_n 3, 1) := by decide +kernel
theorem dX6_goesOutward_125 : decode cX6_goesOutward 125 = .ok (.iconst 1, 1) := by decide +kernel
theorem dX6_goesOutward_126 : decode cX6_goesOutward 126 = .ok (.iadd, 1) := by decide +kernel
theorem dX6_goesOutward_127 : decode cX6_goesOutward 127 = .ok (.goto 10, 3) := by decide +kernel
theorem dX6_goesOutward_130 : decode cX6_goesOutward 130 = .ok (.aload_n 0, 1) := by decide +kernel
theorem dX6_goesOutward_131 : decode cX6_goesOutward 131 = .ok (.getfield 16, 3) := by decide +kernel
theorem dX6_goesOutward_134 : decode cX6_goesOutward 134 = .ok (.iload 6, 2) := by decide +kernel
theorem dX6_goesOutward_136 : decode cX6_goesOutward 136 = .ok (.iaload, 1) := by decide +kernel
theorem dX6_goesOutward_137 : decode cX6_goesOutward 137 = .ok (.iastore, 1) := by decide +kernel
theorem dX6_goesOutward_138 : decode cX6_goesOutward 138 = .ok (.iinc 5 1, 3) := by decide +kernel
theorem dX6_goesOutward_141 : decode cX6_goesOutward 141 = .ok (.goto (-85), 3) := by decide +kernel
theorem dX6_goesOutward_144 : decode cX6_goesOutward 144 = .ok (.iinc 4 1, 3) := by decide +kernel
theorem dX6_goesOutward_147 : decode cX6_goesOutward 147 = .ok (.goto (-102), 3) := by decide +kernel
theorem dX6_goesOutward_150 : decode cX6_goesOutward 150 = .ok (.iinc 3 1, 3) := by decide +kernel
theorem dX6_goesOutward_153 : decode cX6_goesOutward 153 = .ok (.goto (-117), 3) := by decide +kernel
theorem dX6_goesOutward_156 : decode cX6_goesOutward 156 = .ok (.return_, 1) := by decide +kernel
set_option maxRecDepth 20000 in
theorem ggX6_goesInward_X6_edited : GoodIn wsX6_goesInward wsX6_edited := goodIn_r _ [8, 3, 9, 10, 7, 11, 12, 13, 14, 15, 16, 17, 18, 19, 20, 21, 22, 23, 24, 25, 26, 27, 28, 29] (by decide +kernel) (by decide +kernel)
set_option maxRecDepth 20000 in
theorem gX6_goesInward_X6_edited : GoodIn wsX6_goesInward (wsV RX6 77 RX6 yX6_edited wsX6_edited) := goodIn_app (goodIn_of _ (by decide +kernel)) ggX6_goesInward_X6_edited
theorem dX6_goesInward_0 : decode cX6_goesInward 0 = .ok (.iconst 0, 1) := by decide +kernel
theorem dX6_goesInward_1 : decode cX6_goesInward 1 = .ok (.istore_n 2, 1) := by decide +kernel
theorem dX6_goesInward_2 : decode cX6_goesInward 2 = .ok (.iload_n 2, 1) := by decide +kernel
theorem dX6_goesInward_3 : decode cX6_goesInward 3 = .ok (.sipush 1296, 3) := by decide +kernel
theorem dX6_goesInward_6 : decode cX6_goesInward 6 = .ok (.if_icmp .ge 40, 3) := by decide +kernel
theorem dX6_goesInward_9 : decode cX6_goesInward 9 = .ok (.aload_n 0, 1) := by decide +kernel
theorem dX6_goesInward_10 : decode cX6_goesInward 10 = .ok (.getfield 16, 3) := by decide +kernel
theorem dX6_goesInward_13 : decode cX6_goesInward 13 = .ok (.iload_n 2, 1) := by decide +kernel
theorem dX6_goesInward_14 : decode cX6_goesInward 14 = .ok (.iload_n 2, 1) := by decide +kernel
theorem dX6_goesInward_15 : decode cX6_goesInward 15 = .ok (.iload_n 1, 1) := by decide +kernel
theorem dX6_goesInward_16 : decode cX6_goesInward 16 = .ok (.if_icmp .eq 17, 3) := by decide +kernel
theorem dX6_goesInward_19 : decode cX6_goesInward 19 = .ok (.iload_n 1, 1) := by decide +kernel
theorem dX6_goesInward_20 : decode cX6_goesInward 20 = .ok (.iconst (-1), 1) := by decide +kernel
theorem dX6_goesInward_21 : decode cX6_goesInward 21 = .ok (.if_icmp .ne 16, 3) := by decide +kernel
theorem dX6_goesInward_24 : decode cX6_goesInward 24 = .ok (.aload_n 0, 1) := by decide +kernel
theorem dX6_goesInward_25 : decode cX6_goesInward 25 = .ok (.getfield 23, 3) := by decide +kernel
theorem dX6_goesInward_28 : decode cX6_goesInward 28 = .ok (.iload_n 2, 1) := by decide +kernel
theorem dX6_goesInward_29 : decode cX6_goesInward 29 = .ok (.baload, 1) := by decide +kernel
theorem dX6_goesInward_30 : decode cX6_goesInward 30 = .ok (.ifCond .eq 7, 3) := by decide +kernel
theorem dX6_goesInward_33 : decode cX6_goesInward 33 = .ok (.iconst 0, 1) := by decide +kernel
theorem dX6_goesInward_34 : decode cX6_goesInward 34 = .ok (.goto 5, 3) := by decide +kernel
theorem dX6_goesInward_37 : decode cX6_goesInward 37 = .ok (.bipush 100, 2) := by decide +kernel
theorem dX6_goesInward_39 : decode cX6_goesInward 39 = .ok (.iastore, 1) := by decide +kernel
theorem dX6_goesInward_40 : decode cX6_goesInward 40 = .ok (.iinc 2 1, 3) := by decide +kernel
theorem dX6_goesInward_43 : decode cX6_goesInward 43 = .ok (.goto (-41), 3) := by decide +kernel
theorem dX6_goesInward_46 : decode cX6_goesInward 46 = .ok (.iconst 1, 1) := by decide +kernel
theorem dX6_goesInward_47 : decode cX6_goesInward 47 = .ok (.istore_n 2, 1) := by decide +kernel
theorem dX6_goesInward_48 : decode cX6_goesInward 48 = .ok (.iconst 0, 1) := by decide +kernel
theorem dX6_goesInward_49 : decode cX6_goesInward 49 = .ok (.istore_n 3, 1) := by decide +kernel
theorem dX6_goesInward_50 : decode cX6_goesInward 50 = .ok (.iload_n 2, 1) := by decide +kernel
theorem dX6_goesInward_51 : decode cX6_goesInward 51 = .ok (.ifCond .eq 112, 3) := by decide +kernel
theorem dX6_goesInward_54 : decode cX6_goesInward 54 = .ok (.iconst 0, 1) := by decide +kernel
theorem dX6_goesInward_55 : decode cX6_goesInward 55 = .ok (.istore_n 2, 1) := by decide +kernel
theorem dX6_goesInward_56 : decode cX6_goesInward 56 = .ok (.iconst 0, 1) := by decide +kernel
theorem dX6_goesInward_57 : decode cX6_goesInward 57 = .ok (.istore 4, 2) := by decide +kernel
theorem dX6_goesInward_59 : decode cX6_goesInward 59 = .ok (.iload 4, 2) := by decide +kernel
theorem dX6_goesInward_61 : decode cX6_goesInward 61 = .ok (.sipush 1296, 3) := by decide +kernel
theorem dX6_goesInward_64 : decode cX6_goesInward 64 = .ok (.if_icmp .ge 93, 3) := by decide +kernel
theorem dX6_goesInward_67 : decode cX6_goesInward 67 = .ok (.aload_n 0, 1) := by decide +kernel
theorem dX6_goesInward_68 : decode cX6_goesInward 68 = .ok (.getfield 16, 3) := by decide +kernel
theorem dX6_goesInward_71 : decode cX6_goesInward 71 = .ok (.iload 4, 2) := by decide +kernel
theorem dX6_goesInward_73 : decode cX6_goesInward 73 = .ok (.iaload, 1) := by decide +kernel
theorem dX6_goesInward_74 : decode cX6_goesInward 74 = .ok (.bipush 100, 2) := by decide +kernel
theorem dX6_goesInward_76 : decode cX6_goesInward 76 = .ok (.if_icmp .ne 19, 3) := by decide +kernel
theorem dX6_goesInward_79 : decode cX6_goesInward 79 = .ok (.aload_n 0, 1) := by decide +kernel
theorem dX6_goesInward_80 : decode cX6_goesInward 80 = .ok (.getfield 7, 3) := by decide +kernel
theorem dX6_goesInward_83 : decode cX6_goesInward 83 = .ok (.iload 4, 2) := by decide +kernel
theorem dX6_goesInward_85 : decode cX6_goesInward 85 = .ok (.iaload, 1) := by decide +kernel
theorem dX6_goesInward_86 : decode cX6_goesInward 86 = .ok (.iload 4, 2) := by decide +kernel
theorem dX6_goesInward_88 : decode cX6_goesInward 88 = .ok (.if_icmp .ne 7, 3) := by decide +kernel
theorem dX6_goesInward_91 : decode cX6_goesInward 91 = .ok (.iconst 1, 1) := by decide +kernel
theorem dX6_goesInward_92 : decode cX6_goesInward 92 = .ok (.goto 4, 3) := by decide +kernel
theorem dX6_goesInward_95 : decode cX6_goesInward 95 = .ok (.iconst 0, 1) := by decide +kernel
theorem dX6_goesInward_96 : decode cX6_goesInward 96 = .ok (.istore 5, 2) := by decide +kernel
theorem dX6_goesInward_98 : decode cX6_goesInward 98 = .ok (.iconst 0, 1) := by decide +kernel
theorem dX6_goesInward_99 : decode cX6_goesInward 99 = .ok (.istore 6, 2) := by decide +kernel
theorem dX6_goesInward_101 : decode cX6_goesInward 101 = .ok (.iload 6, 2) := by decide +kernel
theorem dX6_goesInward_103 : decode cX6_goesInward 103 = .ok (.bipush 24, 2) := by decide +kernel
theorem dX6_goesInward_105 : decode cX6_goesInward 105 = .ok (.if_icmp .ge 46, 3) := by decide +kernel
theorem dX6_goesInward_108 : decode cX6_goesInward 108 = .ok (.iload 5, 2) := by decide +kernel
theorem dX6_goesInward_110 : decode cX6_goesInward 110 = .ok (.ifCond .eq 41, 3) := by decide +kernel
theorem dX6_goesInward_113 : decode cX6_goesInward 113 = .ok (.aload_n 0, 1) := by decide +kernel
theorem dX6_goesInward_114 : decode cX6_goesInward 114 = .ok (.getfield 16, 3) := by decide +kernel
theorem dX6_goesInward_117 : decode cX6_goesInward 117 = .ok (.aload_n 0, 1) := by decide +kernel
theorem dX6_goesInward_118 : decode cX6_goesInward 118 = .ok (.iload 4, 2) := by decide +kernel
theorem dX6_goesInward_120 : decode cX6_goesInward 120 = .ok (.iload 6, 2) := by decide +kernel
theorem dX6_goesInward_122 : decode cX6_goesInward 122 = .ok (.invokevirtual 77, 3) := by decide +kernel
theorem dX6_goesInward_125 : decode cX6_goesInward 125 = .ok (.iaload, 1) := by decide +kernel
theorem dX6_goesInward_126 : decode cX6_goesInward 126 = .ok (.iload_n 3, 1) := by decide +kernel
theorem dX6_goesInward_127 : decode cX6_goesInward 127 = .ok (.if_icmp .ne 18, 3) := by decide +kernel
theorem dX6_goesInward_130 : decode cX6_goesInward 130 = .ok (.aload_n 0, 1) := by decide +kernel
theorem dX6_goesInward_131 : decode cX6_goesInward 131 = .ok (.getfield 16, 3) := by decide +kernel
theorem dX6_goesInward_134 : decode cX6_goesInward 134 = .ok (.iload 4, 2) := by decide +kernel
theorem dX6_goesInward_136 : decode cX6_goesInward 136 = .ok (.iload_n 3, 1) := by decide +kernel
theorem dX6_goesInward_137 : decode cX6_goesInward 137 = .ok (.iconst 1, 1) := by decide +kernel
theorem dX6_goesInward_138 : decode cX6_goesInward 138 = .ok (.iadd, 1) := by decide +kernel
theorem dX6_goesInward_139 : decode cX6_goesInward 139 = .ok (.iastore, 1) := by decide +kernel
theorem dX6_goesInward_140 : decode cX6_goesInward 140 = .ok (.iconst 0, 1) := by decide +kernel
theorem dX6_goesInward_141 : decode cX6_goesInward 141 = .ok (.istore 5, 2) := by decide +kernel
theorem dX6_goesInward_143 : decode cX6_goesInward 143 = .ok (.iconst 1, 1) := by decide +kernel
theorem dX6_goesInward_144 : decode cX6_goesInward 144 = .ok (.istore_n 2, 1) := by decide +kernel
theorem dX6_goesInward_145 : decode cX6_goesInward 145 = .ok (.iinc 6 1, 3) := by decide +kernel
theorem dX6_goesInward_148 : decode cX6_goesInward 148 = .ok (.goto (-47), 3) := by decide +kernel
theorem dX6_goesInward_151 : decode cX6_goesInward 151 = .ok (.iinc 4 1, 3) := by decide +kernel
theorem dX6_goesInward_154 : decode cX6_goesInward 154 = .ok (.goto (-95), 3) := by decide +kernel
theorem dX6_goesInward_157 : decode cX6_goesInward 157 = .ok (.iinc 3 1, 3) := by decide +kernel
theorem dX6_goesInward_160 : decode cX6_goesInward 160 = .ok (.goto (-110), 3) := by decide +kernel
theorem dX6_goesInward_163 : decode cX6_goesInward 163 = .ok (.return_, 1) := by decide +kernel
set_option maxRecDepth 20000 in
theorem ggX6_distance_X6_isCode : GoodIn wsX6_distance wsX6_isCode := goodIn_r _ [6] (by decide +kernel) (by decide +kernel)
set_option maxRecDepth 20000 in
theorem gX6_distance_X6_isCode : GoodIn wsX6_distance (va_wsS RX6 70 yX6_isCode wsX6_isCode) := goodIn_app (goodIn_of _ (by decide +kernel)) ggX6_distance_X6_isCode
set_option maxRecDepth 20000 in
theorem ggX6_distance_X6_goes : GoodIn wsX6_distance wsX6_goes := goodIn_r _ [10, 11, 23, 24, 25, 26, 27, 28, 29, 30, 31, 32, 33, 34, 35, 36, 37, 38, 39, 40] (by decide +kernel) (by decide +kernel)
set_option maxRecDepth 20000 in
theorem gX6_distance_X6_goes : GoodIn wsX6_distance (wsV RX6 74 RX6 yX6_goes wsX6_goes) := goodIn_app (goodIn_of _ (by decide +kernel)) ggX6_distance_X6_goes
set_option maxRecDepth 20000 in
theorem ggX6_distance_X6_goesOutward : GoodIn wsX6_distance wsX6_goesOutward := goodIn_r _ [15, 2, 16, 17, 18, 5, 19, 1, 20, 21, 22, 23, 24, 25, 26, 27, 28, 29, 30, 31, 32, 33, 34, 35, 36, 37, 38, 39, 40] (by decide +kernel) (by decide +kernel)
set_option maxRecDepth 20000 in
theorem gX6_distance_X6_goesOutward : GoodIn wsX6_distance (wsV RX6 81 RX6 yX6_goesOutward wsX6_goesOutward) := goodIn_app (goodIn_of _ (by decide +kernel)) ggX6_distance_X6_goesOutward
theorem dX6_distance_0 : decode cX6_distance 0 = .ok (.aload_n 0, 1) := by decide +kernel
theorem dX6_distance_1 : decode cX6_distance 1 = .ok (.iload_n 1, 1) := by decide +kernel
theorem dX6_distance_2 : decode cX6_distance 2 = .ok (.invokestatic 70, 3) := by decide +kernel
theorem dX6_distance_5 : decode cX6_distance 5 = .ok (.ifCond .eq 14, 3) := by decide +kernel
theorem dX6_distance_8 : decode cX6_distance 8 = .ok (.iload_n 2, 1) := by decide +kernel
theorem dX6_distance_9 : decode cX6_distance 9 = .ok (.invokestatic 70, 3) := by decide +kernel
theorem dX6_distance_12 : decode cX6_distance 12 = .ok (.ifCond .eq 7, 3) := by decide +kernel
theorem dX6_distance_15 : decode cX6_distance 15 = .ok (.iconst 0, 1) := by decide +kernel
theorem dX6_distance_16 : decode cX6_distance 16 = .ok (.goto 4, 3) := by decide +kernel
theorem dX6_distance_19 : decode cX6_distance 19 = .ok (.iconst 1, 1) := by decide +kernel
theorem dX6_distance_20 : decode cX6_distance 20 = .ok (.invokevirtual 74, 3) := by decide +kernel
theorem dX6_distance_23 : decode cX6_distance 23 = .ok (.ifCond .ne 5, 3) := by decide +kernel
theorem dX6_distance_26 : decode cX6_distance 26 = .ok (.iconst 0, 1) := by decide +kernel
theorem dX6_distance_27 : decode cX6_distance 27 = .ok (.ireturn, 1) := by decide +kernel
theorem dX6_distance_28 : decode cX6_distance 28 = .ok (.aload_n 0, 1) := by decide +kernel
theorem dX6_distance_29 : decode cX6_distance 29 = .ok (.aload_n 0, 1) := by decide +kernel
theorem dX6_distance_30 : decode cX6_distance 30 = .ok (.getfield 7, 3) := by decide +kernel
theorem dX6_distance_33 : decode cX6_distance 33 = .ok (.iload_n 1, 1) := by decide +kernel
theorem dX6_distance_34 : decode cX6_distance 34 = .ok (.iaload, 1) := by decide +kernel
theorem dX6_distance_35 : decode cX6_distance 35 = .ok (.invokevirtual 81, 3) := by decide +kernel
theorem dX6_distance_38 : decode cX6_distance 38 = .ok (.aload_n 0, 1) := by decide +kernel
theorem dX6_distance_39 : decode cX6_distance 39 = .ok (.getfield 16, 3) := by decide +kernel
theorem dX6_distance_42 : decode cX6_distance 42 = .ok (.aload_n 0, 1) := by decide +kernel
theorem dX6_distance_43 : decode cX6_distance 43 = .ok (.getfield 7, 3) := by decide +kernel
theorem dX6_distance_46 : decode cX6_distance 46 = .ok (.iload_n 2, 1) := by decide +kernel
theorem dX6_distance_47 : decode cX6_distance 47 = .ok (.iaload, 1) := by decide +kernel
theorem dX6_distance_48 : decode cX6_distance 48 = .ok (.iaload, 1) := by decide +kernel
theorem dX6_distance_49 : decode cX6_distance 49 = .ok (.ireturn, 1) := by decide +kernel
set_option maxRecDepth 20000 in
theorem ggX6_distanceByRounds_X6_isCode : GoodIn wsX6_distanceByRounds wsX6_isCode := goodIn_r _ [6] (by decide +kernel) (by decide +kernel)
set_option maxRecDepth 20000 in
theorem gX6_distanceByRounds_X6_isCode : GoodIn wsX6_distanceByRounds (va_wsS RX6 70 yX6_isCode wsX6_isCode) := goodIn_app (goodIn_of _ (by decide +kernel)) ggX6_distanceByRounds_X6_isCode
set_option maxRecDepth 20000 in
theorem ggX6_distanceByRounds_X6_goes : GoodIn wsX6_distanceByRounds wsX6_goes := goodIn_r _ [10, 11, 24, 25, 26, 27, 28, 29, 30, 31, 32, 33, 34, 35, 36, 37, 38, 39, 40, 41] (by decide +kernel) (by decide +kernel)
set_option maxRecDepth 20000 in
theorem gX6_distanceByRounds_X6_goes : GoodIn wsX6_distanceByRounds (wsV RX6 74 RX6 yX6_goes wsX6_goes) := goodIn_app (goodIn_of _ (by decide +kernel)) ggX6_distanceByRounds_X6_goes
set_option maxRecDepth 20000 in
theorem ggX6_distanceByRounds_X6_goesInward : GoodIn wsX6_distanceByRounds wsX6_goesInward := goodIn_r _ [15, 2, 16, 1, 17, 18, 19, 5, 20, 21, 22, 23, 24, 25, 26, 27, 28, 29, 30, 31, 32, 33, 34, 35, 36, 37, 38, 39, 40, 41] (by decide +kernel) (by decide +kernel)
set_option maxRecDepth 20000 in
theorem gX6_distanceByRounds_X6_goesInward : GoodIn wsX6_distanceByRounds (wsV RX6 85 RX6 yX6_goesInward wsX6_goesInward) := goodIn_app (goodIn_of _ (by decide +kernel)) ggX6_distanceByRounds_X6_goesInward
theorem dX6_distanceByRounds_0 : decode cX6_distanceByRounds 0 = .ok (.aload_n 0, 1) := by decide +kernel
theorem dX6_distanceByRounds_1 : decode cX6_distanceByRounds 1 = .ok (.iload_n 1, 1) := by decide +kernel
theorem dX6_distanceByRounds_2 : decode cX6_distanceByRounds 2 = .ok (.invokestatic 70, 3) := by decide +kernel
theorem dX6_distanceByRounds_5 : decode cX6_distanceByRounds 5 = .ok (.ifCond .eq 14, 3) := by decide +kernel
theorem dX6_distanceByRounds_8 : decode cX6_distanceByRounds 8 = .ok (.iload_n 2, 1) := by decide +kernel
theorem dX6_distanceByRounds_9 : decode cX6_distanceByRounds 9 = .ok (.invokestatic 70, 3) := by decide +kernel
theorem dX6_distanceByRounds_12 : decode cX6_distanceByRounds 12 = .ok (.ifCond .eq 7, 3) := by decide +kernel
theorem dX6_distanceByRounds_15 : decode cX6_distanceByRounds 15 = .ok (.iconst 0, 1) := by decide +kernel
theorem dX6_distanceByRounds_16 : decode cX6_distanceByRounds 16 = .ok (.goto 4, 3) := by decide +kernel
theorem dX6_distanceByRounds_19 : decode cX6_distanceByRounds 19 = .ok (.iconst 1, 1) := by decide +kernel
theorem dX6_distanceByRounds_20 : decode cX6_distanceByRounds 20 = .ok (.invokevirtual 74, 3) := by decide +kernel
theorem dX6_distanceByRounds_23 : decode cX6_distanceByRounds 23 = .ok (.ifCond .ne 5, 3) := by decide +kernel
theorem dX6_distanceByRounds_26 : decode cX6_distanceByRounds 26 = .ok (.iconst 0, 1) := by decide +kernel
theorem dX6_distanceByRounds_27 : decode cX6_distanceByRounds 27 = .ok (.ireturn, 1) := by decide +kernel
theorem dX6_distanceByRounds_28 : decode cX6_distanceByRounds 28 = .ok (.aload_n 0, 1) := by decide +kernel
theorem dX6_distanceByRounds_29 : decode cX6_distanceByRounds 29 = .ok (.aload_n 0, 1) := by decide +kernel
theorem dX6_distanceByRounds_30 : decode cX6_distanceByRounds 30 = .ok (.getfield 7, 3) := by decide +kernel
theorem dX6_distanceByRounds_33 : decode cX6_distanceByRounds 33 = .ok (.iload_n 2, 1) := by decide +kernel
theorem dX6_distanceByRounds_34 : decode cX6_distanceByRounds 34 = .ok (.iaload, 1) := by decide +kernel
theorem dX6_distanceByRounds_35 : decode cX6_distanceByRounds 35 = .ok (.invokevirtual 85, 3) := by decide +kernel
theorem dX6_distanceByRounds_38 : decode cX6_distanceByRounds 38 = .ok (.aload_n 0, 1) := by decide +kernel
theorem dX6_distanceByRounds_39 : decode cX6_distanceByRounds 39 = .ok (.getfield 16, 3) := by decide +kernel
theorem dX6_distanceByRounds_42 : decode cX6_distanceByRounds 42 = .ok (.aload_n 0, 1) := by decide +kernel
theorem dX6_distanceByRounds_43 : decode cX6_distanceByRounds 43 = .ok (.getfield 7, 3) := by decide +kernel
theorem dX6_distanceByRounds_46 : decode cX6_distanceByRounds 46 = .ok (.iload_n 1, 1) := by decide +kernel
theorem dX6_distanceByRounds_47 : decode cX6_distanceByRounds 47 = .ok (.iaload, 1) := by decide +kernel
theorem dX6_distanceByRounds_48 : decode cX6_distanceByRounds 48 = .ok (.iaload, 1) := by decide +kernel
theorem dX6_distanceByRounds_49 : decode cX6_distanceByRounds 49 = .ok (.ireturn, 1) := by decide +kernel
theorem dX6_meets_0 : decode cX6_meets 0 = .ok (.aload_n 0, 1) := by decide +kernel
theorem dX6_meets_1 : decode cX6_meets 1 = .ok (.dup, 1) := by decide +kernel
theorem dX6_meets_2 : decode cX6_meets 2 = .ok (.getfield 88, 3) := by decide +kernel
theorem dX6_meets_5 : decode cX6_meets 5 = .ok (.aload_n 0, 1) := by decide +kernel
theorem dX6_meets_6 : decode cX6_meets 6 = .ok (.getfield 19, 3) := by decide +kernel
theorem dX6_meets_9 : decode cX6_meets 9 = .ok (.iload_n 1, 1) := by decide +kernel
theorem dX6_meets_10 : decode cX6_meets 10 = .ok (.baload, 1) := by decide +kernel
theorem dX6_meets_11 : decode cX6_meets 11 = .ok (.ifCond .eq 7, 3) := by decide +kernel
theorem dX6_meets_14 : decode cX6_meets 14 = .ok (.iconst 0, 1) := by decide +kernel
theorem dX6_meets_15 : decode cX6_meets 15 = .ok (.goto 4, 3) := by decide +kernel
theorem dX6_meets_18 : decode cX6_meets 18 = .ok (.iconst 1, 1) := by decide +kernel
theorem dX6_meets_19 : decode cX6_meets 19 = .ok (.iadd, 1) := by decide +kernel
theorem dX6_meets_20 : decode cX6_meets 20 = .ok (.putfield 88, 3) := by decide +kernel
theorem dX6_meets_23 : decode cX6_meets 23 = .ok (.aload_n 0, 1) := by decide +kernel
theorem dX6_meets_24 : decode cX6_meets 24 = .ok (.getfield 19, 3) := by decide +kernel
theorem dX6_meets_27 : decode cX6_meets 27 = .ok (.iload_n 1, 1) := by decide +kernel
theorem dX6_meets_28 : decode cX6_meets 28 = .ok (.iconst 1, 1) := by decide +kernel
theorem dX6_meets_29 : decode cX6_meets 29 = .ok (.bastore, 1) := by decide +kernel
theorem dX6_meets_30 : decode cX6_meets 30 = .ok (.aload_n 0, 1) := by decide +kernel
theorem dX6_meets_31 : decode cX6_meets 31 = .ok (.iload_n 1, 1) := by decide +kernel
theorem dX6_meets_32 : decode cX6_meets 32 = .ok (.putfield 36, 3) := by decide +kernel
theorem dX6_meets_35 : decode cX6_meets 35 = .ok (.return_, 1) := by decide +kernel
set_option maxRecDepth 20000 in
theorem ggX6_begin_X6_isCode : GoodIn wsX6_begin wsX6_isCode := goodIn_r _ [8] (by decide +kernel) (by decide +kernel)
set_option maxRecDepth 20000 in
theorem gX6_begin_X6_isCode : GoodIn wsX6_begin (va_wsS RX6 70 yX6_isCode wsX6_isCode) := goodIn_app (goodIn_of _ (by decide +kernel)) ggX6_begin_X6_isCode
set_option maxRecDepth 20000 in
theorem ggX6_begin_X6_goes : GoodIn wsX6_begin wsX6_goes := goodIn_r _ [12, 13, 19, 20, 21, 22, 23, 24, 25, 26, 27, 28, 29, 30, 31, 32, 33, 34, 35, 36] (by decide +kernel) (by decide +kernel)
set_option maxRecDepth 20000 in
theorem gX6_begin_X6_goes : GoodIn wsX6_begin (wsV RX6 74 RX6 yX6_goes wsX6_goes) := goodIn_app (goodIn_of _ (by decide +kernel)) ggX6_begin_X6_goes
set_option maxRecDepth 20000 in
theorem ggX6_begin_X6_meets : GoodIn wsX6_begin wsX6_meets := goodIn_r _ [17, 4, 18, 1, 19, 20, 21, 22, 23, 24, 25, 26, 27, 28, 29, 30, 31, 32, 33, 34, 35, 36] (by decide +kernel) (by decide +kernel)
set_option maxRecDepth 20000 in
theorem gX6_begin_X6_meets : GoodIn wsX6_begin (wsV RX6 94 RX6 yX6_meets wsX6_meets) := goodIn_app (goodIn_of _ (by decide +kernel)) ggX6_begin_X6_meets
theorem dX6_begin_0 : decode cX6_begin 0 = .ok (.aload_n 0, 1) := by decide +kernel
theorem dX6_begin_1 : decode cX6_begin 1 = .ok (.iload_n 1, 1) := by decide +kernel
theorem dX6_begin_2 : decode cX6_begin 2 = .ok (.invokestatic 70, 3) := by decide +kernel
theorem dX6_begin_5 : decode cX6_begin 5 = .ok (.ifCond .ne 7, 3) := by decide +kernel
theorem dX6_begin_8 : decode cX6_begin 8 = .ok (.iconst 1, 1) := by decide +kernel
theorem dX6_begin_9 : decode cX6_begin 9 = .ok (.goto 25, 3) := by decide +kernel
theorem dX6_begin_12 : decode cX6_begin 12 = .ok (.aload_n 0, 1) := by decide +kernel
theorem dX6_begin_13 : decode cX6_begin 13 = .ok (.getfield 36, 3) := by decide +kernel
theorem dX6_begin_16 : decode cX6_begin 16 = .ok (.iconst (-1), 1) := by decide +kernel
theorem dX6_begin_17 : decode cX6_begin 17 = .ok (.if_icmp .ne 12, 3) := by decide +kernel
theorem dX6_begin_20 : decode cX6_begin 20 = .ok (.aload_n 0, 1) := by decide +kernel
theorem dX6_begin_21 : decode cX6_begin 21 = .ok (.getfield 91, 3) := by decide +kernel
theorem dX6_begin_24 : decode cX6_begin 24 = .ok (.bipush 60, 2) := by decide +kernel
theorem dX6_begin_26 : decode cX6_begin 26 = .ok (.if_icmp .ne 7, 3) := by decide +kernel
theorem dX6_begin_29 : decode cX6_begin 29 = .ok (.iconst 2, 1) := by decide +kernel
theorem dX6_begin_30 : decode cX6_begin 30 = .ok (.goto 4, 3) := by decide +kernel
theorem dX6_begin_33 : decode cX6_begin 33 = .ok (.iconst 0, 1) := by decide +kernel
theorem dX6_begin_34 : decode cX6_begin 34 = .ok (.invokevirtual 74, 3) := by decide +kernel
theorem dX6_begin_37 : decode cX6_begin 37 = .ok (.ifCond .ne 5, 3) := by decide +kernel
theorem dX6_begin_40 : decode cX6_begin 40 = .ok (.iconst 0, 1) := by decide +kernel
theorem dX6_begin_41 : decode cX6_begin 41 = .ok (.ireturn, 1) := by decide +kernel
theorem dX6_begin_42 : decode cX6_begin 42 = .ok (.aload_n 0, 1) := by decide +kernel
theorem dX6_begin_43 : decode cX6_begin 43 = .ok (.dup, 1) := by decide +kernel
theorem dX6_begin_44 : decode cX6_begin 44 = .ok (.getfield 91, 3) := by decide +kernel
theorem dX6_begin_47 : decode cX6_begin 47 = .ok (.iconst 1, 1) := by decide +kernel
theorem dX6_begin_48 : decode cX6_begin 48 = .ok (.iadd, 1) := by decide +kernel
theorem dX6_begin_49 : decode cX6_begin 49 = .ok (.putfield 91, 3) := by decide +kernel
theorem dX6_begin_52 : decode cX6_begin 52 = .ok (.aload_n 0, 1) := by decide +kernel
theorem dX6_begin_53 : decode cX6_begin 53 = .ok (.aload_n 0, 1) := by decide +kernel
theorem dX6_begin_54 : decode cX6_begin 54 = .ok (.getfield 7, 3) := by decide +kernel
theorem dX6_begin_57 : decode cX6_begin 57 = .ok (.iload_n 1, 1) := by decide +kernel
theorem dX6_begin_58 : decode cX6_begin 58 = .ok (.iaload, 1) := by decide +kernel
theorem dX6_begin_59 : decode cX6_begin 59 = .ok (.invokevirtual 94, 3) := by decide +kernel
theorem dX6_begin_62 : decode cX6_begin 62 = .ok (.aload_n 0, 1) := by decide +kernel
theorem dX6_begin_63 : decode cX6_begin 63 = .ok (.getfield 88, 3) := by decide +kernel
theorem dX6_begin_66 : decode cX6_begin 66 = .ok (.ireturn, 1) := by decide +kernel
set_option maxRecDepth 20000 in
theorem ggX6_pass_X6_isCode : GoodIn wsX6_pass wsX6_isCode := goodIn_r _ [10] (by decide +kernel) (by decide +kernel)
set_option maxRecDepth 20000 in
theorem gX6_pass_X6_isCode : GoodIn wsX6_pass (va_wsS RX6 70 yX6_isCode wsX6_isCode) := goodIn_app (goodIn_of _ (by decide +kernel)) ggX6_pass_X6_isCode
set_option maxRecDepth 20000 in
theorem ggX6_pass_X6_goes : GoodIn wsX6_pass wsX6_goes := goodIn_r _ [14, 15, 21, 22, 23, 24, 25, 26, 27, 28, 29, 30, 31, 32, 33, 34, 35, 36, 37, 38] (by decide +kernel) (by decide +kernel)
set_option maxRecDepth 20000 in
theorem gX6_pass_X6_goes : GoodIn wsX6_pass (wsV RX6 74 RX6 yX6_goes wsX6_goes) := goodIn_app (goodIn_of _ (by decide +kernel)) ggX6_pass_X6_goes
set_option maxRecDepth 20000 in
theorem ggX6_pass_X6_meets : GoodIn wsX6_pass wsX6_meets := goodIn_r _ [19, 6, 20, 1, 21, 22, 23, 24, 25, 26, 27, 28, 29, 30, 31, 32, 33, 34, 35, 36, 37, 38] (by decide +kernel) (by decide +kernel)
set_option maxRecDepth 20000 in
theorem gX6_pass_X6_meets : GoodIn wsX6_pass (wsV RX6 94 RX6 yX6_meets wsX6_meets) := goodIn_app (goodIn_of _ (by decide +kernel)) ggX6_pass_X6_meets
theorem dX6_pass_0 : decode cX6_pass 0 = .ok (.aload_n 0, 1) := by decide +kernel
theorem dX6_pass_1 : decode cX6_pass 1 = .ok (.iload_n 1, 1) := by decide +kernel
theorem dX6_pass_2 : decode cX6_pass 2 = .ok (.invokestatic 70, 3) := by decide +kernel
theorem dX6_pass_5 : decode cX6_pass 5 = .ok (.ifCond .ne 7, 3) := by decide +kernel
theorem dX6_pass_8 : decode cX6_pass 8 = .ok (.iconst 1, 1) := by decide +kernel
theorem dX6_pass_9 : decode cX6_pass 9 = .ok (.goto 26, 3) := by decide +kernel
theorem dX6_pass_12 : decode cX6_pass 12 = .ok (.aload_n 0, 1) := by decide +kernel
theorem dX6_pass_13 : decode cX6_pass 13 = .ok (.getfield 36, 3) := by decide +kernel
theorem dX6_pass_16 : decode cX6_pass 16 = .ok (.iconst (-1), 1) := by decide +kernel
theorem dX6_pass_17 : decode cX6_pass 17 = .ok (.if_icmp .eq 13, 3) := by decide +kernel
theorem dX6_pass_20 : decode cX6_pass 20 = .ok (.aload_n 0, 1) := by decide +kernel
theorem dX6_pass_21 : decode cX6_pass 21 = .ok (.getfield 97, 3) := by decide +kernel
theorem dX6_pass_24 : decode cX6_pass 24 = .ok (.sipush 300, 3) := by decide +kernel
theorem dX6_pass_27 : decode cX6_pass 27 = .ok (.if_icmp .ne 7, 3) := by decide +kernel
theorem dX6_pass_30 : decode cX6_pass 30 = .ok (.iconst 2, 1) := by decide +kernel
theorem dX6_pass_31 : decode cX6_pass 31 = .ok (.goto 4, 3) := by decide +kernel
theorem dX6_pass_34 : decode cX6_pass 34 = .ok (.iconst 0, 1) := by decide +kernel
theorem dX6_pass_35 : decode cX6_pass 35 = .ok (.invokevirtual 74, 3) := by decide +kernel
theorem dX6_pass_38 : decode cX6_pass 38 = .ok (.ifCond .ne 5, 3) := by decide +kernel
theorem dX6_pass_41 : decode cX6_pass 41 = .ok (.iconst 0, 1) := by decide +kernel
theorem dX6_pass_42 : decode cX6_pass 42 = .ok (.ireturn, 1) := by decide +kernel
theorem dX6_pass_43 : decode cX6_pass 43 = .ok (.aload_n 0, 1) := by decide +kernel
theorem dX6_pass_44 : decode cX6_pass 44 = .ok (.getfield 40, 3) := by decide +kernel
theorem dX6_pass_47 : decode cX6_pass 47 = .ok (.aload_n 0, 1) := by decide +kernel
theorem dX6_pass_48 : decode cX6_pass 48 = .ok (.getfield 97, 3) := by decide +kernel
theorem dX6_pass_51 : decode cX6_pass 51 = .ok (.aload_n 0, 1) := by decide +kernel
theorem dX6_pass_52 : decode cX6_pass 52 = .ok (.getfield 36, 3) := by decide +kernel
theorem dX6_pass_55 : decode cX6_pass 55 = .ok (.iastore, 1) := by decide +kernel
theorem dX6_pass_56 : decode cX6_pass 56 = .ok (.aload_n 0, 1) := by decide +kernel
theorem dX6_pass_57 : decode cX6_pass 57 = .ok (.getfield 43, 3) := by decide +kernel
theorem dX6_pass_60 : decode cX6_pass 60 = .ok (.aload_n 0, 1) := by decide +kernel
theorem dX6_pass_61 : decode cX6_pass 61 = .ok (.getfield 97, 3) := by decide +kernel
theorem dX6_pass_64 : decode cX6_pass 64 = .ok (.aload_n 0, 1) := by decide +kernel
theorem dX6_pass_65 : decode cX6_pass 65 = .ok (.getfield 7, 3) := by decide +kernel
theorem dX6_pass_68 : decode cX6_pass 68 = .ok (.iload_n 1, 1) := by decide +kernel
theorem dX6_pass_69 : decode cX6_pass 69 = .ok (.iaload, 1) := by decide +kernel
theorem dX6_pass_70 : decode cX6_pass 70 = .ok (.iastore, 1) := by decide +kernel
theorem dX6_pass_71 : decode cX6_pass 71 = .ok (.aload_n 0, 1) := by decide +kernel
