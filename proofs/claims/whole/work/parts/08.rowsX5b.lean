set_option maxRecDepth 20000 in
theorem ggX5_nearest_X0_metForm : GoodIn wsX5_nearest wsX0_metForm := goodIn_r _ [76, 77, 78, 21, 22, 23, 24, 25, 89, 90, 91, 92, 93, 94, 95, 96, 97, 98, 99, 88] (by decide +kernel) (by decide +kernel)
set_option maxRecDepth 20000 in
theorem gX5_nearest_X0_metForm : GoodIn wsX5_nearest (wsV RX5 147 RX0 yX0_metForm wsX0_metForm) := goodIn_app (goodIn_of _ (by decide +kernel)) ggX5_nearest_X0_metForm
set_option maxRecDepth 20000 in
theorem ggX5_nearest_X3_editsKnown : GoodIn wsX5_nearest wsX3_editsKnown := goodIn_r _ [82, 42, 60, 21, 22, 23, 24, 25, 100, 101, 88] (by decide +kernel) (by decide +kernel)
set_option maxRecDepth 20000 in
theorem gX5_nearest_X3_editsKnown : GoodIn wsX5_nearest (wsV RX5 65 RX3 yX3_editsKnown wsX3_editsKnown) := goodIn_app (goodIn_of _ (by decide +kernel)) ggX5_nearest_X3_editsKnown
theorem dX5_nearest_0 : decode cX5_nearest 0 = .ok (.aload_n 0, 1) := by decide +kernel
theorem dX5_nearest_1 : decode cX5_nearest 1 = .ok (.iload_n 1, 1) := by decide +kernel
theorem dX5_nearest_2 : decode cX5_nearest 2 = .ok (.invokevirtual 37, 3) := by decide +kernel
theorem dX5_nearest_5 : decode cX5_nearest 5 = .ok (.istore_n 2, 1) := by decide +kernel
theorem dX5_nearest_6 : decode cX5_nearest 6 = .ok (.aload_n 0, 1) := by decide +kernel
theorem dX5_nearest_7 : decode cX5_nearest 7 = .ok (.getfield 26, 3) := by decide +kernel
theorem dX5_nearest_10 : decode cX5_nearest 10 = .ok (.invokevirtual 94, 3) := by decide +kernel
theorem dX5_nearest_13 : decode cX5_nearest 13 = .ok (.ifCond .ne 13, 3) := by decide +kernel
theorem dX5_nearest_16 : decode cX5_nearest 16 = .ok (.new 141, 3) := by decide +kernel
theorem dX5_nearest_19 : decode cX5_nearest 19 = .ok (.dup, 1) := by decide +kernel
theorem dX5_nearest_20 : decode cX5_nearest 20 = .ok (.ldc 143, 2) := by decide +kernel
theorem dX5_nearest_22 : decode cX5_nearest 22 = .ok (.invokespecial 145, 3) := by decide +kernel
theorem dX5_nearest_25 : decode cX5_nearest 25 = .ok (.athrow, 1) := by decide +kernel
theorem dX5_nearest_26 : decode cX5_nearest 26 = .ok (.aload_n 0, 1) := by decide +kernel
theorem dX5_nearest_27 : decode cX5_nearest 27 = .ok (.getfield 19, 3) := by decide +kernel
theorem dX5_nearest_30 : decode cX5_nearest 30 = .ok (.aload_n 0, 1) := by decide +kernel
theorem dX5_nearest_31 : decode cX5_nearest 31 = .ok (.getfield 10, 3) := by decide +kernel
theorem dX5_nearest_34 : decode cX5_nearest 34 = .ok (.iload_n 2, 1) := by decide +kernel
theorem dX5_nearest_35 : decode cX5_nearest 35 = .ok (.invokevirtual 61, 3) := by decide +kernel
theorem dX5_nearest_38 : decode cX5_nearest 38 = .ok (.iconst (-1), 1) := by decide +kernel
theorem dX5_nearest_39 : decode cX5_nearest 39 = .ok (.istore_n 3, 1) := by decide +kernel
theorem dX5_nearest_40 : decode cX5_nearest 40 = .ok (.ldc 146, 2) := by decide +kernel
theorem dX5_nearest_42 : decode cX5_nearest 42 = .ok (.istore 4, 2) := by decide +kernel
theorem dX5_nearest_44 : decode cX5_nearest 44 = .ok (.iconst 0, 1) := by decide +kernel
theorem dX5_nearest_45 : decode cX5_nearest 45 = .ok (.istore 5, 2) := by decide +kernel
theorem dX5_nearest_47 : decode cX5_nearest 47 = .ok (.iload 5, 2) := by decide +kernel
theorem dX5_nearest_49 : decode cX5_nearest 49 = .ok (.aload_n 0, 1) := by decide +kernel
theorem dX5_nearest_50 : decode cX5_nearest 50 = .ok (.getfield 26, 3) := by decide +kernel
theorem dX5_nearest_53 : decode cX5_nearest 53 = .ok (.invokevirtual 94, 3) := by decide +kernel
theorem dX5_nearest_56 : decode cX5_nearest 56 = .ok (.if_icmp .ge 58, 3) := by decide +kernel
theorem dX5_nearest_59 : decode cX5_nearest 59 = .ok (.aload_n 0, 1) := by decide +kernel
theorem dX5_nearest_60 : decode cX5_nearest 60 = .ok (.getfield 26, 3) := by decide +kernel
theorem dX5_nearest_63 : decode cX5_nearest 63 = .ok (.iload 5, 2) := by decide +kernel
theorem dX5_nearest_65 : decode cX5_nearest 65 = .ok (.invokevirtual 147, 3) := by decide +kernel
theorem dX5_nearest_68 : decode cX5_nearest 68 = .ok (.istore 6, 2) := by decide +kernel
theorem dX5_nearest_70 : decode cX5_nearest 70 = .ok (.aload_n 0, 1) := by decide +kernel
theorem dX5_nearest_71 : decode cX5_nearest 71 = .ok (.getfield 19, 3) := by decide +kernel
theorem dX5_nearest_74 : decode cX5_nearest 74 = .ok (.iload 6, 2) := by decide +kernel
theorem dX5_nearest_76 : decode cX5_nearest 76 = .ok (.invokevirtual 65, 3) := by decide +kernel
theorem dX5_nearest_79 : decode cX5_nearest 79 = .ok (.istore 7, 2) := by decide +kernel
theorem dX5_nearest_81 : decode cX5_nearest 81 = .ok (.iload 7, 2) := by decide +kernel
theorem dX5_nearest_83 : decode cX5_nearest 83 = .ok (.iload 4, 2) := by decide +kernel
theorem dX5_nearest_85 : decode cX5_nearest 85 = .ok (.if_icmp .lt 16, 3) := by decide +kernel
theorem dX5_nearest_88 : decode cX5_nearest 88 = .ok (.iload 7, 2) := by decide +kernel
theorem dX5_nearest_90 : decode cX5_nearest 90 = .ok (.iload 4, 2) := by decide +kernel
theorem dX5_nearest_92 : decode cX5_nearest 92 = .ok (.if_icmp .ne 16, 3) := by decide +kernel
theorem dX5_nearest_95 : decode cX5_nearest 95 = .ok (.iload 6, 2) := by decide +kernel
theorem dX5_nearest_97 : decode cX5_nearest 97 = .ok (.iload_n 3, 1) := by decide +kernel
theorem dX5_nearest_98 : decode cX5_nearest 98 = .ok (.if_icmp .ge 10, 3) := by decide +kernel
theorem dX5_nearest_101 : decode cX5_nearest 101 = .ok (.iload 6, 2) := by decide +kernel
theorem dX5_nearest_103 : decode cX5_nearest 103 = .ok (.istore_n 3, 1) := by decide +kernel
theorem dX5_nearest_104 : decode cX5_nearest 104 = .ok (.iload 7, 2) := by decide +kernel
theorem dX5_nearest_106 : decode cX5_nearest 106 = .ok (.istore 4, 2) := by decide +kernel
theorem dX5_nearest_108 : decode cX5_nearest 108 = .ok (.iinc 5 1, 3) := by decide +kernel
theorem dX5_nearest_111 : decode cX5_nearest 111 = .ok (.goto (-64), 3) := by decide +kernel
theorem dX5_nearest_114 : decode cX5_nearest 114 = .ok (.iload_n 3, 1) := by decide +kernel
theorem dX5_nearest_115 : decode cX5_nearest 115 = .ok (.ireturn, 1) := by decide +kernel
set_option maxRecDepth 20000 in
theorem ggX5_checkedForm_X1_formOf : GoodIn wsX5_checkedForm wsX1_formOf := goodIn_r _ [8, 9, 10, 11, 12, 13, 14, 15, 20, 21] (by decide +kernel) (by decide +kernel)
set_option maxRecDepth 20000 in
theorem gX5_checkedForm_X1_formOf : GoodIn wsX5_checkedForm (wsV RX5 152 RX1 yX1_formOf wsX1_formOf) := goodIn_app (goodIn_of _ (by decide +kernel)) ggX5_checkedForm_X1_formOf
theorem dX5_checkedForm_0 : decode cX5_checkedForm 0 = .ok (.iload_n 1, 1) := by decide +kernel
theorem dX5_checkedForm_1 : decode cX5_checkedForm 1 = .ok (.ifCond .lt 10, 3) := by decide +kernel
theorem dX5_checkedForm_4 : decode cX5_checkedForm 4 = .ok (.iload_n 1, 1) := by decide +kernel
theorem dX5_checkedForm_5 : decode cX5_checkedForm 5 = .ok (.sipush 1296, 3) := by decide +kernel
theorem dX5_checkedForm_8 : decode cX5_checkedForm 8 = .ok (.if_icmp .lt 13, 3) := by decide +kernel
theorem dX5_checkedForm_11 : decode cX5_checkedForm 11 = .ok (.new 41, 3) := by decide +kernel
theorem dX5_checkedForm_14 : decode cX5_checkedForm 14 = .ok (.dup, 1) := by decide +kernel
theorem dX5_checkedForm_15 : decode cX5_checkedForm 15 = .ok (.ldc 150, 2) := by decide +kernel
theorem dX5_checkedForm_17 : decode cX5_checkedForm 17 = .ok (.invokespecial 45, 3) := by decide +kernel
theorem dX5_checkedForm_20 : decode cX5_checkedForm 20 = .ok (.athrow, 1) := by decide +kernel
theorem dX5_checkedForm_21 : decode cX5_checkedForm 21 = .ok (.aload_n 0, 1) := by decide +kernel
theorem dX5_checkedForm_22 : decode cX5_checkedForm 22 = .ok (.getfield 10, 3) := by decide +kernel
theorem dX5_checkedForm_25 : decode cX5_checkedForm 25 = .ok (.iload_n 1, 1) := by decide +kernel
theorem dX5_checkedForm_26 : decode cX5_checkedForm 26 = .ok (.invokevirtual 152, 3) := by decide +kernel
theorem dX5_checkedForm_29 : decode cX5_checkedForm 29 = .ok (.ireturn, 1) := by decide +kernel
set_option maxRecDepth 20000 in
theorem ggX5_requireSomeRight_X0_isSomeRight : GoodIn wsX5_requireSomeRight wsX0_isSomeRight := goodIn_r _ [8, 9, 14, 15, 16, 17, 18, 19, 20, 21, 22, 23, 24] (by decide +kernel) (by decide +kernel)
set_option maxRecDepth 20000 in
theorem gX5_requireSomeRight_X0_isSomeRight : GoodIn wsX5_requireSomeRight (wsV RX5 155 RX0 yX0_isSomeRight wsX0_isSomeRight) := goodIn_app (goodIn_of _ (by decide +kernel)) ggX5_requireSomeRight_X0_isSomeRight
theorem dX5_requireSomeRight_0 : decode cX5_requireSomeRight 0 = .ok (.aload_n 0, 1) := by decide +kernel
theorem dX5_requireSomeRight_1 : decode cX5_requireSomeRight 1 = .ok (.getfield 26, 3) := by decide +kernel
theorem dX5_requireSomeRight_4 : decode cX5_requireSomeRight 4 = .ok (.invokevirtual 155, 3) := by decide +kernel
theorem dX5_requireSomeRight_7 : decode cX5_requireSomeRight 7 = .ok (.ifCond .ne 13, 3) := by decide +kernel
theorem dX5_requireSomeRight_10 : decode cX5_requireSomeRight 10 = .ok (.new 141, 3) := by decide +kernel
theorem dX5_requireSomeRight_13 : decode cX5_requireSomeRight 13 = .ok (.dup, 1) := by decide +kernel
theorem dX5_requireSomeRight_14 : decode cX5_requireSomeRight 14 = .ok (.ldc 158, 2) := by decide +kernel
theorem dX5_requireSomeRight_16 : decode cX5_requireSomeRight 16 = .ok (.invokespecial 145, 3) := by decide +kernel
theorem dX5_requireSomeRight_19 : decode cX5_requireSomeRight 19 = .ok (.athrow, 1) := by decide +kernel
theorem dX5_requireSomeRight_20 : decode cX5_requireSomeRight 20 = .ok (.return_, 1) := by decide +kernel
set_option maxRecDepth 20000 in
theorem ggX5_findSteps_X3_forget : GoodIn wsX5_findSteps wsX3_forget := goodIn_r _ [8, 9, 10, 11, 12, 13, 14, 15, 16, 17, 18, 19, 20, 88, 89, 90] (by decide +kernel) (by decide +kernel)
set_option maxRecDepth 20000 in
theorem gX5_findSteps_X3_forget : GoodIn wsX5_findSteps (wsV RX5 68 RX3 yX3_forget wsX3_forget) := goodIn_app (goodIn_of _ (by decide +kernel)) ggX5_findSteps_X3_forget
set_option maxRecDepth 20000 in
theorem ggX5_findSteps_X0_metCount : GoodIn wsX5_findSteps wsX0_metCount := goodIn_r _ [25, 26, 91, 92, 93, 94, 95, 96, 97, 98, 99, 100, 101] (by decide +kernel) (by decide +kernel)
set_option maxRecDepth 20000 in
theorem gX5_findSteps_X0_metCount : GoodIn wsX5_findSteps (wsV RX5 94 RX0 yX0_metCount wsX0_metCount) := goodIn_app (goodIn_of _ (by decide +kernel)) ggX5_findSteps_X0_metCount
set_option maxRecDepth 20000 in
theorem ggX5_findSteps_X0_metForm : GoodIn wsX5_findSteps wsX0_metForm := goodIn_r _ [30, 31, 32, 33, 34, 14, 35, 16, 91, 92, 93, 94, 95, 96, 97, 98, 99, 100, 101, 90] (by decide +kernel) (by decide +kernel)
set_option maxRecDepth 20000 in
theorem gX5_findSteps_X0_metForm : GoodIn wsX5_findSteps (wsV RX5 147 RX0 yX0_metForm wsX0_metForm) := goodIn_app (goodIn_of _ (by decide +kernel)) ggX5_findSteps_X0_metForm
set_option maxRecDepth 20000 in
theorem ggX5_findSteps_X0_hasEndedRight : GoodIn wsX5_findSteps wsX0_hasEndedRight := goodIn_r _ [39, 40, 32, 33, 34, 14, 35, 16, 91, 92, 93, 94, 95, 96, 97, 98, 99, 100, 101, 90] (by decide +kernel) (by decide +kernel)
set_option maxRecDepth 20000 in
theorem gX5_findSteps_X0_hasEndedRight : GoodIn wsX5_findSteps (wsV RX5 119 RX0 yX0_hasEndedRight wsX0_hasEndedRight) := goodIn_app (goodIn_of _ (by decide +kernel)) ggX5_findSteps_X0_hasEndedRight
set_option maxRecDepth 20000 in
theorem ggX5_findSteps_X3_mark : GoodIn wsX5_findSteps wsX3_mark := goodIn_r _ [44, 9, 45, 46, 47, 14, 48, 16, 88, 89, 90] (by decide +kernel) (by decide +kernel)
set_option maxRecDepth 20000 in
theorem gX5_findSteps_X3_mark : GoodIn wsX5_findSteps (wsV RX5 71 RX3 yX3_mark wsX3_mark) := goodIn_app (goodIn_of _ (by decide +kernel)) ggX5_findSteps_X3_mark
set_option maxRecDepth 20000 in
theorem ggX5_findSteps_X3_settle : GoodIn wsX5_findSteps wsX3_settle := goodIn_r _ [52, 53, 54, 55, 7, 56, 9, 57, 58, 59, 60, 61, 62, 63, 33, 34, 14, 35, 16, 64, 65, 66, 67, 10, 68, 69, 70, 71, 72, 73, 74, 75, 76, 77, 78, 79, 80, 81, 82, 83, 45, 46, 47, 48, 88, 89, 102, 90] (by decide +kernel) (by decide +kernel)
set_option maxRecDepth 20000 in
theorem gX5_findSteps_X3_settle : GoodIn wsX5_findSteps (wsV RX5 75 RX3 yX3_settle wsX3_settle) := goodIn_app (goodIn_of _ (by decide +kernel)) ggX5_findSteps_X3_settle
theorem dX5_findSteps_0 : decode cX5_findSteps 0 = .ok (.aload_n 0, 1) := by decide +kernel
theorem dX5_findSteps_1 : decode cX5_findSteps 1 = .ok (.getfield 19, 3) := by decide +kernel
theorem dX5_findSteps_4 : decode cX5_findSteps 4 = .ok (.invokevirtual 68, 3) := by decide +kernel
theorem dX5_findSteps_7 : decode cX5_findSteps 7 = .ok (.iconst 0, 1) := by decide +kernel
theorem dX5_findSteps_8 : decode cX5_findSteps 8 = .ok (.istore_n 1, 1) := by decide +kernel
theorem dX5_findSteps_9 : decode cX5_findSteps 9 = .ok (.iload_n 1, 1) := by decide +kernel
theorem dX5_findSteps_10 : decode cX5_findSteps 10 = .ok (.aload_n 0, 1) := by decide +kernel
theorem dX5_findSteps_11 : decode cX5_findSteps 11 = .ok (.getfield 26, 3) := by decide +kernel
theorem dX5_findSteps_14 : decode cX5_findSteps 14 = .ok (.invokevirtual 94, 3) := by decide +kernel
theorem dX5_findSteps_17 : decode cX5_findSteps 17 = .ok (.if_icmp .ge 37, 3) := by decide +kernel
theorem dX5_findSteps_20 : decode cX5_findSteps 20 = .ok (.aload_n 0, 1) := by decide +kernel
theorem dX5_findSteps_21 : decode cX5_findSteps 21 = .ok (.getfield 26, 3) := by decide +kernel
theorem dX5_findSteps_24 : decode cX5_findSteps 24 = .ok (.iload_n 1, 1) := by decide +kernel
theorem dX5_findSteps_25 : decode cX5_findSteps 25 = .ok (.invokevirtual 147, 3) := by decide +kernel
theorem dX5_findSteps_28 : decode cX5_findSteps 28 = .ok (.istore_n 2, 1) := by decide +kernel
theorem dX5_findSteps_29 : decode cX5_findSteps 29 = .ok (.aload_n 0, 1) := by decide +kernel
theorem dX5_findSteps_30 : decode cX5_findSteps 30 = .ok (.getfield 26, 3) := by decide +kernel
theorem dX5_findSteps_33 : decode cX5_findSteps 33 = .ok (.iload_n 2, 1) := by decide +kernel
theorem dX5_findSteps_34 : decode cX5_findSteps 34 = .ok (.invokevirtual 119, 3) := by decide +kernel
theorem dX5_findSteps_37 : decode cX5_findSteps 37 = .ok (.ifCond .eq 11, 3) := by decide +kernel
theorem dX5_findSteps_40 : decode cX5_findSteps 40 = .ok (.aload_n 0, 1) := by decide +kernel
theorem dX5_findSteps_41 : decode cX5_findSteps 41 = .ok (.getfield 19, 3) := by decide +kernel
theorem dX5_findSteps_44 : decode cX5_findSteps 44 = .ok (.iload_n 2, 1) := by decide +kernel
theorem dX5_findSteps_45 : decode cX5_findSteps 45 = .ok (.invokevirtual 71, 3) := by decide +kernel
theorem dX5_findSteps_48 : decode cX5_findSteps 48 = .ok (.iinc 1 1, 3) := by decide +kernel
theorem dX5_findSteps_51 : decode cX5_findSteps 51 = .ok (.goto (-42), 3) := by decide +kernel
theorem dX5_findSteps_54 : decode cX5_findSteps 54 = .ok (.aload_n 0, 1) := by decide +kernel
theorem dX5_findSteps_55 : decode cX5_findSteps 55 = .ok (.getfield 19, 3) := by decide +kernel
theorem dX5_findSteps_58 : decode cX5_findSteps 58 = .ok (.aload_n 0, 1) := by decide +kernel
theorem dX5_findSteps_59 : decode cX5_findSteps 59 = .ok (.getfield 10, 3) := by decide +kernel
theorem dX5_findSteps_62 : decode cX5_findSteps 62 = .ok (.invokevirtual 75, 3) := by decide +kernel
theorem dX5_findSteps_65 : decode cX5_findSteps 65 = .ok (.return_, 1) := by decide +kernel
set_option maxRecDepth 20000 in
theorem ggX5_stepNearer_X3_editsKnown : GoodIn wsX5_stepNearer wsX3_editsKnown := goodIn_r _ [8, 9, 10, 11, 12, 13, 14, 15, 41, 42, 43] (by decide +kernel) (by decide +kernel)
set_option maxRecDepth 20000 in
theorem gX5_stepNearer_X3_editsKnown : GoodIn wsX5_stepNearer (wsV RX5 65 RX3 yX3_editsKnown wsX3_editsKnown) := goodIn_app (goodIn_of _ (by decide +kernel)) ggX5_stepNearer_X3_editsKnown
set_option maxRecDepth 20000 in
theorem ggX5_stepNearer_X1_weightOf : GoodIn wsX5_stepNearer wsX1_weightOf := goodIn_r _ [19] (by decide +kernel) (by decide +kernel)
set_option maxRecDepth 20000 in
theorem gX5_stepNearer_X1_weightOf : GoodIn wsX5_stepNearer (va_wsS RX5 160 yX1_weightOf wsX1_weightOf) := goodIn_app (goodIn_of _ (by decide +kernel)) ggX5_stepNearer_X1_weightOf
set_option maxRecDepth 20000 in
theorem ggX5_stepNearer_X1_without : GoodIn wsX5_stepNearer wsX1_without := goodIn_r _ [22, 23, 17, 18, 19] (by decide +kernel) (by decide +kernel)
set_option maxRecDepth 20000 in
theorem gX5_stepNearer_X1_without : GoodIn wsX5_stepNearer (va_wsS RX5 163 yX1_without wsX1_without) := goodIn_app (goodIn_of _ (by decide +kernel)) ggX5_stepNearer_X1_without
set_option maxRecDepth 20000 in
theorem ggX5_stepNearer_X1_formOf : GoodIn wsX5_stepNearer wsX1_formOf := goodIn_r _ [27, 28, 29, 11, 12, 13, 14, 15, 44, 43] (by decide +kernel) (by decide +kernel)
set_option maxRecDepth 20000 in
theorem gX5_stepNearer_X1_formOf : GoodIn wsX5_stepNearer (wsV RX5 152 RX1 yX1_formOf wsX1_formOf) := goodIn_app (goodIn_of _ (by decide +kernel)) ggX5_stepNearer_X1_formOf
set_option maxRecDepth 20000 in
theorem ggX5_stepNearer_X4_of : GoodIn wsX5_stepNearer wsX4_of := goodIn_r _ [34, 35, 36, 11, 12, 13, 14, 15, 45, 46, 43] (by decide +kernel) (by decide +kernel)
set_option maxRecDepth 20000 in
theorem gX5_stepNearer_X4_of : GoodIn wsX5_stepNearer (wsV RX5 127 RX4 yX4_of wsX4_of) := goodIn_app (goodIn_of _ (by decide +kernel)) ggX5_stepNearer_X4_of
theorem dX5_stepNearer_0 : decode cX5_stepNearer 0 = .ok (.aload_n 0, 1) := by decide +kernel
theorem dX5_stepNearer_1 : decode cX5_stepNearer 1 = .ok (.getfield 19, 3) := by decide +kernel
theorem dX5_stepNearer_4 : decode cX5_stepNearer 4 = .ok (.iload_n 1, 1) := by decide +kernel
theorem dX5_stepNearer_5 : decode cX5_stepNearer 5 = .ok (.invokevirtual 65, 3) := by decide +kernel
theorem dX5_stepNearer_8 : decode cX5_stepNearer 8 = .ok (.iconst 1, 1) := by decide +kernel
theorem dX5_stepNearer_9 : decode cX5_stepNearer 9 = .ok (.isub, 1) := by decide +kernel
theorem dX5_stepNearer_10 : decode cX5_stepNearer 10 = .ok (.istore_n 2, 1) := by decide +kernel
theorem dX5_stepNearer_11 : decode cX5_stepNearer 11 = .ok (.iload_n 1, 1) := by decide +kernel
theorem dX5_stepNearer_12 : decode cX5_stepNearer 12 = .ok (.istore_n 3, 1) := by decide +kernel
theorem dX5_stepNearer_13 : decode cX5_stepNearer 13 = .ok (.iconst (-1), 1) := by decide +kernel
theorem dX5_stepNearer_14 : decode cX5_stepNearer 14 = .ok (.istore 4, 2) := by decide +kernel
theorem dX5_stepNearer_16 : decode cX5_stepNearer 16 = .ok (.iconst 0, 1) := by decide +kernel
theorem dX5_stepNearer_17 : decode cX5_stepNearer 17 = .ok (.istore 5, 2) := by decide +kernel
theorem dX5_stepNearer_19 : decode cX5_stepNearer 19 = .ok (.iload 5, 2) := by decide +kernel
theorem dX5_stepNearer_21 : decode cX5_stepNearer 21 = .ok (.iconst 4, 1) := by decide +kernel
theorem dX5_stepNearer_22 : decode cX5_stepNearer 22 = .ok (.if_icmp .ge 120, 3) := by decide +kernel
theorem dX5_stepNearer_25 : decode cX5_stepNearer 25 = .ok (.iload 5, 2) := by decide +kernel
theorem dX5_stepNearer_27 : decode cX5_stepNearer 27 = .ok (.invokestatic 160, 3) := by decide +kernel
theorem dX5_stepNearer_30 : decode cX5_stepNearer 30 = .ok (.istore 6, 2) := by decide +kernel
theorem dX5_stepNearer_32 : decode cX5_stepNearer 32 = .ok (.iload_n 1, 1) := by decide +kernel
theorem dX5_stepNearer_33 : decode cX5_stepNearer 33 = .ok (.iload 5, 2) := by decide +kernel
theorem dX5_stepNearer_35 : decode cX5_stepNearer 35 = .ok (.invokestatic 163, 3) := by decide +kernel
theorem dX5_stepNearer_38 : decode cX5_stepNearer 38 = .ok (.istore 7, 2) := by decide +kernel
theorem dX5_stepNearer_40 : decode cX5_stepNearer 40 = .ok (.iconst 0, 1) := by decide +kernel
theorem dX5_stepNearer_41 : decode cX5_stepNearer 41 = .ok (.istore 8, 2) := by decide +kernel
theorem dX5_stepNearer_43 : decode cX5_stepNearer 43 = .ok (.iload 8, 2) := by decide +kernel
theorem dX5_stepNearer_45 : decode cX5_stepNearer 45 = .ok (.bipush 6, 2) := by decide +kernel
theorem dX5_stepNearer_47 : decode cX5_stepNearer 47 = .ok (.if_icmp .ge 89, 3) := by decide +kernel
theorem dX5_stepNearer_50 : decode cX5_stepNearer 50 = .ok (.aload_n 0, 1) := by decide +kernel
theorem dX5_stepNearer_51 : decode cX5_stepNearer 51 = .ok (.getfield 10, 3) := by decide +kernel
theorem dX5_stepNearer_54 : decode cX5_stepNearer 54 = .ok (.iload 7, 2) := by decide +kernel
theorem dX5_stepNearer_56 : decode cX5_stepNearer 56 = .ok (.iload 8, 2) := by decide +kernel
theorem dX5_stepNearer_58 : decode cX5_stepNearer 58 = .ok (.iload 6, 2) := by decide +kernel
theorem dX5_stepNearer_60 : decode cX5_stepNearer 60 = .ok (.imul, 1) := by decide +kernel
theorem dX5_stepNearer_61 : decode cX5_stepNearer 61 = .ok (.iadd, 1) := by decide +kernel
theorem dX5_stepNearer_62 : decode cX5_stepNearer 62 = .ok (.invokevirtual 152, 3) := by decide +kernel
theorem dX5_stepNearer_65 : decode cX5_stepNearer 65 = .ok (.istore 9, 2) := by decide +kernel
theorem dX5_stepNearer_67 : decode cX5_stepNearer 67 = .ok (.aload_n 0, 1) := by decide +kernel
theorem dX5_stepNearer_68 : decode cX5_stepNearer 68 = .ok (.getfield 33, 3) := by decide +kernel
theorem dX5_stepNearer_71 : decode cX5_stepNearer 71 = .ok (.iload 9, 2) := by decide +kernel
theorem dX5_stepNearer_73 : decode cX5_stepNearer 73 = .ok (.invokevirtual 127, 3) := by decide +kernel
theorem dX5_stepNearer_76 : decode cX5_stepNearer 76 = .ok (.istore 10, 2) := by decide +kernel
theorem dX5_stepNearer_78 : decode cX5_stepNearer 78 = .ok (.iload 10, 2) := by decide +kernel
theorem dX5_stepNearer_80 : decode cX5_stepNearer 80 = .ok (.iload 4, 2) := by decide +kernel
theorem dX5_stepNearer_82 : decode cX5_stepNearer 82 = .ok (.if_icmp .gt 16, 3) := by decide +kernel
theorem dX5_stepNearer_85 : decode cX5_stepNearer 85 = .ok (.iload 10, 2) := by decide +kernel
theorem dX5_stepNearer_87 : decode cX5_stepNearer 87 = .ok (.iload 4, 2) := by decide +kernel
theorem dX5_stepNearer_89 : decode cX5_stepNearer 89 = .ok (.if_icmp .ne 13, 3) := by decide +kernel
theorem dX5_stepNearer_92 : decode cX5_stepNearer 92 = .ok (.iload 9, 2) := by decide +kernel
theorem dX5_stepNearer_94 : decode cX5_stepNearer 94 = .ok (.iload_n 3, 1) := by decide +kernel
theorem dX5_stepNearer_95 : decode cX5_stepNearer 95 = .ok (.if_icmp .ge 7, 3) := by decide +kernel
theorem dX5_stepNearer_98 : decode cX5_stepNearer 98 = .ok (.iconst 1, 1) := by decide +kernel
theorem dX5_stepNearer_99 : decode cX5_stepNearer 99 = .ok (.goto 4, 3) := by decide +kernel
theorem dX5_stepNearer_102 : decode cX5_stepNearer 102 = .ok (.iconst 0, 1) := by decide +kernel
theorem dX5_stepNearer_103 : decode cX5_stepNearer 103 = .ok (.istore 11, 2) := by decide +kernel
theorem dX5_stepNearer_105 : decode cX5_stepNearer 105 = .ok (.aload_n 0, 1) := by decide +kernel
theorem dX5_stepNearer_106 : decode cX5_stepNearer 106 = .ok (.getfield 19, 3) := by decide +kernel
theorem dX5_stepNearer_109 : decode cX5_stepNearer 109 = .ok (.iload 9, 2) := by decide +kernel
theorem dX5_stepNearer_111 : decode cX5_stepNearer 111 = .ok (.invokevirtual 65, 3) := by decide +kernel
theorem dX5_stepNearer_114 : decode cX5_stepNearer 114 = .ok (.iload_n 2, 1) := by decide +kernel
theorem dX5_stepNearer_115 : decode cX5_stepNearer 115 = .ok (.if_icmp .ne 15, 3) := by decide +kernel
theorem dX5_stepNearer_118 : decode cX5_stepNearer 118 = .ok (.iload 11, 2) := by decide +kernel
theorem dX5_stepNearer_120 : decode cX5_stepNearer 120 = .ok (.ifCond .eq 10, 3) := by decide +kernel
theorem dX5_stepNearer_123 : decode cX5_stepNearer 123 = .ok (.iload 9, 2) := by decide +kernel
theorem dX5_stepNearer_125 : decode cX5_stepNearer 125 = .ok (.istore_n 3, 1) := by decide +kernel
theorem dX5_stepNearer_126 : decode cX5_stepNearer 126 = .ok (.iload 10, 2) := by decide +kernel
theorem dX5_stepNearer_128 : decode cX5_stepNearer 128 = .ok (.istore 4, 2) := by decide +kernel
theorem dX5_stepNearer_130 : decode cX5_stepNearer 130 = .ok (.iinc 8 1, 3) := by decide +kernel
theorem dX5_stepNearer_133 : decode cX5_stepNearer 133 = .ok (.goto (-90), 3) := by decide +kernel
theorem dX5_stepNearer_136 : decode cX5_stepNearer 136 = .ok (.iinc 5 1, 3) := by decide +kernel
theorem dX5_stepNearer_139 : decode cX5_stepNearer 139 = .ok (.goto (-120), 3) := by decide +kernel
theorem dX5_stepNearer_142 : decode cX5_stepNearer 142 = .ok (.iload_n 3, 1) := by decide +kernel
theorem dX5_stepNearer_143 : decode cX5_stepNearer 143 = .ok (.ireturn, 1) := by decide +kernel
