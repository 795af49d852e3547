theorem dX6_hinted_22 : decode cX6_hinted 22 = .ok (.iload 4, 2) := by decide +kernel
theorem dX6_hinted_24 : decode cX6_hinted 24 = .ok (.iaload, 1) := by decide +kernel
theorem dX6_hinted_25 : decode cX6_hinted 25 = .ok (.aload_n 0, 1) := by decide +kernel
theorem dX6_hinted_26 : decode cX6_hinted 26 = .ok (.getfield 16, 3) := by decide +kernel
theorem dX6_hinted_29 : decode cX6_hinted 29 = .ok (.iload_n 1, 1) := by decide +kernel
theorem dX6_hinted_30 : decode cX6_hinted 30 = .ok (.iaload, 1) := by decide +kernel
theorem dX6_hinted_31 : decode cX6_hinted 31 = .ok (.iconst 1, 1) := by decide +kernel
theorem dX6_hinted_32 : decode cX6_hinted 32 = .ok (.isub, 1) := by decide +kernel
theorem dX6_hinted_33 : decode cX6_hinted 33 = .ok (.if_icmp .ne 7, 3) := by decide +kernel
theorem dX6_hinted_36 : decode cX6_hinted 36 = .ok (.iconst 1, 1) := by decide +kernel
theorem dX6_hinted_37 : decode cX6_hinted 37 = .ok (.goto 4, 3) := by decide +kernel
theorem dX6_hinted_40 : decode cX6_hinted 40 = .ok (.iconst 0, 1) := by decide +kernel
theorem dX6_hinted_41 : decode cX6_hinted 41 = .ok (.istore 5, 2) := by decide +kernel
theorem dX6_hinted_43 : decode cX6_hinted 43 = .ok (.iload_n 2, 1) := by decide +kernel
theorem dX6_hinted_44 : decode cX6_hinted 44 = .ok (.iconst (-1), 1) := by decide +kernel
theorem dX6_hinted_45 : decode cX6_hinted 45 = .ok (.if_icmp .eq 41, 3) := by decide +kernel
theorem dX6_hinted_48 : decode cX6_hinted 48 = .ok (.aload_n 0, 1) := by decide +kernel
theorem dX6_hinted_49 : decode cX6_hinted 49 = .ok (.getfield 26, 3) := by decide +kernel
theorem dX6_hinted_52 : decode cX6_hinted 52 = .ok (.iload 4, 2) := by decide +kernel
theorem dX6_hinted_54 : decode cX6_hinted 54 = .ok (.iaload, 1) := by decide +kernel
theorem dX6_hinted_55 : decode cX6_hinted 55 = .ok (.aload_n 0, 1) := by decide +kernel
theorem dX6_hinted_56 : decode cX6_hinted 56 = .ok (.getfield 26, 3) := by decide +kernel
theorem dX6_hinted_59 : decode cX6_hinted 59 = .ok (.iload_n 2, 1) := by decide +kernel
theorem dX6_hinted_60 : decode cX6_hinted 60 = .ok (.iaload, 1) := by decide +kernel
theorem dX6_hinted_61 : decode cX6_hinted 61 = .ok (.if_icmp .gt 25, 3) := by decide +kernel
theorem dX6_hinted_64 : decode cX6_hinted 64 = .ok (.aload_n 0, 1) := by decide +kernel
theorem dX6_hinted_65 : decode cX6_hinted 65 = .ok (.getfield 26, 3) := by decide +kernel
theorem dX6_hinted_68 : decode cX6_hinted 68 = .ok (.iload 4, 2) := by decide +kernel
theorem dX6_hinted_70 : decode cX6_hinted 70 = .ok (.iaload, 1) := by decide +kernel
theorem dX6_hinted_71 : decode cX6_hinted 71 = .ok (.aload_n 0, 1) := by decide +kernel
theorem dX6_hinted_72 : decode cX6_hinted 72 = .ok (.getfield 26, 3) := by decide +kernel
theorem dX6_hinted_75 : decode cX6_hinted 75 = .ok (.iload_n 2, 1) := by decide +kernel
theorem dX6_hinted_76 : decode cX6_hinted 76 = .ok (.iaload, 1) := by decide +kernel
theorem dX6_hinted_77 : decode cX6_hinted 77 = .ok (.if_icmp .ne 13, 3) := by decide +kernel
theorem dX6_hinted_80 : decode cX6_hinted 80 = .ok (.iload 4, 2) := by decide +kernel
theorem dX6_hinted_82 : decode cX6_hinted 82 = .ok (.iload_n 2, 1) := by decide +kernel
theorem dX6_hinted_83 : decode cX6_hinted 83 = .ok (.if_icmp .ge 7, 3) := by decide +kernel
theorem dX6_hinted_86 : decode cX6_hinted 86 = .ok (.iconst 1, 1) := by decide +kernel
theorem dX6_hinted_87 : decode cX6_hinted 87 = .ok (.goto 4, 3) := by decide +kernel
theorem dX6_hinted_90 : decode cX6_hinted 90 = .ok (.iconst 0, 1) := by decide +kernel
theorem dX6_hinted_91 : decode cX6_hinted 91 = .ok (.istore 6, 2) := by decide +kernel
theorem dX6_hinted_93 : decode cX6_hinted 93 = .ok (.iload 5, 2) := by decide +kernel
theorem dX6_hinted_95 : decode cX6_hinted 95 = .ok (.ifCond .eq 13, 3) := by decide +kernel
theorem dX6_hinted_98 : decode cX6_hinted 98 = .ok (.iload 6, 2) := by decide +kernel
theorem dX6_hinted_100 : decode cX6_hinted 100 = .ok (.ifCond .eq 8, 3) := by decide +kernel
theorem dX6_hinted_103 : decode cX6_hinted 103 = .ok (.iload 4, 2) := by decide +kernel
theorem dX6_hinted_105 : decode cX6_hinted 105 = .ok (.goto 4, 3) := by decide +kernel
theorem dX6_hinted_108 : decode cX6_hinted 108 = .ok (.iload_n 2, 1) := by decide +kernel
theorem dX6_hinted_109 : decode cX6_hinted 109 = .ok (.istore_n 2, 1) := by decide +kernel
theorem dX6_hinted_110 : decode cX6_hinted 110 = .ok (.iinc 3 1, 3) := by decide +kernel
theorem dX6_hinted_113 : decode cX6_hinted 113 = .ok (.goto (-109), 3) := by decide +kernel
theorem dX6_hinted_116 : decode cX6_hinted 116 = .ok (.iload_n 2, 1) := by decide +kernel
theorem dX6_hinted_117 : decode cX6_hinted 117 = .ok (.ireturn, 1) := by decide +kernel
set_option maxRecDepth 20000 in
theorem ggX6_hint_X6_isCode : GoodIn wsX6_hint wsX6_isCode := goodIn_r _ [6] (by decide +kernel) (by decide +kernel)
set_option maxRecDepth 20000 in
theorem gX6_hint_X6_isCode : GoodIn wsX6_hint (va_wsS RX6 70 yX6_isCode wsX6_isCode) := goodIn_app (goodIn_of _ (by decide +kernel)) ggX6_hint_X6_isCode
set_option maxRecDepth 20000 in
theorem ggX6_hint_X6_isAnyRight : GoodIn wsX6_hint wsX6_isAnyRight := goodIn_r _ [10, 11, 12, 46, 47, 48, 49, 50, 51, 52, 53, 54, 55, 56, 57, 58, 59, 60, 61, 62, 63] (by decide +kernel) (by decide +kernel)
set_option maxRecDepth 20000 in
theorem gX6_hint_X6_isAnyRight : GoodIn wsX6_hint (wsV RX6 108 RX6 yX6_isAnyRight wsX6_isAnyRight) := goodIn_app (goodIn_of _ (by decide +kernel)) ggX6_hint_X6_isAnyRight
set_option maxRecDepth 20000 in
theorem ggX6_hint_X6_goes : GoodIn wsX6_hint wsX6_goes := goodIn_r _ [16, 17, 46, 47, 48, 49, 50, 51, 52, 53, 54, 55, 56, 57, 58, 59, 60, 61, 62, 63] (by decide +kernel) (by decide +kernel)
set_option maxRecDepth 20000 in
theorem gX6_hint_X6_goes : GoodIn wsX6_hint (wsV RX6 74 RX6 yX6_goes wsX6_goes) := goodIn_app (goodIn_of _ (by decide +kernel)) ggX6_hint_X6_goes
set_option maxRecDepth 20000 in
theorem ggX6_hint_X6_goesInward : GoodIn wsX6_hint wsX6_goesInward := goodIn_r _ [21, 22, 1, 2, 23, 24, 25, 5, 26, 27, 28, 29, 46, 47, 48, 49, 50, 51, 52, 53, 54, 55, 56, 57, 58, 59, 60, 61, 62, 63] (by decide +kernel) (by decide +kernel)
set_option maxRecDepth 20000 in
theorem gX6_hint_X6_goesInward : GoodIn wsX6_hint (wsV RX6 85 RX6 yX6_goesInward wsX6_goesInward) := goodIn_app (goodIn_of _ (by decide +kernel)) ggX6_hint_X6_goesInward
set_option maxRecDepth 20000 in
theorem ggX6_hint_X6_laysWorths : GoodIn wsX6_hint wsX6_laysWorths := goodIn_r _ [33, 34, 35, 36, 37, 38, 39, 11, 40, 12, 41, 46, 47, 48, 49, 50, 51, 52, 53, 54, 55, 56, 57, 58, 59, 60, 61, 62, 63] (by decide +kernel) (by decide +kernel)
set_option maxRecDepth 20000 in
theorem gX6_hint_X6_laysWorths : GoodIn wsX6_hint (wsV RX6 105 RX6 yX6_laysWorths wsX6_laysWorths) := goodIn_app (goodIn_of _ (by decide +kernel)) ggX6_hint_X6_laysWorths
set_option maxRecDepth 20000 in
theorem ggX6_hint_X6_hinted : GoodIn wsX6_hint wsX6_hinted := goodIn_r _ [45, 22, 34, 23, 24, 25, 5, 26, 2, 27, 28, 29, 46, 47, 48, 49, 50, 51, 52, 53, 54, 55, 56, 57, 58, 59, 60, 61, 62, 63] (by decide +kernel) (by decide +kernel)
set_option maxRecDepth 20000 in
theorem gX6_hint_X6_hinted : GoodIn wsX6_hint (wsV RX6 111 RX6 yX6_hinted wsX6_hinted) := goodIn_app (goodIn_of _ (by decide +kernel)) ggX6_hint_X6_hinted
theorem dX6_hint_0 : decode cX6_hint 0 = .ok (.aload_n 0, 1) := by decide +kernel
theorem dX6_hint_1 : decode cX6_hint 1 = .ok (.iload_n 1, 1) := by decide +kernel
theorem dX6_hint_2 : decode cX6_hint 2 = .ok (.invokestatic 70, 3) := by decide +kernel
theorem dX6_hint_5 : decode cX6_hint 5 = .ok (.ifCond .ne 7, 3) := by decide +kernel
theorem dX6_hint_8 : decode cX6_hint 8 = .ok (.iconst 1, 1) := by decide +kernel
theorem dX6_hint_9 : decode cX6_hint 9 = .ok (.goto 33, 3) := by decide +kernel
theorem dX6_hint_12 : decode cX6_hint 12 = .ok (.aload_n 0, 1) := by decide +kernel
theorem dX6_hint_13 : decode cX6_hint 13 = .ok (.invokevirtual 108, 3) := by decide +kernel
theorem dX6_hint_16 : decode cX6_hint 16 = .ok (.ifCond .ne 7, 3) := by decide +kernel
theorem dX6_hint_19 : decode cX6_hint 19 = .ok (.iconst 2, 1) := by decide +kernel
theorem dX6_hint_20 : decode cX6_hint 20 = .ok (.goto 22, 3) := by decide +kernel
theorem dX6_hint_23 : decode cX6_hint 23 = .ok (.aload_n 0, 1) := by decide +kernel
theorem dX6_hint_24 : decode cX6_hint 24 = .ok (.getfield 23, 3) := by decide +kernel
theorem dX6_hint_27 : decode cX6_hint 27 = .ok (.aload_n 0, 1) := by decide +kernel
theorem dX6_hint_28 : decode cX6_hint 28 = .ok (.getfield 7, 3) := by decide +kernel
theorem dX6_hint_31 : decode cX6_hint 31 = .ok (.iload_n 1, 1) := by decide +kernel
theorem dX6_hint_32 : decode cX6_hint 32 = .ok (.iaload, 1) := by decide +kernel
theorem dX6_hint_33 : decode cX6_hint 33 = .ok (.baload, 1) := by decide +kernel
theorem dX6_hint_34 : decode cX6_hint 34 = .ok (.ifCond .eq 7, 3) := by decide +kernel
theorem dX6_hint_37 : decode cX6_hint 37 = .ok (.iconst 3, 1) := by decide +kernel
theorem dX6_hint_38 : decode cX6_hint 38 = .ok (.goto 4, 3) := by decide +kernel
theorem dX6_hint_41 : decode cX6_hint 41 = .ok (.iconst 0, 1) := by decide +kernel
theorem dX6_hint_42 : decode cX6_hint 42 = .ok (.invokevirtual 74, 3) := by decide +kernel
theorem dX6_hint_45 : decode cX6_hint 45 = .ok (.ifCond .ne 5, 3) := by decide +kernel
theorem dX6_hint_48 : decode cX6_hint 48 = .ok (.iconst 0, 1) := by decide +kernel
theorem dX6_hint_49 : decode cX6_hint 49 = .ok (.ireturn, 1) := by decide +kernel
theorem dX6_hint_50 : decode cX6_hint 50 = .ok (.aload_n 0, 1) := by decide +kernel
theorem dX6_hint_51 : decode cX6_hint 51 = .ok (.iconst (-1), 1) := by decide +kernel
theorem dX6_hint_52 : decode cX6_hint 52 = .ok (.invokevirtual 85, 3) := by decide +kernel
theorem dX6_hint_55 : decode cX6_hint 55 = .ok (.aload_n 0, 1) := by decide +kernel
theorem dX6_hint_56 : decode cX6_hint 56 = .ok (.invokevirtual 105, 3) := by decide +kernel
theorem dX6_hint_59 : decode cX6_hint 59 = .ok (.aload_n 0, 1) := by decide +kernel
theorem dX6_hint_60 : decode cX6_hint 60 = .ok (.aload_n 0, 1) := by decide +kernel
theorem dX6_hint_61 : decode cX6_hint 61 = .ok (.getfield 7, 3) := by decide +kernel
theorem dX6_hint_64 : decode cX6_hint 64 = .ok (.iload_n 1, 1) := by decide +kernel
theorem dX6_hint_65 : decode cX6_hint 65 = .ok (.iaload, 1) := by decide +kernel
theorem dX6_hint_66 : decode cX6_hint 66 = .ok (.invokevirtual 111, 3) := by decide +kernel
theorem dX6_hint_69 : decode cX6_hint 69 = .ok (.ireturn, 1) := by decide +kernel
set_option maxRecDepth 20000 in
theorem ggX6_lead_X6_isCode : GoodIn wsX6_lead wsX6_isCode := goodIn_r _ [6] (by decide +kernel) (by decide +kernel)
set_option maxRecDepth 20000 in
theorem gX6_lead_X6_isCode : GoodIn wsX6_lead (va_wsS RX6 70 yX6_isCode wsX6_isCode) := goodIn_app (goodIn_of _ (by decide +kernel)) ggX6_lead_X6_isCode
set_option maxRecDepth 20000 in
theorem ggX6_lead_X6_isAnyRight : GoodIn wsX6_lead wsX6_isAnyRight := goodIn_r _ [10, 11, 12, 46, 47, 48, 49, 50, 51, 52, 53, 54, 55, 56, 57, 58, 59, 60, 61, 62, 63] (by decide +kernel) (by decide +kernel)
set_option maxRecDepth 20000 in
theorem gX6_lead_X6_isAnyRight : GoodIn wsX6_lead (wsV RX6 108 RX6 yX6_isAnyRight wsX6_isAnyRight) := goodIn_app (goodIn_of _ (by decide +kernel)) ggX6_lead_X6_isAnyRight
set_option maxRecDepth 20000 in
theorem ggX6_lead_X6_goes : GoodIn wsX6_lead wsX6_goes := goodIn_r _ [16, 17, 46, 47, 48, 49, 50, 51, 52, 53, 54, 55, 56, 57, 58, 59, 60, 61, 62, 63] (by decide +kernel) (by decide +kernel)
set_option maxRecDepth 20000 in
theorem gX6_lead_X6_goes : GoodIn wsX6_lead (wsV RX6 74 RX6 yX6_goes wsX6_goes) := goodIn_app (goodIn_of _ (by decide +kernel)) ggX6_lead_X6_goes
set_option maxRecDepth 20000 in
theorem ggX6_lead_X6_goesInward : GoodIn wsX6_lead wsX6_goesInward := goodIn_r _ [21, 22, 2, 1, 23, 24, 25, 5, 26, 27, 28, 29, 46, 47, 48, 49, 50, 51, 52, 53, 54, 55, 56, 57, 58, 59, 60, 61, 62, 63] (by decide +kernel) (by decide +kernel)
set_option maxRecDepth 20000 in
theorem gX6_lead_X6_goesInward : GoodIn wsX6_lead (wsV RX6 85 RX6 yX6_goesInward wsX6_goesInward) := goodIn_app (goodIn_of _ (by decide +kernel)) ggX6_lead_X6_goesInward
set_option maxRecDepth 20000 in
theorem ggX6_lead_X6_laysWorths : GoodIn wsX6_lead wsX6_laysWorths := goodIn_r _ [33, 34, 35, 36, 37, 38, 39, 11, 40, 12, 41, 46, 47, 48, 49, 50, 51, 52, 53, 54, 55, 56, 57, 58, 59, 60, 61, 62, 63] (by decide +kernel) (by decide +kernel)
set_option maxRecDepth 20000 in
theorem gX6_lead_X6_laysWorths : GoodIn wsX6_lead (wsV RX6 105 RX6 yX6_laysWorths wsX6_laysWorths) := goodIn_app (goodIn_of _ (by decide +kernel)) ggX6_lead_X6_laysWorths
set_option maxRecDepth 20000 in
theorem ggX6_lead_X6_hinted : GoodIn wsX6_lead wsX6_hinted := goodIn_r _ [45, 22, 34, 23, 24, 25, 5, 26, 1, 27, 28, 29, 46, 47, 48, 49, 50, 51, 52, 53, 54, 55, 56, 57, 58, 59, 60, 61, 62, 63] (by decide +kernel) (by decide +kernel)
set_option maxRecDepth 20000 in
theorem gX6_lead_X6_hinted : GoodIn wsX6_lead (wsV RX6 111 RX6 yX6_hinted wsX6_hinted) := goodIn_app (goodIn_of _ (by decide +kernel)) ggX6_lead_X6_hinted
theorem dX6_lead_0 : decode cX6_lead 0 = .ok (.aload_n 0, 1) := by decide +kernel
theorem dX6_lead_1 : decode cX6_lead 1 = .ok (.iload_n 1, 1) := by decide +kernel
theorem dX6_lead_2 : decode cX6_lead 2 = .ok (.invokestatic 70, 3) := by decide +kernel
theorem dX6_lead_5 : decode cX6_lead 5 = .ok (.ifCond .ne 7, 3) := by decide +kernel
theorem dX6_lead_8 : decode cX6_lead 8 = .ok (.iconst 1, 1) := by decide +kernel
theorem dX6_lead_9 : decode cX6_lead 9 = .ok (.goto 15, 3) := by decide +kernel
theorem dX6_lead_12 : decode cX6_lead 12 = .ok (.aload_n 0, 1) := by decide +kernel
theorem dX6_lead_13 : decode cX6_lead 13 = .ok (.invokevirtual 108, 3) := by decide +kernel
theorem dX6_lead_16 : decode cX6_lead 16 = .ok (.ifCond .eq 7, 3) := by decide +kernel
theorem dX6_lead_19 : decode cX6_lead 19 = .ok (.iconst 0, 1) := by decide +kernel
theorem dX6_lead_20 : decode cX6_lead 20 = .ok (.goto 4, 3) := by decide +kernel
theorem dX6_lead_23 : decode cX6_lead 23 = .ok (.iconst 2, 1) := by decide +kernel
theorem dX6_lead_24 : decode cX6_lead 24 = .ok (.invokevirtual 74, 3) := by decide +kernel
theorem dX6_lead_27 : decode cX6_lead 27 = .ok (.ifCond .ne 5, 3) := by decide +kernel
theorem dX6_lead_30 : decode cX6_lead 30 = .ok (.iconst 0, 1) := by decide +kernel
theorem dX6_lead_31 : decode cX6_lead 31 = .ok (.ireturn, 1) := by decide +kernel
theorem dX6_lead_32 : decode cX6_lead 32 = .ok (.aload_n 0, 1) := by decide +kernel
theorem dX6_lead_33 : decode cX6_lead 33 = .ok (.iconst (-1), 1) := by decide +kernel
theorem dX6_lead_34 : decode cX6_lead 34 = .ok (.invokevirtual 85, 3) := by decide +kernel
theorem dX6_lead_37 : decode cX6_lead 37 = .ok (.aload_n 0, 1) := by decide +kernel
theorem dX6_lead_38 : decode cX6_lead 38 = .ok (.invokevirtual 105, 3) := by decide +kernel
theorem dX6_lead_41 : decode cX6_lead 41 = .ok (.aload_n 0, 1) := by decide +kernel
theorem dX6_lead_42 : decode cX6_lead 42 = .ok (.getfield 7, 3) := by decide +kernel
theorem dX6_lead_45 : decode cX6_lead 45 = .ok (.iload_n 1, 1) := by decide +kernel
theorem dX6_lead_46 : decode cX6_lead 46 = .ok (.iaload, 1) := by decide +kernel
theorem dX6_lead_47 : decode cX6_lead 47 = .ok (.istore_n 2, 1) := by decide +kernel
theorem dX6_lead_48 : decode cX6_lead 48 = .ok (.aload_n 0, 1) := by decide +kernel
theorem dX6_lead_49 : decode cX6_lead 49 = .ok (.getfield 23, 3) := by decide +kernel
theorem dX6_lead_52 : decode cX6_lead 52 = .ok (.iload_n 2, 1) := by decide +kernel
theorem dX6_lead_53 : decode cX6_lead 53 = .ok (.baload, 1) := by decide +kernel
theorem dX6_lead_54 : decode cX6_lead 54 = .ok (.ifCond .ne 12, 3) := by decide +kernel
theorem dX6_lead_57 : decode cX6_lead 57 = .ok (.aload_n 0, 1) := by decide +kernel
theorem dX6_lead_58 : decode cX6_lead 58 = .ok (.iload_n 2, 1) := by decide +kernel
theorem dX6_lead_59 : decode cX6_lead 59 = .ok (.invokevirtual 111, 3) := by decide +kernel
theorem dX6_lead_62 : decode cX6_lead 62 = .ok (.istore_n 2, 1) := by decide +kernel
theorem dX6_lead_63 : decode cX6_lead 63 = .ok (.goto (-15), 3) := by decide +kernel
theorem dX6_lead_66 : decode cX6_lead 66 = .ok (.iload_n 2, 1) := by decide +kernel
theorem dX6_lead_67 : decode cX6_lead 67 = .ok (.ireturn, 1) := by decide +kernel
set_option maxRecDepth 20000 in
theorem ggX6_nearest_X6_isCode : GoodIn wsX6_nearest wsX6_isCode := goodIn_r _ [8] (by decide +kernel) (by decide +kernel)
set_option maxRecDepth 20000 in
theorem gX6_nearest_X6_isCode : GoodIn wsX6_nearest (va_wsS RX6 70 yX6_isCode wsX6_isCode) := goodIn_app (goodIn_of _ (by decide +kernel)) ggX6_nearest_X6_isCode
set_option maxRecDepth 20000 in
theorem ggX6_nearest_X6_goes : GoodIn wsX6_nearest wsX6_goes := goodIn_r _ [12, 13, 25, 26, 27, 28, 29, 30, 31, 32, 33, 34, 35, 36, 37, 38, 39, 40, 41, 42] (by decide +kernel) (by decide +kernel)
set_option maxRecDepth 20000 in
theorem gX6_nearest_X6_goes : GoodIn wsX6_nearest (wsV RX6 74 RX6 yX6_goes wsX6_goes) := goodIn_app (goodIn_of _ (by decide +kernel)) ggX6_nearest_X6_goes
set_option maxRecDepth 20000 in
theorem ggX6_nearest_X6_goesOutward : GoodIn wsX6_nearest wsX6_goesOutward := goodIn_r _ [17, 4, 18, 19, 20, 7, 21, 2, 22, 23, 24, 25, 26, 27, 28, 29, 30, 31, 32, 33, 34, 35, 36, 37, 38, 39, 40, 41, 42] (by decide +kernel) (by decide +kernel)
set_option maxRecDepth 20000 in
theorem gX6_nearest_X6_goesOutward : GoodIn wsX6_nearest (wsV RX6 81 RX6 yX6_goesOutward wsX6_goesOutward) := goodIn_app (goodIn_of _ (by decide +kernel)) ggX6_nearest_X6_goesOutward
theorem dX6_nearest_0 : decode cX6_nearest 0 = .ok (.aload_n 0, 1) := by decide +kernel
theorem dX6_nearest_1 : decode cX6_nearest 1 = .ok (.iload_n 1, 1) := by decide +kernel
theorem dX6_nearest_2 : decode cX6_nearest 2 = .ok (.invokestatic 70, 3) := by decide +kernel
theorem dX6_nearest_5 : decode cX6_nearest 5 = .ok (.ifCond .ne 7, 3) := by decide +kernel
theorem dX6_nearest_8 : decode cX6_nearest 8 = .ok (.iconst 1, 1) := by decide +kernel
theorem dX6_nearest_9 : decode cX6_nearest 9 = .ok (.goto 15, 3) := by decide +kernel
theorem dX6_nearest_12 : decode cX6_nearest 12 = .ok (.aload_n 0, 1) := by decide +kernel
theorem dX6_nearest_13 : decode cX6_nearest 13 = .ok (.getfield 88, 3) := by decide +kernel
theorem dX6_nearest_16 : decode cX6_nearest 16 = .ok (.ifCond .le 7, 3) := by decide +kernel
theorem dX6_nearest_19 : decode cX6_nearest 19 = .ok (.iconst 0, 1) := by decide +kernel
theorem dX6_nearest_20 : decode cX6_nearest 20 = .ok (.goto 4, 3) := by decide +kernel
theorem dX6_nearest_23 : decode cX6_nearest 23 = .ok (.iconst 2, 1) := by decide +kernel
theorem dX6_nearest_24 : decode cX6_nearest 24 = .ok (.invokevirtual 74, 3) := by decide +kernel
theorem dX6_nearest_27 : decode cX6_nearest 27 = .ok (.ifCond .ne 5, 3) := by decide +kernel
theorem dX6_nearest_30 : decode cX6_nearest 30 = .ok (.iconst 0, 1) := by decide +kernel
theorem dX6_nearest_31 : decode cX6_nearest 31 = .ok (.ireturn, 1) := by decide +kernel
theorem dX6_nearest_32 : decode cX6_nearest 32 = .ok (.aload_n 0, 1) := by decide +kernel
theorem dX6_nearest_33 : decode cX6_nearest 33 = .ok (.aload_n 0, 1) := by decide +kernel
theorem dX6_nearest_34 : decode cX6_nearest 34 = .ok (.getfield 7, 3) := by decide +kernel
theorem dX6_nearest_37 : decode cX6_nearest 37 = .ok (.iload_n 1, 1) := by decide +kernel
theorem dX6_nearest_38 : decode cX6_nearest 38 = .ok (.iaload, 1) := by decide +kernel
theorem dX6_nearest_39 : decode cX6_nearest 39 = .ok (.invokevirtual 81, 3) := by decide +kernel
theorem dX6_nearest_42 : decode cX6_nearest 42 = .ok (.iconst (-1), 1) := by decide +kernel
theorem dX6_nearest_43 : decode cX6_nearest 43 = .ok (.istore_n 2, 1) := by decide +kernel
theorem dX6_nearest_44 : decode cX6_nearest 44 = .ok (.iconst 0, 1) := by decide +kernel
theorem dX6_nearest_45 : decode cX6_nearest 45 = .ok (.istore_n 3, 1) := by decide +kernel
theorem dX6_nearest_46 : decode cX6_nearest 46 = .ok (.iload_n 3, 1) := by decide +kernel
theorem dX6_nearest_47 : decode cX6_nearest 47 = .ok (.sipush 1296, 3) := by decide +kernel
theorem dX6_nearest_50 : decode cX6_nearest 50 = .ok (.if_icmp .ge 44, 3) := by decide +kernel
theorem dX6_nearest_53 : decode cX6_nearest 53 = .ok (.aload_n 0, 1) := by decide +kernel
theorem dX6_nearest_54 : decode cX6_nearest 54 = .ok (.getfield 19, 3) := by decide +kernel
theorem dX6_nearest_57 : decode cX6_nearest 57 = .ok (.iload_n 3, 1) := by decide +kernel
theorem dX6_nearest_58 : decode cX6_nearest 58 = .ok (.baload, 1) := by decide +kernel
theorem dX6_nearest_59 : decode cX6_nearest 59 = .ok (.ifCond .eq 27, 3) := by decide +kernel
theorem dX6_nearest_62 : decode cX6_nearest 62 = .ok (.iload_n 2, 1) := by decide +kernel
theorem dX6_nearest_63 : decode cX6_nearest 63 = .ok (.iconst (-1), 1) := by decide +kernel
theorem dX6_nearest_64 : decode cX6_nearest 64 = .ok (.if_icmp .eq 18, 3) := by decide +kernel
theorem dX6_nearest_67 : decode cX6_nearest 67 = .ok (.aload_n 0, 1) := by decide +kernel
theorem dX6_nearest_68 : decode cX6_nearest 68 = .ok (.getfield 16, 3) := by decide +kernel
theorem dX6_nearest_71 : decode cX6_nearest 71 = .ok (.iload_n 3, 1) := by decide +kernel
theorem dX6_nearest_72 : decode cX6_nearest 72 = .ok (.iaload, 1) := by decide +kernel
theorem dX6_nearest_73 : decode cX6_nearest 73 = .ok (.aload_n 0, 1) := by decide +kernel
theorem dX6_nearest_74 : decode cX6_nearest 74 = .ok (.getfield 16, 3) := by decide +kernel
theorem dX6_nearest_77 : decode cX6_nearest 77 = .ok (.iload_n 2, 1) := by decide +kernel
theorem dX6_nearest_78 : decode cX6_nearest 78 = .ok (.iaload, 1) := by decide +kernel
theorem dX6_nearest_79 : decode cX6_nearest 79 = .ok (.if_icmp .ge 7, 3) := by decide +kernel
theorem dX6_nearest_82 : decode cX6_nearest 82 = .ok (.iload_n 3, 1) := by decide +kernel
theorem dX6_nearest_83 : decode cX6_nearest 83 = .ok (.goto 4, 3) := by decide +kernel
theorem dX6_nearest_86 : decode cX6_nearest 86 = .ok (.iload_n 2, 1) := by decide +kernel
theorem dX6_nearest_87 : decode cX6_nearest 87 = .ok (.istore_n 2, 1) := by decide +kernel
theorem dX6_nearest_88 : decode cX6_nearest 88 = .ok (.iinc 3 1, 3) := by decide +kernel
theorem dX6_nearest_91 : decode cX6_nearest 91 = .ok (.goto (-45), 3) := by decide +kernel
theorem dX6_nearest_94 : decode cX6_nearest 94 = .ok (.iload_n 2, 1) := by decide +kernel
theorem dX6_nearest_95 : decode cX6_nearest 95 = .ok (.ireturn, 1) := by decide +kernel
