set_option maxRecDepth 20000 in
theorem ggX0_init_X2_init : GoodIn wsX0_init wsX2_init := goodIn_r _ [16, 17, 2, 3, 18, 19, 20] (by decide +kernel) (by decide +kernel)
set_option maxRecDepth 20000 in
theorem gX0_init_X2_init : GoodIn wsX0_init (wsX2_init) := ggX0_init_X2_init
theorem dX0_init_0 : decode cX0_init 0 = .ok (.aload_n 0, 1) := by decide +kernel
theorem dX0_init_1 : decode cX0_init 1 = .ok (.invokespecial 3, 3) := by decide +kernel
theorem dX0_init_4 : decode cX0_init 4 = .ok (.aload_n 0, 1) := by decide +kernel
theorem dX0_init_5 : decode cX0_init 5 = .ok (.new 9, 3) := by decide +kernel
theorem dX0_init_8 : decode cX0_init 8 = .ok (.dup, 1) := by decide +kernel
theorem dX0_init_9 : decode cX0_init 9 = .ok (.sipush 300, 3) := by decide +kernel
theorem dX0_init_12 : decode cX0_init 12 = .ok (.invokespecial 11, 3) := by decide +kernel
theorem dX0_init_15 : decode cX0_init 15 = .ok (.putfield 14, 3) := by decide +kernel
theorem dX0_init_18 : decode cX0_init 18 = .ok (.aload_n 0, 1) := by decide +kernel
theorem dX0_init_19 : decode cX0_init 19 = .ok (.new 9, 3) := by decide +kernel
theorem dX0_init_22 : decode cX0_init 22 = .ok (.dup, 1) := by decide +kernel
theorem dX0_init_23 : decode cX0_init 23 = .ok (.sipush 300, 3) := by decide +kernel
theorem dX0_init_26 : decode cX0_init 26 = .ok (.invokespecial 11, 3) := by decide +kernel
theorem dX0_init_29 : decode cX0_init 29 = .ok (.putfield 20, 3) := by decide +kernel
theorem dX0_init_32 : decode cX0_init 32 = .ok (.aload_n 0, 1) := by decide +kernel
theorem dX0_init_33 : decode cX0_init 33 = .ok (.new 9, 3) := by decide +kernel
theorem dX0_init_36 : decode cX0_init 36 = .ok (.dup, 1) := by decide +kernel
theorem dX0_init_37 : decode cX0_init 37 = .ok (.sipush 1296, 3) := by decide +kernel
theorem dX0_init_40 : decode cX0_init 40 = .ok (.invokespecial 11, 3) := by decide +kernel
theorem dX0_init_43 : decode cX0_init 43 = .ok (.putfield 23, 3) := by decide +kernel
theorem dX0_init_46 : decode cX0_init 46 = .ok (.aload_n 0, 1) := by decide +kernel
theorem dX0_init_47 : decode cX0_init 47 = .ok (.new 9, 3) := by decide +kernel
theorem dX0_init_50 : decode cX0_init 50 = .ok (.dup, 1) := by decide +kernel
theorem dX0_init_51 : decode cX0_init 51 = .ok (.sipush 1296, 3) := by decide +kernel
theorem dX0_init_54 : decode cX0_init 54 = .ok (.invokespecial 11, 3) := by decide +kernel
theorem dX0_init_57 : decode cX0_init 57 = .ok (.putfield 26, 3) := by decide +kernel
theorem dX0_init_60 : decode cX0_init 60 = .ok (.aload_n 0, 1) := by decide +kernel
theorem dX0_init_61 : decode cX0_init 61 = .ok (.new 9, 3) := by decide +kernel
theorem dX0_init_64 : decode cX0_init 64 = .ok (.dup, 1) := by decide +kernel
theorem dX0_init_65 : decode cX0_init 65 = .ok (.sipush 1296, 3) := by decide +kernel
theorem dX0_init_68 : decode cX0_init 68 = .ok (.invokespecial 11, 3) := by decide +kernel
theorem dX0_init_71 : decode cX0_init 71 = .ok (.putfield 29, 3) := by decide +kernel
theorem dX0_init_74 : decode cX0_init 74 = .ok (.aload_n 0, 1) := by decide +kernel
theorem dX0_init_75 : decode cX0_init 75 = .ok (.new 9, 3) := by decide +kernel
theorem dX0_init_78 : decode cX0_init 78 = .ok (.dup, 1) := by decide +kernel
theorem dX0_init_79 : decode cX0_init 79 = .ok (.sipush 360, 3) := by decide +kernel
theorem dX0_init_82 : decode cX0_init 82 = .ok (.invokespecial 11, 3) := by decide +kernel
theorem dX0_init_85 : decode cX0_init 85 = .ok (.putfield 32, 3) := by decide +kernel
theorem dX0_init_88 : decode cX0_init 88 = .ok (.aload_n 0, 1) := by decide +kernel
theorem dX0_init_89 : decode cX0_init 89 = .ok (.iconst (-1), 1) := by decide +kernel
theorem dX0_init_90 : decode cX0_init 90 = .ok (.putfield 35, 3) := by decide +kernel
theorem dX0_init_93 : decode cX0_init 93 = .ok (.return_, 1) := by decide +kernel
theorem dX0_isUnderWay_0 : decode cX0_isUnderWay 0 = .ok (.aload_n 0, 1) := by decide +kernel
theorem dX0_isUnderWay_1 : decode cX0_isUnderWay 1 = .ok (.getfield 35, 3) := by decide +kernel
theorem dX0_isUnderWay_4 : decode cX0_isUnderWay 4 = .ok (.iconst (-1), 1) := by decide +kernel
theorem dX0_isUnderWay_5 : decode cX0_isUnderWay 5 = .ok (.if_icmp .eq 7, 3) := by decide +kernel
theorem dX0_isUnderWay_8 : decode cX0_isUnderWay 8 = .ok (.iconst 1, 1) := by decide +kernel
theorem dX0_isUnderWay_9 : decode cX0_isUnderWay 9 = .ok (.goto 4, 3) := by decide +kernel
theorem dX0_isUnderWay_12 : decode cX0_isUnderWay 12 = .ok (.iconst 0, 1) := by decide +kernel
theorem dX0_isUnderWay_13 : decode cX0_isUnderWay 13 = .ok (.ireturn, 1) := by decide +kernel
theorem dX0_areAllBegun_0 : decode cX0_areAllBegun 0 = .ok (.aload_n 0, 1) := by decide +kernel
theorem dX0_areAllBegun_1 : decode cX0_areAllBegun 1 = .ok (.getfield 39, 3) := by decide +kernel
theorem dX0_areAllBegun_4 : decode cX0_areAllBegun 4 = .ok (.bipush 60, 2) := by decide +kernel
theorem dX0_areAllBegun_6 : decode cX0_areAllBegun 6 = .ok (.if_icmp .lt 7, 3) := by decide +kernel
theorem dX0_areAllBegun_9 : decode cX0_areAllBegun 9 = .ok (.iconst 1, 1) := by decide +kernel
theorem dX0_areAllBegun_10 : decode cX0_areAllBegun 10 = .ok (.goto 4, 3) := by decide +kernel
theorem dX0_areAllBegun_13 : decode cX0_areAllBegun 13 = .ok (.iconst 0, 1) := by decide +kernel
theorem dX0_areAllBegun_14 : decode cX0_areAllBegun 14 = .ok (.ireturn, 1) := by decide +kernel
theorem dX0_areAllPassed_0 : decode cX0_areAllPassed 0 = .ok (.aload_n 0, 1) := by decide +kernel
theorem dX0_areAllPassed_1 : decode cX0_areAllPassed 1 = .ok (.getfield 42, 3) := by decide +kernel
theorem dX0_areAllPassed_4 : decode cX0_areAllPassed 4 = .ok (.sipush 300, 3) := by decide +kernel
theorem dX0_areAllPassed_7 : decode cX0_areAllPassed 7 = .ok (.if_icmp .lt 7, 3) := by decide +kernel
theorem dX0_areAllPassed_10 : decode cX0_areAllPassed 10 = .ok (.iconst 1, 1) := by decide +kernel
theorem dX0_areAllPassed_11 : decode cX0_areAllPassed 11 = .ok (.goto 4, 3) := by decide +kernel
theorem dX0_areAllPassed_14 : decode cX0_areAllPassed 14 = .ok (.iconst 0, 1) := by decide +kernel
theorem dX0_areAllPassed_15 : decode cX0_areAllPassed 15 = .ok (.ireturn, 1) := by decide +kernel
set_option maxRecDepth 20000 in
theorem ggX0_start_X0_meet : GoodIn wsX0_start wsX0_meet := goodIn_r _ [6, 7, 8, 9, 10, 11, 12, 13, 14, 15, 16, 17, 18, 19, 20, 21, 22, 23, 24, 25, 26, 27, 28, 29, 30, 31, 32] (by decide +kernel) (by decide +kernel)
set_option maxRecDepth 20000 in
theorem gX0_start_X0_meet : GoodIn wsX0_start (wsV RX0 45 RX0 yX0_meet wsX0_meet) := goodIn_app (goodIn_of _ (by decide +kernel)) ggX0_start_X0_meet
theorem dX0_start_0 : decode cX0_start 0 = .ok (.aload_n 0, 1) := by decide +kernel
theorem dX0_start_1 : decode cX0_start 1 = .ok (.dup, 1) := by decide +kernel
theorem dX0_start_2 : decode cX0_start 2 = .ok (.getfield 39, 3) := by decide +kernel
theorem dX0_start_5 : decode cX0_start 5 = .ok (.iconst 1, 1) := by decide +kernel
theorem dX0_start_6 : decode cX0_start 6 = .ok (.iadd, 1) := by decide +kernel
theorem dX0_start_7 : decode cX0_start 7 = .ok (.putfield 39, 3) := by decide +kernel
theorem dX0_start_10 : decode cX0_start 10 = .ok (.aload_n 0, 1) := by decide +kernel
theorem dX0_start_11 : decode cX0_start 11 = .ok (.iload_n 1, 1) := by decide +kernel
theorem dX0_start_12 : decode cX0_start 12 = .ok (.invokevirtual 45, 3) := by decide +kernel
theorem dX0_start_15 : decode cX0_start 15 = .ok (.return_, 1) := by decide +kernel
set_option maxRecDepth 20000 in
theorem ggX0_moveTo_X2_set : GoodIn wsX0_moveTo wsX2_set := goodIn_r _ [10, 11, 41] (by decide +kernel) (by decide +kernel)
set_option maxRecDepth 20000 in
theorem gX0_moveTo_X2_set : GoodIn wsX0_moveTo (wsV RX0 48 RX2 yX2_set wsX2_set) := goodIn_app (goodIn_of _ (by decide +kernel)) ggX0_moveTo_X2_set
set_option maxRecDepth 20000 in
theorem ggX0_moveTo_X2_add : GoodIn wsX0_moveTo wsX2_add := goodIn_r _ [15, 16, 17, 18, 9, 19, 11, 20, 7, 8, 10, 41] (by decide +kernel) (by decide +kernel)
set_option maxRecDepth 20000 in
theorem gX0_moveTo_X2_add : GoodIn wsX0_moveTo (wsV RX0 52 RX2 yX2_add wsX2_add) := goodIn_app (goodIn_of _ (by decide +kernel)) ggX0_moveTo_X2_add
set_option maxRecDepth 20000 in
theorem ggX0_moveTo_X0_meet : GoodIn wsX0_moveTo wsX0_meet := goodIn_r _ [25, 3, 26, 27, 28, 29, 17, 18, 9, 19, 11, 6, 7, 8, 10, 30, 31, 32, 33, 34, 35, 36, 37, 38, 39, 40, 41] (by decide +kernel) (by decide +kernel)
set_option maxRecDepth 20000 in
theorem gX0_moveTo_X0_meet : GoodIn wsX0_moveTo (wsV RX0 45 RX0 yX0_meet wsX0_meet) := goodIn_app (goodIn_of _ (by decide +kernel)) ggX0_moveTo_X0_meet
theorem dX0_moveTo_0 : decode cX0_moveTo 0 = .ok (.aload_n 0, 1) := by decide +kernel
theorem dX0_moveTo_1 : decode cX0_moveTo 1 = .ok (.getfield 14, 3) := by decide +kernel
theorem dX0_moveTo_4 : decode cX0_moveTo 4 = .ok (.aload_n 0, 1) := by decide +kernel
theorem dX0_moveTo_5 : decode cX0_moveTo 5 = .ok (.getfield 42, 3) := by decide +kernel
theorem dX0_moveTo_8 : decode cX0_moveTo 8 = .ok (.aload_n 0, 1) := by decide +kernel
theorem dX0_moveTo_9 : decode cX0_moveTo 9 = .ok (.getfield 35, 3) := by decide +kernel
theorem dX0_moveTo_12 : decode cX0_moveTo 12 = .ok (.invokevirtual 48, 3) := by decide +kernel
theorem dX0_moveTo_15 : decode cX0_moveTo 15 = .ok (.aload_n 0, 1) := by decide +kernel
theorem dX0_moveTo_16 : decode cX0_moveTo 16 = .ok (.getfield 20, 3) := by decide +kernel
theorem dX0_moveTo_19 : decode cX0_moveTo 19 = .ok (.aload_n 0, 1) := by decide +kernel
theorem dX0_moveTo_20 : decode cX0_moveTo 20 = .ok (.getfield 42, 3) := by decide +kernel
theorem dX0_moveTo_23 : decode cX0_moveTo 23 = .ok (.iload_n 1, 1) := by decide +kernel
theorem dX0_moveTo_24 : decode cX0_moveTo 24 = .ok (.invokevirtual 48, 3) := by decide +kernel
theorem dX0_moveTo_27 : decode cX0_moveTo 27 = .ok (.aload_n 0, 1) := by decide +kernel
theorem dX0_moveTo_28 : decode cX0_moveTo 28 = .ok (.dup, 1) := by decide +kernel
theorem dX0_moveTo_29 : decode cX0_moveTo 29 = .ok (.getfield 42, 3) := by decide +kernel
theorem dX0_moveTo_32 : decode cX0_moveTo 32 = .ok (.iconst 1, 1) := by decide +kernel
theorem dX0_moveTo_33 : decode cX0_moveTo 33 = .ok (.iadd, 1) := by decide +kernel
theorem dX0_moveTo_34 : decode cX0_moveTo 34 = .ok (.putfield 42, 3) := by decide +kernel
theorem dX0_moveTo_37 : decode cX0_moveTo 37 = .ok (.aload_n 0, 1) := by decide +kernel
theorem dX0_moveTo_38 : decode cX0_moveTo 38 = .ok (.getfield 23, 3) := by decide +kernel
theorem dX0_moveTo_41 : decode cX0_moveTo 41 = .ok (.aload_n 0, 1) := by decide +kernel
theorem dX0_moveTo_42 : decode cX0_moveTo 42 = .ok (.getfield 35, 3) := by decide +kernel
theorem dX0_moveTo_45 : decode cX0_moveTo 45 = .ok (.iconst 1, 1) := by decide +kernel
theorem dX0_moveTo_46 : decode cX0_moveTo 46 = .ok (.invokevirtual 52, 3) := by decide +kernel
theorem dX0_moveTo_49 : decode cX0_moveTo 49 = .ok (.aload_n 0, 1) := by decide +kernel
theorem dX0_moveTo_50 : decode cX0_moveTo 50 = .ok (.iload_n 1, 1) := by decide +kernel
theorem dX0_moveTo_51 : decode cX0_moveTo 51 = .ok (.invokevirtual 45, 3) := by decide +kernel
theorem dX0_moveTo_54 : decode cX0_moveTo 54 = .ok (.return_, 1) := by decide +kernel
set_option maxRecDepth 20000 in
theorem ggX0_meet_X2_get : GoodIn wsX0_meet wsX2_get := goodIn_r _ [9, 10, 26] (by decide +kernel) (by decide +kernel)
set_option maxRecDepth 20000 in
theorem gX0_meet_X2_get : GoodIn wsX0_meet (wsV RX0 55 RX2 yX2_get wsX2_get) := goodIn_app (goodIn_of _ (by decide +kernel)) ggX0_meet_X2_get
set_option maxRecDepth 20000 in
theorem ggX0_meet_X2_set : GoodIn wsX0_meet wsX2_set := goodIn_r _ [14, 10, 26] (by decide +kernel) (by decide +kernel)
set_option maxRecDepth 20000 in
theorem gX0_meet_X2_set : GoodIn wsX0_meet (wsV RX0 48 RX2 yX2_set wsX2_set) := goodIn_app (goodIn_of _ (by decide +kernel)) ggX0_meet_X2_set
theorem dX0_meet_0 : decode cX0_meet 0 = .ok (.aload_n 0, 1) := by decide +kernel
theorem dX0_meet_1 : decode cX0_meet 1 = .ok (.iload_n 1, 1) := by decide +kernel
theorem dX0_meet_2 : decode cX0_meet 2 = .ok (.putfield 35, 3) := by decide +kernel
theorem dX0_meet_5 : decode cX0_meet 5 = .ok (.aload_n 0, 1) := by decide +kernel
theorem dX0_meet_6 : decode cX0_meet 6 = .ok (.getfield 29, 3) := by decide +kernel
theorem dX0_meet_9 : decode cX0_meet 9 = .ok (.iload_n 1, 1) := by decide +kernel
theorem dX0_meet_10 : decode cX0_meet 10 = .ok (.invokevirtual 55, 3) := by decide +kernel
theorem dX0_meet_13 : decode cX0_meet 13 = .ok (.ifCond .ne 34, 3) := by decide +kernel
theorem dX0_meet_16 : decode cX0_meet 16 = .ok (.aload_n 0, 1) := by decide +kernel
theorem dX0_meet_17 : decode cX0_meet 17 = .ok (.getfield 29, 3) := by decide +kernel
theorem dX0_meet_20 : decode cX0_meet 20 = .ok (.iload_n 1, 1) := by decide +kernel
theorem dX0_meet_21 : decode cX0_meet 21 = .ok (.iconst 1, 1) := by decide +kernel
theorem dX0_meet_22 : decode cX0_meet 22 = .ok (.invokevirtual 48, 3) := by decide +kernel
theorem dX0_meet_25 : decode cX0_meet 25 = .ok (.aload_n 0, 1) := by decide +kernel
theorem dX0_meet_26 : decode cX0_meet 26 = .ok (.getfield 32, 3) := by decide +kernel
theorem dX0_meet_29 : decode cX0_meet 29 = .ok (.aload_n 0, 1) := by decide +kernel
theorem dX0_meet_30 : decode cX0_meet 30 = .ok (.getfield 59, 3) := by decide +kernel
theorem dX0_meet_33 : decode cX0_meet 33 = .ok (.iload_n 1, 1) := by decide +kernel
theorem dX0_meet_34 : decode cX0_meet 34 = .ok (.invokevirtual 48, 3) := by decide +kernel
theorem dX0_meet_37 : decode cX0_meet 37 = .ok (.aload_n 0, 1) := by decide +kernel
theorem dX0_meet_38 : decode cX0_meet 38 = .ok (.dup, 1) := by decide +kernel
theorem dX0_meet_39 : decode cX0_meet 39 = .ok (.getfield 59, 3) := by decide +kernel
theorem dX0_meet_42 : decode cX0_meet 42 = .ok (.iconst 1, 1) := by decide +kernel
theorem dX0_meet_43 : decode cX0_meet 43 = .ok (.iadd, 1) := by decide +kernel
theorem dX0_meet_44 : decode cX0_meet 44 = .ok (.putfield 59, 3) := by decide +kernel
theorem dX0_meet_47 : decode cX0_meet 47 = .ok (.return_, 1) := by decide +kernel
set_option maxRecDepth 20000 in
theorem ggX0_finish_X2_add : GoodIn wsX0_finish wsX2_add := goodIn_r _ [9, 10, 11, 12, 8, 13, 14, 15, 16, 17, 18, 30] (by decide +kernel) (by decide +kernel)
set_option maxRecDepth 20000 in
theorem gX0_finish_X2_add : GoodIn wsX0_finish (wsV RX0 52 RX2 yX2_add wsX2_add) := goodIn_app (goodIn_of _ (by decide +kernel)) ggX0_finish_X2_add
theorem dX0_finish_0 : decode cX0_finish 0 = .ok (.aload_n 0, 1) := by decide +kernel
theorem dX0_finish_1 : decode cX0_finish 1 = .ok (.getfield 35, 3) := by decide +kernel
theorem dX0_finish_4 : decode cX0_finish 4 = .ok (.istore_n 2, 1) := by decide +kernel
theorem dX0_finish_5 : decode cX0_finish 5 = .ok (.aload_n 0, 1) := by decide +kernel
theorem dX0_finish_6 : decode cX0_finish 6 = .ok (.getfield 23, 3) := by decide +kernel
theorem dX0_finish_9 : decode cX0_finish 9 = .ok (.iload_n 2, 1) := by decide +kernel
theorem dX0_finish_10 : decode cX0_finish 10 = .ok (.iconst 1, 1) := by decide +kernel
theorem dX0_finish_11 : decode cX0_finish 11 = .ok (.invokevirtual 52, 3) := by decide +kernel
theorem dX0_finish_14 : decode cX0_finish 14 = .ok (.iload_n 1, 1) := by decide +kernel
theorem dX0_finish_15 : decode cX0_finish 15 = .ok (.ifCond .eq 17, 3) := by decide +kernel
theorem dX0_finish_18 : decode cX0_finish 18 = .ok (.aload_n 0, 1) := by decide +kernel
theorem dX0_finish_19 : decode cX0_finish 19 = .ok (.getfield 26, 3) := by decide +kernel
theorem dX0_finish_22 : decode cX0_finish 22 = .ok (.iload_n 2, 1) := by decide +kernel
theorem dX0_finish_23 : decode cX0_finish 23 = .ok (.iconst 1, 1) := by decide +kernel
theorem dX0_finish_24 : decode cX0_finish 24 = .ok (.invokevirtual 52, 3) := by decide +kernel
theorem dX0_finish_27 : decode cX0_finish 27 = .ok (.aload_n 0, 1) := by decide +kernel
theorem dX0_finish_28 : decode cX0_finish 28 = .ok (.iconst 1, 1) := by decide +kernel
theorem dX0_finish_29 : decode cX0_finish 29 = .ok (.putfield 62, 3) := by decide +kernel
theorem dX0_finish_32 : decode cX0_finish 32 = .ok (.aload_n 0, 1) := by decide +kernel
theorem dX0_finish_33 : decode cX0_finish 33 = .ok (.iconst (-1), 1) := by decide +kernel
theorem dX0_finish_34 : decode cX0_finish 34 = .ok (.putfield 35, 3) := by decide +kernel
theorem dX0_finish_37 : decode cX0_finish 37 = .ok (.iload_n 2, 1) := by decide +kernel
theorem dX0_finish_38 : decode cX0_finish 38 = .ok (.ireturn, 1) := by decide +kernel
theorem dX0_current_0 : decode cX0_current 0 = .ok (.aload_n 0, 1) := by decide +kernel
theorem dX0_current_1 : decode cX0_current 1 = .ok (.getfield 35, 3) := by decide +kernel
theorem dX0_current_4 : decode cX0_current 4 = .ok (.ireturn, 1) := by decide +kernel
theorem dX0_metCount_0 : decode cX0_metCount 0 = .ok (.aload_n 0, 1) := by decide +kernel
theorem dX0_metCount_1 : decode cX0_metCount 1 = .ok (.getfield 59, 3) := by decide +kernel
theorem dX0_metCount_4 : decode cX0_metCount 4 = .ok (.ireturn, 1) := by decide +kernel
set_option maxRecDepth 20000 in
theorem ggX0_metForm_X2_get : GoodIn wsX0_metForm wsX2_get := goodIn_r _ [6, 7, 19] (by decide +kernel) (by decide +kernel)
set_option maxRecDepth 20000 in
theorem gX0_metForm_X2_get : GoodIn wsX0_metForm (wsV RX0 55 RX2 yX2_get wsX2_get) := goodIn_app (goodIn_of _ (by decide +kernel)) ggX0_metForm_X2_get
theorem dX0_metForm_0 : decode cX0_metForm 0 = .ok (.aload_n 0, 1) := by decide +kernel
theorem dX0_metForm_1 : decode cX0_metForm 1 = .ok (.getfield 32, 3) := by decide +kernel
theorem dX0_metForm_4 : decode cX0_metForm 4 = .ok (.iload_n 1, 1) := by decide +kernel
theorem dX0_metForm_5 : decode cX0_metForm 5 = .ok (.invokevirtual 55, 3) := by decide +kernel
theorem dX0_metForm_8 : decode cX0_metForm 8 = .ok (.ireturn, 1) := by decide +kernel
theorem dX0_isSomeRight_0 : decode cX0_isSomeRight 0 = .ok (.aload_n 0, 1) := by decide +kernel
theorem dX0_isSomeRight_1 : decode cX0_isSomeRight 1 = .ok (.getfield 62, 3) := by decide +kernel
theorem dX0_isSomeRight_4 : decode cX0_isSomeRight 4 = .ok (.ireturn, 1) := by decide +kernel
set_option maxRecDepth 20000 in
theorem ggX0_hasEndedRight_X2_get : GoodIn wsX0_hasEndedRight wsX2_get := goodIn_r _ [6, 7, 19] (by decide +kernel) (by decide +kernel)
set_option maxRecDepth 20000 in
theorem gX0_hasEndedRight_X2_get : GoodIn wsX0_hasEndedRight (wsV RX0 55 RX2 yX2_get wsX2_get) := goodIn_app (goodIn_of _ (by decide +kernel)) ggX0_hasEndedRight_X2_get
theorem dX0_hasEndedRight_0 : decode cX0_hasEndedRight 0 = .ok (.aload_n 0, 1) := by decide +kernel
theorem dX0_hasEndedRight_1 : decode cX0_hasEndedRight 1 = .ok (.getfield 26, 3) := by decide +kernel
theorem dX0_hasEndedRight_4 : decode cX0_hasEndedRight 4 = .ok (.iload_n 1, 1) := by decide +kernel
theorem dX0_hasEndedRight_5 : decode cX0_hasEndedRight 5 = .ok (.invokevirtual 55, 3) := by decide +kernel
theorem dX0_hasEndedRight_8 : decode cX0_hasEndedRight 8 = .ok (.ifCond .le 7, 3) := by decide +kernel
theorem dX0_hasEndedRight_11 : decode cX0_hasEndedRight 11 = .ok (.iconst 1, 1) := by decide +kernel
theorem dX0_hasEndedRight_12 : decode cX0_hasEndedRight 12 = .ok (.goto 4, 3) := by decide +kernel
theorem dX0_hasEndedRight_15 : decode cX0_hasEndedRight 15 = .ok (.iconst 0, 1) := by decide +kernel
theorem dX0_hasEndedRight_16 : decode cX0_hasEndedRight 16 = .ok (.ireturn, 1) := by decide +kernel
set_option maxRecDepth 20000 in
theorem ggX0_rightEndings_X2_get : GoodIn wsX0_rightEndings wsX2_get := goodIn_r _ [6, 7, 19] (by decide +kernel) (by decide +kernel)
set_option maxRecDepth 20000 in
theorem gX0_rightEndings_X2_get : GoodIn wsX0_rightEndings (wsV RX0 55 RX2 yX2_get wsX2_get) := goodIn_app (goodIn_of _ (by decide +kernel)) ggX0_rightEndings_X2_get
theorem dX0_rightEndings_0 : decode cX0_rightEndings 0 = .ok (.aload_n 0, 1) := by decide +kernel
theorem dX0_rightEndings_1 : decode cX0_rightEndings 1 = .ok (.getfield 26, 3) := by decide +kernel
theorem dX0_rightEndings_4 : decode cX0_rightEndings 4 = .ok (.iload_n 1, 1) := by decide +kernel
theorem dX0_rightEndings_5 : decode cX0_rightEndings 5 = .ok (.invokevirtual 55, 3) := by decide +kernel
theorem dX0_rightEndings_8 : decode cX0_rightEndings 8 = .ok (.ireturn, 1) := by decide +kernel
set_option maxRecDepth 20000 in
theorem ggX0_leavingsOf_X2_get : GoodIn wsX0_leavingsOf wsX2_get := goodIn_r _ [6, 7, 19] (by decide +kernel) (by decide +kernel)
set_option maxRecDepth 20000 in
theorem gX0_leavingsOf_X2_get : GoodIn wsX0_leavingsOf (wsV RX0 55 RX2 yX2_get wsX2_get) := goodIn_app (goodIn_of _ (by decide +kernel)) ggX0_leavingsOf_X2_get
theorem dX0_leavingsOf_0 : decode cX0_leavingsOf 0 = .ok (.aload_n 0, 1) := by decide +kernel
theorem dX0_leavingsOf_1 : decode cX0_leavingsOf 1 = .ok (.getfield 23, 3) := by decide +kernel
theorem dX0_leavingsOf_4 : decode cX0_leavingsOf 4 = .ok (.iload_n 1, 1) := by decide +kernel
theorem dX0_leavingsOf_5 : decode cX0_leavingsOf 5 = .ok (.invokevirtual 55, 3) := by decide +kernel
theorem dX0_leavingsOf_8 : decode cX0_leavingsOf 8 = .ok (.ireturn, 1) := by decide +kernel
theorem dX0_passedCount_0 : decode cX0_passedCount 0 = .ok (.aload_n 0, 1) := by decide +kernel
theorem dX0_passedCount_1 : decode cX0_passedCount 1 = .ok (.getfield 42, 3) := by decide +kernel
theorem dX0_passedCount_4 : decode cX0_passedCount 4 = .ok (.ireturn, 1) := by decide +kernel
set_option maxRecDepth 20000 in
theorem ggX0_fromOf_X2_get : GoodIn wsX0_fromOf wsX2_get := goodIn_r _ [6, 7, 19] (by decide +kernel) (by decide +kernel)
set_option maxRecDepth 20000 in
theorem gX0_fromOf_X2_get : GoodIn wsX0_fromOf (wsV RX0 55 RX2 yX2_get wsX2_get) := goodIn_app (goodIn_of _ (by decide +kernel)) ggX0_fromOf_X2_get
theorem dX0_fromOf_0 : decode cX0_fromOf 0 = .ok (.aload_n 0, 1) := by decide +kernel
theorem dX0_fromOf_1 : decode cX0_fromOf 1 = .ok (.getfield 14, 3) := by decide +kernel
theorem dX0_fromOf_4 : decode cX0_fromOf 4 = .ok (.iload_n 1, 1) := by decide +kernel
theorem dX0_fromOf_5 : decode cX0_fromOf 5 = .ok (.invokevirtual 55, 3) := by decide +kernel
theorem dX0_fromOf_8 : decode cX0_fromOf 8 = .ok (.ireturn, 1) := by decide +kernel
set_option maxRecDepth 20000 in
theorem ggX0_toOf_X2_get : GoodIn wsX0_toOf wsX2_get := goodIn_r _ [6, 7, 19] (by decide +kernel) (by decide +kernel)
set_option maxRecDepth 20000 in
theorem gX0_toOf_X2_get : GoodIn wsX0_toOf (wsV RX0 55 RX2 yX2_get wsX2_get) := goodIn_app (goodIn_of _ (by decide +kernel)) ggX0_toOf_X2_get
theorem dX0_toOf_0 : decode cX0_toOf 0 = .ok (.aload_n 0, 1) := by decide +kernel
theorem dX0_toOf_1 : decode cX0_toOf 1 = .ok (.getfield 20, 3) := by decide +kernel
theorem dX0_toOf_4 : decode cX0_toOf 4 = .ok (.iload_n 1, 1) := by decide +kernel
theorem dX0_toOf_5 : decode cX0_toOf 5 = .ok (.invokevirtual 55, 3) := by decide +kernel
theorem dX0_toOf_8 : decode cX0_toOf 8 = .ok (.ireturn, 1) := by decide +kernel
set_option maxRecDepth 20000 in
theorem ggX0_countPassings_X0_fromOf : GoodIn wsX0_countPassings wsX0_fromOf := goodIn_r _ [6, 7, 8, 9, 10, 11, 12, 13, 19, 20, 21, 22, 23, 24, 25, 26, 27, 28, 29, 30] (by decide +kernel) (by decide +kernel)
set_option maxRecDepth 20000 in
theorem gX0_countPassings_X0_fromOf : GoodIn wsX0_countPassings (wsV RX0 66 RX0 yX0_fromOf wsX0_fromOf) := goodIn_app (goodIn_of _ (by decide +kernel)) ggX0_countPassings_X0_fromOf
set_option maxRecDepth 20000 in
theorem ggX0_countPassings_X0_toOf : GoodIn wsX0_countPassings wsX0_toOf := goodIn_r _ [17, 18, 8, 9, 10, 11, 12, 13, 19, 20, 21, 22, 23, 24, 25, 26, 27, 28, 29, 30] (by decide +kernel) (by decide +kernel)
set_option maxRecDepth 20000 in
theorem gX0_countPassings_X0_toOf : GoodIn wsX0_countPassings (wsV RX0 69 RX0 yX0_toOf wsX0_toOf) := goodIn_app (goodIn_of _ (by decide +kernel)) ggX0_countPassings_X0_toOf
theorem dX0_countPassings_0 : decode cX0_countPassings 0 = .ok (.iconst 0, 1) := by decide +kernel
theorem dX0_countPassings_1 : decode cX0_countPassings 1 = .ok (.istore_n 3, 1) := by decide +kernel
theorem dX0_countPassings_2 : decode cX0_countPassings 2 = .ok (.iconst 0, 1) := by decide +kernel
theorem dX0_countPassings_3 : decode cX0_countPassings 3 = .ok (.istore 4, 2) := by decide +kernel
theorem dX0_countPassings_5 : decode cX0_countPassings 5 = .ok (.iload 4, 2) := by decide +kernel
theorem dX0_countPassings_7 : decode cX0_countPassings 7 = .ok (.aload_n 0, 1) := by decide +kernel
theorem dX0_countPassings_8 : decode cX0_countPassings 8 = .ok (.getfield 42, 3) := by decide +kernel
theorem dX0_countPassings_11 : decode cX0_countPassings 11 = .ok (.if_icmp .ge 32, 3) := by decide +kernel
theorem dX0_countPassings_14 : decode cX0_countPassings 14 = .ok (.aload_n 0, 1) := by decide +kernel
theorem dX0_countPassings_15 : decode cX0_countPassings 15 = .ok (.iload 4, 2) := by decide +kernel
theorem dX0_countPassings_17 : decode cX0_countPassings 17 = .ok (.invokevirtual 66, 3) := by decide +kernel
theorem dX0_countPassings_20 : decode cX0_countPassings 20 = .ok (.iload_n 1, 1) := by decide +kernel
theorem dX0_countPassings_21 : decode cX0_countPassings 21 = .ok (.if_icmp .ne 16, 3) := by decide +kernel
theorem dX0_countPassings_24 : decode cX0_countPassings 24 = .ok (.aload_n 0, 1) := by decide +kernel
theorem dX0_countPassings_25 : decode cX0_countPassings 25 = .ok (.iload 4, 2) := by decide +kernel
theorem dX0_countPassings_27 : decode cX0_countPassings 27 = .ok (.invokevirtual 69, 3) := by decide +kernel
theorem dX0_countPassings_30 : decode cX0_countPassings 30 = .ok (.iload_n 2, 1) := by decide +kernel
theorem dX0_countPassings_31 : decode cX0_countPassings 31 = .ok (.if_icmp .ne 6, 3) := by decide +kernel
theorem dX0_countPassings_34 : decode cX0_countPassings 34 = .ok (.iinc 3 1, 3) := by decide +kernel
theorem dX0_countPassings_37 : decode cX0_countPassings 37 = .ok (.iinc 4 1, 3) := by decide +kernel
theorem dX0_countPassings_40 : decode cX0_countPassings 40 = .ok (.goto (-35), 3) := by decide +kernel
theorem dX0_countPassings_43 : decode cX0_countPassings 43 = .ok (.iload_n 3, 1) := by decide +kernel
theorem dX0_countPassings_44 : decode cX0_countPassings 44 = .ok (.ireturn, 1) := by decide +kernel
