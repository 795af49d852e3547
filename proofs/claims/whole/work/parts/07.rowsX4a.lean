set_option maxRecDepth 20000 in
theorem ggX4_init_X2_init : GoodIn wsX4_init wsX2_init := goodIn_r _ [11, 12, 2, 3, 13, 14, 15] (by decide +kernel) (by decide +kernel)
set_option maxRecDepth 20000 in
theorem gX4_init_X2_init : GoodIn wsX4_init (wsX2_init) := ggX4_init_X2_init
theorem dX4_init_0 : decode cX4_init 0 = .ok (.aload_n 0, 1) := by decide +kernel
theorem dX4_init_1 : decode cX4_init 1 = .ok (.invokespecial 3, 3) := by decide +kernel
theorem dX4_init_4 : decode cX4_init 4 = .ok (.aload_n 0, 1) := by decide +kernel
theorem dX4_init_5 : decode cX4_init 5 = .ok (.new 9, 3) := by decide +kernel
theorem dX4_init_8 : decode cX4_init 8 = .ok (.dup, 1) := by decide +kernel
theorem dX4_init_9 : decode cX4_init 9 = .ok (.sipush 1296, 3) := by decide +kernel
theorem dX4_init_12 : decode cX4_init 12 = .ok (.invokespecial 11, 3) := by decide +kernel
theorem dX4_init_15 : decode cX4_init 15 = .ok (.putfield 14, 3) := by decide +kernel
theorem dX4_init_18 : decode cX4_init 18 = .ok (.aload_n 0, 1) := by decide +kernel
theorem dX4_init_19 : decode cX4_init 19 = .ok (.new 9, 3) := by decide +kernel
theorem dX4_init_22 : decode cX4_init 22 = .ok (.dup, 1) := by decide +kernel
theorem dX4_init_23 : decode cX4_init 23 = .ok (.sipush 1296, 3) := by decide +kernel
theorem dX4_init_26 : decode cX4_init 26 = .ok (.invokespecial 11, 3) := by decide +kernel
theorem dX4_init_29 : decode cX4_init 29 = .ok (.putfield 20, 3) := by decide +kernel
theorem dX4_init_32 : decode cX4_init 32 = .ok (.return_, 1) := by decide +kernel
set_option maxRecDepth 20000 in
theorem ggX4_of_X2_get : GoodIn wsX4_of wsX2_get := goodIn_r _ [6, 7, 10] (by decide +kernel) (by decide +kernel)
set_option maxRecDepth 20000 in
theorem gX4_of_X2_get : GoodIn wsX4_of (wsV RX4 23 RX2 yX2_get wsX2_get) := goodIn_app (goodIn_of _ (by decide +kernel)) ggX4_of_X2_get
theorem dX4_of_0 : decode cX4_of 0 = .ok (.aload_n 0, 1) := by decide +kernel
theorem dX4_of_1 : decode cX4_of 1 = .ok (.getfield 14, 3) := by decide +kernel
theorem dX4_of_4 : decode cX4_of 4 = .ok (.iload_n 1, 1) := by decide +kernel
theorem dX4_of_5 : decode cX4_of 5 = .ok (.invokevirtual 23, 3) := by decide +kernel
theorem dX4_of_8 : decode cX4_of 8 = .ok (.ireturn, 1) := by decide +kernel
set_option maxRecDepth 20000 in
theorem ggX4_find_X2_fill : GoodIn wsX4_find wsX2_fill := goodIn_r _ [6, 7, 8, 9, 10, 11, 76] (by decide +kernel) (by decide +kernel)
set_option maxRecDepth 20000 in
theorem gX4_find_X2_fill : GoodIn wsX4_find (wsV RX4 27 RX2 yX2_fill wsX2_fill) := goodIn_app (goodIn_of _ (by decide +kernel)) ggX4_find_X2_fill
set_option maxRecDepth 20000 in
theorem ggX4_find_X4_addUp : GoodIn wsX4_find wsX4_addUp := goodIn_r _ [16, 17, 18, 1, 19, 20, 21, 22, 23, 24, 25, 26, 27, 28, 29, 30, 31, 32, 5, 33, 7, 34, 35, 36, 37, 38, 39, 40, 41, 42, 43, 44, 45, 46, 47, 48, 49, 50, 51, 52, 53, 54, 55, 56, 57, 58, 59, 60, 61, 62, 63, 64, 74, 75, 77, 78, 79, 80, 81, 82, 83, 84, 85, 86, 87, 76] (by decide +kernel) (by decide +kernel)
set_option maxRecDepth 20000 in
theorem gX4_find_X4_addUp : GoodIn wsX4_find (wsV RX4 30 RX4 yX4_addUp wsX4_addUp) := goodIn_app (goodIn_of _ (by decide +kernel)) ggX4_find_X4_addUp
set_option maxRecDepth 20000 in
theorem ggX4_find_X4_share : GoodIn wsX4_find wsX4_share := goodIn_r _ [68, 1, 17, 19, 20, 21, 22, 23, 24, 25, 26, 27, 28, 29, 30, 31, 32, 5, 33, 7, 69, 70, 71, 72, 73, 58, 39, 40, 41, 42, 74, 75, 77, 78, 79, 80, 81, 82, 83, 84, 85, 86, 87, 76] (by decide +kernel) (by decide +kernel)
set_option maxRecDepth 20000 in
theorem gX4_find_X4_share : GoodIn wsX4_find (wsV RX4 34 RX4 yX4_share wsX4_share) := goodIn_app (goodIn_of _ (by decide +kernel)) ggX4_find_X4_share
theorem dX4_find_0 : decode cX4_find 0 = .ok (.aload_n 0, 1) := by decide +kernel
theorem dX4_find_1 : decode cX4_find 1 = .ok (.getfield 14, 3) := by decide +kernel
theorem dX4_find_4 : decode cX4_find 4 = .ok (.iconst 0, 1) := by decide +kernel
theorem dX4_find_5 : decode cX4_find 5 = .ok (.invokevirtual 27, 3) := by decide +kernel
theorem dX4_find_8 : decode cX4_find 8 = .ok (.iconst 0, 1) := by decide +kernel
theorem dX4_find_9 : decode cX4_find 9 = .ok (.istore_n 2, 1) := by decide +kernel
theorem dX4_find_10 : decode cX4_find 10 = .ok (.iload_n 2, 1) := by decide +kernel
theorem dX4_find_11 : decode cX4_find 11 = .ok (.bipush 60, 2) := by decide +kernel
theorem dX4_find_13 : decode cX4_find 13 = .ok (.if_icmp .ge 19, 3) := by decide +kernel
theorem dX4_find_16 : decode cX4_find 16 = .ok (.aload_n 0, 1) := by decide +kernel
theorem dX4_find_17 : decode cX4_find 17 = .ok (.aload_n 1, 1) := by decide +kernel
theorem dX4_find_18 : decode cX4_find 18 = .ok (.invokevirtual 30, 3) := by decide +kernel
theorem dX4_find_21 : decode cX4_find 21 = .ok (.aload_n 0, 1) := by decide +kernel
theorem dX4_find_22 : decode cX4_find 22 = .ok (.aload_n 1, 1) := by decide +kernel
theorem dX4_find_23 : decode cX4_find 23 = .ok (.invokevirtual 34, 3) := by decide +kernel
theorem dX4_find_26 : decode cX4_find 26 = .ok (.iinc 2 1, 3) := by decide +kernel
theorem dX4_find_29 : decode cX4_find 29 = .ok (.goto (-19), 3) := by decide +kernel
theorem dX4_find_32 : decode cX4_find 32 = .ok (.return_, 1) := by decide +kernel
set_option maxRecDepth 20000 in
theorem ggX4_addUp_X0_metCount : GoodIn wsX4_addUp wsX0_metCount := goodIn_r _ [8, 9, 54, 55, 56, 57, 58, 59, 60, 61, 62, 63, 64] (by decide +kernel) (by decide +kernel)
set_option maxRecDepth 20000 in
theorem gX4_addUp_X0_metCount : GoodIn wsX4_addUp (wsV RX4 37 RX0 yX0_metCount wsX0_metCount) := goodIn_app (goodIn_of _ (by decide +kernel)) ggX4_addUp_X0_metCount
set_option maxRecDepth 20000 in
theorem ggX4_addUp_X0_metForm : GoodIn wsX4_addUp wsX0_metForm := goodIn_r _ [13, 14, 15, 16, 17, 18, 19, 20, 54, 55, 56, 57, 58, 59, 60, 61, 62, 63, 64, 65] (by decide +kernel) (by decide +kernel)
set_option maxRecDepth 20000 in
theorem gX4_addUp_X0_metForm : GoodIn wsX4_addUp (wsV RX4 43 RX0 yX0_metForm wsX0_metForm) := goodIn_app (goodIn_of _ (by decide +kernel)) ggX4_addUp_X0_metForm
set_option maxRecDepth 20000 in
theorem ggX4_addUp_X0_rightEndings : GoodIn wsX4_addUp wsX0_rightEndings := goodIn_r _ [24, 25, 15, 16, 17, 18, 19, 20, 54, 55, 56, 57, 58, 59, 60, 61, 62, 63, 64, 65] (by decide +kernel) (by decide +kernel)
set_option maxRecDepth 20000 in
theorem gX4_addUp_X0_rightEndings : GoodIn wsX4_addUp (wsV RX4 46 RX0 yX0_rightEndings wsX0_rightEndings) := goodIn_app (goodIn_of _ (by decide +kernel)) ggX4_addUp_X0_rightEndings
set_option maxRecDepth 20000 in
theorem ggX4_addUp_X2_set : GoodIn wsX4_addUp wsX2_set := goodIn_r _ [29, 20, 65] (by decide +kernel) (by decide +kernel)
set_option maxRecDepth 20000 in
theorem gX4_addUp_X2_set : GoodIn wsX4_addUp (wsV RX4 50 RX2 yX2_set wsX2_set) := goodIn_app (goodIn_of _ (by decide +kernel)) ggX4_addUp_X2_set
set_option maxRecDepth 20000 in
theorem ggX4_addUp_X0_passedCount : GoodIn wsX4_addUp wsX0_passedCount := goodIn_r _ [33, 34, 54, 55, 56, 57, 58, 59, 60, 61, 62, 63, 64] (by decide +kernel) (by decide +kernel)
set_option maxRecDepth 20000 in
theorem gX4_addUp_X0_passedCount : GoodIn wsX4_addUp (wsV RX4 54 RX0 yX0_passedCount wsX0_passedCount) := goodIn_app (goodIn_of _ (by decide +kernel)) ggX4_addUp_X0_passedCount
set_option maxRecDepth 20000 in
theorem ggX4_addUp_X0_fromOf : GoodIn wsX4_addUp wsX0_fromOf := goodIn_r _ [38, 39, 15, 16, 17, 18, 19, 20, 54, 55, 56, 57, 58, 59, 60, 61, 62, 63, 64, 65] (by decide +kernel) (by decide +kernel)
set_option maxRecDepth 20000 in
theorem gX4_addUp_X0_fromOf : GoodIn wsX4_addUp (wsV RX4 57 RX0 yX0_fromOf wsX0_fromOf) := goodIn_app (goodIn_of _ (by decide +kernel)) ggX4_addUp_X0_fromOf
set_option maxRecDepth 20000 in
theorem ggX4_addUp_X0_toOf : GoodIn wsX4_addUp wsX0_toOf := goodIn_r _ [43, 44, 15, 16, 17, 18, 19, 20, 54, 55, 56, 57, 58, 59, 60, 61, 62, 63, 64, 65] (by decide +kernel) (by decide +kernel)
set_option maxRecDepth 20000 in
theorem gX4_addUp_X0_toOf : GoodIn wsX4_addUp (wsV RX4 60 RX0 yX0_toOf wsX0_toOf) := goodIn_app (goodIn_of _ (by decide +kernel)) ggX4_addUp_X0_toOf
set_option maxRecDepth 20000 in
theorem ggX4_addUp_X2_get : GoodIn wsX4_addUp wsX2_get := goodIn_r _ [19, 20, 65] (by decide +kernel) (by decide +kernel)
set_option maxRecDepth 20000 in
theorem gX4_addUp_X2_get : GoodIn wsX4_addUp (wsV RX4 23 RX2 yX2_get wsX2_get) := goodIn_app (goodIn_of _ (by decide +kernel)) ggX4_addUp_X2_get
set_option maxRecDepth 20000 in
theorem ggX4_addUp_X2_add : GoodIn wsX4_addUp wsX2_add := goodIn_r _ [49, 50, 16, 17, 18, 19, 20, 51, 27, 28, 29, 65] (by decide +kernel) (by decide +kernel)
set_option maxRecDepth 20000 in
theorem gX4_addUp_X2_add : GoodIn wsX4_addUp (wsV RX4 63 RX2 yX2_add wsX2_add) := goodIn_app (goodIn_of _ (by decide +kernel)) ggX4_addUp_X2_add
theorem dX4_addUp_0 : decode cX4_addUp 0 = .ok (.iconst 0, 1) := by decide +kernel
theorem dX4_addUp_1 : decode cX4_addUp 1 = .ok (.istore_n 2, 1) := by decide +kernel
theorem dX4_addUp_2 : decode cX4_addUp 2 = .ok (.iload_n 2, 1) := by decide +kernel
theorem dX4_addUp_3 : decode cX4_addUp 3 = .ok (.aload_n 1, 1) := by decide +kernel
theorem dX4_addUp_4 : decode cX4_addUp 4 = .ok (.invokevirtual 37, 3) := by decide +kernel
theorem dX4_addUp_7 : decode cX4_addUp 7 = .ok (.if_icmp .ge 31, 3) := by decide +kernel
theorem dX4_addUp_10 : decode cX4_addUp 10 = .ok (.aload_n 1, 1) := by decide +kernel
theorem dX4_addUp_11 : decode cX4_addUp 11 = .ok (.iload_n 2, 1) := by decide +kernel
theorem dX4_addUp_12 : decode cX4_addUp 12 = .ok (.invokevirtual 43, 3) := by decide +kernel
theorem dX4_addUp_15 : decode cX4_addUp 15 = .ok (.istore_n 3, 1) := by decide +kernel
theorem dX4_addUp_16 : decode cX4_addUp 16 = .ok (.aload_n 0, 1) := by decide +kernel
theorem dX4_addUp_17 : decode cX4_addUp 17 = .ok (.getfield 20, 3) := by decide +kernel
theorem dX4_addUp_20 : decode cX4_addUp 20 = .ok (.iload_n 3, 1) := by decide +kernel
theorem dX4_addUp_21 : decode cX4_addUp 21 = .ok (.aload_n 1, 1) := by decide +kernel
theorem dX4_addUp_22 : decode cX4_addUp 22 = .ok (.iload_n 3, 1) := by decide +kernel
theorem dX4_addUp_23 : decode cX4_addUp 23 = .ok (.invokevirtual 46, 3) := by decide +kernel
theorem dX4_addUp_26 : decode cX4_addUp 26 = .ok (.ldc 49, 2) := by decide +kernel
theorem dX4_addUp_28 : decode cX4_addUp 28 = .ok (.imul, 1) := by decide +kernel
theorem dX4_addUp_29 : decode cX4_addUp 29 = .ok (.invokevirtual 50, 3) := by decide +kernel
theorem dX4_addUp_32 : decode cX4_addUp 32 = .ok (.iinc 2 1, 3) := by decide +kernel
theorem dX4_addUp_35 : decode cX4_addUp 35 = .ok (.goto (-33), 3) := by decide +kernel
theorem dX4_addUp_38 : decode cX4_addUp 38 = .ok (.iconst 0, 1) := by decide +kernel
theorem dX4_addUp_39 : decode cX4_addUp 39 = .ok (.istore_n 2, 1) := by decide +kernel
theorem dX4_addUp_40 : decode cX4_addUp 40 = .ok (.iload_n 2, 1) := by decide +kernel
theorem dX4_addUp_41 : decode cX4_addUp 41 = .ok (.aload_n 1, 1) := by decide +kernel
theorem dX4_addUp_42 : decode cX4_addUp 42 = .ok (.invokevirtual 54, 3) := by decide +kernel
theorem dX4_addUp_45 : decode cX4_addUp 45 = .ok (.if_icmp .ge 33, 3) := by decide +kernel
theorem dX4_addUp_48 : decode cX4_addUp 48 = .ok (.aload_n 0, 1) := by decide +kernel
theorem dX4_addUp_49 : decode cX4_addUp 49 = .ok (.getfield 20, 3) := by decide +kernel
theorem dX4_addUp_52 : decode cX4_addUp 52 = .ok (.aload_n 1, 1) := by decide +kernel
theorem dX4_addUp_53 : decode cX4_addUp 53 = .ok (.iload_n 2, 1) := by decide +kernel
theorem dX4_addUp_54 : decode cX4_addUp 54 = .ok (.invokevirtual 57, 3) := by decide +kernel
theorem dX4_addUp_57 : decode cX4_addUp 57 = .ok (.aload_n 0, 1) := by decide +kernel
theorem dX4_addUp_58 : decode cX4_addUp 58 = .ok (.getfield 14, 3) := by decide +kernel
theorem dX4_addUp_61 : decode cX4_addUp 61 = .ok (.aload_n 1, 1) := by decide +kernel
theorem dX4_addUp_62 : decode cX4_addUp 62 = .ok (.iload_n 2, 1) := by decide +kernel
theorem dX4_addUp_63 : decode cX4_addUp 63 = .ok (.invokevirtual 60, 3) := by decide +kernel
theorem dX4_addUp_66 : decode cX4_addUp 66 = .ok (.invokevirtual 23, 3) := by decide +kernel
theorem dX4_addUp_69 : decode cX4_addUp 69 = .ok (.invokevirtual 63, 3) := by decide +kernel
theorem dX4_addUp_72 : decode cX4_addUp 72 = .ok (.iinc 2 1, 3) := by decide +kernel
theorem dX4_addUp_75 : decode cX4_addUp 75 = .ok (.goto (-35), 3) := by decide +kernel
theorem dX4_addUp_78 : decode cX4_addUp 78 = .ok (.return_, 1) := by decide +kernel
set_option maxRecDepth 20000 in
theorem ggX4_share_X0_metCount : GoodIn wsX4_share wsX0_metCount := goodIn_r _ [7, 8, 32, 33, 34, 35, 36, 37, 38, 39, 40, 41, 42] (by decide +kernel) (by decide +kernel)
set_option maxRecDepth 20000 in
theorem gX4_share_X0_metCount : GoodIn wsX4_share (wsV RX4 37 RX0 yX0_metCount wsX0_metCount) := goodIn_app (goodIn_of _ (by decide +kernel)) ggX4_share_X0_metCount
set_option maxRecDepth 20000 in
theorem ggX4_share_X0_metForm : GoodIn wsX4_share wsX0_metForm := goodIn_r _ [12, 13, 14, 15, 16, 17, 18, 19, 32, 33, 34, 35, 36, 37, 38, 39, 40, 41, 42, 43] (by decide +kernel) (by decide +kernel)
set_option maxRecDepth 20000 in
theorem gX4_share_X0_metForm : GoodIn wsX4_share (wsV RX4 43 RX0 yX0_metForm wsX0_metForm) := goodIn_app (goodIn_of _ (by decide +kernel)) ggX4_share_X0_metForm
set_option maxRecDepth 20000 in
theorem ggX4_share_X0_leavingsOf : GoodIn wsX4_share wsX0_leavingsOf := goodIn_r _ [23, 24, 14, 15, 16, 17, 18, 19, 32, 33, 34, 35, 36, 37, 38, 39, 40, 41, 42, 43] (by decide +kernel) (by decide +kernel)
set_option maxRecDepth 20000 in
theorem gX4_share_X0_leavingsOf : GoodIn wsX4_share (wsV RX4 66 RX0 yX0_leavingsOf wsX0_leavingsOf) := goodIn_app (goodIn_of _ (by decide +kernel)) ggX4_share_X0_leavingsOf
set_option maxRecDepth 20000 in
theorem ggX4_share_X2_get : GoodIn wsX4_share wsX2_get := goodIn_r _ [18, 19, 43] (by decide +kernel) (by decide +kernel)
set_option maxRecDepth 20000 in
theorem gX4_share_X2_get : GoodIn wsX4_share (wsV RX4 23 RX2 yX2_get wsX2_get) := goodIn_app (goodIn_of _ (by decide +kernel)) ggX4_share_X2_get
set_option maxRecDepth 20000 in
theorem ggX4_share_X2_set : GoodIn wsX4_share wsX2_set := goodIn_r _ [29, 19, 43] (by decide +kernel) (by decide +kernel)
set_option maxRecDepth 20000 in
theorem gX4_share_X2_set : GoodIn wsX4_share (wsV RX4 50 RX2 yX2_set wsX2_set) := goodIn_app (goodIn_of _ (by decide +kernel)) ggX4_share_X2_set
theorem dX4_share_0 : decode cX4_share 0 = .ok (.iconst 0, 1) := by decide +kernel
theorem dX4_share_1 : decode cX4_share 1 = .ok (.istore_n 2, 1) := by decide +kernel
theorem dX4_share_2 : decode cX4_share 2 = .ok (.iload_n 2, 1) := by decide +kernel
theorem dX4_share_3 : decode cX4_share 3 = .ok (.aload_n 1, 1) := by decide +kernel
theorem dX4_share_4 : decode cX4_share 4 = .ok (.invokevirtual 37, 3) := by decide +kernel
theorem dX4_share_7 : decode cX4_share 7 = .ok (.if_icmp .ge 50, 3) := by decide +kernel
theorem dX4_share_10 : decode cX4_share 10 = .ok (.aload_n 1, 1) := by decide +kernel
theorem dX4_share_11 : decode cX4_share 11 = .ok (.iload_n 2, 1) := by decide +kernel
theorem dX4_share_12 : decode cX4_share 12 = .ok (.invokevirtual 43, 3) := by decide +kernel
theorem dX4_share_15 : decode cX4_share 15 = .ok (.istore_n 3, 1) := by decide +kernel
theorem dX4_share_16 : decode cX4_share 16 = .ok (.aload_n 1, 1) := by decide +kernel
theorem dX4_share_17 : decode cX4_share 17 = .ok (.iload_n 3, 1) := by decide +kernel
theorem dX4_share_18 : decode cX4_share 18 = .ok (.invokevirtual 66, 3) := by decide +kernel
theorem dX4_share_21 : decode cX4_share 21 = .ok (.istore 4, 2) := by decide +kernel
theorem dX4_share_23 : decode cX4_share 23 = .ok (.aload_n 0, 1) := by decide +kernel
theorem dX4_share_24 : decode cX4_share 24 = .ok (.getfield 14, 3) := by decide +kernel
theorem dX4_share_27 : decode cX4_share 27 = .ok (.iload_n 3, 1) := by decide +kernel
theorem dX4_share_28 : decode cX4_share 28 = .ok (.iload 4, 2) := by decide +kernel
theorem dX4_share_30 : decode cX4_share 30 = .ok (.ifCond .le 17, 3) := by decide +kernel
theorem dX4_share_33 : decode cX4_share 33 = .ok (.aload_n 0, 1) := by decide +kernel
theorem dX4_share_34 : decode cX4_share 34 = .ok (.getfield 20, 3) := by decide +kernel
theorem dX4_share_37 : decode cX4_share 37 = .ok (.iload_n 3, 1) := by decide +kernel
theorem dX4_share_38 : decode cX4_share 38 = .ok (.invokevirtual 23, 3) := by decide +kernel
theorem dX4_share_41 : decode cX4_share 41 = .ok (.iload 4, 2) := by decide +kernel
theorem dX4_share_43 : decode cX4_share 43 = .ok (.idiv, 1) := by decide +kernel
theorem dX4_share_44 : decode cX4_share 44 = .ok (.goto 4, 3) := by decide +kernel
theorem dX4_share_47 : decode cX4_share 47 = .ok (.iconst 0, 1) := by decide +kernel
theorem dX4_share_48 : decode cX4_share 48 = .ok (.invokevirtual 50, 3) := by decide +kernel
theorem dX4_share_51 : decode cX4_share 51 = .ok (.iinc 2 1, 3) := by decide +kernel
theorem dX4_share_54 : decode cX4_share 54 = .ok (.goto (-52), 3) := by decide +kernel
theorem dX4_share_57 : decode cX4_share 57 = .ok (.return_, 1) := by decide +kernel
