set_option maxRecDepth 20000 in
theorem ggX5_init_X1_init : GoodIn wsX5_init wsX1_init := goodIn_r _ [22, 23, 2, 3, 24, 25, 26, 27, 28, 29, 30, 31, 32, 33, 34, 35, 6, 36, 37, 38, 39, 40, 41, 42, 43, 44, 45, 46, 47, 48, 49, 50, 51, 52, 53, 54, 55, 56, 57, 58, 59, 60, 61, 62, 63, 113, 93] (by decide +kernel) (by decide +kernel)
set_option maxRecDepth 20000 in
theorem gX5_init_X1_init : GoodIn wsX5_init (wsX1_init) := ggX5_init_X1_init
set_option maxRecDepth 20000 in
theorem ggX5_init_X3_init : GoodIn wsX5_init wsX3_init := goodIn_r _ [66, 67, 2, 3, 68, 25, 26, 69, 70, 71, 29, 30, 31, 32, 33, 113, 98, 99] (by decide +kernel) (by decide +kernel)
set_option maxRecDepth 20000 in
theorem gX5_init_X3_init : GoodIn wsX5_init (wsX3_init) := ggX5_init_X3_init
set_option maxRecDepth 20000 in
theorem ggX5_init_X0_init : GoodIn wsX5_init wsX0_init := goodIn_r _ [74, 75, 2, 3, 76, 25, 26, 77, 78, 79, 80, 81, 82, 83, 84, 29, 30, 31, 32, 33, 113, 100, 101, 102, 103, 104, 105, 106, 107, 108, 109, 110] (by decide +kernel) (by decide +kernel)
set_option maxRecDepth 20000 in
theorem gX5_init_X0_init : GoodIn wsX5_init (wsX0_init) := ggX5_init_X0_init
set_option maxRecDepth 20000 in
theorem ggX5_init_X4_init : GoodIn wsX5_init wsX4_init := goodIn_r _ [87, 88, 2, 3, 89, 25, 26, 90, 91, 92, 29, 30, 31, 32, 33, 113, 111, 112] (by decide +kernel) (by decide +kernel)
set_option maxRecDepth 20000 in
theorem gX5_init_X4_init : GoodIn wsX5_init (wsX4_init) := ggX5_init_X4_init
theorem dX5_init_0 : decode cX5_init 0 = .ok (.aload_n 0, 1) := by decide +kernel
theorem dX5_init_1 : decode cX5_init 1 = .ok (.invokespecial 1, 3) := by decide +kernel
theorem dX5_init_4 : decode cX5_init 4 = .ok (.aload_n 0, 1) := by decide +kernel
theorem dX5_init_5 : decode cX5_init 5 = .ok (.new 7, 3) := by decide +kernel
theorem dX5_init_8 : decode cX5_init 8 = .ok (.dup, 1) := by decide +kernel
theorem dX5_init_9 : decode cX5_init 9 = .ok (.invokespecial 9, 3) := by decide +kernel
theorem dX5_init_12 : decode cX5_init 12 = .ok (.putfield 10, 3) := by decide +kernel
theorem dX5_init_15 : decode cX5_init 15 = .ok (.aload_n 0, 1) := by decide +kernel
theorem dX5_init_16 : decode cX5_init 16 = .ok (.new 16, 3) := by decide +kernel
theorem dX5_init_19 : decode cX5_init 19 = .ok (.dup, 1) := by decide +kernel
theorem dX5_init_20 : decode cX5_init 20 = .ok (.invokespecial 18, 3) := by decide +kernel
theorem dX5_init_23 : decode cX5_init 23 = .ok (.putfield 19, 3) := by decide +kernel
theorem dX5_init_26 : decode cX5_init 26 = .ok (.aload_n 0, 1) := by decide +kernel
theorem dX5_init_27 : decode cX5_init 27 = .ok (.new 23, 3) := by decide +kernel
theorem dX5_init_30 : decode cX5_init 30 = .ok (.dup, 1) := by decide +kernel
theorem dX5_init_31 : decode cX5_init 31 = .ok (.invokespecial 25, 3) := by decide +kernel
theorem dX5_init_34 : decode cX5_init 34 = .ok (.putfield 26, 3) := by decide +kernel
theorem dX5_init_37 : decode cX5_init 37 = .ok (.aload_n 0, 1) := by decide +kernel
theorem dX5_init_38 : decode cX5_init 38 = .ok (.new 30, 3) := by decide +kernel
theorem dX5_init_41 : decode cX5_init 41 = .ok (.dup, 1) := by decide +kernel
theorem dX5_init_42 : decode cX5_init 42 = .ok (.invokespecial 32, 3) := by decide +kernel
theorem dX5_init_45 : decode cX5_init 45 = .ok (.putfield 33, 3) := by decide +kernel
theorem dX5_init_48 : decode cX5_init 48 = .ok (.return_, 1) := by decide +kernel
set_option maxRecDepth 20000 in
theorem ggX5_form_X5_checkedForm : GoodIn wsX5_form wsX5_checkedForm := goodIn_ca (goodIn_r _ [5, 6, 7, 8, 9, 10, 11, 12, 13, 14, 15, 16, 17, 18, 19, 20, 21, 22, 23, 24, 25, 26, 27, 28, 29, 30] (by decide +kernel) (by decide +kernel)) (goodIn_sub (fun _ h => List.mem_cons_of_mem _ (List.mem_append_right _ h)) (by decide +kernel))
set_option maxRecDepth 20000 in
theorem gX5_form_X5_checkedForm : GoodIn wsX5_form (wsV RX5 37 RX5 yX5_checkedForm wsX5_checkedForm) := goodIn_app (goodIn_of _ (by decide +kernel)) ggX5_form_X5_checkedForm
theorem dX5_form_0 : decode cX5_form 0 = .ok (.aload_n 0, 1) := by decide +kernel
theorem dX5_form_1 : decode cX5_form 1 = .ok (.iload_n 1, 1) := by decide +kernel
theorem dX5_form_2 : decode cX5_form 2 = .ok (.invokevirtual 37, 3) := by decide +kernel
theorem dX5_form_5 : decode cX5_form 5 = .ok (.ireturn, 1) := by decide +kernel
set_option maxRecDepth 20000 in
theorem ggX5_edit_X5_checkedForm : GoodIn wsX5_edit wsX5_checkedForm := goodIn_ca (goodIn_r _ [10, 1, 2, 5, 11, 12, 13, 14, 15, 16, 17, 18, 19, 20, 21, 22, 23, 24, 25, 26, 38, 39, 40, 41, 42, 43] (by decide +kernel) (by decide +kernel)) (goodIn_sub (fun _ h => List.mem_cons_of_mem _ (List.mem_append_left _ (List.mem_append_right _ h))) (by decide +kernel))
set_option maxRecDepth 20000 in
theorem gX5_edit_X5_checkedForm : GoodIn wsX5_edit (wsV RX5 37 RX5 yX5_checkedForm wsX5_checkedForm) := goodIn_app (goodIn_of _ (by decide +kernel)) ggX5_edit_X5_checkedForm
set_option maxRecDepth 20000 in
theorem ggX5_edit_X1_behind : GoodIn wsX5_edit wsX1_behind := goodIn_r _ [30, 31, 32, 14, 33, 34, 35, 36, 37, 12, 13, 15, 16, 17, 18, 19, 20, 21, 22, 23, 24, 25, 26, 42, 43] (by decide +kernel) (by decide +kernel)
set_option maxRecDepth 20000 in
theorem gX5_edit_X1_behind : GoodIn wsX5_edit (wsV RX5 53 RX1 yX1_behind wsX1_behind) := goodIn_app (goodIn_of _ (by decide +kernel)) ggX5_edit_X1_behind
theorem dX5_edit_0 : decode cX5_edit 0 = .ok (.aload_n 0, 1) := by decide +kernel
theorem dX5_edit_1 : decode cX5_edit 1 = .ok (.iload_n 1, 1) := by decide +kernel
theorem dX5_edit_2 : decode cX5_edit 2 = .ok (.invokevirtual 37, 3) := by decide +kernel
theorem dX5_edit_5 : decode cX5_edit 5 = .ok (.istore 4, 2) := by decide +kernel
theorem dX5_edit_7 : decode cX5_edit 7 = .ok (.iload_n 2, 1) := by decide +kernel
theorem dX5_edit_8 : decode cX5_edit 8 = .ok (.ifCond .lt 8, 3) := by decide +kernel
theorem dX5_edit_11 : decode cX5_edit 11 = .ok (.iload_n 2, 1) := by decide +kernel
theorem dX5_edit_12 : decode cX5_edit 12 = .ok (.iconst 4, 1) := by decide +kernel
theorem dX5_edit_13 : decode cX5_edit 13 = .ok (.if_icmp .lt 13, 3) := by decide +kernel
theorem dX5_edit_16 : decode cX5_edit 16 = .ok (.new 41, 3) := by decide +kernel
theorem dX5_edit_19 : decode cX5_edit 19 = .ok (.dup, 1) := by decide +kernel
theorem dX5_edit_20 : decode cX5_edit 20 = .ok (.ldc 43, 2) := by decide +kernel
theorem dX5_edit_22 : decode cX5_edit 22 = .ok (.invokespecial 45, 3) := by decide +kernel
theorem dX5_edit_25 : decode cX5_edit 25 = .ok (.athrow, 1) := by decide +kernel
theorem dX5_edit_26 : decode cX5_edit 26 = .ok (.iload_n 3, 1) := by decide +kernel
theorem dX5_edit_27 : decode cX5_edit 27 = .ok (.ifCond .lt 9, 3) := by decide +kernel
theorem dX5_edit_30 : decode cX5_edit 30 = .ok (.iload_n 3, 1) := by decide +kernel
theorem dX5_edit_31 : decode cX5_edit 31 = .ok (.bipush 6, 2) := by decide +kernel
theorem dX5_edit_33 : decode cX5_edit 33 = .ok (.if_icmp .lt 13, 3) := by decide +kernel
theorem dX5_edit_36 : decode cX5_edit 36 = .ok (.new 48, 3) := by decide +kernel
theorem dX5_edit_39 : decode cX5_edit 39 = .ok (.dup, 1) := by decide +kernel
theorem dX5_edit_40 : decode cX5_edit 40 = .ok (.ldc 50, 2) := by decide +kernel
theorem dX5_edit_42 : decode cX5_edit 42 = .ok (.invokespecial 52, 3) := by decide +kernel
theorem dX5_edit_45 : decode cX5_edit 45 = .ok (.athrow, 1) := by decide +kernel
theorem dX5_edit_46 : decode cX5_edit 46 = .ok (.aload_n 0, 1) := by decide +kernel
theorem dX5_edit_47 : decode cX5_edit 47 = .ok (.getfield 10, 3) := by decide +kernel
theorem dX5_edit_50 : decode cX5_edit 50 = .ok (.iload 4, 2) := by decide +kernel
theorem dX5_edit_52 : decode cX5_edit 52 = .ok (.iload_n 2, 1) := by decide +kernel
theorem dX5_edit_53 : decode cX5_edit 53 = .ok (.iload_n 3, 1) := by decide +kernel
theorem dX5_edit_54 : decode cX5_edit 54 = .ok (.invokevirtual 53, 3) := by decide +kernel
theorem dX5_edit_57 : decode cX5_edit 57 = .ok (.ireturn, 1) := by decide +kernel
set_option maxRecDepth 20000 in
theorem ggX5_neighbours_X5_checkedForm : GoodIn wsX5_neighbours wsX5_checkedForm := goodIn_ca (goodIn_r _ [7, 8, 9, 2, 10, 11, 12, 13, 14, 15, 16, 17, 18, 19, 20, 21, 22, 23, 24, 25, 67, 68, 69, 70, 71, 72] (by decide +kernel) (by decide +kernel)) (goodIn_sub (fun _ h => List.mem_cons_of_mem _ (List.mem_append_right _ h)) (by decide +kernel))
set_option maxRecDepth 20000 in
theorem gX5_neighbours_X5_checkedForm : GoodIn wsX5_neighbours (wsV RX5 37 RX5 yX5_checkedForm wsX5_checkedForm) := goodIn_app (goodIn_of _ (by decide +kernel)) ggX5_neighbours_X5_checkedForm
set_option maxRecDepth 20000 in
theorem ggX5_neighbours_X3_countBehindOneEdit : GoodIn wsX5_neighbours wsX3_countBehindOneEdit := goodIn_r _ [30, 31, 32, 33, 29, 34, 35, 36, 37, 38, 39, 19, 40, 21, 41, 42, 43, 44, 45, 46, 47, 48, 49, 50, 51, 52, 22, 23, 24, 25, 53, 54, 55, 56, 57, 58, 59, 13, 60, 61, 62, 63, 64, 65, 11, 12, 14, 15, 16, 17, 18, 20, 66, 73, 74, 72, 71] (by decide +kernel) (by decide +kernel)
set_option maxRecDepth 20000 in
theorem gX5_neighbours_X3_countBehindOneEdit : GoodIn wsX5_neighbours (wsV RX5 57 RX3 yX3_countBehindOneEdit wsX3_countBehindOneEdit) := goodIn_app (goodIn_of _ (by decide +kernel)) ggX5_neighbours_X3_countBehindOneEdit
theorem dX5_neighbours_0 : decode cX5_neighbours 0 = .ok (.aload_n 0, 1) := by decide +kernel
theorem dX5_neighbours_1 : decode cX5_neighbours 1 = .ok (.getfield 19, 3) := by decide +kernel
theorem dX5_neighbours_4 : decode cX5_neighbours 4 = .ok (.aload_n 0, 1) := by decide +kernel
theorem dX5_neighbours_5 : decode cX5_neighbours 5 = .ok (.getfield 10, 3) := by decide +kernel
theorem dX5_neighbours_8 : decode cX5_neighbours 8 = .ok (.aload_n 0, 1) := by decide +kernel
theorem dX5_neighbours_9 : decode cX5_neighbours 9 = .ok (.iload_n 1, 1) := by decide +kernel
theorem dX5_neighbours_10 : decode cX5_neighbours 10 = .ok (.invokevirtual 37, 3) := by decide +kernel
theorem dX5_neighbours_13 : decode cX5_neighbours 13 = .ok (.invokevirtual 57, 3) := by decide +kernel
theorem dX5_neighbours_16 : decode cX5_neighbours 16 = .ok (.ireturn, 1) := by decide +kernel
set_option maxRecDepth 20000 in
theorem ggX5_distance_X5_checkedForm : GoodIn wsX5_distance wsX5_checkedForm := goodIn_ca (goodIn_r _ [7, 8, 9, 2, 10, 11, 12, 13, 14, 15, 16, 17, 18, 19, 20, 21, 22, 23, 24, 25, 71, 72, 73, 74, 75, 76] (by decide +kernel) (by decide +kernel)) (goodIn_sub (fun _ h => List.mem_cons_of_mem _ (List.mem_append_right _ h)) (by decide +kernel))
set_option maxRecDepth 20000 in
theorem gX5_distance_X5_checkedForm : GoodIn wsX5_distance (wsV RX5 37 RX5 yX5_checkedForm wsX5_checkedForm) := goodIn_app (goodIn_of _ (by decide +kernel)) ggX5_distance_X5_checkedForm
set_option maxRecDepth 20000 in
theorem ggX5_distance_X3_goOutward : GoodIn wsX5_distance wsX3_goOutward := goodIn_r _ [30, 31, 32, 33, 34, 29, 35, 36, 37, 38, 39, 40, 19, 41, 21, 42, 43, 44, 45, 46, 47, 48, 49, 50, 51, 52, 53, 22, 23, 24, 25, 54, 17, 18, 20, 55, 56, 57, 58, 59, 60, 13, 61, 62, 63, 64, 65, 66, 11, 12, 14, 15, 16, 77, 78, 76, 75] (by decide +kernel) (by decide +kernel)
set_option maxRecDepth 20000 in
theorem gX5_distance_X3_goOutward : GoodIn wsX5_distance (wsV RX5 61 RX3 yX3_goOutward wsX3_goOutward) := goodIn_app (goodIn_of _ (by decide +kernel)) ggX5_distance_X3_goOutward
set_option maxRecDepth 20000 in
theorem ggX5_distance_X3_editsKnown : GoodIn wsX5_distance wsX3_editsKnown := goodIn_r _ [70, 36, 54, 17, 18, 19, 20, 21, 22, 23, 24, 25, 77, 78, 76] (by decide +kernel) (by decide +kernel)
set_option maxRecDepth 20000 in
theorem gX5_distance_X3_editsKnown : GoodIn wsX5_distance (wsV RX5 65 RX3 yX3_editsKnown wsX3_editsKnown) := goodIn_app (goodIn_of _ (by decide +kernel)) ggX5_distance_X3_editsKnown
theorem dX5_distance_0 : decode cX5_distance 0 = .ok (.aload_n 0, 1) := by decide +kernel
theorem dX5_distance_1 : decode cX5_distance 1 = .ok (.iload_n 1, 1) := by decide +kernel
theorem dX5_distance_2 : decode cX5_distance 2 = .ok (.invokevirtual 37, 3) := by decide +kernel
theorem dX5_distance_5 : decode cX5_distance 5 = .ok (.istore_n 3, 1) := by decide +kernel
theorem dX5_distance_6 : decode cX5_distance 6 = .ok (.aload_n 0, 1) := by decide +kernel
theorem dX5_distance_7 : decode cX5_distance 7 = .ok (.iload_n 2, 1) := by decide +kernel
theorem dX5_distance_8 : decode cX5_distance 8 = .ok (.invokevirtual 37, 3) := by decide +kernel
theorem dX5_distance_11 : decode cX5_distance 11 = .ok (.istore 4, 2) := by decide +kernel
theorem dX5_distance_13 : decode cX5_distance 13 = .ok (.aload_n 0, 1) := by decide +kernel
theorem dX5_distance_14 : decode cX5_distance 14 = .ok (.getfield 19, 3) := by decide +kernel
theorem dX5_distance_17 : decode cX5_distance 17 = .ok (.aload_n 0, 1) := by decide +kernel
theorem dX5_distance_18 : decode cX5_distance 18 = .ok (.getfield 10, 3) := by decide +kernel
theorem dX5_distance_21 : decode cX5_distance 21 = .ok (.iload_n 3, 1) := by decide +kernel
theorem dX5_distance_22 : decode cX5_distance 22 = .ok (.invokevirtual 61, 3) := by decide +kernel
theorem dX5_distance_25 : decode cX5_distance 25 = .ok (.aload_n 0, 1) := by decide +kernel
theorem dX5_distance_26 : decode cX5_distance 26 = .ok (.getfield 19, 3) := by decide +kernel
theorem dX5_distance_29 : decode cX5_distance 29 = .ok (.iload 4, 2) := by decide +kernel
theorem dX5_distance_31 : decode cX5_distance 31 = .ok (.invokevirtual 65, 3) := by decide +kernel
theorem dX5_distance_34 : decode cX5_distance 34 = .ok (.ireturn, 1) := by decide +kernel
set_option maxRecDepth 20000 in
theorem ggX5_distanceByRounds_X5_checkedForm : GoodIn wsX5_distanceByRounds wsX5_checkedForm := goodIn_ca (goodIn_r _ [7, 8, 9, 2, 10, 11, 12, 13, 14, 15, 16, 17, 18, 19, 20, 21, 22, 23, 24, 25, 82, 83, 84, 85, 86, 87] (by decide +kernel) (by decide +kernel)) (goodIn_sub (fun _ h => List.mem_cons_of_mem _ (List.mem_append_right _ h)) (by decide +kernel))
set_option maxRecDepth 20000 in
theorem gX5_distanceByRounds_X5_checkedForm : GoodIn wsX5_distanceByRounds (wsV RX5 37 RX5 yX5_checkedForm wsX5_checkedForm) := goodIn_app (goodIn_of _ (by decide +kernel)) ggX5_distanceByRounds_X5_checkedForm
set_option maxRecDepth 20000 in
theorem ggX5_distanceByRounds_X3_forget : GoodIn wsX5_distanceByRounds wsX3_forget := goodIn_r _ [30, 31, 32, 33, 34, 35, 19, 36, 21, 37, 38, 39, 40, 88, 89, 87] (by decide +kernel) (by decide +kernel)
set_option maxRecDepth 20000 in
theorem gX5_distanceByRounds_X3_forget : GoodIn wsX5_distanceByRounds (wsV RX5 68 RX3 yX3_forget wsX3_forget) := goodIn_app (goodIn_of _ (by decide +kernel)) ggX5_distanceByRounds_X3_forget
set_option maxRecDepth 20000 in
theorem ggX5_distanceByRounds_X3_mark : GoodIn wsX5_distanceByRounds wsX3_mark := goodIn_r _ [44, 31, 45, 46, 47, 19, 48, 21, 22, 23, 24, 25, 88, 89, 87] (by decide +kernel) (by decide +kernel)
set_option maxRecDepth 20000 in
theorem gX5_distanceByRounds_X3_mark : GoodIn wsX5_distanceByRounds (wsV RX5 71 RX3 yX3_mark wsX3_mark) := goodIn_app (goodIn_of _ (by decide +kernel)) ggX5_distanceByRounds_X3_mark
set_option maxRecDepth 20000 in
theorem ggX5_distanceByRounds_X3_settle : GoodIn wsX5_distanceByRounds wsX3_settle := goodIn_r _ [52, 53, 54, 55, 29, 56, 31, 57, 58, 59, 13, 60, 15, 16, 17, 18, 19, 20, 21, 22, 23, 24, 25, 61, 62, 63, 64, 32, 65, 66, 67, 68, 69, 70, 71, 72, 73, 74, 75, 76, 11, 12, 14, 77, 45, 46, 47, 48, 88, 89, 86, 87] (by decide +kernel) (by decide +kernel)
set_option maxRecDepth 20000 in
theorem gX5_distanceByRounds_X3_settle : GoodIn wsX5_distanceByRounds (wsV RX5 75 RX3 yX3_settle wsX3_settle) := goodIn_app (goodIn_of _ (by decide +kernel)) ggX5_distanceByRounds_X3_settle
set_option maxRecDepth 20000 in
theorem ggX5_distanceByRounds_X3_editsKnown : GoodIn wsX5_distanceByRounds wsX3_editsKnown := goodIn_r _ [81, 31, 77, 17, 18, 19, 20, 21, 22, 23, 24, 25, 88, 89, 87] (by decide +kernel) (by decide +kernel)
set_option maxRecDepth 20000 in
theorem gX5_distanceByRounds_X3_editsKnown : GoodIn wsX5_distanceByRounds (wsV RX5 65 RX3 yX3_editsKnown wsX3_editsKnown) := goodIn_app (goodIn_of _ (by decide +kernel)) ggX5_distanceByRounds_X3_editsKnown
theorem dX5_distanceByRounds_0 : decode cX5_distanceByRounds 0 = .ok (.aload_n 0, 1) := by decide +kernel
theorem dX5_distanceByRounds_1 : decode cX5_distanceByRounds 1 = .ok (.iload_n 1, 1) := by decide +kernel
theorem dX5_distanceByRounds_2 : decode cX5_distanceByRounds 2 = .ok (.invokevirtual 37, 3) := by decide +kernel
theorem dX5_distanceByRounds_5 : decode cX5_distanceByRounds 5 = .ok (.istore_n 3, 1) := by decide +kernel
theorem dX5_distanceByRounds_6 : decode cX5_distanceByRounds 6 = .ok (.aload_n 0, 1) := by decide +kernel
theorem dX5_distanceByRounds_7 : decode cX5_distanceByRounds 7 = .ok (.iload_n 2, 1) := by decide +kernel
theorem dX5_distanceByRounds_8 : decode cX5_distanceByRounds 8 = .ok (.invokevirtual 37, 3) := by decide +kernel
theorem dX5_distanceByRounds_11 : decode cX5_distanceByRounds 11 = .ok (.istore 4, 2) := by decide +kernel
theorem dX5_distanceByRounds_13 : decode cX5_distanceByRounds 13 = .ok (.aload_n 0, 1) := by decide +kernel
theorem dX5_distanceByRounds_14 : decode cX5_distanceByRounds 14 = .ok (.getfield 19, 3) := by decide +kernel
theorem dX5_distanceByRounds_17 : decode cX5_distanceByRounds 17 = .ok (.invokevirtual 68, 3) := by decide +kernel
theorem dX5_distanceByRounds_20 : decode cX5_distanceByRounds 20 = .ok (.aload_n 0, 1) := by decide +kernel
theorem dX5_distanceByRounds_21 : decode cX5_distanceByRounds 21 = .ok (.getfield 19, 3) := by decide +kernel
theorem dX5_distanceByRounds_24 : decode cX5_distanceByRounds 24 = .ok (.iload 4, 2) := by decide +kernel
theorem dX5_distanceByRounds_26 : decode cX5_distanceByRounds 26 = .ok (.invokevirtual 71, 3) := by decide +kernel
theorem dX5_distanceByRounds_29 : decode cX5_distanceByRounds 29 = .ok (.aload_n 0, 1) := by decide +kernel
theorem dX5_distanceByRounds_30 : decode cX5_distanceByRounds 30 = .ok (.getfield 19, 3) := by decide +kernel
theorem dX5_distanceByRounds_33 : decode cX5_distanceByRounds 33 = .ok (.aload_n 0, 1) := by decide +kernel
theorem dX5_distanceByRounds_34 : decode cX5_distanceByRounds 34 = .ok (.getfield 10, 3) := by decide +kernel
theorem dX5_distanceByRounds_37 : decode cX5_distanceByRounds 37 = .ok (.invokevirtual 75, 3) := by decide +kernel
theorem dX5_distanceByRounds_40 : decode cX5_distanceByRounds 40 = .ok (.aload_n 0, 1) := by decide +kernel
theorem dX5_distanceByRounds_41 : decode cX5_distanceByRounds 41 = .ok (.getfield 19, 3) := by decide +kernel
theorem dX5_distanceByRounds_44 : decode cX5_distanceByRounds 44 = .ok (.iload_n 3, 1) := by decide +kernel
theorem dX5_distanceByRounds_45 : decode cX5_distanceByRounds 45 = .ok (.invokevirtual 65, 3) := by decide +kernel
theorem dX5_distanceByRounds_48 : decode cX5_distanceByRounds 48 = .ok (.ireturn, 1) := by decide +kernel
set_option maxRecDepth 20000 in
theorem ggX5_begin_X5_checkedForm : GoodIn wsX5_begin wsX5_checkedForm := goodIn_ca (goodIn_r _ [8, 9, 10, 11, 12, 13, 14, 15, 16, 17, 18, 19, 20, 21, 22, 23, 24, 25, 26, 27, 59, 60, 61, 62, 63, 64] (by decide +kernel) (by decide +kernel)) (goodIn_sub (fun _ h => List.mem_cons_of_mem _ (List.mem_append_right _ h)) (by decide +kernel))
set_option maxRecDepth 20000 in
theorem gX5_begin_X5_checkedForm : GoodIn wsX5_begin (wsV RX5 37 RX5 yX5_checkedForm wsX5_checkedForm) := goodIn_app (goodIn_of _ (by decide +kernel)) ggX5_begin_X5_checkedForm
set_option maxRecDepth 20000 in
theorem ggX5_begin_X0_isUnderWay : GoodIn wsX5_begin wsX0_isUnderWay := goodIn_r _ [32, 33, 65, 66, 67, 68, 69, 70, 71, 72, 73, 74, 75] (by decide +kernel) (by decide +kernel)
set_option maxRecDepth 20000 in
theorem gX5_begin_X0_isUnderWay : GoodIn wsX5_begin (wsV RX5 79 RX0 yX0_isUnderWay wsX0_isUnderWay) := goodIn_app (goodIn_of _ (by decide +kernel)) ggX5_begin_X0_isUnderWay
set_option maxRecDepth 20000 in
theorem ggX5_begin_X0_areAllBegun : GoodIn wsX5_begin wsX0_areAllBegun := goodIn_r _ [37, 38, 65, 66, 67, 68, 69, 70, 71, 72, 73, 74, 75] (by decide +kernel) (by decide +kernel)
set_option maxRecDepth 20000 in
theorem gX5_begin_X0_areAllBegun : GoodIn wsX5_begin (wsV RX5 83 RX0 yX0_areAllBegun wsX0_areAllBegun) := goodIn_app (goodIn_of _ (by decide +kernel)) ggX5_begin_X0_areAllBegun
set_option maxRecDepth 20000 in
theorem ggX5_begin_X0_start : GoodIn wsX5_begin wsX0_start := goodIn_r _ [42, 38, 43, 44, 45, 31, 46, 33, 47, 48, 49, 50, 19, 20, 21, 22, 23, 24, 25, 26, 27, 51, 52, 53, 54, 65, 66, 67, 68, 69, 70, 71, 72, 73, 74, 75, 64] (by decide +kernel) (by decide +kernel)
set_option maxRecDepth 20000 in
theorem gX5_begin_X0_start : GoodIn wsX5_begin (wsV RX5 91 RX0 yX0_start wsX0_start) := goodIn_app (goodIn_of _ (by decide +kernel)) ggX5_begin_X0_start
set_option maxRecDepth 20000 in
theorem ggX5_begin_X0_metCount : GoodIn wsX5_begin wsX0_metCount := goodIn_r _ [58, 49, 65, 66, 67, 68, 69, 70, 71, 72, 73, 74, 75] (by decide +kernel) (by decide +kernel)
set_option maxRecDepth 20000 in
theorem gX5_begin_X0_metCount : GoodIn wsX5_begin (wsV RX5 94 RX0 yX0_metCount wsX0_metCount) := goodIn_app (goodIn_of _ (by decide +kernel)) ggX5_begin_X0_metCount
theorem dX5_begin_0 : decode cX5_begin 0 = .ok (.aload_n 0, 1) := by decide +kernel
theorem dX5_begin_1 : decode cX5_begin 1 = .ok (.iload_n 1, 1) := by decide +kernel
theorem dX5_begin_2 : decode cX5_begin 2 = .ok (.invokevirtual 37, 3) := by decide +kernel
theorem dX5_begin_5 : decode cX5_begin 5 = .ok (.istore_n 2, 1) := by decide +kernel
theorem dX5_begin_6 : decode cX5_begin 6 = .ok (.aload_n 0, 1) := by decide +kernel
theorem dX5_begin_7 : decode cX5_begin 7 = .ok (.getfield 26, 3) := by decide +kernel
theorem dX5_begin_10 : decode cX5_begin 10 = .ok (.invokevirtual 79, 3) := by decide +kernel
theorem dX5_begin_13 : decode cX5_begin 13 = .ok (.ifCond .ne 13, 3) := by decide +kernel
theorem dX5_begin_16 : decode cX5_begin 16 = .ok (.aload_n 0, 1) := by decide +kernel
theorem dX5_begin_17 : decode cX5_begin 17 = .ok (.getfield 26, 3) := by decide +kernel
theorem dX5_begin_20 : decode cX5_begin 20 = .ok (.invokevirtual 83, 3) := by decide +kernel
theorem dX5_begin_23 : decode cX5_begin 23 = .ok (.ifCond .eq 13, 3) := by decide +kernel
theorem dX5_begin_26 : decode cX5_begin 26 = .ok (.new 86, 3) := by decide +kernel
theorem dX5_begin_29 : decode cX5_begin 29 = .ok (.dup, 1) := by decide +kernel
theorem dX5_begin_30 : decode cX5_begin 30 = .ok (.ldc 88, 2) := by decide +kernel
theorem dX5_begin_32 : decode cX5_begin 32 = .ok (.invokespecial 90, 3) := by decide +kernel
theorem dX5_begin_35 : decode cX5_begin 35 = .ok (.athrow, 1) := by decide +kernel
theorem dX5_begin_36 : decode cX5_begin 36 = .ok (.aload_n 0, 1) := by decide +kernel
theorem dX5_begin_37 : decode cX5_begin 37 = .ok (.getfield 26, 3) := by decide +kernel
theorem dX5_begin_40 : decode cX5_begin 40 = .ok (.iload_n 2, 1) := by decide +kernel
theorem dX5_begin_41 : decode cX5_begin 41 = .ok (.invokevirtual 91, 3) := by decide +kernel
theorem dX5_begin_44 : decode cX5_begin 44 = .ok (.aload_n 0, 1) := by decide +kernel
theorem dX5_begin_45 : decode cX5_begin 45 = .ok (.getfield 26, 3) := by decide +kernel
theorem dX5_begin_48 : decode cX5_begin 48 = .ok (.invokevirtual 94, 3) := by decide +kernel
theorem dX5_begin_51 : decode cX5_begin 51 = .ok (.ireturn, 1) := by decide +kernel
set_option maxRecDepth 20000 in
theorem ggX5_pass_X5_checkedForm : GoodIn wsX5_pass wsX5_checkedForm := goodIn_ca (goodIn_r _ [8, 9, 10, 11, 12, 13, 14, 15, 16, 17, 18, 19, 20, 21, 22, 23, 24, 25, 26, 27, 68, 69, 70, 71, 72, 73] (by decide +kernel) (by decide +kernel)) (goodIn_sub (fun _ h => List.mem_cons_of_mem _ (List.mem_append_right _ h)) (by decide +kernel))
set_option maxRecDepth 20000 in
theorem gX5_pass_X5_checkedForm : GoodIn wsX5_pass (wsV RX5 37 RX5 yX5_checkedForm wsX5_checkedForm) := goodIn_app (goodIn_of _ (by decide +kernel)) ggX5_pass_X5_checkedForm
set_option maxRecDepth 20000 in
theorem ggX5_pass_X0_isUnderWay : GoodIn wsX5_pass wsX0_isUnderWay := goodIn_r _ [32, 33, 74, 75, 76, 77, 78, 79, 80, 81, 82, 83, 84] (by decide +kernel) (by decide +kernel)
set_option maxRecDepth 20000 in
theorem gX5_pass_X0_isUnderWay : GoodIn wsX5_pass (wsV RX5 79 RX0 yX0_isUnderWay wsX0_isUnderWay) := goodIn_app (goodIn_of _ (by decide +kernel)) ggX5_pass_X0_isUnderWay
set_option maxRecDepth 20000 in
theorem ggX5_pass_X0_areAllPassed : GoodIn wsX5_pass wsX0_areAllPassed := goodIn_r _ [37, 38, 74, 75, 76, 77, 78, 79, 80, 81, 82, 83, 84] (by decide +kernel) (by decide +kernel)
set_option maxRecDepth 20000 in
theorem gX5_pass_X0_areAllPassed : GoodIn wsX5_pass (wsV RX5 98 RX0 yX0_areAllPassed wsX0_areAllPassed) := goodIn_app (goodIn_of _ (by decide +kernel)) ggX5_pass_X0_areAllPassed
set_option maxRecDepth 20000 in
theorem ggX5_pass_X0_moveTo : GoodIn wsX5_pass wsX0_moveTo := goodIn_r _ [42, 43, 38, 33, 44, 45, 46, 47, 48, 21, 49, 23, 24, 25, 26, 27, 50, 51, 52, 53, 54, 19, 20, 22, 55, 56, 57, 58, 31, 59, 60, 61, 62, 63, 74, 75, 76, 77, 78, 79, 80, 81, 82, 83, 84, 73] (by decide +kernel) (by decide +kernel)
set_option maxRecDepth 20000 in
theorem gX5_pass_X0_moveTo : GoodIn wsX5_pass (wsV RX5 103 RX0 yX0_moveTo wsX0_moveTo) := goodIn_app (goodIn_of _ (by decide +kernel)) ggX5_pass_X0_moveTo
set_option maxRecDepth 20000 in
theorem ggX5_pass_X0_metCount : GoodIn wsX5_pass wsX0_metCount := goodIn_r _ [67, 62, 74, 75, 76, 77, 78, 79, 80, 81, 82, 83, 84] (by decide +kernel) (by decide +kernel)
set_option maxRecDepth 20000 in
theorem gX5_pass_X0_metCount : GoodIn wsX5_pass (wsV RX5 94 RX0 yX0_metCount wsX0_metCount) := goodIn_app (goodIn_of _ (by decide +kernel)) ggX5_pass_X0_metCount
theorem dX5_pass_0 : decode cX5_pass 0 = .ok (.aload_n 0, 1) := by decide +kernel
theorem dX5_pass_1 : decode cX5_pass 1 = .ok (.iload_n 1, 1) := by decide +kernel
theorem dX5_pass_2 : decode cX5_pass 2 = .ok (.invokevirtual 37, 3) := by decide +kernel
theorem dX5_pass_5 : decode cX5_pass 5 = .ok (.istore_n 2, 1) := by decide +kernel
theorem dX5_pass_6 : decode cX5_pass 6 = .ok (.aload_n 0, 1) := by decide +kernel
theorem dX5_pass_7 : decode cX5_pass 7 = .ok (.getfield 26, 3) := by decide +kernel
theorem dX5_pass_10 : decode cX5_pass 10 = .ok (.invokevirtual 79, 3) := by decide +kernel
theorem dX5_pass_13 : decode cX5_pass 13 = .ok (.ifCond .eq 13, 3) := by decide +kernel
theorem dX5_pass_16 : decode cX5_pass 16 = .ok (.aload_n 0, 1) := by decide +kernel
theorem dX5_pass_17 : decode cX5_pass 17 = .ok (.getfield 26, 3) := by decide +kernel
theorem dX5_pass_20 : decode cX5_pass 20 = .ok (.invokevirtual 98, 3) := by decide +kernel
theorem dX5_pass_23 : decode cX5_pass 23 = .ok (.ifCond .eq 13, 3) := by decide +kernel
theorem dX5_pass_26 : decode cX5_pass 26 = .ok (.new 86, 3) := by decide +kernel
theorem dX5_pass_29 : decode cX5_pass 29 = .ok (.dup, 1) := by decide +kernel
theorem dX5_pass_30 : decode cX5_pass 30 = .ok (.ldc 101, 2) := by decide +kernel
theorem dX5_pass_32 : decode cX5_pass 32 = .ok (.invokespecial 90, 3) := by decide +kernel
theorem dX5_pass_35 : decode cX5_pass 35 = .ok (.athrow, 1) := by decide +kernel
theorem dX5_pass_36 : decode cX5_pass 36 = .ok (.aload_n 0, 1) := by decide +kernel
theorem dX5_pass_37 : decode cX5_pass 37 = .ok (.getfield 26, 3) := by decide +kernel
theorem dX5_pass_40 : decode cX5_pass 40 = .ok (.iload_n 2, 1) := by decide +kernel
theorem dX5_pass_41 : decode cX5_pass 41 = .ok (.invokevirtual 103, 3) := by decide +kernel
theorem dX5_pass_44 : decode cX5_pass 44 = .ok (.aload_n 0, 1) := by decide +kernel
theorem dX5_pass_45 : decode cX5_pass 45 = .ok (.getfield 26, 3) := by decide +kernel
theorem dX5_pass_48 : decode cX5_pass 48 = .ok (.invokevirtual 94, 3) := by decide +kernel
theorem dX5_pass_51 : decode cX5_pass 51 = .ok (.ireturn, 1) := by decide +kernel
set_option maxRecDepth 20000 in
theorem ggX5_end_X0_isUnderWay : GoodIn wsX5_end wsX0_isUnderWay := goodIn_r _ [8, 9, 39, 40, 41, 42, 43, 44, 45, 46, 47, 48, 49] (by decide +kernel) (by decide +kernel)
set_option maxRecDepth 20000 in
theorem gX5_end_X0_isUnderWay : GoodIn wsX5_end (wsV RX5 79 RX0 yX0_isUnderWay wsX0_isUnderWay) := goodIn_app (goodIn_of _ (by decide +kernel)) ggX5_end_X0_isUnderWay
set_option maxRecDepth 20000 in
theorem ggX5_end_X0_finish : GoodIn wsX5_end wsX0_finish := goodIn_r _ [13, 9, 14, 15, 16, 17, 18, 19, 20, 21, 22, 23, 24, 25, 26, 27, 28, 29, 30, 31, 32, 33, 34, 39, 40, 41, 42, 43, 44, 45, 46, 47, 48, 49, 50] (by decide +kernel) (by decide +kernel)
set_option maxRecDepth 20000 in
theorem gX5_end_X0_finish : GoodIn wsX5_end (wsV RX5 108 RX0 yX0_finish wsX0_finish) := goodIn_app (goodIn_of _ (by decide +kernel)) ggX5_end_X0_finish
theorem dX5_end_0 : decode cX5_end 0 = .ok (.aload_n 0, 1) := by decide +kernel
theorem dX5_end_1 : decode cX5_end 1 = .ok (.getfield 26, 3) := by decide +kernel
theorem dX5_end_4 : decode cX5_end 4 = .ok (.invokevirtual 79, 3) := by decide +kernel
theorem dX5_end_7 : decode cX5_end 7 = .ok (.ifCond .ne 13, 3) := by decide +kernel
theorem dX5_end_10 : decode cX5_end 10 = .ok (.new 86, 3) := by decide +kernel
theorem dX5_end_13 : decode cX5_end 13 = .ok (.dup, 1) := by decide +kernel
theorem dX5_end_14 : decode cX5_end 14 = .ok (.ldc 106, 2) := by decide +kernel
theorem dX5_end_16 : decode cX5_end 16 = .ok (.invokespecial 90, 3) := by decide +kernel
theorem dX5_end_19 : decode cX5_end 19 = .ok (.athrow, 1) := by decide +kernel
theorem dX5_end_20 : decode cX5_end 20 = .ok (.aload_n 0, 1) := by decide +kernel
theorem dX5_end_21 : decode cX5_end 21 = .ok (.getfield 26, 3) := by decide +kernel
theorem dX5_end_24 : decode cX5_end 24 = .ok (.iload_n 1, 1) := by decide +kernel
theorem dX5_end_25 : decode cX5_end 25 = .ok (.invokevirtual 108, 3) := by decide +kernel
theorem dX5_end_28 : decode cX5_end 28 = .ok (.ireturn, 1) := by decide +kernel
set_option maxRecDepth 20000 in
theorem ggX5_at_X0_current : GoodIn wsX5_at wsX0_current := goodIn_r _ [6, 7, 12, 13, 14, 15, 16, 17, 18, 19, 20, 21, 22] (by decide +kernel) (by decide +kernel)
set_option maxRecDepth 20000 in
theorem gX5_at_X0_current : GoodIn wsX5_at (wsV RX5 112 RX0 yX0_current wsX0_current) := goodIn_app (goodIn_of _ (by decide +kernel)) ggX5_at_X0_current
theorem dX5_at_0 : decode cX5_at 0 = .ok (.aload_n 0, 1) := by decide +kernel
theorem dX5_at_1 : decode cX5_at 1 = .ok (.getfield 26, 3) := by decide +kernel
theorem dX5_at_4 : decode cX5_at 4 = .ok (.invokevirtual 112, 3) := by decide +kernel
theorem dX5_at_7 : decode cX5_at 7 = .ok (.ireturn, 1) := by decide +kernel
set_option maxRecDepth 20000 in
theorem ggX5_met_X0_metCount : GoodIn wsX5_met wsX0_metCount := goodIn_r _ [6, 7, 12, 13, 14, 15, 16, 17, 18, 19, 20, 21, 22] (by decide +kernel) (by decide +kernel)
set_option maxRecDepth 20000 in
theorem gX5_met_X0_metCount : GoodIn wsX5_met (wsV RX5 94 RX0 yX0_metCount wsX0_metCount) := goodIn_app (goodIn_of _ (by decide +kernel)) ggX5_met_X0_metCount
theorem dX5_met_0 : decode cX5_met 0 = .ok (.aload_n 0, 1) := by decide +kernel
theorem dX5_met_1 : decode cX5_met 1 = .ok (.getfield 26, 3) := by decide +kernel
theorem dX5_met_4 : decode cX5_met 4 = .ok (.invokevirtual 94, 3) := by decide +kernel
theorem dX5_met_7 : decode cX5_met 7 = .ok (.ireturn, 1) := by decide +kernel
set_option maxRecDepth 20000 in
theorem ggX5_passings_X5_checkedForm : GoodIn wsX5_passings wsX5_checkedForm := goodIn_ca (goodIn_r _ [6, 7, 8, 9, 10, 11, 12, 13, 14, 15, 16, 17, 18, 19, 20, 21, 22, 23, 24, 25, 43, 44, 45, 46, 47, 48] (by decide +kernel) (by decide +kernel)) (goodIn_sub (fun _ h => List.mem_cons_of_mem _ (List.mem_append_right _ h)) (by decide +kernel))
set_option maxRecDepth 20000 in
theorem gX5_passings_X5_checkedForm : GoodIn wsX5_passings (wsV RX5 37 RX5 yX5_checkedForm wsX5_checkedForm) := goodIn_app (goodIn_of _ (by decide +kernel)) ggX5_passings_X5_checkedForm
set_option maxRecDepth 20000 in
theorem ggX5_passings_X0_countPassings : GoodIn wsX5_passings wsX0_countPassings := goodIn_r _ [30, 31, 32, 33, 34, 29, 35, 36, 37, 17, 18, 19, 20, 21, 22, 23, 24, 25, 38, 39, 40, 41, 42, 49, 50, 51, 52, 53, 54, 55, 56, 57, 58, 59, 48] (by decide +kernel) (by decide +kernel)
set_option maxRecDepth 20000 in
theorem gX5_passings_X0_countPassings : GoodIn wsX5_passings (wsV RX5 115 RX0 yX0_countPassings wsX0_countPassings) := goodIn_app (goodIn_of _ (by decide +kernel)) ggX5_passings_X0_countPassings
theorem dX5_passings_0 : decode cX5_passings 0 = .ok (.aload_n 0, 1) := by decide +kernel
theorem dX5_passings_1 : decode cX5_passings 1 = .ok (.iload_n 1, 1) := by decide +kernel
theorem dX5_passings_2 : decode cX5_passings 2 = .ok (.invokevirtual 37, 3) := by decide +kernel
theorem dX5_passings_5 : decode cX5_passings 5 = .ok (.istore_n 3, 1) := by decide +kernel
theorem dX5_passings_6 : decode cX5_passings 6 = .ok (.aload_n 0, 1) := by decide +kernel
theorem dX5_passings_7 : decode cX5_passings 7 = .ok (.iload_n 2, 1) := by decide +kernel
theorem dX5_passings_8 : decode cX5_passings 8 = .ok (.invokevirtual 37, 3) := by decide +kernel
theorem dX5_passings_11 : decode cX5_passings 11 = .ok (.istore 4, 2) := by decide +kernel
theorem dX5_passings_13 : decode cX5_passings 13 = .ok (.aload_n 0, 1) := by decide +kernel
theorem dX5_passings_14 : decode cX5_passings 14 = .ok (.getfield 26, 3) := by decide +kernel
theorem dX5_passings_17 : decode cX5_passings 17 = .ok (.iload_n 3, 1) := by decide +kernel
theorem dX5_passings_18 : decode cX5_passings 18 = .ok (.iload 4, 2) := by decide +kernel
theorem dX5_passings_20 : decode cX5_passings 20 = .ok (.invokevirtual 115, 3) := by decide +kernel
theorem dX5_passings_23 : decode cX5_passings 23 = .ok (.ireturn, 1) := by decide +kernel
set_option maxRecDepth 20000 in
theorem ggX5_isRight_X5_checkedForm : GoodIn wsX5_isRight wsX5_checkedForm := goodIn_ca (goodIn_r _ [6, 7, 8, 9, 10, 11, 12, 13, 14, 15, 16, 17, 18, 19, 20, 21, 22, 23, 24, 25, 33, 34, 35, 36, 37, 38] (by decide +kernel) (by decide +kernel)) (goodIn_sub (fun _ h => List.mem_cons_of_mem _ (List.mem_append_right _ h)) (by decide +kernel))
set_option maxRecDepth 20000 in
theorem gX5_isRight_X5_checkedForm : GoodIn wsX5_isRight (wsV RX5 37 RX5 yX5_checkedForm wsX5_checkedForm) := goodIn_app (goodIn_of _ (by decide +kernel)) ggX5_isRight_X5_checkedForm
set_option maxRecDepth 20000 in
theorem ggX5_isRight_X0_hasEndedRight : GoodIn wsX5_isRight wsX0_hasEndedRight := goodIn_r _ [30, 31, 32, 17, 18, 19, 20, 21, 22, 23, 24, 25, 39, 40, 41, 42, 43, 44, 45, 46, 47, 48, 49, 38] (by decide +kernel) (by decide +kernel)
set_option maxRecDepth 20000 in
theorem gX5_isRight_X0_hasEndedRight : GoodIn wsX5_isRight (wsV RX5 119 RX0 yX0_hasEndedRight wsX0_hasEndedRight) := goodIn_app (goodIn_of _ (by decide +kernel)) ggX5_isRight_X0_hasEndedRight
theorem dX5_isRight_0 : decode cX5_isRight 0 = .ok (.aload_n 0, 1) := by decide +kernel
theorem dX5_isRight_1 : decode cX5_isRight 1 = .ok (.getfield 26, 3) := by decide +kernel
theorem dX5_isRight_4 : decode cX5_isRight 4 = .ok (.aload_n 0, 1) := by decide +kernel
theorem dX5_isRight_5 : decode cX5_isRight 5 = .ok (.iload_n 1, 1) := by decide +kernel
theorem dX5_isRight_6 : decode cX5_isRight 6 = .ok (.invokevirtual 37, 3) := by decide +kernel
theorem dX5_isRight_9 : decode cX5_isRight 9 = .ok (.invokevirtual 119, 3) := by decide +kernel
theorem dX5_isRight_12 : decode cX5_isRight 12 = .ok (.ireturn, 1) := by decide +kernel
set_option maxRecDepth 20000 in
theorem ggX5_worth_X5_checkedForm : GoodIn wsX5_worth wsX5_checkedForm := goodIn_ca (goodIn_r _ [7, 8, 9, 10, 11, 12, 13, 14, 15, 16, 17, 18, 19, 20, 21, 22, 23, 24, 25, 26, 103, 104, 105, 106, 107, 108] (by decide +kernel) (by decide +kernel)) (goodIn_sub (fun _ h => List.mem_cons_of_mem _ (List.mem_append_right _ h)) (by decide +kernel))
set_option maxRecDepth 20000 in
theorem gX5_worth_X5_checkedForm : GoodIn wsX5_worth (wsV RX5 37 RX5 yX5_checkedForm wsX5_checkedForm) := goodIn_app (goodIn_of _ (by decide +kernel)) ggX5_worth_X5_checkedForm
set_option maxRecDepth 20000 in
theorem ggX5_worth_X4_find : GoodIn wsX5_worth wsX4_find := goodIn_r _ [31, 32, 33, 34, 35, 20, 36, 22, 37, 38, 39, 40, 41, 42, 43, 30, 44, 45, 46, 47, 48, 49, 50, 51, 52, 53, 54, 55, 56, 57, 58, 18, 19, 21, 23, 24, 25, 26, 59, 60, 61, 62, 63, 64, 65, 66, 67, 68, 69, 70, 71, 72, 73, 74, 75, 76, 77, 78, 79, 80, 81, 82, 83, 84, 85, 86, 87, 88, 89, 90, 91, 92, 93, 94, 95, 96, 97, 98, 109, 110, 108, 111, 112, 113, 114, 115, 116, 117, 118, 119, 120, 121] (by decide +kernel) (by decide +kernel)
set_option maxRecDepth 20000 in
theorem gX5_worth_X4_find : GoodIn wsX5_worth (wsV RX5 123 RX4 yX4_find wsX4_find) := goodIn_app (goodIn_of _ (by decide +kernel)) ggX5_worth_X4_find
set_option maxRecDepth 20000 in
theorem ggX5_worth_X4_of : GoodIn wsX5_worth wsX4_of := goodIn_r _ [102, 32, 83, 18, 19, 20, 21, 22, 23, 24, 25, 26, 109, 110, 108] (by decide +kernel) (by decide +kernel)
set_option maxRecDepth 20000 in
theorem gX5_worth_X4_of : GoodIn wsX5_worth (wsV RX5 127 RX4 yX4_of wsX4_of) := goodIn_app (goodIn_of _ (by decide +kernel)) ggX5_worth_X4_of
theorem dX5_worth_0 : decode cX5_worth 0 = .ok (.aload_n 0, 1) := by decide +kernel
theorem dX5_worth_1 : decode cX5_worth 1 = .ok (.iload_n 1, 1) := by decide +kernel
theorem dX5_worth_2 : decode cX5_worth 2 = .ok (.invokevirtual 37, 3) := by decide +kernel
theorem dX5_worth_5 : decode cX5_worth 5 = .ok (.istore_n 2, 1) := by decide +kernel
theorem dX5_worth_6 : decode cX5_worth 6 = .ok (.aload_n 0, 1) := by decide +kernel
theorem dX5_worth_7 : decode cX5_worth 7 = .ok (.getfield 33, 3) := by decide +kernel
theorem dX5_worth_10 : decode cX5_worth 10 = .ok (.aload_n 0, 1) := by decide +kernel
theorem dX5_worth_11 : decode cX5_worth 11 = .ok (.getfield 26, 3) := by decide +kernel
theorem dX5_worth_14 : decode cX5_worth 14 = .ok (.invokevirtual 123, 3) := by decide +kernel
theorem dX5_worth_17 : decode cX5_worth 17 = .ok (.aload_n 0, 1) := by decide +kernel
theorem dX5_worth_18 : decode cX5_worth 18 = .ok (.getfield 33, 3) := by decide +kernel
theorem dX5_worth_21 : decode cX5_worth 21 = .ok (.iload_n 2, 1) := by decide +kernel
theorem dX5_worth_22 : decode cX5_worth 22 = .ok (.invokevirtual 127, 3) := by decide +kernel
theorem dX5_worth_25 : decode cX5_worth 25 = .ok (.ireturn, 1) := by decide +kernel
set_option maxRecDepth 20000 in
theorem ggX5_steps_X5_checkedForm : GoodIn wsX5_steps wsX5_checkedForm := goodIn_ca (goodIn_r _ [6, 7, 8, 9, 10, 11, 12, 13, 14, 15, 16, 17, 18, 19, 20, 21, 22, 23, 24, 25, 115, 116, 117, 118, 119, 120] (by decide +kernel) (by decide +kernel)) (goodIn_sub (fun _ h => List.mem_cons_of_mem _ (List.mem_append_left _ (List.mem_append_right _ h))) (by decide +kernel))
set_option maxRecDepth 20000 in
theorem gX5_steps_X5_checkedForm : GoodIn wsX5_steps (wsV RX5 37 RX5 yX5_checkedForm wsX5_checkedForm) := goodIn_app (goodIn_of _ (by decide +kernel)) ggX5_steps_X5_checkedForm
set_option maxRecDepth 20000 in
theorem ggX5_steps_X5_requireSomeRight : GoodIn wsX5_steps wsX5_requireSomeRight := goodIn_ca (goodIn_r _ [29, 30, 31, 32, 33, 34, 35, 36, 37, 38, 115, 116, 117, 118, 121, 122, 123, 124, 125, 126, 127, 128, 129, 130, 131] (by decide +kernel) (by decide +kernel)) (goodIn_sub (fun _ h => List.mem_cons_of_mem _ (List.mem_append_right _ h)) (by decide +kernel))
set_option maxRecDepth 20000 in
theorem gX5_steps_X5_requireSomeRight : GoodIn wsX5_steps (wsV RX5 130 RX5 yX5_requireSomeRight wsX5_requireSomeRight) := goodIn_app (goodIn_of _ (by decide +kernel)) ggX5_steps_X5_requireSomeRight
set_option maxRecDepth 20000 in
theorem ggX5_steps_X5_findSteps : GoodIn wsX5_steps wsX5_findSteps := goodIn_r _ [42, 1, 32, 9, 43, 44, 45, 46, 47, 48, 49, 50, 51, 52, 19, 53, 21, 54, 55, 56, 57, 58, 59, 60, 36, 61, 62, 63, 64, 65, 66, 67, 68, 17, 18, 20, 22, 23, 24, 25, 69, 70, 71, 72, 73, 74, 75, 76, 77, 78, 79, 80, 81, 82, 83, 84, 85, 86, 87, 88, 89, 90, 91, 92, 13, 93, 15, 16, 94, 95, 96, 97, 98, 99, 100, 101, 102, 103, 104, 105, 106, 107, 108, 109, 11, 12, 14, 110, 115, 116, 117, 118, 132, 133, 120, 121, 122, 123, 124, 125, 126, 127, 128, 129, 130, 131, 119] (by decide +kernel) (by decide +kernel)
set_option maxRecDepth 20000 in
theorem gX5_steps_X5_findSteps : GoodIn wsX5_steps (wsV RX5 133 RX5 yX5_findSteps wsX5_findSteps) := goodIn_app (goodIn_of _ (by decide +kernel)) ggX5_steps_X5_findSteps
set_option maxRecDepth 20000 in
theorem ggX5_steps_X3_editsKnown : GoodIn wsX5_steps wsX3_editsKnown := goodIn_r _ [114, 48, 110, 17, 18, 19, 20, 21, 22, 23, 24, 25, 132, 133, 120] (by decide +kernel) (by decide +kernel)
set_option maxRecDepth 20000 in
theorem gX5_steps_X3_editsKnown : GoodIn wsX5_steps (wsV RX5 65 RX3 yX3_editsKnown wsX3_editsKnown) := goodIn_app (goodIn_of _ (by decide +kernel)) ggX5_steps_X3_editsKnown
theorem dX5_steps_0 : decode cX5_steps 0 = .ok (.aload_n 0, 1) := by decide +kernel
theorem dX5_steps_1 : decode cX5_steps 1 = .ok (.iload_n 1, 1) := by decide +kernel
theorem dX5_steps_2 : decode cX5_steps 2 = .ok (.invokevirtual 37, 3) := by decide +kernel
theorem dX5_steps_5 : decode cX5_steps 5 = .ok (.istore_n 2, 1) := by decide +kernel
theorem dX5_steps_6 : decode cX5_steps 6 = .ok (.aload_n 0, 1) := by decide +kernel
theorem dX5_steps_7 : decode cX5_steps 7 = .ok (.invokevirtual 130, 3) := by decide +kernel
theorem dX5_steps_10 : decode cX5_steps 10 = .ok (.aload_n 0, 1) := by decide +kernel
theorem dX5_steps_11 : decode cX5_steps 11 = .ok (.invokevirtual 133, 3) := by decide +kernel
theorem dX5_steps_14 : decode cX5_steps 14 = .ok (.aload_n 0, 1) := by decide +kernel
theorem dX5_steps_15 : decode cX5_steps 15 = .ok (.getfield 19, 3) := by decide +kernel
theorem dX5_steps_18 : decode cX5_steps 18 = .ok (.iload_n 2, 1) := by decide +kernel
theorem dX5_steps_19 : decode cX5_steps 19 = .ok (.invokevirtual 65, 3) := by decide +kernel
theorem dX5_steps_22 : decode cX5_steps 22 = .ok (.ireturn, 1) := by decide +kernel
set_option maxRecDepth 20000 in
theorem ggX5_hint_X5_checkedForm : GoodIn wsX5_hint wsX5_checkedForm := goodIn_ca (goodIn_r _ [9, 10, 11, 12, 13, 14, 15, 16, 17, 18, 19, 20, 21, 22, 23, 24, 25, 26, 27, 28, 179, 180, 181, 182, 183, 184] (by decide +kernel) (by decide +kernel)) (goodIn_sub (fun _ h => List.mem_cons_of_mem _ (List.mem_append_left _ (List.mem_append_right _ h))) (by decide +kernel))
set_option maxRecDepth 20000 in
theorem gX5_hint_X5_checkedForm : GoodIn wsX5_hint (wsV RX5 37 RX5 yX5_checkedForm wsX5_checkedForm) := goodIn_app (goodIn_of _ (by decide +kernel)) ggX5_hint_X5_checkedForm
set_option maxRecDepth 20000 in
theorem ggX5_hint_X5_requireSomeRight : GoodIn wsX5_hint wsX5_requireSomeRight := goodIn_ca (goodIn_r _ [32, 33, 34, 3, 35, 36, 37, 38, 39, 40, 179, 180, 181, 182, 185, 186, 187, 188, 189, 190, 191, 192, 193, 194, 195] (by decide +kernel) (by decide +kernel)) (goodIn_sub (fun _ h => List.mem_cons_of_mem _ (List.mem_append_right _ h)) (by decide +kernel))
set_option maxRecDepth 20000 in
theorem gX5_hint_X5_requireSomeRight : GoodIn wsX5_hint (wsV RX5 130 RX5 yX5_requireSomeRight wsX5_requireSomeRight) := goodIn_app (goodIn_of _ (by decide +kernel)) ggX5_hint_X5_requireSomeRight
set_option maxRecDepth 20000 in
theorem ggX5_hint_X0_hasEndedRight : GoodIn wsX5_hint wsX0_hasEndedRight := goodIn_r _ [44, 45, 46, 20, 21, 22, 23, 24, 25, 26, 27, 28, 185, 186, 187, 188, 189, 190, 191, 192, 193, 194, 195, 184] (by decide +kernel) (by decide +kernel)
set_option maxRecDepth 20000 in
theorem gX5_hint_X0_hasEndedRight : GoodIn wsX5_hint (wsV RX5 119 RX0 yX0_hasEndedRight wsX0_hasEndedRight) := goodIn_app (goodIn_of _ (by decide +kernel)) ggX5_hint_X0_hasEndedRight
set_option maxRecDepth 20000 in
theorem ggX5_hint_X5_findSteps : GoodIn wsX5_hint wsX5_findSteps := goodIn_r _ [50, 51, 3, 12, 52, 53, 54, 55, 56, 57, 58, 59, 60, 61, 22, 62, 24, 63, 64, 65, 66, 67, 68, 69, 38, 70, 71, 72, 73, 74, 75, 76, 46, 20, 21, 23, 25, 26, 27, 28, 41, 42, 43, 44, 45, 77, 78, 79, 80, 81, 82, 83, 84, 85, 86, 87, 88, 89, 90, 91, 92, 93, 94, 95, 16, 96, 18, 19, 97, 98, 99, 100, 101, 102, 103, 104, 105, 106, 107, 108, 109, 110, 111, 112, 14, 15, 17, 113, 179, 180, 181, 182, 196, 197, 184, 185, 186, 187, 188, 189, 190, 191, 192, 193, 194, 195, 183] (by decide +kernel) (by decide +kernel)
set_option maxRecDepth 20000 in
theorem gX5_hint_X5_findSteps : GoodIn wsX5_hint (wsV RX5 133 RX5 yX5_findSteps wsX5_findSteps) := goodIn_app (goodIn_of _ (by decide +kernel)) ggX5_hint_X5_findSteps
set_option maxRecDepth 20000 in
theorem ggX5_hint_X4_find : GoodIn wsX5_hint wsX4_find := goodIn_r _ [118, 119, 120, 60, 61, 22, 62, 24, 63, 64, 65, 66, 121, 122, 123, 117, 124, 125, 126, 127, 68, 69, 38, 70, 71, 128, 73, 74, 75, 76, 46, 20, 21, 23, 25, 26, 27, 28, 129, 130, 131, 132, 45, 133, 82, 83, 84, 134, 135, 136, 137, 138, 139, 140, 141, 142, 143, 144, 145, 146, 147, 148, 149, 150, 151, 152, 153, 154, 155, 156, 157, 158, 159, 160, 161, 162, 163, 164, 198, 199, 184, 185, 186, 187, 188, 189, 190, 191, 192, 193, 194, 195] (by decide +kernel) (by decide +kernel)
set_option maxRecDepth 20000 in
theorem gX5_hint_X4_find : GoodIn wsX5_hint (wsV RX5 123 RX4 yX4_find wsX4_find) := goodIn_app (goodIn_of _ (by decide +kernel)) ggX5_hint_X4_find
set_option maxRecDepth 20000 in
theorem ggX5_hint_X5_stepNearer : GoodIn wsX5_hint wsX5_stepNearer := goodIn_r _ [168, 51, 12, 4, 169, 170, 171, 55, 172, 57, 113, 20, 21, 22, 23, 24, 25, 26, 27, 28, 173, 106, 16, 107, 174, 109, 110, 111, 13, 14, 15, 17, 18, 19, 175, 176, 177, 117, 178, 119, 149, 179, 180, 181, 182, 196, 197, 184, 183, 198, 199] (by decide +kernel) (by decide +kernel)
set_option maxRecDepth 20000 in
theorem gX5_hint_X5_stepNearer : GoodIn wsX5_hint (wsV RX5 138 RX5 yX5_stepNearer wsX5_stepNearer) := goodIn_app (goodIn_of _ (by decide +kernel)) ggX5_hint_X5_stepNearer
theorem dX5_hint_0 : decode cX5_hint 0 = .ok (.aload_n 0, 1) := by decide +kernel
theorem dX5_hint_1 : decode cX5_hint 1 = .ok (.iload_n 1, 1) := by decide +kernel
theorem dX5_hint_2 : decode cX5_hint 2 = .ok (.invokevirtual 37, 3) := by decide +kernel
theorem dX5_hint_5 : decode cX5_hint 5 = .ok (.istore_n 2, 1) := by decide +kernel
theorem dX5_hint_6 : decode cX5_hint 6 = .ok (.aload_n 0, 1) := by decide +kernel
theorem dX5_hint_7 : decode cX5_hint 7 = .ok (.invokevirtual 130, 3) := by decide +kernel
theorem dX5_hint_10 : decode cX5_hint 10 = .ok (.aload_n 0, 1) := by decide +kernel
theorem dX5_hint_11 : decode cX5_hint 11 = .ok (.getfield 26, 3) := by decide +kernel
theorem dX5_hint_14 : decode cX5_hint 14 = .ok (.iload_n 2, 1) := by decide +kernel
theorem dX5_hint_15 : decode cX5_hint 15 = .ok (.invokevirtual 119, 3) := by decide +kernel
theorem dX5_hint_18 : decode cX5_hint 18 = .ok (.ifCond .eq 13, 3) := by decide +kernel
theorem dX5_hint_21 : decode cX5_hint 21 = .ok (.new 86, 3) := by decide +kernel
theorem dX5_hint_24 : decode cX5_hint 24 = .ok (.dup, 1) := by decide +kernel
theorem dX5_hint_25 : decode cX5_hint 25 = .ok (.ldc 136, 2) := by decide +kernel
theorem dX5_hint_27 : decode cX5_hint 27 = .ok (.invokespecial 90, 3) := by decide +kernel
theorem dX5_hint_30 : decode cX5_hint 30 = .ok (.athrow, 1) := by decide +kernel
theorem dX5_hint_31 : decode cX5_hint 31 = .ok (.aload_n 0, 1) := by decide +kernel
theorem dX5_hint_32 : decode cX5_hint 32 = .ok (.invokevirtual 133, 3) := by decide +kernel
theorem dX5_hint_35 : decode cX5_hint 35 = .ok (.aload_n 0, 1) := by decide +kernel
theorem dX5_hint_36 : decode cX5_hint 36 = .ok (.getfield 33, 3) := by decide +kernel
theorem dX5_hint_39 : decode cX5_hint 39 = .ok (.aload_n 0, 1) := by decide +kernel
theorem dX5_hint_40 : decode cX5_hint 40 = .ok (.getfield 26, 3) := by decide +kernel
theorem dX5_hint_43 : decode cX5_hint 43 = .ok (.invokevirtual 123, 3) := by decide +kernel
theorem dX5_hint_46 : decode cX5_hint 46 = .ok (.aload_n 0, 1) := by decide +kernel
theorem dX5_hint_47 : decode cX5_hint 47 = .ok (.iload_n 2, 1) := by decide +kernel
theorem dX5_hint_48 : decode cX5_hint 48 = .ok (.invokevirtual 138, 3) := by decide +kernel
theorem dX5_hint_51 : decode cX5_hint 51 = .ok (.ireturn, 1) := by decide +kernel
set_option maxRecDepth 20000 in
theorem ggX5_lead_X5_checkedForm : GoodIn wsX5_lead wsX5_checkedForm := goodIn_ca (goodIn_r _ [8, 9, 10, 11, 12, 13, 14, 15, 16, 17, 18, 19, 20, 21, 22, 23, 24, 25, 26, 27, 177, 178, 179, 180, 181, 182] (by decide +kernel) (by decide +kernel)) (goodIn_sub (fun _ h => List.mem_cons_of_mem _ (List.mem_append_left _ (List.mem_append_right _ h))) (by decide +kernel))
set_option maxRecDepth 20000 in
theorem gX5_lead_X5_checkedForm : GoodIn wsX5_lead (wsV RX5 37 RX5 yX5_checkedForm wsX5_checkedForm) := goodIn_app (goodIn_of _ (by decide +kernel)) ggX5_lead_X5_checkedForm
set_option maxRecDepth 20000 in
theorem ggX5_lead_X5_requireSomeRight : GoodIn wsX5_lead wsX5_requireSomeRight := goodIn_ca (goodIn_r _ [31, 32, 33, 2, 34, 35, 36, 37, 38, 39, 177, 178, 179, 180, 183, 184, 185, 186, 187, 188, 189, 190, 191, 192, 193] (by decide +kernel) (by decide +kernel)) (goodIn_sub (fun _ h => List.mem_cons_of_mem _ (List.mem_append_right _ h)) (by decide +kernel))
set_option maxRecDepth 20000 in
theorem gX5_lead_X5_requireSomeRight : GoodIn wsX5_lead (wsV RX5 130 RX5 yX5_requireSomeRight wsX5_requireSomeRight) := goodIn_app (goodIn_of _ (by decide +kernel)) ggX5_lead_X5_requireSomeRight
set_option maxRecDepth 20000 in
theorem ggX5_lead_X5_findSteps : GoodIn wsX5_lead wsX5_findSteps := goodIn_r _ [43, 3, 2, 11, 44, 45, 46, 47, 48, 49, 50, 51, 52, 53, 21, 54, 23, 55, 56, 57, 58, 59, 60, 61, 37, 62, 63, 64, 65, 66, 67, 68, 69, 19, 20, 22, 24, 25, 26, 27, 70, 71, 72, 73, 74, 75, 76, 77, 78, 79, 80, 81, 82, 83, 84, 85, 86, 87, 88, 89, 90, 91, 92, 93, 15, 94, 17, 18, 95, 96, 97, 98, 99, 100, 101, 102, 103, 104, 105, 106, 107, 108, 109, 110, 13, 14, 16, 111, 177, 178, 179, 180, 194, 195, 182, 183, 184, 185, 186, 187, 188, 189, 190, 191, 192, 193, 181] (by decide +kernel) (by decide +kernel)
set_option maxRecDepth 20000 in
theorem gX5_lead_X5_findSteps : GoodIn wsX5_lead (wsV RX5 133 RX5 yX5_findSteps wsX5_findSteps) := goodIn_app (goodIn_of _ (by decide +kernel)) ggX5_lead_X5_findSteps
set_option maxRecDepth 20000 in
theorem ggX5_lead_X4_find : GoodIn wsX5_lead wsX4_find := goodIn_r _ [116, 117, 118, 52, 53, 21, 54, 23, 55, 56, 57, 58, 119, 120, 121, 115, 122, 123, 124, 125, 60, 61, 37, 62, 63, 126, 65, 66, 67, 68, 69, 19, 20, 22, 24, 25, 26, 27, 127, 128, 129, 130, 74, 131, 80, 81, 82, 132, 133, 134, 135, 136, 137, 138, 139, 140, 141, 142, 143, 144, 145, 146, 147, 148, 149, 150, 151, 152, 153, 154, 155, 156, 157, 158, 159, 160, 161, 162, 196, 197, 182, 183, 184, 185, 186, 187, 188, 189, 190, 191, 192, 193] (by decide +kernel) (by decide +kernel)
set_option maxRecDepth 20000 in
theorem gX5_lead_X4_find : GoodIn wsX5_lead (wsV RX5 123 RX4 yX4_find wsX4_find) := goodIn_app (goodIn_of _ (by decide +kernel)) ggX5_lead_X4_find
set_option maxRecDepth 20000 in
theorem ggX5_lead_X3_editsKnown : GoodIn wsX5_lead wsX3_editsKnown := goodIn_r _ [166, 49, 111, 19, 20, 21, 22, 23, 24, 25, 26, 27, 194, 195, 182] (by decide +kernel) (by decide +kernel)
set_option maxRecDepth 20000 in
theorem gX5_lead_X3_editsKnown : GoodIn wsX5_lead (wsV RX5 65 RX3 yX3_editsKnown wsX3_editsKnown) := goodIn_app (goodIn_of _ (by decide +kernel)) ggX5_lead_X3_editsKnown
set_option maxRecDepth 20000 in
theorem ggX5_lead_X5_stepNearer : GoodIn wsX5_lead wsX5_stepNearer := goodIn_r _ [170, 3, 11, 1, 163, 164, 165, 47, 166, 49, 111, 19, 20, 21, 22, 23, 24, 25, 26, 27, 171, 104, 15, 105, 172, 107, 108, 109, 12, 13, 14, 16, 17, 18, 173, 174, 175, 115, 176, 117, 147, 177, 178, 179, 180, 194, 195, 182, 181, 196, 197] (by decide +kernel) (by decide +kernel)
set_option maxRecDepth 20000 in
theorem gX5_lead_X5_stepNearer : GoodIn wsX5_lead (wsV RX5 138 RX5 yX5_stepNearer wsX5_stepNearer) := goodIn_app (goodIn_of _ (by decide +kernel)) ggX5_lead_X5_stepNearer
theorem dX5_lead_0 : decode cX5_lead 0 = .ok (.aload_n 0, 1) := by decide +kernel
theorem dX5_lead_1 : decode cX5_lead 1 = .ok (.iload_n 1, 1) := by decide +kernel
theorem dX5_lead_2 : decode cX5_lead 2 = .ok (.invokevirtual 37, 3) := by decide +kernel
theorem dX5_lead_5 : decode cX5_lead 5 = .ok (.istore_n 2, 1) := by decide +kernel
theorem dX5_lead_6 : decode cX5_lead 6 = .ok (.aload_n 0, 1) := by decide +kernel
theorem dX5_lead_7 : decode cX5_lead 7 = .ok (.invokevirtual 130, 3) := by decide +kernel
theorem dX5_lead_10 : decode cX5_lead 10 = .ok (.aload_n 0, 1) := by decide +kernel
theorem dX5_lead_11 : decode cX5_lead 11 = .ok (.invokevirtual 133, 3) := by decide +kernel
theorem dX5_lead_14 : decode cX5_lead 14 = .ok (.aload_n 0, 1) := by decide +kernel
theorem dX5_lead_15 : decode cX5_lead 15 = .ok (.getfield 33, 3) := by decide +kernel
theorem dX5_lead_18 : decode cX5_lead 18 = .ok (.aload_n 0, 1) := by decide +kernel
theorem dX5_lead_19 : decode cX5_lead 19 = .ok (.getfield 26, 3) := by decide +kernel
theorem dX5_lead_22 : decode cX5_lead 22 = .ok (.invokevirtual 123, 3) := by decide +kernel
theorem dX5_lead_25 : decode cX5_lead 25 = .ok (.aload_n 0, 1) := by decide +kernel
theorem dX5_lead_26 : decode cX5_lead 26 = .ok (.getfield 19, 3) := by decide +kernel
theorem dX5_lead_29 : decode cX5_lead 29 = .ok (.iload_n 2, 1) := by decide +kernel
theorem dX5_lead_30 : decode cX5_lead 30 = .ok (.invokevirtual 65, 3) := by decide +kernel
theorem dX5_lead_33 : decode cX5_lead 33 = .ok (.istore_n 3, 1) := by decide +kernel
theorem dX5_lead_34 : decode cX5_lead 34 = .ok (.iload_n 3, 1) := by decide +kernel
theorem dX5_lead_35 : decode cX5_lead 35 = .ok (.ifCond .le 15, 3) := by decide +kernel
theorem dX5_lead_38 : decode cX5_lead 38 = .ok (.aload_n 0, 1) := by decide +kernel
theorem dX5_lead_39 : decode cX5_lead 39 = .ok (.iload_n 2, 1) := by decide +kernel
theorem dX5_lead_40 : decode cX5_lead 40 = .ok (.invokevirtual 138, 3) := by decide +kernel
theorem dX5_lead_43 : decode cX5_lead 43 = .ok (.istore_n 2, 1) := by decide +kernel
theorem dX5_lead_44 : decode cX5_lead 44 = .ok (.iinc 3 (-1), 3) := by decide +kernel
theorem dX5_lead_47 : decode cX5_lead 47 = .ok (.goto (-13), 3) := by decide +kernel
theorem dX5_lead_50 : decode cX5_lead 50 = .ok (.iload_n 2, 1) := by decide +kernel
theorem dX5_lead_51 : decode cX5_lead 51 = .ok (.ireturn, 1) := by decide +kernel
set_option maxRecDepth 20000 in
theorem ggX5_nearest_X5_checkedForm : GoodIn wsX5_nearest wsX5_checkedForm := goodIn_ca (goodIn_r _ [11, 12, 13, 5, 14, 15, 16, 17, 18, 19, 20, 21, 22, 23, 24, 25, 26, 27, 28, 29, 87, 88, 89, 90, 91, 92] (by decide +kernel) (by decide +kernel)) (goodIn_sub (fun _ h => List.mem_cons_of_mem _ (List.mem_append_right _ h)) (by decide +kernel))
set_option maxRecDepth 20000 in
theorem gX5_nearest_X5_checkedForm : GoodIn wsX5_nearest (wsV RX5 37 RX5 yX5_checkedForm wsX5_checkedForm) := goodIn_app (goodIn_of _ (by decide +kernel)) ggX5_nearest_X5_checkedForm
set_option maxRecDepth 20000 in
theorem ggX5_nearest_X0_metCount : GoodIn wsX5_nearest wsX0_metCount := goodIn_r _ [34, 35, 93, 94, 95, 96, 97, 98, 99, 100, 101, 102, 103] (by decide +kernel) (by decide +kernel)
set_option maxRecDepth 20000 in
theorem gX5_nearest_X0_metCount : GoodIn wsX5_nearest (wsV RX5 94 RX0 yX0_metCount wsX0_metCount) := goodIn_app (goodIn_of _ (by decide +kernel)) ggX5_nearest_X0_metCount
set_option maxRecDepth 20000 in
theorem ggX5_nearest_X3_goOutward : GoodIn wsX5_nearest wsX3_goOutward := goodIn_r _ [40, 41, 42, 43, 44, 39, 45, 46, 47, 48, 49, 50, 23, 51, 25, 52, 53, 54, 55, 56, 57, 58, 59, 60, 61, 62, 63, 26, 27, 28, 29, 64, 21, 22, 24, 65, 66, 67, 68, 69, 70, 17, 71, 72, 73, 74, 75, 76, 15, 16, 18, 19, 20, 104, 105, 92, 91] (by decide +kernel) (by decide +kernel)
set_option maxRecDepth 20000 in
theorem gX5_nearest_X3_goOutward : GoodIn wsX5_nearest (wsV RX5 61 RX3 yX3_goOutward wsX3_goOutward) := goodIn_app (goodIn_of _ (by decide +kernel)) ggX5_nearest_X3_goOutward
