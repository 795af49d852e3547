set_option maxRecDepth 20000 in
theorem ggX5_init_X1_init : GoodIn wsX5_init wsX1_init := goodIn_r _ [22, 23, 2, 3, 24, 25, 26, 27, 28, 29, 30, 31, 32, 33, 34, 35, 6, 36, 37, 38, 39, 40, 41, 42, 43, 44, 45, 46, 47, 48, 49, 50, 51, 52, 53, 54, 55, 56, 57, 58, 59, 109, 89] (by decide +kernel) (by decide +kernel)
set_option maxRecDepth 20000 in
theorem gX5_init_X1_init : GoodIn wsX5_init (wsX1_init) := ggX5_init_X1_init
set_option maxRecDepth 20000 in
theorem ggX5_init_X3_init : GoodIn wsX5_init wsX3_init := goodIn_r _ [62, 63, 2, 3, 64, 25, 26, 65, 66, 67, 29, 30, 31, 32, 33, 109, 94, 95] (by decide +kernel) (by decide +kernel)
set_option maxRecDepth 20000 in
theorem gX5_init_X3_init : GoodIn wsX5_init (wsX3_init) := ggX5_init_X3_init
set_option maxRecDepth 20000 in
theorem ggX5_init_X0_init : GoodIn wsX5_init wsX0_init := goodIn_r _ [70, 71, 2, 3, 72, 25, 26, 73, 74, 75, 76, 77, 78, 79, 80, 29, 30, 31, 32, 33, 109, 96, 97, 98, 99, 100, 101, 102, 103, 104, 105, 106] (by decide +kernel) (by decide +kernel)
set_option maxRecDepth 20000 in
theorem gX5_init_X0_init : GoodIn wsX5_init (wsX0_init) := ggX5_init_X0_init
set_option maxRecDepth 20000 in
theorem ggX5_init_X4_init : GoodIn wsX5_init wsX4_init := goodIn_r _ [83, 84, 2, 3, 85, 25, 26, 86, 87, 88, 29, 30, 31, 32, 33, 109, 107, 108] (by decide +kernel) (by decide +kernel)
set_option maxRecDepth 20000 in
theorem gX5_init_X4_init : GoodIn wsX5_init (wsX4_init) := ggX5_init_X4_init
theorem dX5_init_0 : decode cX5_init 0 = .ok (.aload_n 0, 1) := by decide +kernel
theorem dX5_init_1 : decode cX5_init 1 = .ok (.invokespecial 1, 3) := by decide +kernel
theorem dX5_init_4 : decode cX5_init 4 = .ok (.aload_n 0, 1) := by decide +kernel
theorem dX5_init_5 : decode cX5_init 5 = .ok (.new 7, 3) := by decide +kernel
theorem dX5_init_8 : decode cX5_init 8 = .ok (.dup, 1) := by decide +kernel
theorem dX5_init_9 : decode cX5_init 9 = .ok (.invokespecial 9, 3) := by decide +kernel
theorem dX5_init_12 : decode cX5_init 12 = .ok (.putfield 10, 3) := by decide +kernel
theorem dX5_init_15 : decode cX5_init 15 = .ok (.aload_n 0, 1) := by decide +kernel
theorem dX5_init_16 : decode cX5_init 16 = .ok (.new 16, 3) := by decide +kernel
theorem dX5_init_19 : decode cX5_init 19 = .ok (.dup, 1) := by decide +kernel
theorem dX5_init_20 : decode cX5_init 20 = .ok (.invokespecial 18, 3) := by decide +kernel
theorem dX5_init_23 : decode cX5_init 23 = .ok (.putfield 19, 3) := by decide +kernel
theorem dX5_init_26 : decode cX5_init 26 = .ok (.aload_n 0, 1) := by decide +kernel
theorem dX5_init_27 : decode cX5_init 27 = .ok (.new 23, 3) := by decide +kernel
theorem dX5_init_30 : decode cX5_init 30 = .ok (.dup, 1) := by decide +kernel
theorem dX5_init_31 : decode cX5_init 31 = .ok (.invokespecial 25, 3) := by decide +kernel
theorem dX5_init_34 : decode cX5_init 34 = .ok (.putfield 26, 3) := by decide +kernel
theorem dX5_init_37 : decode cX5_init 37 = .ok (.aload_n 0, 1) := by decide +kernel
theorem dX5_init_38 : decode cX5_init 38 = .ok (.new 30, 3) := by decide +kernel
theorem dX5_init_41 : decode cX5_init 41 = .ok (.dup, 1) := by decide +kernel
theorem dX5_init_42 : decode cX5_init 42 = .ok (.invokespecial 32, 3) := by decide +kernel
theorem dX5_init_45 : decode cX5_init 45 = .ok (.putfield 33, 3) := by decide +kernel
theorem dX5_init_48 : decode cX5_init 48 = .ok (.return_, 1) := by decide +kernel
set_option maxRecDepth 20000 in
theorem ggX5_form_X5_checkedForm : GoodIn wsX5_form wsX5_checkedForm := goodIn_ca (goodIn_r _ [5, 6, 7, 8, 9, 10, 11, 12, 13, 14, 15, 16, 17, 18, 19, 20, 21, 22, 23, 24, 25, 26] (by decide +kernel) (by decide +kernel)) (goodIn_sub (fun _ h => List.mem_cons_of_mem _ (List.mem_append_right _ h)) (by decide +kernel))
set_option maxRecDepth 20000 in
theorem gX5_form_X5_checkedForm : GoodIn wsX5_form (wsV RX5 37 RX5 yX5_checkedForm wsX5_checkedForm) := goodIn_app (goodIn_of _ (by decide +kernel)) ggX5_form_X5_checkedForm
theorem dX5_form_0 : decode cX5_form 0 = .ok (.aload_n 0, 1) := by decide +kernel
theorem dX5_form_1 : decode cX5_form 1 = .ok (.iload_n 1, 1) := by decide +kernel
theorem dX5_form_2 : decode cX5_form 2 = .ok (.invokevirtual 37, 3) := by decide +kernel
theorem dX5_form_5 : decode cX5_form 5 = .ok (.ireturn, 1) := by decide +kernel
set_option maxRecDepth 20000 in
theorem ggX5_edit_X5_checkedForm : GoodIn wsX5_edit wsX5_checkedForm := goodIn_ca (goodIn_r _ [10, 1, 2, 5, 11, 12, 13, 14, 15, 16, 17, 18, 19, 20, 21, 22, 34, 35, 36, 37, 38, 39] (by decide +kernel) (by decide +kernel)) (goodIn_sub (fun _ h => List.mem_cons_of_mem _ (List.mem_append_left _ (List.mem_append_right _ h))) (by decide +kernel))
set_option maxRecDepth 20000 in
theorem gX5_edit_X5_checkedForm : GoodIn wsX5_edit (wsV RX5 37 RX5 yX5_checkedForm wsX5_checkedForm) := goodIn_app (goodIn_of _ (by decide +kernel)) ggX5_edit_X5_checkedForm
set_option maxRecDepth 20000 in
theorem ggX5_edit_X1_behind : GoodIn wsX5_edit wsX1_behind := goodIn_r _ [26, 27, 28, 14, 29, 30, 31, 32, 33, 12, 13, 15, 16, 17, 18, 19, 20, 21, 22, 38, 39] (by decide +kernel) (by decide +kernel)
set_option maxRecDepth 20000 in
theorem gX5_edit_X1_behind : GoodIn wsX5_edit (wsV RX5 53 RX1 yX1_behind wsX1_behind) := goodIn_app (goodIn_of _ (by decide +kernel)) ggX5_edit_X1_behind
theorem dX5_edit_0 : decode cX5_edit 0 = .ok (.aload_n 0, 1) := by decide +kernel
theorem dX5_edit_1 : decode cX5_edit 1 = .ok (.iload_n 1, 1) := by decide +kernel
theorem dX5_edit_2 : decode cX5_edit 2 = .ok (.invokevirtual 37, 3) := by decide +kernel
theorem dX5_edit_5 : decode cX5_edit 5 = .ok (.istore 4, 2) := by decide +kernel
theorem dX5_edit_7 : decode cX5_edit 7 = .ok (.iload_n 2, 1) := by decide +kernel
theorem dX5_edit_8 : decode cX5_edit 8 = .ok (.ifCond .lt 8, 3) := by decide +kernel
theorem dX5_edit_11 : decode cX5_edit 11 = .ok (.iload_n 2, 1) := by decide +kernel
theorem dX5_edit_12 : decode cX5_edit 12 = .ok (.iconst 4, 1) := by decide +kernel
theorem dX5_edit_13 : decode cX5_edit 13 = .ok (.if_icmp .lt 13, 3) := by decide +kernel
theorem dX5_edit_16 : decode cX5_edit 16 = .ok (.new 41, 3) := by decide +kernel
theorem dX5_edit_19 : decode cX5_edit 19 = .ok (.dup, 1) := by decide +kernel
theorem dX5_edit_20 : decode cX5_edit 20 = .ok (.ldc 43, 2) := by decide +kernel
theorem dX5_edit_22 : decode cX5_edit 22 = .ok (.invokespecial 45, 3) := by decide +kernel
theorem dX5_edit_25 : decode cX5_edit 25 = .ok (.athrow, 1) := by decide +kernel
theorem dX5_edit_26 : decode cX5_edit 26 = .ok (.iload_n 3, 1) := by decide +kernel
theorem dX5_edit_27 : decode cX5_edit 27 = .ok (.ifCond .lt 9, 3) := by decide +kernel
theorem dX5_edit_30 : decode cX5_edit 30 = .ok (.iload_n 3, 1) := by decide +kernel
theorem dX5_edit_31 : decode cX5_edit 31 = .ok (.bipush 6, 2) := by decide +kernel
theorem dX5_edit_33 : decode cX5_edit 33 = .ok (.if_icmp .lt 13, 3) := by decide +kernel
theorem dX5_edit_36 : decode cX5_edit 36 = .ok (.new 48, 3) := by decide +kernel
theorem dX5_edit_39 : decode cX5_edit 39 = .ok (.dup, 1) := by decide +kernel
theorem dX5_edit_40 : decode cX5_edit 40 = .ok (.ldc 50, 2) := by decide +kernel
theorem dX5_edit_42 : decode cX5_edit 42 = .ok (.invokespecial 52, 3) := by decide +kernel
theorem dX5_edit_45 : decode cX5_edit 45 = .ok (.athrow, 1) := by decide +kernel
theorem dX5_edit_46 : decode cX5_edit 46 = .ok (.aload_n 0, 1) := by decide +kernel
theorem dX5_edit_47 : decode cX5_edit 47 = .ok (.getfield 10, 3) := by decide +kernel
theorem dX5_edit_50 : decode cX5_edit 50 = .ok (.iload 4, 2) := by decide +kernel
theorem dX5_edit_52 : decode cX5_edit 52 = .ok (.iload_n 2, 1) := by decide +kernel
theorem dX5_edit_53 : decode cX5_edit 53 = .ok (.iload_n 3, 1) := by decide +kernel
theorem dX5_edit_54 : decode cX5_edit 54 = .ok (.invokevirtual 53, 3) := by decide +kernel
theorem dX5_edit_57 : decode cX5_edit 57 = .ok (.ireturn, 1) := by decide +kernel
set_option maxRecDepth 20000 in
theorem ggX5_neighbours_X5_checkedForm : GoodIn wsX5_neighbours wsX5_checkedForm := goodIn_ca (goodIn_r _ [7, 8, 9, 2, 10, 11, 12, 13, 14, 15, 16, 17, 18, 19, 20, 21, 63, 64, 65, 66, 67, 68] (by decide +kernel) (by decide +kernel)) (goodIn_sub (fun _ h => List.mem_cons_of_mem _ (List.mem_append_right _ h)) (by decide +kernel))
set_option maxRecDepth 20000 in
theorem gX5_neighbours_X5_checkedForm : GoodIn wsX5_neighbours (wsV RX5 37 RX5 yX5_checkedForm wsX5_checkedForm) := goodIn_app (goodIn_of _ (by decide +kernel)) ggX5_neighbours_X5_checkedForm
set_option maxRecDepth 20000 in
theorem ggX5_neighbours_X3_countBehindOneEdit : GoodIn wsX5_neighbours wsX3_countBehindOneEdit := goodIn_r _ [26, 27, 28, 29, 25, 30, 31, 32, 33, 34, 35, 19, 36, 21, 37, 38, 39, 40, 41, 42, 43, 44, 45, 46, 47, 48, 49, 50, 51, 52, 53, 54, 55, 13, 56, 57, 58, 59, 60, 61, 11, 12, 14, 15, 16, 17, 18, 20, 62, 69, 70, 68, 67] (by decide +kernel) (by decide +kernel)
set_option maxRecDepth 20000 in
theorem gX5_neighbours_X3_countBehindOneEdit : GoodIn wsX5_neighbours (wsV RX5 57 RX3 yX3_countBehindOneEdit wsX3_countBehindOneEdit) := goodIn_app (goodIn_of _ (by decide +kernel)) ggX5_neighbours_X3_countBehindOneEdit
theorem dX5_neighbours_0 : decode cX5_neighbours 0 = .ok (.aload_n 0, 1) := by decide +kernel
theorem dX5_neighbours_1 : decode cX5_neighbours 1 = .ok (.getfield 19, 3) := by decide +kernel
theorem dX5_neighbours_4 : decode cX5_neighbours 4 = .ok (.aload_n 0, 1) := by decide +kernel
theorem dX5_neighbours_5 : decode cX5_neighbours 5 = .ok (.getfield 10, 3) := by decide +kernel
theorem dX5_neighbours_8 : decode cX5_neighbours 8 = .ok (.aload_n 0, 1) := by decide +kernel
theorem dX5_neighbours_9 : decode cX5_neighbours 9 = .ok (.iload_n 1, 1) := by decide +kernel
theorem dX5_neighbours_10 : decode cX5_neighbours 10 = .ok (.invokevirtual 37, 3) := by decide +kernel
theorem dX5_neighbours_13 : decode cX5_neighbours 13 = .ok (.invokevirtual 57, 3) := by decide +kernel
theorem dX5_neighbours_16 : decode cX5_neighbours 16 = .ok (.ireturn, 1) := by decide +kernel
set_option maxRecDepth 20000 in
theorem ggX5_distance_X5_checkedForm : GoodIn wsX5_distance wsX5_checkedForm := goodIn_ca (goodIn_r _ [7, 8, 9, 2, 10, 11, 12, 13, 14, 15, 16, 17, 18, 19, 20, 21, 67, 68, 69, 70, 71, 72] (by decide +kernel) (by decide +kernel)) (goodIn_sub (fun _ h => List.mem_cons_of_mem _ (List.mem_append_right _ h)) (by decide +kernel))
set_option maxRecDepth 20000 in
theorem gX5_distance_X5_checkedForm : GoodIn wsX5_distance (wsV RX5 37 RX5 yX5_checkedForm wsX5_checkedForm) := goodIn_app (goodIn_of _ (by decide +kernel)) ggX5_distance_X5_checkedForm
set_option maxRecDepth 20000 in
theorem ggX5_distance_X3_goOutward : GoodIn wsX5_distance wsX3_goOutward := goodIn_r _ [26, 27, 28, 29, 30, 25, 31, 32, 33, 34, 35, 36, 19, 37, 21, 38, 39, 40, 41, 42, 43, 44, 45, 46, 47, 48, 49, 50, 17, 18, 20, 51, 52, 53, 54, 55, 56, 13, 57, 58, 59, 60, 61, 62, 11, 12, 14, 15, 16, 73, 74, 72, 71] (by decide +kernel) (by decide +kernel)
set_option maxRecDepth 20000 in
theorem gX5_distance_X3_goOutward : GoodIn wsX5_distance (wsV RX5 61 RX3 yX3_goOutward wsX3_goOutward) := goodIn_app (goodIn_of _ (by decide +kernel)) ggX5_distance_X3_goOutward
set_option maxRecDepth 20000 in
theorem ggX5_distance_X3_editsKnown : GoodIn wsX5_distance wsX3_editsKnown := goodIn_r _ [66, 32, 50, 17, 18, 19, 20, 21, 73, 74, 72] (by decide +kernel) (by decide +kernel)
set_option maxRecDepth 20000 in
theorem gX5_distance_X3_editsKnown : GoodIn wsX5_distance (wsV RX5 65 RX3 yX3_editsKnown wsX3_editsKnown) := goodIn_app (goodIn_of _ (by decide +kernel)) ggX5_distance_X3_editsKnown
theorem dX5_distance_0 : decode cX5_distance 0 = .ok (.aload_n 0, 1) := by decide +kernel
theorem dX5_distance_1 : decode cX5_distance 1 = .ok (.iload_n 1, 1) := by decide +kernel
theorem dX5_distance_2 : decode cX5_distance 2 = .ok (.invokevirtual 37, 3) := by decide +kernel
theorem dX5_distance_5 : decode cX5_distance 5 = .ok (.istore_n 3, 1) := by decide +kernel
theorem dX5_distance_6 : decode cX5_distance 6 = .ok (.aload_n 0, 1) := by decide +kernel
theorem dX5_distance_7 : decode cX5_distance 7 = .ok (.iload_n 2, 1) := by decide +kernel
theorem dX5_distance_8 : decode cX5_distance 8 = .ok (.invokevirtual 37, 3) := by decide +kernel
theorem dX5_distance_11 : decode cX5_distance 11 = .ok (.istore 4, 2) := by decide +kernel
theorem dX5_distance_13 : decode cX5_distance 13 = .ok (.aload_n 0, 1) := by decide +kernel
theorem dX5_distance_14 : decode cX5_distance 14 = .ok (.getfield 19, 3) := by decide +kernel
theorem dX5_distance_17 : decode cX5_distance 17 = .ok (.aload_n 0, 1) := by decide +kernel
theorem dX5_distance_18 : decode cX5_distance 18 = .ok (.getfield 10, 3) := by decide +kernel
theorem dX5_distance_21 : decode cX5_distance 21 = .ok (.iload_n 3, 1) := by decide +kernel
theorem dX5_distance_22 : decode cX5_distance 22 = .ok (.invokevirtual 61, 3) := by decide +kernel
theorem dX5_distance_25 : decode cX5_distance 25 = .ok (.aload_n 0, 1) := by decide +kernel
theorem dX5_distance_26 : decode cX5_distance 26 = .ok (.getfield 19, 3) := by decide +kernel
theorem dX5_distance_29 : decode cX5_distance 29 = .ok (.iload 4, 2) := by decide +kernel
theorem dX5_distance_31 : decode cX5_distance 31 = .ok (.invokevirtual 65, 3) := by decide +kernel
theorem dX5_distance_34 : decode cX5_distance 34 = .ok (.ireturn, 1) := by decide +kernel
set_option maxRecDepth 20000 in
theorem ggX5_distanceByRounds_X5_checkedForm : GoodIn wsX5_distanceByRounds wsX5_checkedForm := goodIn_ca (goodIn_r _ [7, 8, 9, 2, 10, 11, 12, 13, 14, 15, 16, 17, 18, 19, 20, 21, 78, 79, 80, 81, 82, 83] (by decide +kernel) (by decide +kernel)) (goodIn_sub (fun _ h => List.mem_cons_of_mem _ (List.mem_append_right _ h)) (by decide +kernel))
set_option maxRecDepth 20000 in
theorem gX5_distanceByRounds_X5_checkedForm : GoodIn wsX5_distanceByRounds (wsV RX5 37 RX5 yX5_checkedForm wsX5_checkedForm) := goodIn_app (goodIn_of _ (by decide +kernel)) ggX5_distanceByRounds_X5_checkedForm
set_option maxRecDepth 20000 in
theorem ggX5_distanceByRounds_X3_forget : GoodIn wsX5_distanceByRounds wsX3_forget := goodIn_r _ [26, 27, 28, 29, 30, 31, 19, 32, 21, 33, 34, 35, 36, 84, 85, 83] (by decide +kernel) (by decide +kernel)
set_option maxRecDepth 20000 in
theorem gX5_distanceByRounds_X3_forget : GoodIn wsX5_distanceByRounds (wsV RX5 68 RX3 yX3_forget wsX3_forget) := goodIn_app (goodIn_of _ (by decide +kernel)) ggX5_distanceByRounds_X3_forget
set_option maxRecDepth 20000 in
theorem ggX5_distanceByRounds_X3_mark : GoodIn wsX5_distanceByRounds wsX3_mark := goodIn_r _ [40, 27, 41, 42, 43, 19, 44, 21, 84, 85, 83] (by decide +kernel) (by decide +kernel)
set_option maxRecDepth 20000 in
theorem gX5_distanceByRounds_X3_mark : GoodIn wsX5_distanceByRounds (wsV RX5 71 RX3 yX3_mark wsX3_mark) := goodIn_app (goodIn_of _ (by decide +kernel)) ggX5_distanceByRounds_X3_mark
set_option maxRecDepth 20000 in
theorem ggX5_distanceByRounds_X3_settle : GoodIn wsX5_distanceByRounds wsX3_settle := goodIn_r _ [48, 49, 50, 51, 25, 52, 27, 53, 54, 55, 13, 56, 15, 16, 17, 18, 19, 20, 21, 57, 58, 59, 60, 28, 61, 62, 63, 64, 65, 66, 67, 68, 69, 70, 71, 72, 11, 12, 14, 73, 41, 42, 43, 44, 84, 85, 82, 83] (by decide +kernel) (by decide +kernel)
set_option maxRecDepth 20000 in
theorem gX5_distanceByRounds_X3_settle : GoodIn wsX5_distanceByRounds (wsV RX5 75 RX3 yX3_settle wsX3_settle) := goodIn_app (goodIn_of _ (by decide +kernel)) ggX5_distanceByRounds_X3_settle
set_option maxRecDepth 20000 in
theorem ggX5_distanceByRounds_X3_editsKnown : GoodIn wsX5_distanceByRounds wsX3_editsKnown := goodIn_r _ [77, 27, 73, 17, 18, 19, 20, 21, 84, 85, 83] (by decide +kernel) (by decide +kernel)
set_option maxRecDepth 20000 in
theorem gX5_distanceByRounds_X3_editsKnown : GoodIn wsX5_distanceByRounds (wsV RX5 65 RX3 yX3_editsKnown wsX3_editsKnown) := goodIn_app (goodIn_of _ (by decide +kernel)) ggX5_distanceByRounds_X3_editsKnown
theorem dX5_distanceByRounds_0 : decode cX5_distanceByRounds 0 = .ok (.aload_n 0, 1) := by decide +kernel
theorem dX5_distanceByRounds_1 : decode cX5_distanceByRounds 1 = .ok (.iload_n 1, 1) := by decide +kernel
theorem dX5_distanceByRounds_2 : decode cX5_distanceByRounds 2 = .ok (.invokevirtual 37, 3) := by decide +kernel
theorem dX5_distanceByRounds_5 : decode cX5_distanceByRounds 5 = .ok (.istore_n 3, 1) := by decide +kernel
theorem dX5_distanceByRounds_6 : decode cX5_distanceByRounds 6 = .ok (.aload_n 0, 1) := by decide +kernel
theorem dX5_distanceByRounds_7 : decode cX5_distanceByRounds 7 = .ok (.iload_n 2, 1) := by decide +kernel
theorem dX5_distanceByRounds_8 : decode cX5_distanceByRounds 8 = .ok (.invokevirtual 37, 3) := by decide +kernel
theorem dX5_distanceByRounds_11 : decode cX5_distanceByRounds 11 = .ok (.istore 4, 2) := by decide +kernel
theorem dX5_distanceByRounds_13 : decode cX5_distanceByRounds 13 = .ok (.aload_n 0, 1) := by decide +kernel
theorem dX5_distanceByRounds_14 : decode cX5_distanceByRounds 14 = .ok (.getfield 19, 3) := by decide +kernel
theorem dX5_distanceByRounds_17 : decode cX5_distanceByRounds 17 = .ok (.invokevirtual 68, 3) := by decide +kernel
theorem dX5_distanceByRounds_20 : decode cX5_distanceByRounds 20 = .ok (.aload_n 0, 1) := by decide +kernel
theorem dX5_distanceByRounds_21 : decode cX5_distanceByRounds 21 = .ok (.getfield 19, 3) := by decide +kernel
theorem dX5_distanceByRounds_24 : decode cX5_distanceByRounds 24 = .ok (.iload 4, 2) := by decide +kernel
theorem dX5_distanceByRounds_26 : decode cX5_distanceByRounds 26 = .ok (.invokevirtual 71, 3) := by decide +kernel
theorem dX5_distanceByRounds_29 : decode cX5_distanceByRounds 29 = .ok (.aload_n 0, 1) := by decide +kernel
theorem dX5_distanceByRounds_30 : decode cX5_distanceByRounds 30 = .ok (.getfield 19, 3) := by decide +kernel
theorem dX5_distanceByRounds_33 : decode cX5_distanceByRounds 33 = .ok (.aload_n 0, 1) := by decide +kernel
theorem dX5_distanceByRounds_34 : decode cX5_distanceByRounds 34 = .ok (.getfield 10, 3) := by decide +kernel
theorem dX5_distanceByRounds_37 : decode cX5_distanceByRounds 37 = .ok (.invokevirtual 75, 3) := by decide +kernel
theorem dX5_distanceByRounds_40 : decode cX5_distanceByRounds 40 = .ok (.aload_n 0, 1) := by decide +kernel
theorem dX5_distanceByRounds_41 : decode cX5_distanceByRounds 41 = .ok (.getfield 19, 3) := by decide +kernel
theorem dX5_distanceByRounds_44 : decode cX5_distanceByRounds 44 = .ok (.iload_n 3, 1) := by decide +kernel
theorem dX5_distanceByRounds_45 : decode cX5_distanceByRounds 45 = .ok (.invokevirtual 65, 3) := by decide +kernel
theorem dX5_distanceByRounds_48 : decode cX5_distanceByRounds 48 = .ok (.ireturn, 1) := by decide +kernel
set_option maxRecDepth 20000 in
theorem ggX5_begin_X5_checkedForm : GoodIn wsX5_begin wsX5_checkedForm := goodIn_ca (goodIn_r _ [8, 9, 10, 11, 12, 13, 14, 15, 16, 17, 18, 19, 20, 21, 22, 23, 55, 56, 57, 58, 59, 60] (by decide +kernel) (by decide +kernel)) (goodIn_sub (fun _ h => List.mem_cons_of_mem _ (List.mem_append_right _ h)) (by decide +kernel))
set_option maxRecDepth 20000 in
theorem gX5_begin_X5_checkedForm : GoodIn wsX5_begin (wsV RX5 37 RX5 yX5_checkedForm wsX5_checkedForm) := goodIn_app (goodIn_of _ (by decide +kernel)) ggX5_begin_X5_checkedForm
set_option maxRecDepth 20000 in
theorem ggX5_begin_X0_isUnderWay : GoodIn wsX5_begin wsX0_isUnderWay := goodIn_r _ [28, 29, 61, 62, 63, 64, 65, 66, 67, 68, 69, 70, 71] (by decide +kernel) (by decide +kernel)
set_option maxRecDepth 20000 in
theorem gX5_begin_X0_isUnderWay : GoodIn wsX5_begin (wsV RX5 79 RX0 yX0_isUnderWay wsX0_isUnderWay) := goodIn_app (goodIn_of _ (by decide +kernel)) ggX5_begin_X0_isUnderWay
set_option maxRecDepth 20000 in
theorem ggX5_begin_X0_areAllBegun : GoodIn wsX5_begin wsX0_areAllBegun := goodIn_r _ [33, 34, 61, 62, 63, 64, 65, 66, 67, 68, 69, 70, 71] (by decide +kernel) (by decide +kernel)
set_option maxRecDepth 20000 in
theorem gX5_begin_X0_areAllBegun : GoodIn wsX5_begin (wsV RX5 83 RX0 yX0_areAllBegun wsX0_areAllBegun) := goodIn_app (goodIn_of _ (by decide +kernel)) ggX5_begin_X0_areAllBegun
set_option maxRecDepth 20000 in
theorem ggX5_begin_X0_start : GoodIn wsX5_begin wsX0_start := goodIn_r _ [38, 34, 39, 40, 41, 27, 42, 29, 43, 44, 45, 46, 19, 20, 21, 22, 23, 47, 48, 49, 50, 61, 62, 63, 64, 65, 66, 67, 68, 69, 70, 71, 60] (by decide +kernel) (by decide +kernel)
set_option maxRecDepth 20000 in
theorem gX5_begin_X0_start : GoodIn wsX5_begin (wsV RX5 91 RX0 yX0_start wsX0_start) := goodIn_app (goodIn_of _ (by decide +kernel)) ggX5_begin_X0_start
set_option maxRecDepth 20000 in
theorem ggX5_begin_X0_metCount : GoodIn wsX5_begin wsX0_metCount := goodIn_r _ [54, 45, 61, 62, 63, 64, 65, 66, 67, 68, 69, 70, 71] (by decide +kernel) (by decide +kernel)
set_option maxRecDepth 20000 in
theorem gX5_begin_X0_metCount : GoodIn wsX5_begin (wsV RX5 94 RX0 yX0_metCount wsX0_metCount) := goodIn_app (goodIn_of _ (by decide +kernel)) ggX5_begin_X0_metCount
theorem dX5_begin_0 : decode cX5_begin 0 = .ok (.aload_n 0, 1) := by decide +kernel
theorem dX5_begin_1 : decode cX5_begin 1 = .ok (.iload_n 1, 1) := by decide +kernel
theorem dX5_begin_2 : decode cX5_begin 2 = .ok (.invokevirtual 37, 3) := by decide +kernel
theorem dX5_begin_5 : decode cX5_begin 5 = .ok (.istore_n 2, 1) := by decide +kernel
theorem dX5_begin_6 : decode cX5_begin 6 = .ok (.aload_n 0, 1) := by decide +kernel
theorem dX5_begin_7 : decode cX5_begin 7 = .ok (.getfield 26, 3) := by decide +kernel
theorem dX5_begin_10 : decode cX5_begin 10 = .ok (.invokevirtual 79, 3) := by decide +kernel
theorem dX5_begin_13 : decode cX5_begin 13 = .ok (.ifCond .ne 13, 3) := by decide +kernel
theorem dX5_begin_16 : decode cX5_begin 16 = .ok (.aload_n 0, 1) := by decide +kernel
theorem dX5_begin_17 : decode cX5_begin 17 = .ok (.getfield 26, 3) := by decide +kernel
theorem dX5_begin_20 : decode cX5_begin 20 = .ok (.invokevirtual 83, 3) := by decide +kernel
theorem dX5_begin_23 : decode cX5_begin 23 = .ok (.ifCond .eq 13, 3) := by decide +kernel
theorem dX5_begin_26 : decode cX5_begin 26 = .ok (.new 86, 3) := by decide +kernel
theorem dX5_begin_29 : decode cX5_begin 29 = .ok (.dup, 1) := by decide +kernel
theorem dX5_begin_30 : decode cX5_begin 30 = .ok (.ldc 88, 2) := by decide +kernel
theorem dX5_begin_32 : decode cX5_begin 32 = .ok (.invokespecial 90, 3) := by decide +kernel
theorem dX5_begin_35 : decode cX5_begin 35 = .ok (.athrow, 1) := by decide +kernel
theorem dX5_begin_36 : decode cX5_begin 36 = .ok (.aload_n 0, 1) := by decide +kernel
theorem dX5_begin_37 : decode cX5_begin 37 = .ok (.getfield 26, 3) := by decide +kernel
theorem dX5_begin_40 : decode cX5_begin 40 = .ok (.iload_n 2, 1) := by decide +kernel
theorem dX5_begin_41 : decode cX5_begin 41 = .ok (.invokevirtual 91, 3) := by decide +kernel
theorem dX5_begin_44 : decode cX5_begin 44 = .ok (.aload_n 0, 1) := by decide +kernel
theorem dX5_begin_45 : decode cX5_begin 45 = .ok (.getfield 26, 3) := by decide +kernel
theorem dX5_begin_48 : decode cX5_begin 48 = .ok (.invokevirtual 94, 3) := by decide +kernel
theorem dX5_begin_51 : decode cX5_begin 51 = .ok (.ireturn, 1) := by decide +kernel
set_option maxRecDepth 20000 in
theorem ggX5_pass_X5_checkedForm : GoodIn wsX5_pass wsX5_checkedForm := goodIn_ca (goodIn_r _ [8, 9, 10, 11, 12, 13, 14, 15, 16, 17, 18, 19, 20, 21, 22, 23, 64, 65, 66, 67, 68, 69] (by decide +kernel) (by decide +kernel)) (goodIn_sub (fun _ h => List.mem_cons_of_mem _ (List.mem_append_right _ h)) (by decide +kernel))
set_option maxRecDepth 20000 in
theorem gX5_pass_X5_checkedForm : GoodIn wsX5_pass (wsV RX5 37 RX5 yX5_checkedForm wsX5_checkedForm) := goodIn_app (goodIn_of _ (by decide +kernel)) ggX5_pass_X5_checkedForm
set_option maxRecDepth 20000 in
theorem ggX5_pass_X0_isUnderWay : GoodIn wsX5_pass wsX0_isUnderWay := goodIn_r _ [28, 29, 70, 71, 72, 73, 74, 75, 76, 77, 78, 79, 80] (by decide +kernel) (by decide +kernel)
set_option maxRecDepth 20000 in
theorem gX5_pass_X0_isUnderWay : GoodIn wsX5_pass (wsV RX5 79 RX0 yX0_isUnderWay wsX0_isUnderWay) := goodIn_app (goodIn_of _ (by decide +kernel)) ggX5_pass_X0_isUnderWay
set_option maxRecDepth 20000 in
theorem ggX5_pass_X0_areAllPassed : GoodIn wsX5_pass wsX0_areAllPassed := goodIn_r _ [33, 34, 70, 71, 72, 73, 74, 75, 76, 77, 78, 79, 80] (by decide +kernel) (by decide +kernel)
set_option maxRecDepth 20000 in
theorem gX5_pass_X0_areAllPassed : GoodIn wsX5_pass (wsV RX5 98 RX0 yX0_areAllPassed wsX0_areAllPassed) := goodIn_app (goodIn_of _ (by decide +kernel)) ggX5_pass_X0_areAllPassed
set_option maxRecDepth 20000 in
theorem ggX5_pass_X0_moveTo : GoodIn wsX5_pass wsX0_moveTo := goodIn_r _ [38, 39, 34, 29, 40, 41, 42, 43, 44, 21, 45, 23, 46, 47, 48, 49, 50, 19, 20, 22, 51, 52, 53, 54, 27, 55, 56, 57, 58, 59, 70, 71, 72, 73, 74, 75, 76, 77, 78, 79, 80, 69] (by decide +kernel) (by decide +kernel)
set_option maxRecDepth 20000 in
theorem gX5_pass_X0_moveTo : GoodIn wsX5_pass (wsV RX5 103 RX0 yX0_moveTo wsX0_moveTo) := goodIn_app (goodIn_of _ (by decide +kernel)) ggX5_pass_X0_moveTo
set_option maxRecDepth 20000 in
theorem ggX5_pass_X0_metCount : GoodIn wsX5_pass wsX0_metCount := goodIn_r _ [63, 58, 70, 71, 72, 73, 74, 75, 76, 77, 78, 79, 80] (by decide +kernel) (by decide +kernel)
set_option maxRecDepth 20000 in
theorem gX5_pass_X0_metCount : GoodIn wsX5_pass (wsV RX5 94 RX0 yX0_metCount wsX0_metCount) := goodIn_app (goodIn_of _ (by decide +kernel)) ggX5_pass_X0_metCount
theorem dX5_pass_0 : decode cX5_pass 0 = .ok (.aload_n 0, 1) := by decide +kernel
theorem dX5_pass_1 : decode cX5_pass 1 = .ok (.iload_n 1, 1) := by decide +kernel
theorem dX5_pass_2 : decode cX5_pass 2 = .ok (.invokevirtual 37, 3) := by decide +kernel
theorem dX5_pass_5 : decode cX5_pass 5 = .ok (.istore_n 2, 1) := by decide +kernel
theorem dX5_pass_6 : decode cX5_pass 6 = .ok (.aload_n 0, 1) := by decide +kernel
theorem dX5_pass_7 : decode cX5_pass 7 = .ok (.getfield 26, 3) := by decide +kernel
theorem dX5_pass_10 : decode cX5_pass 10 = .ok (.invokevirtual 79, 3) := by decide +kernel
theorem dX5_pass_13 : decode cX5_pass 13 = .ok (.ifCond .eq 13, 3) := by decide +kernel
theorem dX5_pass_16 : decode cX5_pass 16 = .ok (.aload_n 0, 1) := by decide +kernel
theorem dX5_pass_17 : decode cX5_pass 17 = .ok (.getfield 26, 3) := by decide +kernel
theorem dX5_pass_20 : decode cX5_pass 20 = .ok (.invokevirtual 98, 3) := by decide +kernel
theorem dX5_pass_23 : decode cX5_pass 23 = .ok (.ifCond .eq 13, 3) := by decide +kernel
theorem dX5_pass_26 : decode cX5_pass 26 = .ok (.new 86, 3) := by decide +kernel
theorem dX5_pass_29 : decode cX5_pass 29 = .ok (.dup, 1) := by decide +kernel
theorem dX5_pass_30 : decode cX5_pass 30 = .ok (.ldc 101, 2) := by decide +kernel
theorem dX5_pass_32 : decode cX5_pass 32 = .ok (.invokespecial 90, 3) := by decide +kernel
theorem dX5_pass_35 : decode cX5_pass 35 = .ok (.athrow, 1) := by decide +kernel
theorem dX5_pass_36 : decode cX5_pass 36 = .ok (.aload_n 0, 1) := by decide +kernel
theorem dX5_pass_37 : decode cX5_pass 37 = .ok (.getfield 26, 3) := by decide +kernel
theorem dX5_pass_40 : decode cX5_pass 40 = .ok (.iload_n 2, 1) := by decide +kernel
theorem dX5_pass_41 : decode cX5_pass 41 = .ok (.invokevirtual 103, 3) := by decide +kernel
theorem dX5_pass_44 : decode cX5_pass 44 = .ok (.aload_n 0, 1) := by decide +kernel
theorem dX5_pass_45 : decode cX5_pass 45 = .ok (.getfield 26, 3) := by decide +kernel
theorem dX5_pass_48 : decode cX5_pass 48 = .ok (.invokevirtual 94, 3) := by decide +kernel
theorem dX5_pass_51 : decode cX5_pass 51 = .ok (.ireturn, 1) := by decide +kernel
set_option maxRecDepth 20000 in
theorem ggX5_end_X0_isUnderWay : GoodIn wsX5_end wsX0_isUnderWay := goodIn_r _ [8, 9, 35, 36, 37, 38, 39, 40, 41, 42, 43, 44, 45] (by decide +kernel) (by decide +kernel)
set_option maxRecDepth 20000 in
theorem gX5_end_X0_isUnderWay : GoodIn wsX5_end (wsV RX5 79 RX0 yX0_isUnderWay wsX0_isUnderWay) := goodIn_app (goodIn_of _ (by decide +kernel)) ggX5_end_X0_isUnderWay
set_option maxRecDepth 20000 in
theorem ggX5_end_X0_finish : GoodIn wsX5_end wsX0_finish := goodIn_r _ [13, 9, 14, 15, 16, 17, 18, 19, 20, 21, 22, 23, 24, 25, 26, 27, 28, 29, 30, 35, 36, 37, 38, 39, 40, 41, 42, 43, 44, 45, 46] (by decide +kernel) (by decide +kernel)
set_option maxRecDepth 20000 in
theorem gX5_end_X0_finish : GoodIn wsX5_end (wsV RX5 108 RX0 yX0_finish wsX0_finish) := goodIn_app (goodIn_of _ (by decide +kernel)) ggX5_end_X0_finish
theorem dX5_end_0 : decode cX5_end 0 = .ok (.aload_n 0, 1) := by decide +kernel
theorem dX5_end_1 : decode cX5_end 1 = .ok (.getfield 26, 3) := by decide +kernel
theorem dX5_end_4 : decode cX5_end 4 = .ok (.invokevirtual 79, 3) := by decide +kernel
theorem dX5_end_7 : decode cX5_end 7 = .ok (.ifCond .ne 13, 3) := by decide +kernel
theorem dX5_end_10 : decode cX5_end 10 = .ok (.new 86, 3) := by decide +kernel
theorem dX5_end_13 : decode cX5_end 13 = .ok (.dup, 1) := by decide +kernel
theorem dX5_end_14 : decode cX5_end 14 = .ok (.ldc 106, 2) := by decide +kernel
theorem dX5_end_16 : decode cX5_end 16 = .ok (.invokespecial 90, 3) := by decide +kernel
theorem dX5_end_19 : decode cX5_end 19 = .ok (.athrow, 1) := by decide +kernel
theorem dX5_end_20 : decode cX5_end 20 = .ok (.aload_n 0, 1) := by decide +kernel
theorem dX5_end_21 : decode cX5_end 21 = .ok (.getfield 26, 3) := by decide +kernel
theorem dX5_end_24 : decode cX5_end 24 = .ok (.iload_n 1, 1) := by decide +kernel
theorem dX5_end_25 : decode cX5_end 25 = .ok (.invokevirtual 108, 3) := by decide +kernel
theorem dX5_end_28 : decode cX5_end 28 = .ok (.ireturn, 1) := by decide +kernel
set_option maxRecDepth 20000 in
theorem ggX5_at_X0_current : GoodIn wsX5_at wsX0_current := goodIn_r _ [6, 7, 12, 13, 14, 15, 16, 17, 18, 19, 20, 21, 22] (by decide +kernel) (by decide +kernel)
set_option maxRecDepth 20000 in
theorem gX5_at_X0_current : GoodIn wsX5_at (wsV RX5 112 RX0 yX0_current wsX0_current) := goodIn_app (goodIn_of _ (by decide +kernel)) ggX5_at_X0_current
theorem dX5_at_0 : decode cX5_at 0 = .ok (.aload_n 0, 1) := by decide +kernel
theorem dX5_at_1 : decode cX5_at 1 = .ok (.getfield 26, 3) := by decide +kernel
theorem dX5_at_4 : decode cX5_at 4 = .ok (.invokevirtual 112, 3) := by decide +kernel
theorem dX5_at_7 : decode cX5_at 7 = .ok (.ireturn, 1) := by decide +kernel
set_option maxRecDepth 20000 in
theorem ggX5_met_X0_metCount : GoodIn wsX5_met wsX0_metCount := goodIn_r _ [6, 7, 12, 13, 14, 15, 16, 17, 18, 19, 20, 21, 22] (by decide +kernel) (by decide +kernel)
set_option maxRecDepth 20000 in
theorem gX5_met_X0_metCount : GoodIn wsX5_met (wsV RX5 94 RX0 yX0_metCount wsX0_metCount) := goodIn_app (goodIn_of _ (by decide +kernel)) ggX5_met_X0_metCount
theorem dX5_met_0 : decode cX5_met 0 = .ok (.aload_n 0, 1) := by decide +kernel
theorem dX5_met_1 : decode cX5_met 1 = .ok (.getfield 26, 3) := by decide +kernel
theorem dX5_met_4 : decode cX5_met 4 = .ok (.invokevirtual 94, 3) := by decide +kernel
theorem dX5_met_7 : decode cX5_met 7 = .ok (.ireturn, 1) := by decide +kernel
set_option maxRecDepth 20000 in
theorem ggX5_passings_X5_checkedForm : GoodIn wsX5_passings wsX5_checkedForm := goodIn_ca (goodIn_r _ [6, 7, 8, 9, 10, 11, 12, 13, 14, 15, 16, 17, 18, 19, 20, 21, 39, 40, 41, 42, 43, 44] (by decide +kernel) (by decide +kernel)) (goodIn_sub (fun _ h => List.mem_cons_of_mem _ (List.mem_append_right _ h)) (by decide +kernel))
set_option maxRecDepth 20000 in
theorem gX5_passings_X5_checkedForm : GoodIn wsX5_passings (wsV RX5 37 RX5 yX5_checkedForm wsX5_checkedForm) := goodIn_app (goodIn_of _ (by decide +kernel)) ggX5_passings_X5_checkedForm
set_option maxRecDepth 20000 in
theorem ggX5_passings_X0_countPassings : GoodIn wsX5_passings wsX0_countPassings := goodIn_r _ [26, 27, 28, 29, 30, 25, 31, 32, 33, 17, 18, 19, 20, 21, 34, 35, 36, 37, 38, 45, 46, 47, 48, 49, 50, 51, 52, 53, 54, 55, 44] (by decide +kernel) (by decide +kernel)
set_option maxRecDepth 20000 in
theorem gX5_passings_X0_countPassings : GoodIn wsX5_passings (wsV RX5 115 RX0 yX0_countPassings wsX0_countPassings) := goodIn_app (goodIn_of _ (by decide +kernel)) ggX5_passings_X0_countPassings
theorem dX5_passings_0 : decode cX5_passings 0 = .ok (.aload_n 0, 1) := by decide +kernel
theorem dX5_passings_1 : decode cX5_passings 1 = .ok (.iload_n 1, 1) := by decide +kernel
theorem dX5_passings_2 : decode cX5_passings 2 = .ok (.invokevirtual 37, 3) := by decide +kernel
theorem dX5_passings_5 : decode cX5_passings 5 = .ok (.istore_n 3, 1) := by decide +kernel
theorem dX5_passings_6 : decode cX5_passings 6 = .ok (.aload_n 0, 1) := by decide +kernel
theorem dX5_passings_7 : decode cX5_passings 7 = .ok (.iload_n 2, 1) := by decide +kernel
theorem dX5_passings_8 : decode cX5_passings 8 = .ok (.invokevirtual 37, 3) := by decide +kernel
theorem dX5_passings_11 : decode cX5_passings 11 = .ok (.istore 4, 2) := by decide +kernel
theorem dX5_passings_13 : decode cX5_passings 13 = .ok (.aload_n 0, 1) := by decide +kernel
theorem dX5_passings_14 : decode cX5_passings 14 = .ok (.getfield 26, 3) := by decide +kernel
theorem dX5_passings_17 : decode cX5_passings 17 = .ok (.iload_n 3, 1) := by decide +kernel
theorem dX5_passings_18 : decode cX5_passings 18 = .ok (.iload 4, 2) := by decide +kernel
theorem dX5_passings_20 : decode cX5_passings 20 = .ok (.invokevirtual 115, 3) := by decide +kernel
theorem dX5_passings_23 : decode cX5_passings 23 = .ok (.ireturn, 1) := by decide +kernel
set_option maxRecDepth 20000 in
theorem ggX5_isRight_X5_checkedForm : GoodIn wsX5_isRight wsX5_checkedForm := goodIn_ca (goodIn_r _ [6, 7, 8, 9, 10, 11, 12, 13, 14, 15, 16, 17, 18, 19, 20, 21, 29, 30, 31, 32, 33, 34] (by decide +kernel) (by decide +kernel)) (goodIn_sub (fun _ h => List.mem_cons_of_mem _ (List.mem_append_right _ h)) (by decide +kernel))
set_option maxRecDepth 20000 in
theorem gX5_isRight_X5_checkedForm : GoodIn wsX5_isRight (wsV RX5 37 RX5 yX5_checkedForm wsX5_checkedForm) := goodIn_app (goodIn_of _ (by decide +kernel)) ggX5_isRight_X5_checkedForm
set_option maxRecDepth 20000 in
theorem ggX5_isRight_X0_hasEndedRight : GoodIn wsX5_isRight wsX0_hasEndedRight := goodIn_r _ [26, 27, 28, 17, 18, 19, 20, 21, 35, 36, 37, 38, 39, 40, 41, 42, 43, 44, 45, 34] (by decide +kernel) (by decide +kernel)
set_option maxRecDepth 20000 in
theorem gX5_isRight_X0_hasEndedRight : GoodIn wsX5_isRight (wsV RX5 119 RX0 yX0_hasEndedRight wsX0_hasEndedRight) := goodIn_app (goodIn_of _ (by decide +kernel)) ggX5_isRight_X0_hasEndedRight
theorem dX5_isRight_0 : decode cX5_isRight 0 = .ok (.aload_n 0, 1) := by decide +kernel
theorem dX5_isRight_1 : decode cX5_isRight 1 = .ok (.getfield 26, 3) := by decide +kernel
theorem dX5_isRight_4 : decode cX5_isRight 4 = .ok (.aload_n 0, 1) := by decide +kernel
theorem dX5_isRight_5 : decode cX5_isRight 5 = .ok (.iload_n 1, 1) := by decide +kernel
theorem dX5_isRight_6 : decode cX5_isRight 6 = .ok (.invokevirtual 37, 3) := by decide +kernel
theorem dX5_isRight_9 : decode cX5_isRight 9 = .ok (.invokevirtual 119, 3) := by decide +kernel
theorem dX5_isRight_12 : decode cX5_isRight 12 = .ok (.ireturn, 1) := by decide +kernel
set_option maxRecDepth 20000 in
theorem ggX5_worth_X5_checkedForm : GoodIn wsX5_worth wsX5_checkedForm := goodIn_ca (goodIn_r _ [7, 8, 9, 10, 11, 12, 13, 14, 15, 16, 17, 18, 19, 20, 21, 22, 99, 100, 101, 102, 103, 104] (by decide +kernel) (by decide +kernel)) (goodIn_sub (fun _ h => List.mem_cons_of_mem _ (List.mem_append_right _ h)) (by decide +kernel))
set_option maxRecDepth 20000 in
theorem gX5_worth_X5_checkedForm : GoodIn wsX5_worth (wsV RX5 37 RX5 yX5_checkedForm wsX5_checkedForm) := goodIn_app (goodIn_of _ (by decide +kernel)) ggX5_worth_X5_checkedForm
set_option maxRecDepth 20000 in
theorem ggX5_worth_X4_find : GoodIn wsX5_worth wsX4_find := goodIn_r _ [27, 28, 29, 30, 31, 20, 32, 22, 33, 34, 35, 36, 37, 38, 39, 26, 40, 41, 42, 43, 44, 45, 46, 47, 48, 49, 50, 51, 52, 53, 54, 18, 19, 21, 55, 56, 57, 58, 59, 60, 61, 62, 63, 64, 65, 66, 67, 68, 69, 70, 71, 72, 73, 74, 75, 76, 77, 78, 79, 80, 81, 82, 83, 84, 85, 86, 87, 88, 89, 90, 91, 92, 93, 94, 105, 106, 104, 107, 108, 109, 110, 111, 112, 113, 114, 115, 116, 117] (by decide +kernel) (by decide +kernel)
set_option maxRecDepth 20000 in
theorem gX5_worth_X4_find : GoodIn wsX5_worth (wsV RX5 123 RX4 yX4_find wsX4_find) := goodIn_app (goodIn_of _ (by decide +kernel)) ggX5_worth_X4_find
set_option maxRecDepth 20000 in
theorem ggX5_worth_X4_of : GoodIn wsX5_worth wsX4_of := goodIn_r _ [98, 28, 79, 18, 19, 20, 21, 22, 105, 106, 104] (by decide +kernel) (by decide +kernel)
set_option maxRecDepth 20000 in
theorem gX5_worth_X4_of : GoodIn wsX5_worth (wsV RX5 127 RX4 yX4_of wsX4_of) := goodIn_app (goodIn_of _ (by decide +kernel)) ggX5_worth_X4_of
theorem dX5_worth_0 : decode cX5_worth 0 = .ok (.aload_n 0, 1) := by decide +kernel
theorem dX5_worth_1 : decode cX5_worth 1 = .ok (.iload_n 1, 1) := by decide +kernel
theorem dX5_worth_2 : decode cX5_worth 2 = .ok (.invokevirtual 37, 3) := by decide +kernel
theorem dX5_worth_5 : decode cX5_worth 5 = .ok (.istore_n 2, 1) := by decide +kernel
theorem dX5_worth_6 : decode cX5_worth 6 = .ok (.aload_n 0, 1) := by decide +kernel
theorem dX5_worth_7 : decode cX5_worth 7 = .ok (.getfield 33, 3) := by decide +kernel
theorem dX5_worth_10 : decode cX5_worth 10 = .ok (.aload_n 0, 1) := by decide +kernel
theorem dX5_worth_11 : decode cX5_worth 11 = .ok (.getfield 26, 3) := by decide +kernel
theorem dX5_worth_14 : decode cX5_worth 14 = .ok (.invokevirtual 123, 3) := by decide +kernel
theorem dX5_worth_17 : decode cX5_worth 17 = .ok (.aload_n 0, 1) := by decide +kernel
theorem dX5_worth_18 : decode cX5_worth 18 = .ok (.getfield 33, 3) := by decide +kernel
theorem dX5_worth_21 : decode cX5_worth 21 = .ok (.iload_n 2, 1) := by decide +kernel
theorem dX5_worth_22 : decode cX5_worth 22 = .ok (.invokevirtual 127, 3) := by decide +kernel
theorem dX5_worth_25 : decode cX5_worth 25 = .ok (.ireturn, 1) := by decide +kernel
set_option maxRecDepth 20000 in
theorem ggX5_steps_X5_checkedForm : GoodIn wsX5_steps wsX5_checkedForm := goodIn_ca (goodIn_r _ [6, 7, 8, 9, 10, 11, 12, 13, 14, 15, 16, 17, 18, 19, 20, 21, 111, 112, 113, 114, 115, 116] (by decide +kernel) (by decide +kernel)) (goodIn_sub (fun _ h => List.mem_cons_of_mem _ (List.mem_append_left _ (List.mem_append_right _ h))) (by decide +kernel))
set_option maxRecDepth 20000 in
theorem gX5_steps_X5_checkedForm : GoodIn wsX5_steps (wsV RX5 37 RX5 yX5_checkedForm wsX5_checkedForm) := goodIn_app (goodIn_of _ (by decide +kernel)) ggX5_steps_X5_checkedForm
set_option maxRecDepth 20000 in
theorem ggX5_steps_X5_requireSomeRight : GoodIn wsX5_steps wsX5_requireSomeRight := goodIn_ca (goodIn_r _ [25, 26, 27, 28, 29, 30, 31, 32, 33, 34, 111, 112, 113, 114, 117, 118, 119, 120, 121, 122, 123, 124, 125, 126, 127] (by decide +kernel) (by decide +kernel)) (goodIn_sub (fun _ h => List.mem_cons_of_mem _ (List.mem_append_right _ h)) (by decide +kernel))
set_option maxRecDepth 20000 in
theorem gX5_steps_X5_requireSomeRight : GoodIn wsX5_steps (wsV RX5 130 RX5 yX5_requireSomeRight wsX5_requireSomeRight) := goodIn_app (goodIn_of _ (by decide +kernel)) ggX5_steps_X5_requireSomeRight
set_option maxRecDepth 20000 in
theorem ggX5_steps_X5_findSteps : GoodIn wsX5_steps wsX5_findSteps := goodIn_r _ [38, 1, 28, 9, 39, 40, 41, 42, 43, 44, 45, 46, 47, 48, 19, 49, 21, 50, 51, 52, 53, 54, 55, 56, 32, 57, 58, 59, 60, 61, 62, 63, 64, 17, 18, 20, 65, 66, 67, 68, 69, 70, 71, 72, 73, 74, 75, 76, 77, 78, 79, 80, 81, 82, 83, 84, 85, 86, 87, 88, 13, 89, 15, 16, 90, 91, 92, 93, 94, 95, 96, 97, 98, 99, 100, 101, 102, 103, 104, 105, 11, 12, 14, 106, 111, 112, 113, 114, 128, 129, 116, 117, 118, 119, 120, 121, 122, 123, 124, 125, 126, 127, 115] (by decide +kernel) (by decide +kernel)
set_option maxRecDepth 20000 in
theorem gX5_steps_X5_findSteps : GoodIn wsX5_steps (wsV RX5 133 RX5 yX5_findSteps wsX5_findSteps) := goodIn_app (goodIn_of _ (by decide +kernel)) ggX5_steps_X5_findSteps
set_option maxRecDepth 20000 in
theorem ggX5_steps_X3_editsKnown : GoodIn wsX5_steps wsX3_editsKnown := goodIn_r _ [110, 44, 106, 17, 18, 19, 20, 21, 128, 129, 116] (by decide +kernel) (by decide +kernel)
set_option maxRecDepth 20000 in
theorem gX5_steps_X3_editsKnown : GoodIn wsX5_steps (wsV RX5 65 RX3 yX3_editsKnown wsX3_editsKnown) := goodIn_app (goodIn_of _ (by decide +kernel)) ggX5_steps_X3_editsKnown
theorem dX5_steps_0 : decode cX5_steps 0 = .ok (.aload_n 0, 1) := by decide +kernel
theorem dX5_steps_1 : decode cX5_steps 1 = .ok (.iload_n 1, 1) := by decide +kernel
theorem dX5_steps_2 : decode cX5_steps 2 = .ok (.invokevirtual 37, 3) := by decide +kernel
theorem dX5_steps_5 : decode cX5_steps 5 = .ok (.istore_n 2, 1) := by decide +kernel
theorem dX5_steps_6 : decode cX5_steps 6 = .ok (.aload_n 0, 1) := by decide +kernel
theorem dX5_steps_7 : decode cX5_steps 7 = .ok (.invokevirtual 130, 3) := by decide +kernel
theorem dX5_steps_10 : decode cX5_steps 10 = .ok (.aload_n 0, 1) := by decide +kernel
theorem dX5_steps_11 : decode cX5_steps 11 = .ok (.invokevirtual 133, 3) := by decide +kernel
theorem dX5_steps_14 : decode cX5_steps 14 = .ok (.aload_n 0, 1) := by decide +kernel
theorem dX5_steps_15 : decode cX5_steps 15 = .ok (.getfield 19, 3) := by decide +kernel
theorem dX5_steps_18 : decode cX5_steps 18 = .ok (.iload_n 2, 1) := by decide +kernel
theorem dX5_steps_19 : decode cX5_steps 19 = .ok (.invokevirtual 65, 3) := by decide +kernel
theorem dX5_steps_22 : decode cX5_steps 22 = .ok (.ireturn, 1) := by decide +kernel
set_option maxRecDepth 20000 in
theorem ggX5_hint_X5_checkedForm : GoodIn wsX5_hint wsX5_checkedForm := goodIn_ca (goodIn_r _ [9, 10, 11, 12, 13, 14, 15, 16, 17, 18, 19, 20, 21, 22, 23, 24, 175, 176, 177, 178, 179, 180] (by decide +kernel) (by decide +kernel)) (goodIn_sub (fun _ h => List.mem_cons_of_mem _ (List.mem_append_left _ (List.mem_append_right _ h))) (by decide +kernel))
set_option maxRecDepth 20000 in
theorem gX5_hint_X5_checkedForm : GoodIn wsX5_hint (wsV RX5 37 RX5 yX5_checkedForm wsX5_checkedForm) := goodIn_app (goodIn_of _ (by decide +kernel)) ggX5_hint_X5_checkedForm
set_option maxRecDepth 20000 in
theorem ggX5_hint_X5_requireSomeRight : GoodIn wsX5_hint wsX5_requireSomeRight := goodIn_ca (goodIn_r _ [28, 29, 30, 3, 31, 32, 33, 34, 35, 36, 175, 176, 177, 178, 181, 182, 183, 184, 185, 186, 187, 188, 189, 190, 191] (by decide +kernel) (by decide +kernel)) (goodIn_sub (fun _ h => List.mem_cons_of_mem _ (List.mem_append_right _ h)) (by decide +kernel))
set_option maxRecDepth 20000 in
theorem gX5_hint_X5_requireSomeRight : GoodIn wsX5_hint (wsV RX5 130 RX5 yX5_requireSomeRight wsX5_requireSomeRight) := goodIn_app (goodIn_of _ (by decide +kernel)) ggX5_hint_X5_requireSomeRight
set_option maxRecDepth 20000 in
theorem ggX5_hint_X0_hasEndedRight : GoodIn wsX5_hint wsX0_hasEndedRight := goodIn_r _ [40, 41, 42, 20, 21, 22, 23, 24, 181, 182, 183, 184, 185, 186, 187, 188, 189, 190, 191, 180] (by decide +kernel) (by decide +kernel)
set_option maxRecDepth 20000 in
theorem gX5_hint_X0_hasEndedRight : GoodIn wsX5_hint (wsV RX5 119 RX0 yX0_hasEndedRight wsX0_hasEndedRight) := goodIn_app (goodIn_of _ (by decide +kernel)) ggX5_hint_X0_hasEndedRight
set_option maxRecDepth 20000 in
theorem ggX5_hint_X5_findSteps : GoodIn wsX5_hint wsX5_findSteps := goodIn_r _ [46, 47, 3, 12, 48, 49, 50, 51, 52, 53, 54, 55, 56, 57, 22, 58, 24, 59, 60, 61, 62, 63, 64, 65, 34, 66, 67, 68, 69, 70, 71, 72, 42, 20, 21, 23, 37, 38, 39, 40, 41, 73, 74, 75, 76, 77, 78, 79, 80, 81, 82, 83, 84, 85, 86, 87, 88, 89, 90, 91, 16, 92, 18, 19, 93, 94, 95, 96, 97, 98, 99, 100, 101, 102, 103, 104, 105, 106, 107, 108, 14, 15, 17, 109, 175, 176, 177, 178, 192, 193, 180, 181, 182, 183, 184, 185, 186, 187, 188, 189, 190, 191, 179] (by decide +kernel) (by decide +kernel)
set_option maxRecDepth 20000 in
theorem gX5_hint_X5_findSteps : GoodIn wsX5_hint (wsV RX5 133 RX5 yX5_findSteps wsX5_findSteps) := goodIn_app (goodIn_of _ (by decide +kernel)) ggX5_hint_X5_findSteps
set_option maxRecDepth 20000 in
theorem ggX5_hint_X4_find : GoodIn wsX5_hint wsX4_find := goodIn_r _ [114, 115, 116, 56, 57, 22, 58, 24, 59, 60, 61, 62, 117, 118, 119, 113, 120, 121, 122, 123, 64, 65, 34, 66, 67, 124, 69, 70, 71, 72, 42, 20, 21, 23, 125, 126, 127, 128, 41, 129, 78, 79, 80, 130, 131, 132, 133, 134, 135, 136, 137, 138, 139, 140, 141, 142, 143, 144, 145, 146, 147, 148, 149, 150, 151, 152, 153, 154, 155, 156, 157, 158, 159, 160, 194, 195, 180, 181, 182, 183, 184, 185, 186, 187, 188, 189, 190, 191] (by decide +kernel) (by decide +kernel)
set_option maxRecDepth 20000 in
theorem gX5_hint_X4_find : GoodIn wsX5_hint (wsV RX5 123 RX4 yX4_find wsX4_find) := goodIn_app (goodIn_of _ (by decide +kernel)) ggX5_hint_X4_find
set_option maxRecDepth 20000 in
theorem ggX5_hint_X5_stepNearer : GoodIn wsX5_hint wsX5_stepNearer := goodIn_r _ [164, 47, 12, 4, 165, 166, 167, 51, 168, 53, 109, 20, 21, 22, 23, 24, 169, 102, 16, 103, 170, 105, 106, 107, 13, 14, 15, 17, 18, 19, 171, 172, 173, 113, 174, 115, 145, 175, 176, 177, 178, 192, 193, 180, 179, 194, 195] (by decide +kernel) (by decide +kernel)
set_option maxRecDepth 20000 in
theorem gX5_hint_X5_stepNearer : GoodIn wsX5_hint (wsV RX5 138 RX5 yX5_stepNearer wsX5_stepNearer) := goodIn_app (goodIn_of _ (by decide +kernel)) ggX5_hint_X5_stepNearer
theorem dX5_hint_0 : decode cX5_hint 0 = .ok (.aload_n 0, 1) := by decide +kernel
theorem dX5_hint_1 : decode cX5_hint 1 = .ok (.iload_n 1, 1) := by decide +kernel
theorem dX5_hint_2 : decode cX5_hint 2 = .ok (.invokevirtual 37, 3) := by decide +kernel
theorem dX5_hint_5 : decode cX5_hint 5 = .ok (.istore_n 2, 1) := by decide +kernel
theorem dX5_hint_6 : decode cX5_hint 6 = .ok (.aload_n 0, 1) := by decide +kernel
theorem dX5_hint_7 : decode cX5_hint 7 = .ok (.invokevirtual 130, 3) := by decide +kernel
theorem dX5_hint_10 : decode cX5_hint 10 = .ok (.aload_n 0, 1) := by decide +kernel
theorem dX5_hint_11 : decode cX5_hint 11 = .ok (.getfield 26, 3) := by decide +kernel
theorem dX5_hint_14 : decode cX5_hint 14 = .ok (.iload_n 2, 1) := by decide +kernel
theorem dX5_hint_15 : decode cX5_hint 15 = .ok (.invokevirtual 119, 3) := by decide +kernel
theorem dX5_hint_18 : decode cX5_hint 18 = .ok (.ifCond .eq 13, 3) := by decide +kernel
theorem dX5_hint_21 : decode cX5_hint 21 = .ok (.new 86, 3) := by decide +kernel
theorem dX5_hint_24 : decode cX5_hint 24 = .ok (.dup, 1) := by decide +kernel
theorem dX5_hint_25 : decode cX5_hint 25 = .ok (.ldc 136, 2) := by decide +kernel
theorem dX5_hint_27 : decode cX5_hint 27 = .ok (.invokespecial 90, 3) := by decide +kernel
theorem dX5_hint_30 : decode cX5_hint 30 = .ok (.athrow, 1) := by decide +kernel
theorem dX5_hint_31 : decode cX5_hint 31 = .ok (.aload_n 0, 1) := by decide +kernel
theorem dX5_hint_32 : decode cX5_hint 32 = .ok (.invokevirtual 133, 3) := by decide +kernel
theorem dX5_hint_35 : decode cX5_hint 35 = .ok (.aload_n 0, 1) := by decide +kernel
theorem dX5_hint_36 : decode cX5_hint 36 = .ok (.getfield 33, 3) := by decide +kernel
theorem dX5_hint_39 : decode cX5_hint 39 = .ok (.aload_n 0, 1) := by decide +kernel
theorem dX5_hint_40 : decode cX5_hint 40 = .ok (.getfield 26, 3) := by decide +kernel
theorem dX5_hint_43 : decode cX5_hint 43 = .ok (.invokevirtual 123, 3) := by decide +kernel
theorem dX5_hint_46 : decode cX5_hint 46 = .ok (.aload_n 0, 1) := by decide +kernel
theorem dX5_hint_47 : decode cX5_hint 47 = .ok (.iload_n 2, 1) := by decide +kernel
theorem dX5_hint_48 : decode cX5_hint 48 = .ok (.invokevirtual 138, 3) := by decide +kernel
theorem dX5_hint_51 : decode cX5_hint 51 = .ok (.ireturn, 1) := by decide +kernel
set_option maxRecDepth 20000 in
theorem ggX5_lead_X5_checkedForm : GoodIn wsX5_lead wsX5_checkedForm := goodIn_ca (goodIn_r _ [8, 9, 10, 11, 12, 13, 14, 15, 16, 17, 18, 19, 20, 21, 22, 23, 173, 174, 175, 176, 177, 178] (by decide +kernel) (by decide +kernel)) (goodIn_sub (fun _ h => List.mem_cons_of_mem _ (List.mem_append_left _ (List.mem_append_right _ h))) (by decide +kernel))
set_option maxRecDepth 20000 in
theorem gX5_lead_X5_checkedForm : GoodIn wsX5_lead (wsV RX5 37 RX5 yX5_checkedForm wsX5_checkedForm) := goodIn_app (goodIn_of _ (by decide +kernel)) ggX5_lead_X5_checkedForm
set_option maxRecDepth 20000 in
theorem ggX5_lead_X5_requireSomeRight : GoodIn wsX5_lead wsX5_requireSomeRight := goodIn_ca (goodIn_r _ [27, 28, 29, 2, 30, 31, 32, 33, 34, 35, 173, 174, 175, 176, 179, 180, 181, 182, 183, 184, 185, 186, 187, 188, 189] (by decide +kernel) (by decide +kernel)) (goodIn_sub (fun _ h => List.mem_cons_of_mem _ (List.mem_append_right _ h)) (by decide +kernel))
set_option maxRecDepth 20000 in
theorem gX5_lead_X5_requireSomeRight : GoodIn wsX5_lead (wsV RX5 130 RX5 yX5_requireSomeRight wsX5_requireSomeRight) := goodIn_app (goodIn_of _ (by decide +kernel)) ggX5_lead_X5_requireSomeRight
set_option maxRecDepth 20000 in
theorem ggX5_lead_X5_findSteps : GoodIn wsX5_lead wsX5_findSteps := goodIn_r _ [39, 3, 2, 11, 40, 41, 42, 43, 44, 45, 46, 47, 48, 49, 21, 50, 23, 51, 52, 53, 54, 55, 56, 57, 33, 58, 59, 60, 61, 62, 63, 64, 65, 19, 20, 22, 66, 67, 68, 69, 70, 71, 72, 73, 74, 75, 76, 77, 78, 79, 80, 81, 82, 83, 84, 85, 86, 87, 88, 89, 15, 90, 17, 18, 91, 92, 93, 94, 95, 96, 97, 98, 99, 100, 101, 102, 103, 104, 105, 106, 13, 14, 16, 107, 173, 174, 175, 176, 190, 191, 178, 179, 180, 181, 182, 183, 184, 185, 186, 187, 188, 189, 177] (by decide +kernel) (by decide +kernel)
set_option maxRecDepth 20000 in
theorem gX5_lead_X5_findSteps : GoodIn wsX5_lead (wsV RX5 133 RX5 yX5_findSteps wsX5_findSteps) := goodIn_app (goodIn_of _ (by decide +kernel)) ggX5_lead_X5_findSteps
set_option maxRecDepth 20000 in
theorem ggX5_lead_X4_find : GoodIn wsX5_lead wsX4_find := goodIn_r _ [112, 113, 114, 48, 49, 21, 50, 23, 51, 52, 53, 54, 115, 116, 117, 111, 118, 119, 120, 121, 56, 57, 33, 58, 59, 122, 61, 62, 63, 64, 65, 19, 20, 22, 123, 124, 125, 126, 70, 127, 76, 77, 78, 128, 129, 130, 131, 132, 133, 134, 135, 136, 137, 138, 139, 140, 141, 142, 143, 144, 145, 146, 147, 148, 149, 150, 151, 152, 153, 154, 155, 156, 157, 158, 192, 193, 178, 179, 180, 181, 182, 183, 184, 185, 186, 187, 188, 189] (by decide +kernel) (by decide +kernel)
set_option maxRecDepth 20000 in
theorem gX5_lead_X4_find : GoodIn wsX5_lead (wsV RX5 123 RX4 yX4_find wsX4_find) := goodIn_app (goodIn_of _ (by decide +kernel)) ggX5_lead_X4_find
set_option maxRecDepth 20000 in
theorem ggX5_lead_X3_editsKnown : GoodIn wsX5_lead wsX3_editsKnown := goodIn_r _ [162, 45, 107, 19, 20, 21, 22, 23, 190, 191, 178] (by decide +kernel) (by decide +kernel)
set_option maxRecDepth 20000 in
theorem gX5_lead_X3_editsKnown : GoodIn wsX5_lead (wsV RX5 65 RX3 yX3_editsKnown wsX3_editsKnown) := goodIn_app (goodIn_of _ (by decide +kernel)) ggX5_lead_X3_editsKnown
set_option maxRecDepth 20000 in
theorem ggX5_lead_X5_stepNearer : GoodIn wsX5_lead wsX5_stepNearer := goodIn_r _ [166, 3, 11, 1, 159, 160, 161, 43, 162, 45, 107, 19, 20, 21, 22, 23, 167, 100, 15, 101, 168, 103, 104, 105, 12, 13, 14, 16, 17, 18, 169, 170, 171, 111, 172, 113, 143, 173, 174, 175, 176, 190, 191, 178, 177, 192, 193] (by decide +kernel) (by decide +kernel)
set_option maxRecDepth 20000 in
theorem gX5_lead_X5_stepNearer : GoodIn wsX5_lead (wsV RX5 138 RX5 yX5_stepNearer wsX5_stepNearer) := goodIn_app (goodIn_of _ (by decide +kernel)) ggX5_lead_X5_stepNearer
theorem dX5_lead_0 : decode cX5_lead 0 = .ok (.aload_n 0, 1) := by decide +kernel
theorem dX5_lead_1 : decode cX5_lead 1 = .ok (.iload_n 1, 1) := by decide +kernel
theorem dX5_lead_2 : decode cX5_lead 2 = .ok (.invokevirtual 37, 3) := by decide +kernel
theorem dX5_lead_5 : decode cX5_lead 5 = .ok (.istore_n 2, 1) := by decide +kernel
theorem dX5_lead_6 : decode cX5_lead 6 = .ok (.aload_n 0, 1) := by decide +kernel
theorem dX5_lead_7 : decode cX5_lead 7 = .ok (.invokevirtual 130, 3) := by decide +kernel
theorem dX5_lead_10 : decode cX5_lead 10 = .ok (.aload_n 0, 1) := by decide +kernel
theorem dX5_lead_11 : decode cX5_lead 11 = .ok (.invokevirtual 133, 3) := by decide +kernel
theorem dX5_lead_14 : decode cX5_lead 14 = .ok (.aload_n 0, 1) := by decide +kernel
theorem dX5_lead_15 : decode cX5_lead 15 = .ok (.getfield 33, 3) := by decide +kernel
theorem dX5_lead_18 : decode cX5_lead 18 = .ok (.aload_n 0, 1) := by decide +kernel
theorem dX5_lead_19 : decode cX5_lead 19 = .ok (.getfield 26, 3) := by decide +kernel
theorem dX5_lead_22 : decode cX5_lead 22 = .ok (.invokevirtual 123, 3) := by decide +kernel
theorem dX5_lead_25 : decode cX5_lead 25 = .ok (.aload_n 0, 1) := by decide +kernel
theorem dX5_lead_26 : decode cX5_lead 26 = .ok (.getfield 19, 3) := by decide +kernel
theorem dX5_lead_29 : decode cX5_lead 29 = .ok (.iload_n 2, 1) := by decide +kernel
theorem dX5_lead_30 : decode cX5_lead 30 = .ok (.invokevirtual 65, 3) := by decide +kernel
theorem dX5_lead_33 : decode cX5_lead 33 = .ok (.istore_n 3, 1) := by decide +kernel
theorem dX5_lead_34 : decode cX5_lead 34 = .ok (.iload_n 3, 1) := by decide +kernel
theorem dX5_lead_35 : decode cX5_lead 35 = .ok (.ifCond .le 15, 3) := by decide +kernel
theorem dX5_lead_38 : decode cX5_lead 38 = .ok (.aload_n 0, 1) := by decide +kernel
theorem dX5_lead_39 : decode cX5_lead 39 = .ok (.iload_n 2, 1) := by decide +kernel
theorem dX5_lead_40 : decode cX5_lead 40 = .ok (.invokevirtual 138, 3) := by decide +kernel
theorem dX5_lead_43 : decode cX5_lead 43 = .ok (.istore_n 2, 1) := by decide +kernel
theorem dX5_lead_44 : decode cX5_lead 44 = .ok (.iinc 3 (-1), 3) := by decide +kernel
theorem dX5_lead_47 : decode cX5_lead 47 = .ok (.goto (-13), 3) := by decide +kernel
theorem dX5_lead_50 : decode cX5_lead 50 = .ok (.iload_n 2, 1) := by decide +kernel
theorem dX5_lead_51 : decode cX5_lead 51 = .ok (.ireturn, 1) := by decide +kernel
set_option maxRecDepth 20000 in
theorem ggX5_nearest_X5_checkedForm : GoodIn wsX5_nearest wsX5_checkedForm := goodIn_ca (goodIn_r _ [11, 12, 13, 5, 14, 15, 16, 17, 18, 19, 20, 21, 22, 23, 24, 25, 83, 84, 85, 86, 87, 88] (by decide +kernel) (by decide +kernel)) (goodIn_sub (fun _ h => List.mem_cons_of_mem _ (List.mem_append_right _ h)) (by decide +kernel))
set_option maxRecDepth 20000 in
theorem gX5_nearest_X5_checkedForm : GoodIn wsX5_nearest (wsV RX5 37 RX5 yX5_checkedForm wsX5_checkedForm) := goodIn_app (goodIn_of _ (by decide +kernel)) ggX5_nearest_X5_checkedForm
set_option maxRecDepth 20000 in
theorem ggX5_nearest_X0_metCount : GoodIn wsX5_nearest wsX0_metCount := goodIn_r _ [30, 31, 89, 90, 91, 92, 93, 94, 95, 96, 97, 98, 99] (by decide +kernel) (by decide +kernel)
set_option maxRecDepth 20000 in
theorem gX5_nearest_X0_metCount : GoodIn wsX5_nearest (wsV RX5 94 RX0 yX0_metCount wsX0_metCount) := goodIn_app (goodIn_of _ (by decide +kernel)) ggX5_nearest_X0_metCount
set_option maxRecDepth 20000 in
theorem ggX5_nearest_X3_goOutward : GoodIn wsX5_nearest wsX3_goOutward := goodIn_r _ [36, 37, 38, 39, 40, 35, 41, 42, 43, 44, 45, 46, 23, 47, 25, 48, 49, 50, 51, 52, 53, 54, 55, 56, 57, 58, 59, 60, 21, 22, 24, 61, 62, 63, 64, 65, 66, 17, 67, 68, 69, 70, 71, 72, 15, 16, 18, 19, 20, 100, 101, 88, 87] (by decide +kernel) (by decide +kernel)
set_option maxRecDepth 20000 in
theorem gX5_nearest_X3_goOutward : GoodIn wsX5_nearest (wsV RX5 61 RX3 yX3_goOutward wsX3_goOutward) := goodIn_app (goodIn_of _ (by decide +kernel)) ggX5_nearest_X3_goOutward
