set_option maxRecDepth 20000 in
theorem ggX6_init_X3_init : GoodIn wsX6_init wsX3_init := goodIn_r _ [28, 29, 2, 3, 30, 31, 32, 33, 34, 35, 36, 37, 38, 39, 40, 41, 42, 43, 44, 127, 94, 95] (by decide +kernel) (by decide +kernel)
set_option maxRecDepth 20000 in
theorem gX6_init_X3_init : GoodIn wsX6_init (wsX3_init) := ggX6_init_X3_init
set_option maxRecDepth 20000 in
theorem ggX6_init_X1_init : GoodIn wsX6_init wsX1_init := goodIn_r _ [47, 48, 2, 3, 49, 31, 32, 50, 51, 52, 53, 54, 36, 37, 38, 39, 40, 127, 103, 104, 105, 106] (by decide +kernel) (by decide +kernel)
set_option maxRecDepth 20000 in
theorem gX6_init_X1_init : GoodIn wsX6_init (wsX1_init) := ggX6_init_X1_init
set_option maxRecDepth 20000 in
theorem ggX6_init_X0_init : GoodIn wsX6_init wsX0_init := goodIn_r _ [57, 58, 2, 3, 59, 31, 32, 60, 61, 62, 63, 64, 65, 66, 67, 36, 37, 38, 39, 40, 127, 107, 108, 109, 110, 111, 112, 113] (by decide +kernel) (by decide +kernel)
set_option maxRecDepth 20000 in
theorem gX6_init_X0_init : GoodIn wsX6_init (wsX0_init) := ggX6_init_X0_init
set_option maxRecDepth 20000 in
theorem ggX6_init_X2_init : GoodIn wsX6_init wsX2_init := goodIn_r _ [70, 71, 2, 3, 72, 31, 32, 73, 74, 75, 76, 77, 78, 79, 80, 36, 37, 38, 39, 40, 127, 114, 115, 116, 117, 118, 119, 120] (by decide +kernel) (by decide +kernel)
set_option maxRecDepth 20000 in
theorem gX6_init_X2_init : GoodIn wsX6_init (wsX2_init) := ggX6_init_X2_init
set_option maxRecDepth 20000 in
theorem ggX6_init_X4_init : GoodIn wsX6_init wsX4_init := goodIn_r _ [83, 84, 2, 3, 85, 31, 32, 86, 87, 88, 89, 90, 91, 92, 36, 37, 38, 39, 40, 93, 42, 43, 44, 127, 121, 122, 123, 124, 125, 126] (by decide +kernel) (by decide +kernel)
set_option maxRecDepth 20000 in
theorem gX6_init_X4_init : GoodIn wsX6_init (wsX4_init) := ggX6_init_X4_init
theorem dX6_init_0 : decode cX6_init 0 = .ok (.aload_n 0, 1) := by decide +kernel
theorem dX6_init_1 : decode cX6_init 1 = .ok (.invokespecial 3, 3) := by decide +kernel
theorem dX6_init_4 : decode cX6_init 4 = .ok (.aload_n 0, 1) := by decide +kernel
theorem dX6_init_5 : decode cX6_init 5 = .ok (.new 9, 3) := by decide +kernel
theorem dX6_init_8 : decode cX6_init 8 = .ok (.dup, 1) := by decide +kernel
theorem dX6_init_9 : decode cX6_init 9 = .ok (.invokespecial 11, 3) := by decide +kernel
theorem dX6_init_12 : decode cX6_init 12 = .ok (.putfield 12, 3) := by decide +kernel
theorem dX6_init_15 : decode cX6_init 15 = .ok (.aload_n 0, 1) := by decide +kernel
theorem dX6_init_16 : decode cX6_init 16 = .ok (.new 16, 3) := by decide +kernel
theorem dX6_init_19 : decode cX6_init 19 = .ok (.dup, 1) := by decide +kernel
theorem dX6_init_20 : decode cX6_init 20 = .ok (.invokespecial 18, 3) := by decide +kernel
theorem dX6_init_23 : decode cX6_init 23 = .ok (.putfield 19, 3) := by decide +kernel
theorem dX6_init_26 : decode cX6_init 26 = .ok (.aload_n 0, 1) := by decide +kernel
theorem dX6_init_27 : decode cX6_init 27 = .ok (.new 23, 3) := by decide +kernel
theorem dX6_init_30 : decode cX6_init 30 = .ok (.dup, 1) := by decide +kernel
theorem dX6_init_31 : decode cX6_init 31 = .ok (.invokespecial 25, 3) := by decide +kernel
theorem dX6_init_34 : decode cX6_init 34 = .ok (.putfield 26, 3) := by decide +kernel
theorem dX6_init_37 : decode cX6_init 37 = .ok (.aload_n 0, 1) := by decide +kernel
theorem dX6_init_38 : decode cX6_init 38 = .ok (.new 30, 3) := by decide +kernel
theorem dX6_init_41 : decode cX6_init 41 = .ok (.dup, 1) := by decide +kernel
theorem dX6_init_42 : decode cX6_init 42 = .ok (.invokespecial 32, 3) := by decide +kernel
theorem dX6_init_45 : decode cX6_init 45 = .ok (.putfield 33, 3) := by decide +kernel
theorem dX6_init_48 : decode cX6_init 48 = .ok (.aload_n 0, 1) := by decide +kernel
theorem dX6_init_49 : decode cX6_init 49 = .ok (.new 37, 3) := by decide +kernel
theorem dX6_init_52 : decode cX6_init 52 = .ok (.dup, 1) := by decide +kernel
theorem dX6_init_53 : decode cX6_init 53 = .ok (.invokespecial 39, 3) := by decide +kernel
theorem dX6_init_56 : decode cX6_init 56 = .ok (.putfield 40, 3) := by decide +kernel
theorem dX6_init_59 : decode cX6_init 59 = .ok (.aload_n 0, 1) := by decide +kernel
theorem dX6_init_60 : decode cX6_init 60 = .ok (.iconst 1, 1) := by decide +kernel
theorem dX6_init_61 : decode cX6_init 61 = .ok (.putfield 44, 3) := by decide +kernel
theorem dX6_init_64 : decode cX6_init 64 = .ok (.aload_n 0, 1) := by decide +kernel
theorem dX6_init_65 : decode cX6_init 65 = .ok (.iconst 0, 1) := by decide +kernel
theorem dX6_init_66 : decode cX6_init 66 = .ok (.putfield 48, 3) := by decide +kernel
theorem dX6_init_69 : decode cX6_init 69 = .ok (.return_, 1) := by decide +kernel
theorem dX6_build_0 : decode cX6_build 0 = .ok (.aload_n 0, 1) := by decide +kernel
theorem dX6_build_1 : decode cX6_build 1 = .ok (.getfield 44, 3) := by decide +kernel
theorem dX6_build_4 : decode cX6_build 4 = .ok (.bipush 20, 2) := by decide +kernel
theorem dX6_build_6 : decode cX6_build 6 = .ok (.if_icmp .lt 13, 3) := by decide +kernel
theorem dX6_build_9 : decode cX6_build 9 = .ok (.new 51, 3) := by decide +kernel
theorem dX6_build_12 : decode cX6_build 12 = .ok (.dup, 1) := by decide +kernel
theorem dX6_build_13 : decode cX6_build 13 = .ok (.ldc 53, 2) := by decide +kernel
theorem dX6_build_15 : decode cX6_build 15 = .ok (.invokespecial 55, 3) := by decide +kernel
theorem dX6_build_18 : decode cX6_build 18 = .ok (.athrow, 1) := by decide +kernel
theorem dX6_build_19 : decode cX6_build 19 = .ok (.aload_n 0, 1) := by decide +kernel
theorem dX6_build_20 : decode cX6_build 20 = .ok (.dup, 1) := by decide +kernel
theorem dX6_build_21 : decode cX6_build 21 = .ok (.getfield 44, 3) := by decide +kernel
theorem dX6_build_24 : decode cX6_build 24 = .ok (.iconst 1, 1) := by decide +kernel
theorem dX6_build_25 : decode cX6_build 25 = .ok (.iadd, 1) := by decide +kernel
theorem dX6_build_26 : decode cX6_build 26 = .ok (.putfield 44, 3) := by decide +kernel
theorem dX6_build_29 : decode cX6_build 29 = .ok (.aload_n 0, 1) := by decide +kernel
theorem dX6_build_30 : decode cX6_build 30 = .ok (.getfield 44, 3) := by decide +kernel
theorem dX6_build_33 : decode cX6_build 33 = .ok (.iconst 1, 1) := by decide +kernel
theorem dX6_build_34 : decode cX6_build 34 = .ok (.isub, 1) := by decide +kernel
theorem dX6_build_35 : decode cX6_build 35 = .ok (.ireturn, 1) := by decide +kernel
set_option maxRecDepth 20000 in
theorem ggX6_defect_X6_requireVersion : GoodIn wsX6_defect wsX6_requireVersion := goodIn_ca (goodIn_r _ [8, 9, 10, 11, 43, 44, 45, 46, 47, 48, 49] (by decide +kernel) (by decide +kernel)) (goodIn_sub (fun _ h => List.mem_cons_of_mem _ (List.mem_append_right _ h)) (by decide +kernel))
set_option maxRecDepth 20000 in
theorem gX6_defect_X6_requireVersion : GoodIn wsX6_defect (wsV RX6 58 RX6 yX6_requireVersion wsX6_requireVersion) := goodIn_app (goodIn_of _ (by decide +kernel)) ggX6_defect_X6_requireVersion
set_option maxRecDepth 20000 in
theorem ggX6_defect_X6_requireSwitch : GoodIn wsX6_defect wsX6_requireSwitch := goodIn_ca (goodIn_r _ [14, 9, 10, 15, 16, 7, 17] (by decide +kernel) (by decide +kernel)) (goodIn_sub (fun _ h => List.mem_cons_of_mem _ (List.mem_append_right _ h)) (by decide +kernel))
set_option maxRecDepth 20000 in
theorem gX6_defect_X6_requireSwitch : GoodIn wsX6_defect (va_wsS RX6 62 yX6_requireSwitch wsX6_requireSwitch) := goodIn_app (goodIn_of _ (by decide +kernel)) ggX6_defect_X6_requireSwitch
set_option maxRecDepth 20000 in
theorem ggX6_defect_X1_total : GoodIn wsX6_defect wsX1_total := goodIn_r _ [22, 23, 50, 51, 52, 53] (by decide +kernel) (by decide +kernel)
set_option maxRecDepth 20000 in
theorem gX6_defect_X1_total : GoodIn wsX6_defect (wsV RX6 65 RX1 yX1_total wsX1_total) := goodIn_app (goodIn_of _ (by decide +kernel)) ggX6_defect_X1_total
set_option maxRecDepth 20000 in
theorem ggX6_defect_X1_add : GoodIn wsX6_defect wsX1_add := goodIn_r _ [27, 23, 28, 29, 30, 31, 32, 33, 34, 35, 36, 37, 38, 39, 40, 41, 7, 42, 50, 51, 52, 53, 54] (by decide +kernel) (by decide +kernel)
set_option maxRecDepth 20000 in
theorem gX6_defect_X1_add : GoodIn wsX6_defect (wsV RX6 71 RX1 yX1_add wsX1_add) := goodIn_app (goodIn_of _ (by decide +kernel)) ggX6_defect_X1_add
theorem dX6_defect_0 : decode cX6_defect 0 = .ok (.aload_n 0, 1) := by decide +kernel
theorem dX6_defect_1 : decode cX6_defect 1 = .ok (.iload_n 1, 1) := by decide +kernel
theorem dX6_defect_2 : decode cX6_defect 2 = .ok (.invokevirtual 58, 3) := by decide +kernel
theorem dX6_defect_5 : decode cX6_defect 5 = .ok (.iload_n 2, 1) := by decide +kernel
theorem dX6_defect_6 : decode cX6_defect 6 = .ok (.iconst (-1), 1) := by decide +kernel
theorem dX6_defect_7 : decode cX6_defect 7 = .ok (.if_icmp .eq 7, 3) := by decide +kernel
theorem dX6_defect_10 : decode cX6_defect 10 = .ok (.iload_n 2, 1) := by decide +kernel
theorem dX6_defect_11 : decode cX6_defect 11 = .ok (.invokestatic 62, 3) := by decide +kernel
theorem dX6_defect_14 : decode cX6_defect 14 = .ok (.aload_n 0, 1) := by decide +kernel
theorem dX6_defect_15 : decode cX6_defect 15 = .ok (.getfield 19, 3) := by decide +kernel
theorem dX6_defect_18 : decode cX6_defect 18 = .ok (.invokevirtual 65, 3) := by decide +kernel
theorem dX6_defect_21 : decode cX6_defect 21 = .ok (.bipush 24, 2) := by decide +kernel
theorem dX6_defect_23 : decode cX6_defect 23 = .ok (.if_icmp .lt 13, 3) := by decide +kernel
theorem dX6_defect_26 : decode cX6_defect 26 = .ok (.new 51, 3) := by decide +kernel
theorem dX6_defect_29 : decode cX6_defect 29 = .ok (.dup, 1) := by decide +kernel
theorem dX6_defect_30 : decode cX6_defect 30 = .ok (.ldc 69, 2) := by decide +kernel
theorem dX6_defect_32 : decode cX6_defect 32 = .ok (.invokespecial 55, 3) := by decide +kernel
theorem dX6_defect_35 : decode cX6_defect 35 = .ok (.athrow, 1) := by decide +kernel
theorem dX6_defect_36 : decode cX6_defect 36 = .ok (.aload_n 0, 1) := by decide +kernel
theorem dX6_defect_37 : decode cX6_defect 37 = .ok (.getfield 19, 3) := by decide +kernel
theorem dX6_defect_40 : decode cX6_defect 40 = .ok (.iload_n 1, 1) := by decide +kernel
theorem dX6_defect_41 : decode cX6_defect 41 = .ok (.iload_n 2, 1) := by decide +kernel
theorem dX6_defect_42 : decode cX6_defect 42 = .ok (.iload_n 3, 1) := by decide +kernel
theorem dX6_defect_43 : decode cX6_defect 43 = .ok (.invokevirtual 71, 3) := by decide +kernel
theorem dX6_defect_46 : decode cX6_defect 46 = .ok (.aload_n 0, 1) := by decide +kernel
theorem dX6_defect_47 : decode cX6_defect 47 = .ok (.getfield 19, 3) := by decide +kernel
theorem dX6_defect_50 : decode cX6_defect 50 = .ok (.invokevirtual 65, 3) := by decide +kernel
theorem dX6_defect_53 : decode cX6_defect 53 = .ok (.ireturn, 1) := by decide +kernel
set_option maxRecDepth 20000 in
theorem ggX6_need_X6_requireSwitch : GoodIn wsX6_need wsX6_requireSwitch := goodIn_ca (goodIn_r _ [9, 10, 11, 12, 13, 8, 14] (by decide +kernel) (by decide +kernel)) (goodIn_sub (fun _ h => List.mem_cons_of_mem _ (List.mem_append_right _ h)) (by decide +kernel))
set_option maxRecDepth 20000 in
theorem gX6_need_X6_requireSwitch : GoodIn wsX6_need (va_wsS RX6 62 yX6_requireSwitch wsX6_requireSwitch) := goodIn_app (goodIn_of _ (by decide +kernel)) ggX6_need_X6_requireSwitch
set_option maxRecDepth 20000 in
theorem ggX6_need_X3_reaches : GoodIn wsX6_need wsX3_reaches := goodIn_r _ [19, 20, 21, 22, 23, 24, 25, 26, 27, 8, 28, 62, 63, 64] (by decide +kernel) (by decide +kernel)
set_option maxRecDepth 20000 in
theorem gX6_need_X3_reaches : GoodIn wsX6_need (wsV RX6 80 RX3 yX3_reaches wsX3_reaches) := goodIn_app (goodIn_of _ (by decide +kernel)) ggX6_need_X3_reaches
set_option maxRecDepth 20000 in
theorem ggX6_need_X3_put : GoodIn wsX6_need wsX3_put := goodIn_r _ [32, 33, 20, 21, 22, 23, 24, 25, 26, 34, 8, 35, 36, 37, 38, 39, 40, 41, 42, 18, 43, 27, 28, 62, 63, 64] (by decide +kernel) (by decide +kernel)
set_option maxRecDepth 20000 in
theorem gX6_need_X3_put : GoodIn wsX6_need (wsV RX6 86 RX3 yX3_put wsX3_put) := goodIn_app (goodIn_of _ (by decide +kernel)) ggX6_need_X3_put
set_option maxRecDepth 20000 in
theorem ggX6_need_X3_directCount : GoodIn wsX6_need wsX3_directCount := goodIn_r _ [47, 33, 21, 22, 23, 24, 25, 26, 48, 49, 50, 51, 52, 53, 54, 62, 63, 64] (by decide +kernel) (by decide +kernel)
set_option maxRecDepth 20000 in
theorem gX6_need_X3_directCount : GoodIn wsX6_need (wsV RX6 89 RX3 yX3_directCount wsX3_directCount) := goodIn_app (goodIn_of _ (by decide +kernel)) ggX6_need_X3_directCount
theorem dX6_need_0 : decode cX6_need 0 = .ok (.iload_n 1, 1) := by decide +kernel
theorem dX6_need_1 : decode cX6_need 1 = .ok (.invokestatic 62, 3) := by decide +kernel
theorem dX6_need_4 : decode cX6_need 4 = .ok (.iload_n 2, 1) := by decide +kernel
theorem dX6_need_5 : decode cX6_need 5 = .ok (.invokestatic 62, 3) := by decide +kernel
theorem dX6_need_8 : decode cX6_need 8 = .ok (.iload_n 1, 1) := by decide +kernel
theorem dX6_need_9 : decode cX6_need 9 = .ok (.iload_n 2, 1) := by decide +kernel
theorem dX6_need_10 : decode cX6_need 10 = .ok (.if_icmp .ne 13, 3) := by decide +kernel
theorem dX6_need_13 : decode cX6_need 13 = .ok (.new 75, 3) := by decide +kernel
theorem dX6_need_16 : decode cX6_need 16 = .ok (.dup, 1) := by decide +kernel
theorem dX6_need_17 : decode cX6_need 17 = .ok (.ldc 77, 2) := by decide +kernel
theorem dX6_need_19 : decode cX6_need 19 = .ok (.invokespecial 79, 3) := by decide +kernel
theorem dX6_need_22 : decode cX6_need 22 = .ok (.athrow, 1) := by decide +kernel
theorem dX6_need_23 : decode cX6_need 23 = .ok (.iload_n 3, 1) := by decide +kernel
theorem dX6_need_24 : decode cX6_need 24 = .ok (.ifCond .eq 25, 3) := by decide +kernel
theorem dX6_need_27 : decode cX6_need 27 = .ok (.aload_n 0, 1) := by decide +kernel
theorem dX6_need_28 : decode cX6_need 28 = .ok (.getfield 12, 3) := by decide +kernel
theorem dX6_need_31 : decode cX6_need 31 = .ok (.iload_n 2, 1) := by decide +kernel
theorem dX6_need_32 : decode cX6_need 32 = .ok (.iload_n 1, 1) := by decide +kernel
theorem dX6_need_33 : decode cX6_need 33 = .ok (.invokevirtual 80, 3) := by decide +kernel
theorem dX6_need_36 : decode cX6_need 36 = .ok (.ifCond .eq 13, 3) := by decide +kernel
theorem dX6_need_39 : decode cX6_need 39 = .ok (.new 51, 3) := by decide +kernel
theorem dX6_need_42 : decode cX6_need 42 = .ok (.dup, 1) := by decide +kernel
theorem dX6_need_43 : decode cX6_need 43 = .ok (.ldc 84, 2) := by decide +kernel
theorem dX6_need_45 : decode cX6_need 45 = .ok (.invokespecial 55, 3) := by decide +kernel
theorem dX6_need_48 : decode cX6_need 48 = .ok (.athrow, 1) := by decide +kernel
theorem dX6_need_49 : decode cX6_need 49 = .ok (.aload_n 0, 1) := by decide +kernel
theorem dX6_need_50 : decode cX6_need 50 = .ok (.getfield 12, 3) := by decide +kernel
theorem dX6_need_53 : decode cX6_need 53 = .ok (.iload_n 1, 1) := by decide +kernel
theorem dX6_need_54 : decode cX6_need 54 = .ok (.iload_n 2, 1) := by decide +kernel
theorem dX6_need_55 : decode cX6_need 55 = .ok (.iload_n 3, 1) := by decide +kernel
theorem dX6_need_56 : decode cX6_need 56 = .ok (.invokevirtual 86, 3) := by decide +kernel
theorem dX6_need_59 : decode cX6_need 59 = .ok (.aload_n 0, 1) := by decide +kernel
theorem dX6_need_60 : decode cX6_need 60 = .ok (.getfield 12, 3) := by decide +kernel
theorem dX6_need_63 : decode cX6_need 63 = .ok (.iload_n 1, 1) := by decide +kernel
theorem dX6_need_64 : decode cX6_need 64 = .ok (.invokevirtual 89, 3) := by decide +kernel
theorem dX6_need_67 : decode cX6_need 67 = .ok (.ireturn, 1) := by decide +kernel
set_option maxRecDepth 20000 in
theorem ggX6_turn_X6_requirePerson : GoodIn wsX6_turn wsX6_requirePerson := goodIn_ca (goodIn_r _ [10, 11, 12] (by decide +kernel) (by decide +kernel)) (goodIn_sub (fun _ h => List.mem_cons_of_mem _ (List.mem_append_right _ h)) (by decide +kernel))
set_option maxRecDepth 20000 in
theorem gX6_turn_X6_requirePerson : GoodIn wsX6_turn (va_wsS RX6 93 yX6_requirePerson wsX6_requirePerson) := goodIn_app (goodIn_of _ (by decide +kernel)) ggX6_turn_X6_requirePerson
set_option maxRecDepth 20000 in
theorem ggX6_turn_X6_requireSwitch : GoodIn wsX6_turn wsX6_requireSwitch := goodIn_ca (goodIn_r _ [15, 11, 12, 16, 17, 9, 18] (by decide +kernel) (by decide +kernel)) (goodIn_sub (fun _ h => List.mem_cons_of_mem _ (List.mem_append_right _ h)) (by decide +kernel))
set_option maxRecDepth 20000 in
theorem gX6_turn_X6_requireSwitch : GoodIn wsX6_turn (va_wsS RX6 62 yX6_requireSwitch wsX6_requireSwitch) := goodIn_app (goodIn_of _ (by decide +kernel)) ggX6_turn_X6_requireSwitch
set_option maxRecDepth 20000 in
theorem ggX6_turn_X6_requireCanChange : GoodIn wsX6_turn wsX6_requireCanChange := goodIn_ca (goodIn_r _ [22, 3, 4, 23, 6, 5, 24, 25, 26, 27, 28, 29, 30, 31, 32, 33, 34, 35, 36, 37, 38, 39, 40, 41, 61, 62, 63, 64, 65, 66, 67, 68, 69, 70, 71, 72, 73, 74, 75, 76, 77, 78, 79, 80, 81] (by decide +kernel) (by decide +kernel)) (goodIn_sub (fun _ h => List.mem_cons_of_mem _ (List.mem_append_left _ (List.mem_append_right _ h))) (by decide +kernel))
set_option maxRecDepth 20000 in
theorem gX6_turn_X6_requireCanChange : GoodIn wsX6_turn (wsV RX6 98 RX6 yX6_requireCanChange wsX6_requireCanChange) := goodIn_app (goodIn_of _ (by decide +kernel)) ggX6_turn_X6_requireCanChange
set_option maxRecDepth 20000 in
theorem ggX6_turn_X0_valueNow : GoodIn wsX6_turn wsX0_valueNow := goodIn_r _ [45, 46, 47, 48, 31, 32, 33, 34, 35, 75, 76, 77, 78, 79, 80, 81, 74] (by decide +kernel) (by decide +kernel)
set_option maxRecDepth 20000 in
theorem gX6_turn_X0_valueNow : GoodIn wsX6_turn (wsV RX6 101 RX0 yX0_valueNow wsX0_valueNow) := goodIn_app (goodIn_of _ (by decide +kernel)) ggX6_turn_X0_valueNow
set_option maxRecDepth 20000 in
theorem ggX6_turn_X0_add : GoodIn wsX6_turn wsX0_add := goodIn_r _ [52, 41, 53, 54, 55, 47, 56, 46, 57, 58, 59, 33, 60, 35, 48, 31, 32, 34, 75, 76, 77, 78, 79, 80, 81, 74] (by decide +kernel) (by decide +kernel)
set_option maxRecDepth 20000 in
theorem gX6_turn_X0_add : GoodIn wsX6_turn (wsV RX6 106 RX0 yX0_add wsX0_add) := goodIn_app (goodIn_of _ (by decide +kernel)) ggX6_turn_X0_add
theorem dX6_turn_0 : decode cX6_turn 0 = .ok (.iload_n 1, 1) := by decide +kernel
theorem dX6_turn_1 : decode cX6_turn 1 = .ok (.invokestatic 93, 3) := by decide +kernel
theorem dX6_turn_4 : decode cX6_turn 4 = .ok (.iload_n 2, 1) := by decide +kernel
theorem dX6_turn_5 : decode cX6_turn 5 = .ok (.invokestatic 62, 3) := by decide +kernel
theorem dX6_turn_8 : decode cX6_turn 8 = .ok (.iload_n 3, 1) := by decide +kernel
theorem dX6_turn_9 : decode cX6_turn 9 = .ok (.ifCond .lt 8, 3) := by decide +kernel
theorem dX6_turn_12 : decode cX6_turn 12 = .ok (.iload_n 3, 1) := by decide +kernel
theorem dX6_turn_13 : decode cX6_turn 13 = .ok (.iconst 4, 1) := by decide +kernel
theorem dX6_turn_14 : decode cX6_turn 14 = .ok (.if_icmp .le 13, 3) := by decide +kernel
theorem dX6_turn_17 : decode cX6_turn 17 = .ok (.new 75, 3) := by decide +kernel
theorem dX6_turn_20 : decode cX6_turn 20 = .ok (.dup, 1) := by decide +kernel
theorem dX6_turn_21 : decode cX6_turn 21 = .ok (.ldc 96, 2) := by decide +kernel
theorem dX6_turn_23 : decode cX6_turn 23 = .ok (.invokespecial 79, 3) := by decide +kernel
theorem dX6_turn_26 : decode cX6_turn 26 = .ok (.athrow, 1) := by decide +kernel
theorem dX6_turn_27 : decode cX6_turn 27 = .ok (.aload_n 0, 1) := by decide +kernel
theorem dX6_turn_28 : decode cX6_turn 28 = .ok (.iload_n 1, 1) := by decide +kernel
theorem dX6_turn_29 : decode cX6_turn 29 = .ok (.invokevirtual 98, 3) := by decide +kernel
theorem dX6_turn_32 : decode cX6_turn 32 = .ok (.aload_n 0, 1) := by decide +kernel
theorem dX6_turn_33 : decode cX6_turn 33 = .ok (.getfield 26, 3) := by decide +kernel
theorem dX6_turn_36 : decode cX6_turn 36 = .ok (.iload_n 2, 1) := by decide +kernel
theorem dX6_turn_37 : decode cX6_turn 37 = .ok (.invokevirtual 101, 3) := by decide +kernel
theorem dX6_turn_40 : decode cX6_turn 40 = .ok (.iload_n 3, 1) := by decide +kernel
theorem dX6_turn_41 : decode cX6_turn 41 = .ok (.if_icmp .ne 13, 3) := by decide +kernel
theorem dX6_turn_44 : decode cX6_turn 44 = .ok (.new 51, 3) := by decide +kernel
theorem dX6_turn_47 : decode cX6_turn 47 = .ok (.dup, 1) := by decide +kernel
theorem dX6_turn_48 : decode cX6_turn 48 = .ok (.ldc 104, 2) := by decide +kernel
theorem dX6_turn_50 : decode cX6_turn 50 = .ok (.invokespecial 55, 3) := by decide +kernel
theorem dX6_turn_53 : decode cX6_turn 53 = .ok (.athrow, 1) := by decide +kernel
theorem dX6_turn_54 : decode cX6_turn 54 = .ok (.aload_n 0, 1) := by decide +kernel
theorem dX6_turn_55 : decode cX6_turn 55 = .ok (.getfield 26, 3) := by decide +kernel
theorem dX6_turn_58 : decode cX6_turn 58 = .ok (.iload_n 1, 1) := by decide +kernel
theorem dX6_turn_59 : decode cX6_turn 59 = .ok (.aload_n 0, 1) := by decide +kernel
theorem dX6_turn_60 : decode cX6_turn 60 = .ok (.getfield 48, 3) := by decide +kernel
theorem dX6_turn_63 : decode cX6_turn 63 = .ok (.iload_n 2, 1) := by decide +kernel
theorem dX6_turn_64 : decode cX6_turn 64 = .ok (.iload_n 3, 1) := by decide +kernel
theorem dX6_turn_65 : decode cX6_turn 65 = .ok (.invokevirtual 106, 3) := by decide +kernel
theorem dX6_turn_68 : decode cX6_turn 68 = .ok (.ireturn, 1) := by decide +kernel
set_option maxRecDepth 20000 in
theorem ggX6_roll_X6_requirePerson : GoodIn wsX6_roll wsX6_requirePerson := goodIn_ca (goodIn_r _ [8, 9, 10] (by decide +kernel) (by decide +kernel)) (goodIn_sub (fun _ h => List.mem_cons_of_mem _ (List.mem_append_right _ h)) (by decide +kernel))
set_option maxRecDepth 20000 in
theorem gX6_roll_X6_requirePerson : GoodIn wsX6_roll (va_wsS RX6 93 yX6_requirePerson wsX6_requirePerson) := goodIn_app (goodIn_of _ (by decide +kernel)) ggX6_roll_X6_requirePerson
set_option maxRecDepth 20000 in
theorem ggX6_roll_X6_requireRing : GoodIn wsX6_roll wsX6_requireRing := goodIn_ca (goodIn_r _ [13, 9, 10] (by decide +kernel) (by decide +kernel)) (goodIn_sub (fun _ h => List.mem_cons_of_mem _ (List.mem_append_right _ h)) (by decide +kernel))
set_option maxRecDepth 20000 in
theorem gX6_roll_X6_requireRing : GoodIn wsX6_roll (va_wsS RX6 109 yX6_requireRing wsX6_requireRing) := goodIn_app (goodIn_of _ (by decide +kernel)) ggX6_roll_X6_requireRing
set_option maxRecDepth 20000 in
theorem ggX6_roll_X6_requireVersion : GoodIn wsX6_roll wsX6_requireVersion := goodIn_ca (goodIn_r _ [17, 9, 10, 18, 84, 85, 86, 87, 88, 89, 90] (by decide +kernel) (by decide +kernel)) (goodIn_sub (fun _ h => List.mem_cons_of_mem _ (List.mem_append_right _ h)) (by decide +kernel))
set_option maxRecDepth 20000 in
theorem gX6_roll_X6_requireVersion : GoodIn wsX6_roll (wsV RX6 58 RX6 yX6_requireVersion wsX6_requireVersion) := goodIn_app (goodIn_of _ (by decide +kernel)) ggX6_roll_X6_requireVersion
set_option maxRecDepth 20000 in
theorem ggX6_roll_X6_requireCanChange : GoodIn wsX6_roll wsX6_requireCanChange := goodIn_ca (goodIn_r _ [22, 1, 2, 23, 4, 3, 24, 25, 26, 27, 28, 29, 30, 31, 32, 33, 34, 35, 36, 37, 38, 39, 40, 41, 84, 85, 86, 87, 88, 89, 90, 91, 92, 93, 94, 95, 96, 97, 98, 99, 100, 101, 102, 103, 104] (by decide +kernel) (by decide +kernel)) (goodIn_sub (fun _ h => List.mem_cons_of_mem _ (List.mem_append_left _ (List.mem_append_right _ h))) (by decide +kernel))
set_option maxRecDepth 20000 in
theorem gX6_roll_X6_requireCanChange : GoodIn wsX6_roll (wsV RX6 98 RX6 yX6_requireCanChange wsX6_requireCanChange) := goodIn_app (goodIn_of _ (by decide +kernel)) ggX6_roll_X6_requireCanChange
set_option maxRecDepth 20000 in
theorem ggX6_roll_X6_runs : GoodIn wsX6_roll wsX6_runs := goodIn_r _ [45, 3, 46, 47, 7, 48, 49, 50, 51, 39, 52, 53, 54, 55, 31, 32, 33, 34, 35, 84, 85, 86, 87, 88, 89, 90, 98, 99, 100, 101, 102, 103, 104, 97] (by decide +kernel) (by decide +kernel)
set_option maxRecDepth 20000 in
theorem gX6_roll_X6_runs : GoodIn wsX6_roll (wsV RX6 112 RX6 yX6_runs wsX6_runs) := goodIn_app (goodIn_of _ (by decide +kernel)) ggX6_roll_X6_runs
set_option maxRecDepth 20000 in
theorem ggX6_roll_X6_isHeldBack : GoodIn wsX6_roll wsX6_isHeldBack := goodIn_r _ [59, 3, 4, 60, 46, 47, 7, 48, 49, 50, 51, 39, 52, 53, 54, 55, 31, 32, 33, 34, 35, 61, 62, 63, 64, 65, 66, 67, 68, 69, 70, 71, 72, 84, 85, 86, 87, 88, 89, 90, 98, 99, 100, 101, 102, 103, 104, 97, 105, 106, 107, 108, 109, 110, 111] (by decide +kernel) (by decide +kernel)
set_option maxRecDepth 20000 in
theorem gX6_roll_X6_isHeldBack : GoodIn wsX6_roll (wsV RX6 117 RX6 yX6_isHeldBack wsX6_isHeldBack) := goodIn_app (goodIn_of _ (by decide +kernel)) ggX6_roll_X6_isHeldBack
set_option maxRecDepth 20000 in
theorem ggX6_roll_X6_subjectOfRing : GoodIn wsX6_roll wsX6_subjectOfRing := goodIn_r _ [48] (by decide +kernel) (by decide +kernel)
set_option maxRecDepth 20000 in
theorem gX6_roll_X6_subjectOfRing : GoodIn wsX6_roll (va_wsS RX6 122 yX6_subjectOfRing wsX6_subjectOfRing) := goodIn_app (goodIn_of _ (by decide +kernel)) ggX6_roll_X6_subjectOfRing
set_option maxRecDepth 20000 in
theorem ggX6_roll_X0_add : GoodIn wsX6_roll wsX0_add := goodIn_r _ [76, 41, 77, 65, 78, 54, 79, 53, 80, 81, 82, 33, 83, 35, 55, 31, 32, 34, 98, 99, 100, 101, 102, 103, 104, 97] (by decide +kernel) (by decide +kernel)
set_option maxRecDepth 20000 in
theorem gX6_roll_X0_add : GoodIn wsX6_roll (wsV RX6 106 RX0 yX0_add wsX0_add) := goodIn_app (goodIn_of _ (by decide +kernel)) ggX6_roll_X0_add
theorem dX6_roll_0 : decode cX6_roll 0 = .ok (.iload_n 1, 1) := by decide +kernel
theorem dX6_roll_1 : decode cX6_roll 1 = .ok (.invokestatic 93, 3) := by decide +kernel
theorem dX6_roll_4 : decode cX6_roll 4 = .ok (.iload_n 2, 1) := by decide +kernel
theorem dX6_roll_5 : decode cX6_roll 5 = .ok (.invokestatic 109, 3) := by decide +kernel
theorem dX6_roll_8 : decode cX6_roll 8 = .ok (.aload_n 0, 1) := by decide +kernel
theorem dX6_roll_9 : decode cX6_roll 9 = .ok (.iload_n 3, 1) := by decide +kernel
theorem dX6_roll_10 : decode cX6_roll 10 = .ok (.invokevirtual 58, 3) := by decide +kernel
theorem dX6_roll_13 : decode cX6_roll 13 = .ok (.aload_n 0, 1) := by decide +kernel
theorem dX6_roll_14 : decode cX6_roll 14 = .ok (.iload_n 1, 1) := by decide +kernel
theorem dX6_roll_15 : decode cX6_roll 15 = .ok (.invokevirtual 98, 3) := by decide +kernel
theorem dX6_roll_18 : decode cX6_roll 18 = .ok (.aload_n 0, 1) := by decide +kernel
theorem dX6_roll_19 : decode cX6_roll 19 = .ok (.iload_n 2, 1) := by decide +kernel
theorem dX6_roll_20 : decode cX6_roll 20 = .ok (.invokevirtual 112, 3) := by decide +kernel
theorem dX6_roll_23 : decode cX6_roll 23 = .ok (.iload_n 3, 1) := by decide +kernel
theorem dX6_roll_24 : decode cX6_roll 24 = .ok (.if_icmp .ne 13, 3) := by decide +kernel
theorem dX6_roll_27 : decode cX6_roll 27 = .ok (.new 51, 3) := by decide +kernel
theorem dX6_roll_30 : decode cX6_roll 30 = .ok (.dup, 1) := by decide +kernel
theorem dX6_roll_31 : decode cX6_roll 31 = .ok (.ldc 115, 2) := by decide +kernel
theorem dX6_roll_33 : decode cX6_roll 33 = .ok (.invokespecial 55, 3) := by decide +kernel
theorem dX6_roll_36 : decode cX6_roll 36 = .ok (.athrow, 1) := by decide +kernel
theorem dX6_roll_37 : decode cX6_roll 37 = .ok (.aload_n 0, 1) := by decide +kernel
theorem dX6_roll_38 : decode cX6_roll 38 = .ok (.iload_n 2, 1) := by decide +kernel
theorem dX6_roll_39 : decode cX6_roll 39 = .ok (.iload_n 3, 1) := by decide +kernel
theorem dX6_roll_40 : decode cX6_roll 40 = .ok (.invokevirtual 117, 3) := by decide +kernel
theorem dX6_roll_43 : decode cX6_roll 43 = .ok (.ifCond .eq 13, 3) := by decide +kernel
theorem dX6_roll_46 : decode cX6_roll 46 = .ok (.new 51, 3) := by decide +kernel
theorem dX6_roll_49 : decode cX6_roll 49 = .ok (.dup, 1) := by decide +kernel
theorem dX6_roll_50 : decode cX6_roll 50 = .ok (.ldc 120, 2) := by decide +kernel
theorem dX6_roll_52 : decode cX6_roll 52 = .ok (.invokespecial 55, 3) := by decide +kernel
theorem dX6_roll_55 : decode cX6_roll 55 = .ok (.athrow, 1) := by decide +kernel
theorem dX6_roll_56 : decode cX6_roll 56 = .ok (.aload_n 0, 1) := by decide +kernel
theorem dX6_roll_57 : decode cX6_roll 57 = .ok (.getfield 26, 3) := by decide +kernel
theorem dX6_roll_60 : decode cX6_roll 60 = .ok (.iload_n 1, 1) := by decide +kernel
theorem dX6_roll_61 : decode cX6_roll 61 = .ok (.aload_n 0, 1) := by decide +kernel
theorem dX6_roll_62 : decode cX6_roll 62 = .ok (.getfield 48, 3) := by decide +kernel
theorem dX6_roll_65 : decode cX6_roll 65 = .ok (.iload_n 2, 1) := by decide +kernel
theorem dX6_roll_66 : decode cX6_roll 66 = .ok (.invokestatic 122, 3) := by decide +kernel
theorem dX6_roll_69 : decode cX6_roll 69 = .ok (.iload_n 3, 1) := by decide +kernel
theorem dX6_roll_70 : decode cX6_roll 70 = .ok (.invokevirtual 106, 3) := by decide +kernel
theorem dX6_roll_73 : decode cX6_roll 73 = .ok (.ireturn, 1) := by decide +kernel
set_option maxRecDepth 20000 in
theorem ggX6_revert_X6_requirePerson : GoodIn wsX6_revert wsX6_requirePerson := goodIn_ca (goodIn_r _ [8, 9, 10] (by decide +kernel) (by decide +kernel)) (goodIn_sub (fun _ h => List.mem_cons_of_mem _ (List.mem_append_right _ h)) (by decide +kernel))
set_option maxRecDepth 20000 in
theorem gX6_revert_X6_requirePerson : GoodIn wsX6_revert (va_wsS RX6 93 yX6_requirePerson wsX6_requirePerson) := goodIn_app (goodIn_of _ (by decide +kernel)) ggX6_revert_X6_requirePerson
set_option maxRecDepth 20000 in
theorem ggX6_revert_X6_requireChange : GoodIn wsX6_revert wsX6_requireChange := goodIn_ca (goodIn_r _ [14, 9, 10, 3, 15, 16, 17, 18, 19, 20, 65, 66, 67, 68, 69, 70, 71, 72, 73, 74, 75, 76, 77, 78] (by decide +kernel) (by decide +kernel)) (goodIn_sub (fun _ h => List.mem_cons_of_mem _ (List.mem_append_right _ h)) (by decide +kernel))
set_option maxRecDepth 20000 in
theorem gX6_revert_X6_requireChange : GoodIn wsX6_revert (wsV RX6 125 RX6 yX6_requireChange wsX6_requireChange) := goodIn_app (goodIn_of _ (by decide +kernel)) ggX6_revert_X6_requireChange
set_option maxRecDepth 20000 in
theorem ggX6_revert_X6_requireCanChange : GoodIn wsX6_revert wsX6_requireCanChange := goodIn_ca (goodIn_r _ [24, 1, 2, 25, 4, 3, 26, 27, 28, 29, 30, 31, 32, 33, 34, 35, 36, 37, 15, 16, 17, 18, 19, 20, 65, 66, 67, 68, 69, 70, 71, 79, 80, 81, 82, 83, 84, 85, 72, 73, 74, 75, 76, 77, 78] (by decide +kernel) (by decide +kernel)) (goodIn_sub (fun _ h => List.mem_cons_of_mem _ (List.mem_append_left _ (List.mem_append_right _ h))) (by decide +kernel))
set_option maxRecDepth 20000 in
theorem gX6_revert_X6_requireCanChange : GoodIn wsX6_revert (wsV RX6 98 RX6 yX6_requireCanChange wsX6_requireCanChange) := goodIn_app (goodIn_of _ (by decide +kernel)) ggX6_revert_X6_requireCanChange
set_option maxRecDepth 20000 in
theorem ggX6_revert_X0_subjectOf : GoodIn wsX6_revert wsX0_subjectOf := goodIn_r _ [41, 42, 43, 33, 34, 35, 36, 37, 72, 73, 74, 75, 76, 77, 78, 85] (by decide +kernel) (by decide +kernel)
set_option maxRecDepth 20000 in
theorem gX6_revert_X0_subjectOf : GoodIn wsX6_revert (wsV RX6 128 RX0 yX0_subjectOf wsX0_subjectOf) := goodIn_app (goodIn_of _ (by decide +kernel)) ggX6_revert_X0_subjectOf
set_option maxRecDepth 20000 in
theorem ggX6_revert_X0_latestOf : GoodIn wsX6_revert wsX0_latestOf := goodIn_r _ [47, 48, 43, 33, 34, 35, 36, 37, 72, 73, 74, 75, 76, 77, 78, 85] (by decide +kernel) (by decide +kernel)
set_option maxRecDepth 20000 in
theorem gX6_revert_X0_latestOf : GoodIn wsX6_revert (wsV RX6 131 RX0 yX0_latestOf wsX0_latestOf) := goodIn_app (goodIn_of _ (by decide +kernel)) ggX6_revert_X0_latestOf
set_option maxRecDepth 20000 in
theorem ggX6_revert_X0_valueWithout : GoodIn wsX6_revert wsX0_valueWithout := goodIn_r _ [52, 48, 42, 53, 54, 43, 33, 34, 35, 36, 37, 72, 73, 74, 75, 76, 77, 78, 85] (by decide +kernel) (by decide +kernel)
set_option maxRecDepth 20000 in
theorem gX6_revert_X0_valueWithout : GoodIn wsX6_revert (wsV RX6 136 RX0 yX0_valueWithout wsX0_valueWithout) := goodIn_app (goodIn_of _ (by decide +kernel)) ggX6_revert_X0_valueWithout
set_option maxRecDepth 20000 in
theorem ggX6_revert_X0_add : GoodIn wsX6_revert wsX0_add := goodIn_r _ [58, 20, 59, 60, 42, 54, 53, 48, 61, 62, 63, 35, 64, 37, 43, 33, 34, 36, 72, 73, 74, 75, 76, 77, 78, 85] (by decide +kernel) (by decide +kernel)
set_option maxRecDepth 20000 in
theorem gX6_revert_X0_add : GoodIn wsX6_revert (wsV RX6 106 RX0 yX0_add wsX0_add) := goodIn_app (goodIn_of _ (by decide +kernel)) ggX6_revert_X0_add
theorem dX6_revert_0 : decode cX6_revert 0 = .ok (.iload_n 1, 1) := by decide +kernel
theorem dX6_revert_1 : decode cX6_revert 1 = .ok (.invokestatic 93, 3) := by decide +kernel
theorem dX6_revert_4 : decode cX6_revert 4 = .ok (.aload_n 0, 1) := by decide +kernel
theorem dX6_revert_5 : decode cX6_revert 5 = .ok (.iload_n 2, 1) := by decide +kernel
theorem dX6_revert_6 : decode cX6_revert 6 = .ok (.invokevirtual 125, 3) := by decide +kernel
theorem dX6_revert_9 : decode cX6_revert 9 = .ok (.aload_n 0, 1) := by decide +kernel
theorem dX6_revert_10 : decode cX6_revert 10 = .ok (.iload_n 1, 1) := by decide +kernel
theorem dX6_revert_11 : decode cX6_revert 11 = .ok (.invokevirtual 98, 3) := by decide +kernel
theorem dX6_revert_14 : decode cX6_revert 14 = .ok (.aload_n 0, 1) := by decide +kernel
theorem dX6_revert_15 : decode cX6_revert 15 = .ok (.getfield 26, 3) := by decide +kernel
theorem dX6_revert_18 : decode cX6_revert 18 = .ok (.iload_n 2, 1) := by decide +kernel
theorem dX6_revert_19 : decode cX6_revert 19 = .ok (.invokevirtual 128, 3) := by decide +kernel
theorem dX6_revert_22 : decode cX6_revert 22 = .ok (.istore_n 3, 1) := by decide +kernel
theorem dX6_revert_23 : decode cX6_revert 23 = .ok (.aload_n 0, 1) := by decide +kernel
theorem dX6_revert_24 : decode cX6_revert 24 = .ok (.getfield 26, 3) := by decide +kernel
theorem dX6_revert_27 : decode cX6_revert 27 = .ok (.iload_n 3, 1) := by decide +kernel
theorem dX6_revert_28 : decode cX6_revert 28 = .ok (.invokevirtual 131, 3) := by decide +kernel
theorem dX6_revert_31 : decode cX6_revert 31 = .ok (.iload_n 2, 1) := by decide +kernel
theorem dX6_revert_32 : decode cX6_revert 32 = .ok (.if_icmp .eq 13, 3) := by decide +kernel
theorem dX6_revert_35 : decode cX6_revert 35 = .ok (.new 51, 3) := by decide +kernel
theorem dX6_revert_38 : decode cX6_revert 38 = .ok (.dup, 1) := by decide +kernel
theorem dX6_revert_39 : decode cX6_revert 39 = .ok (.ldc 134, 2) := by decide +kernel
theorem dX6_revert_41 : decode cX6_revert 41 = .ok (.invokespecial 55, 3) := by decide +kernel
theorem dX6_revert_44 : decode cX6_revert 44 = .ok (.athrow, 1) := by decide +kernel
theorem dX6_revert_45 : decode cX6_revert 45 = .ok (.aload_n 0, 1) := by decide +kernel
theorem dX6_revert_46 : decode cX6_revert 46 = .ok (.getfield 26, 3) := by decide +kernel
theorem dX6_revert_49 : decode cX6_revert 49 = .ok (.iload_n 1, 1) := by decide +kernel
theorem dX6_revert_50 : decode cX6_revert 50 = .ok (.aload_n 0, 1) := by decide +kernel
theorem dX6_revert_51 : decode cX6_revert 51 = .ok (.getfield 48, 3) := by decide +kernel
theorem dX6_revert_54 : decode cX6_revert 54 = .ok (.iload_n 3, 1) := by decide +kernel
theorem dX6_revert_55 : decode cX6_revert 55 = .ok (.aload_n 0, 1) := by decide +kernel
theorem dX6_revert_56 : decode cX6_revert 56 = .ok (.getfield 26, 3) := by decide +kernel
theorem dX6_revert_59 : decode cX6_revert 59 = .ok (.iload_n 2, 1) := by decide +kernel
theorem dX6_revert_60 : decode cX6_revert 60 = .ok (.invokevirtual 136, 3) := by decide +kernel
theorem dX6_revert_63 : decode cX6_revert 63 = .ok (.invokevirtual 106, 3) := by decide +kernel
theorem dX6_revert_66 : decode cX6_revert 66 = .ok (.ireturn, 1) := by decide +kernel
set_option maxRecDepth 20000 in
theorem ggX6_takeOver_X6_requirePerson : GoodIn wsX6_takeOver wsX6_requirePerson := goodIn_ca (goodIn_r _ [7, 8, 9] (by decide +kernel) (by decide +kernel)) (goodIn_sub (fun _ h => List.mem_cons_of_mem _ (List.mem_append_right _ h)) (by decide +kernel))
set_option maxRecDepth 20000 in
theorem gX6_takeOver_X6_requirePerson : GoodIn wsX6_takeOver (va_wsS RX6 93 yX6_requirePerson wsX6_requirePerson) := goodIn_app (goodIn_of _ (by decide +kernel)) ggX6_takeOver_X6_requirePerson
set_option maxRecDepth 20000 in
theorem ggX6_takeOver_X6_weekNow : GoodIn wsX6_takeOver wsX6_weekNow := goodIn_r _ [13, 14, 35, 36, 37, 38, 39, 40, 41] (by decide +kernel) (by decide +kernel)
set_option maxRecDepth 20000 in
theorem gX6_takeOver_X6_weekNow : GoodIn wsX6_takeOver (wsV RX6 139 RX6 yX6_weekNow wsX6_weekNow) := goodIn_app (goodIn_of _ (by decide +kernel)) ggX6_takeOver_X6_weekNow
set_option maxRecDepth 20000 in
theorem ggX6_takeOver_X4_holderOf : GoodIn wsX6_takeOver wsX4_holderOf := goodIn_r _ [19, 20, 21, 22, 23, 24, 25, 26, 42, 43, 44, 45, 46, 47, 48] (by decide +kernel) (by decide +kernel)
set_option maxRecDepth 20000 in
theorem gX6_takeOver_X4_holderOf : GoodIn wsX6_takeOver (wsV RX6 142 RX4 yX4_holderOf wsX4_holderOf) := goodIn_app (goodIn_of _ (by decide +kernel)) ggX6_takeOver_X4_holderOf
set_option maxRecDepth 20000 in
theorem ggX6_takeOver_X4_giveWeek : GoodIn wsX6_takeOver wsX4_giveWeek := goodIn_r _ [30, 20, 31, 32, 33, 24, 34, 26, 42, 43, 44, 45, 46, 47, 48] (by decide +kernel) (by decide +kernel)
set_option maxRecDepth 20000 in
theorem gX6_takeOver_X4_giveWeek : GoodIn wsX6_takeOver (wsV RX6 147 RX4 yX4_giveWeek wsX4_giveWeek) := goodIn_app (goodIn_of _ (by decide +kernel)) ggX6_takeOver_X4_giveWeek
theorem dX6_takeOver_0 : decode cX6_takeOver 0 = .ok (.iload_n 1, 1) := by decide +kernel
theorem dX6_takeOver_1 : decode cX6_takeOver 1 = .ok (.invokestatic 93, 3) := by decide +kernel
theorem dX6_takeOver_4 : decode cX6_takeOver 4 = .ok (.aload_n 0, 1) := by decide +kernel
theorem dX6_takeOver_5 : decode cX6_takeOver 5 = .ok (.invokevirtual 139, 3) := by decide +kernel
theorem dX6_takeOver_8 : decode cX6_takeOver 8 = .ok (.iconst 1, 1) := by decide +kernel
theorem dX6_takeOver_9 : decode cX6_takeOver 9 = .ok (.iadd, 1) := by decide +kernel
theorem dX6_takeOver_10 : decode cX6_takeOver 10 = .ok (.istore_n 2, 1) := by decide +kernel
theorem dX6_takeOver_11 : decode cX6_takeOver 11 = .ok (.aload_n 0, 1) := by decide +kernel
theorem dX6_takeOver_12 : decode cX6_takeOver 12 = .ok (.getfield 40, 3) := by decide +kernel
theorem dX6_takeOver_15 : decode cX6_takeOver 15 = .ok (.iload_n 2, 1) := by decide +kernel
theorem dX6_takeOver_16 : decode cX6_takeOver 16 = .ok (.invokevirtual 142, 3) := by decide +kernel
theorem dX6_takeOver_19 : decode cX6_takeOver 19 = .ok (.istore_n 3, 1) := by decide +kernel
theorem dX6_takeOver_20 : decode cX6_takeOver 20 = .ok (.iload_n 1, 1) := by decide +kernel
theorem dX6_takeOver_21 : decode cX6_takeOver 21 = .ok (.iload_n 3, 1) := by decide +kernel
theorem dX6_takeOver_22 : decode cX6_takeOver 22 = .ok (.if_icmp .eq 18, 3) := by decide +kernel
theorem dX6_takeOver_25 : decode cX6_takeOver 25 = .ok (.iload_n 1, 1) := by decide +kernel
theorem dX6_takeOver_26 : decode cX6_takeOver 26 = .ok (.aload_n 0, 1) := by decide +kernel
theorem dX6_takeOver_27 : decode cX6_takeOver 27 = .ok (.getfield 40, 3) := by decide +kernel
theorem dX6_takeOver_30 : decode cX6_takeOver 30 = .ok (.aload_n 0, 1) := by decide +kernel
theorem dX6_takeOver_31 : decode cX6_takeOver 31 = .ok (.invokevirtual 139, 3) := by decide +kernel
theorem dX6_takeOver_34 : decode cX6_takeOver 34 = .ok (.invokevirtual 142, 3) := by decide +kernel
theorem dX6_takeOver_37 : decode cX6_takeOver 37 = .ok (.if_icmp .ne 13, 3) := by decide +kernel
theorem dX6_takeOver_40 : decode cX6_takeOver 40 = .ok (.new 51, 3) := by decide +kernel
theorem dX6_takeOver_43 : decode cX6_takeOver 43 = .ok (.dup, 1) := by decide +kernel
theorem dX6_takeOver_44 : decode cX6_takeOver 44 = .ok (.ldc 145, 2) := by decide +kernel
theorem dX6_takeOver_46 : decode cX6_takeOver 46 = .ok (.invokespecial 55, 3) := by decide +kernel
theorem dX6_takeOver_49 : decode cX6_takeOver 49 = .ok (.athrow, 1) := by decide +kernel
theorem dX6_takeOver_50 : decode cX6_takeOver 50 = .ok (.aload_n 0, 1) := by decide +kernel
theorem dX6_takeOver_51 : decode cX6_takeOver 51 = .ok (.getfield 40, 3) := by decide +kernel
theorem dX6_takeOver_54 : decode cX6_takeOver 54 = .ok (.iload_n 2, 1) := by decide +kernel
theorem dX6_takeOver_55 : decode cX6_takeOver 55 = .ok (.iload_n 1, 1) := by decide +kernel
theorem dX6_takeOver_56 : decode cX6_takeOver 56 = .ok (.invokevirtual 147, 3) := by decide +kernel
theorem dX6_takeOver_59 : decode cX6_takeOver 59 = .ok (.iload_n 3, 1) := by decide +kernel
theorem dX6_takeOver_60 : decode cX6_takeOver 60 = .ok (.ireturn, 1) := by decide +kernel
set_option maxRecDepth 20000 in
theorem ggX6_pass_X2_total : GoodIn wsX6_pass wsX2_total := goodIn_r _ [11, 12, 186, 187, 188, 189, 190, 191, 192] (by decide +kernel) (by decide +kernel)
set_option maxRecDepth 20000 in
theorem gX6_pass_X2_total : GoodIn wsX6_pass (wsV RX6 155 RX2 yX2_total wsX2_total) := goodIn_app (goodIn_of _ (by decide +kernel)) ggX6_pass_X2_total
set_option maxRecDepth 20000 in
theorem ggX6_pass_X6_beginHalf : GoodIn wsX6_pass wsX6_beginHalf := goodIn_r _ [17, 5, 18, 19, 20, 21, 16, 22, 23, 24, 25, 26, 27, 28, 29, 30, 31, 32, 33, 34, 35, 36, 37, 38, 39, 40, 41, 42, 43, 44, 45, 46, 47, 179, 180, 181, 182, 183, 184, 185, 193, 194, 195, 196, 197, 198, 199] (by decide +kernel) (by decide +kernel)
set_option maxRecDepth 20000 in
theorem gX6_pass_X6_beginHalf : GoodIn wsX6_pass (wsV RX6 156 RX6 yX6_beginHalf wsX6_beginHalf) := goodIn_app (goodIn_of _ (by decide +kernel)) ggX6_pass_X6_beginHalf
set_option maxRecDepth 20000 in
theorem ggX6_pass_X6_settleRing : GoodIn wsX6_pass wsX6_settleRing := goodIn_r _ [51, 6, 5, 18, 52, 53, 54, 55, 16, 56, 57, 58, 59, 60, 61, 62, 63, 64, 65, 66, 67, 68, 69, 70, 71, 72, 73, 31, 32, 33, 34, 35, 74, 75, 76, 77, 78, 79, 80, 81, 82, 83, 84, 85, 86, 87, 88, 89, 90, 91, 92, 93, 94, 95, 96, 97, 98, 99, 10, 100, 101, 102, 103, 104, 37, 38, 39, 105, 106, 107, 108, 7, 8, 9, 11, 12, 109, 110, 111, 112, 113, 114, 115, 116, 117, 118, 119, 120, 121, 122, 123, 124, 125, 126, 127, 128, 129, 130, 131, 132, 133, 134, 135, 136, 137, 138, 139, 140, 141, 142, 143, 144, 145, 146, 147, 148, 26, 149, 28, 30, 36, 179, 180, 181, 182, 183, 184, 185, 200, 201, 202, 203, 204, 205, 206, 199, 207, 208, 209, 210, 211, 212, 186, 187, 188, 189, 190, 191, 192, 193, 194, 195, 196, 197, 198] (by decide +kernel) (by decide +kernel)
set_option maxRecDepth 20000 in
theorem gX6_pass_X6_settleRing : GoodIn wsX6_pass (wsV RX6 159 RX6 yX6_settleRing wsX6_settleRing) := goodIn_app (goodIn_of _ (by decide +kernel)) ggX6_pass_X6_settleRing
set_option maxRecDepth 20000 in
theorem ggX6_pass_X6_callIfOpen : GoodIn wsX6_pass wsX6_callIfOpen := goodIn_r _ [153, 6, 18, 5, 154, 155, 156, 10, 157, 101, 103, 31, 32, 33, 34, 35, 158, 159, 160, 26, 161, 162, 163, 164, 165, 166, 167, 168, 169, 29, 28, 30, 170, 171, 172, 173, 36, 37, 38, 39, 174, 175, 176, 177, 12, 178, 104, 179, 180, 181, 182, 183, 184, 185, 186, 187, 188, 189, 190, 191, 192, 199, 193, 194, 195, 196, 197, 198] (by decide +kernel) (by decide +kernel)
set_option maxRecDepth 20000 in
theorem gX6_pass_X6_callIfOpen : GoodIn wsX6_pass (wsV RX6 162 RX6 yX6_callIfOpen wsX6_callIfOpen) := goodIn_app (goodIn_of _ (by decide +kernel)) ggX6_pass_X6_callIfOpen
theorem dX6_pass_0 : decode cX6_pass 0 = .ok (.iload_n 1, 1) := by decide +kernel
theorem dX6_pass_1 : decode cX6_pass 1 = .ok (.iconst 1, 1) := by decide +kernel
theorem dX6_pass_2 : decode cX6_pass 2 = .ok (.if_icmp .lt 9, 3) := by decide +kernel
theorem dX6_pass_5 : decode cX6_pass 5 = .ok (.iload_n 1, 1) := by decide +kernel
theorem dX6_pass_6 : decode cX6_pass 6 = .ok (.bipush 28, 2) := by decide +kernel
theorem dX6_pass_8 : decode cX6_pass 8 = .ok (.if_icmp .le 13, 3) := by decide +kernel
theorem dX6_pass_11 : decode cX6_pass 11 = .ok (.new 75, 3) := by decide +kernel
theorem dX6_pass_14 : decode cX6_pass 14 = .ok (.dup, 1) := by decide +kernel
theorem dX6_pass_15 : decode cX6_pass 15 = .ok (.ldc 151, 2) := by decide +kernel
theorem dX6_pass_17 : decode cX6_pass 17 = .ok (.invokespecial 79, 3) := by decide +kernel
theorem dX6_pass_20 : decode cX6_pass 20 = .ok (.athrow, 1) := by decide +kernel
theorem dX6_pass_21 : decode cX6_pass 21 = .ok (.aload_n 0, 1) := by decide +kernel
theorem dX6_pass_22 : decode cX6_pass 22 = .ok (.getfield 48, 3) := by decide +kernel
theorem dX6_pass_25 : decode cX6_pass 25 = .ok (.iload_n 1, 1) := by decide +kernel
theorem dX6_pass_26 : decode cX6_pass 26 = .ok (.iadd, 1) := by decide +kernel
theorem dX6_pass_27 : decode cX6_pass 27 = .ok (.sipush 560, 3) := by decide +kernel
theorem dX6_pass_30 : decode cX6_pass 30 = .ok (.if_icmp .le 13, 3) := by decide +kernel
theorem dX6_pass_33 : decode cX6_pass 33 = .ok (.new 51, 3) := by decide +kernel
theorem dX6_pass_36 : decode cX6_pass 36 = .ok (.dup, 1) := by decide +kernel
theorem dX6_pass_37 : decode cX6_pass 37 = .ok (.ldc 153, 2) := by decide +kernel
theorem dX6_pass_39 : decode cX6_pass 39 = .ok (.invokespecial 55, 3) := by decide +kernel
theorem dX6_pass_42 : decode cX6_pass 42 = .ok (.athrow, 1) := by decide +kernel
theorem dX6_pass_43 : decode cX6_pass 43 = .ok (.aload_n 0, 1) := by decide +kernel
theorem dX6_pass_44 : decode cX6_pass 44 = .ok (.getfield 33, 3) := by decide +kernel
theorem dX6_pass_47 : decode cX6_pass 47 = .ok (.invokevirtual 155, 3) := by decide +kernel
theorem dX6_pass_50 : decode cX6_pass 50 = .ok (.istore_n 2, 1) := by decide +kernel
theorem dX6_pass_51 : decode cX6_pass 51 = .ok (.iconst 0, 1) := by decide +kernel
theorem dX6_pass_52 : decode cX6_pass 52 = .ok (.istore_n 3, 1) := by decide +kernel
theorem dX6_pass_53 : decode cX6_pass 53 = .ok (.iload_n 3, 1) := by decide +kernel
theorem dX6_pass_54 : decode cX6_pass 54 = .ok (.iload_n 1, 1) := by decide +kernel
theorem dX6_pass_55 : decode cX6_pass 55 = .ok (.if_icmp .ge 49, 3) := by decide +kernel
theorem dX6_pass_58 : decode cX6_pass 58 = .ok (.aload_n 0, 1) := by decide +kernel
theorem dX6_pass_59 : decode cX6_pass 59 = .ok (.getfield 33, 3) := by decide +kernel
theorem dX6_pass_62 : decode cX6_pass 62 = .ok (.invokevirtual 155, 3) := by decide +kernel
theorem dX6_pass_65 : decode cX6_pass 65 = .ok (.istore 4, 2) := by decide +kernel
theorem dX6_pass_67 : decode cX6_pass 67 = .ok (.aload_n 0, 1) := by decide +kernel
theorem dX6_pass_68 : decode cX6_pass 68 = .ok (.invokevirtual 156, 3) := by decide +kernel
theorem dX6_pass_71 : decode cX6_pass 71 = .ok (.iconst 0, 1) := by decide +kernel
theorem dX6_pass_72 : decode cX6_pass 72 = .ok (.istore 5, 2) := by decide +kernel
theorem dX6_pass_74 : decode cX6_pass 74 = .ok (.iload 5, 2) := by decide +kernel
theorem dX6_pass_76 : decode cX6_pass 76 = .ok (.iconst 4, 1) := by decide +kernel
theorem dX6_pass_77 : decode cX6_pass 77 = .ok (.if_icmp .ge 15, 3) := by decide +kernel
theorem dX6_pass_80 : decode cX6_pass 80 = .ok (.aload_n 0, 1) := by decide +kernel
theorem dX6_pass_81 : decode cX6_pass 81 = .ok (.iload 5, 2) := by decide +kernel
theorem dX6_pass_83 : decode cX6_pass 83 = .ok (.invokevirtual 159, 3) := by decide +kernel
theorem dX6_pass_86 : decode cX6_pass 86 = .ok (.iinc 5 1, 3) := by decide +kernel
theorem dX6_pass_89 : decode cX6_pass 89 = .ok (.goto (-15), 3) := by decide +kernel
theorem dX6_pass_92 : decode cX6_pass 92 = .ok (.aload_n 0, 1) := by decide +kernel
theorem dX6_pass_93 : decode cX6_pass 93 = .ok (.iload 4, 2) := by decide +kernel
theorem dX6_pass_95 : decode cX6_pass 95 = .ok (.invokevirtual 162, 3) := by decide +kernel
theorem dX6_pass_98 : decode cX6_pass 98 = .ok (.iinc 3 1, 3) := by decide +kernel
theorem dX6_pass_101 : decode cX6_pass 101 = .ok (.goto (-48), 3) := by decide +kernel
theorem dX6_pass_104 : decode cX6_pass 104 = .ok (.aload_n 0, 1) := by decide +kernel
theorem dX6_pass_105 : decode cX6_pass 105 = .ok (.getfield 33, 3) := by decide +kernel
theorem dX6_pass_108 : decode cX6_pass 108 = .ok (.invokevirtual 155, 3) := by decide +kernel
theorem dX6_pass_111 : decode cX6_pass 111 = .ok (.iload_n 2, 1) := by decide +kernel
theorem dX6_pass_112 : decode cX6_pass 112 = .ok (.isub, 1) := by decide +kernel
theorem dX6_pass_113 : decode cX6_pass 113 = .ok (.ireturn, 1) := by decide +kernel
theorem dX6_time_0 : decode cX6_time 0 = .ok (.aload_n 0, 1) := by decide +kernel
theorem dX6_time_1 : decode cX6_time 1 = .ok (.getfield 48, 3) := by decide +kernel
theorem dX6_time_4 : decode cX6_time 4 = .ok (.ireturn, 1) := by decide +kernel
set_option maxRecDepth 20000 in
theorem ggX6_holder_X6_weekNow : GoodIn wsX6_holder wsX6_weekNow := goodIn_r _ [8, 9, 22, 23, 24, 25, 26, 27, 28] (by decide +kernel) (by decide +kernel)
set_option maxRecDepth 20000 in
theorem gX6_holder_X6_weekNow : GoodIn wsX6_holder (wsV RX6 139 RX6 yX6_weekNow wsX6_weekNow) := goodIn_app (goodIn_of _ (by decide +kernel)) ggX6_holder_X6_weekNow
set_option maxRecDepth 20000 in
theorem ggX6_holder_X4_holderOf : GoodIn wsX6_holder wsX4_holderOf := goodIn_r _ [14, 15, 16, 17, 18, 19, 20, 21, 29, 30, 31, 32, 33, 34, 35] (by decide +kernel) (by decide +kernel)
set_option maxRecDepth 20000 in
theorem gX6_holder_X4_holderOf : GoodIn wsX6_holder (wsV RX6 142 RX4 yX4_holderOf wsX4_holderOf) := goodIn_app (goodIn_of _ (by decide +kernel)) ggX6_holder_X4_holderOf
theorem dX6_holder_0 : decode cX6_holder 0 = .ok (.iload_n 1, 1) := by decide +kernel
theorem dX6_holder_1 : decode cX6_holder 1 = .ok (.ifCond .lt 13, 3) := by decide +kernel
theorem dX6_holder_4 : decode cX6_holder 4 = .ok (.iload_n 1, 1) := by decide +kernel
theorem dX6_holder_5 : decode cX6_holder 5 = .ok (.aload_n 0, 1) := by decide +kernel
theorem dX6_holder_6 : decode cX6_holder 6 = .ok (.invokevirtual 139, 3) := by decide +kernel
theorem dX6_holder_9 : decode cX6_holder 9 = .ok (.iconst 1, 1) := by decide +kernel
theorem dX6_holder_10 : decode cX6_holder 10 = .ok (.iadd, 1) := by decide +kernel
theorem dX6_holder_11 : decode cX6_holder 11 = .ok (.if_icmp .le 13, 3) := by decide +kernel
theorem dX6_holder_14 : decode cX6_holder 14 = .ok (.new 165, 3) := by decide +kernel
theorem dX6_holder_17 : decode cX6_holder 17 = .ok (.dup, 1) := by decide +kernel
theorem dX6_holder_18 : decode cX6_holder 18 = .ok (.ldc 167, 2) := by decide +kernel
theorem dX6_holder_20 : decode cX6_holder 20 = .ok (.invokespecial 169, 3) := by decide +kernel
theorem dX6_holder_23 : decode cX6_holder 23 = .ok (.athrow, 1) := by decide +kernel
theorem dX6_holder_24 : decode cX6_holder 24 = .ok (.aload_n 0, 1) := by decide +kernel
theorem dX6_holder_25 : decode cX6_holder 25 = .ok (.getfield 40, 3) := by decide +kernel
theorem dX6_holder_28 : decode cX6_holder 28 = .ok (.iload_n 1, 1) := by decide +kernel
theorem dX6_holder_29 : decode cX6_holder 29 = .ok (.invokevirtual 142, 3) := by decide +kernel
theorem dX6_holder_32 : decode cX6_holder 32 = .ok (.ireturn, 1) := by decide +kernel
set_option maxRecDepth 20000 in
theorem ggX6_near_X6_requirePerson : GoodIn wsX6_near wsX6_requirePerson := goodIn_ca (goodIn_r _ [5, 6, 7] (by decide +kernel) (by decide +kernel)) (goodIn_sub (fun _ h => List.mem_cons_of_mem _ (List.mem_append_right _ h)) (by decide +kernel))
set_option maxRecDepth 20000 in
theorem gX6_near_X6_requirePerson : GoodIn wsX6_near (va_wsS RX6 93 yX6_requirePerson wsX6_requirePerson) := goodIn_app (goodIn_of _ (by decide +kernel)) ggX6_near_X6_requirePerson
set_option maxRecDepth 20000 in
theorem ggX6_near_X6_weekNow : GoodIn wsX6_near wsX6_weekNow := goodIn_r _ [11, 12, 26, 27, 28, 29, 30, 31, 32] (by decide +kernel) (by decide +kernel)
set_option maxRecDepth 20000 in
theorem gX6_near_X6_weekNow : GoodIn wsX6_near (wsV RX6 139 RX6 yX6_weekNow wsX6_weekNow) := goodIn_app (goodIn_of _ (by decide +kernel)) ggX6_near_X6_weekNow
set_option maxRecDepth 20000 in
theorem ggX6_near_X4_nearness : GoodIn wsX6_near wsX4_nearness := goodIn_r _ [17, 18, 19, 20, 21, 22, 23, 24, 25, 33, 34, 35, 36, 37, 38, 39] (by decide +kernel) (by decide +kernel)
set_option maxRecDepth 20000 in
theorem gX6_near_X4_nearness : GoodIn wsX6_near (wsV RX6 170 RX4 yX4_nearness wsX4_nearness) := goodIn_app (goodIn_of _ (by decide +kernel)) ggX6_near_X4_nearness
theorem dX6_near_0 : decode cX6_near 0 = .ok (.iload_n 1, 1) := by decide +kernel
theorem dX6_near_1 : decode cX6_near 1 = .ok (.invokestatic 93, 3) := by decide +kernel
theorem dX6_near_4 : decode cX6_near 4 = .ok (.aload_n 0, 1) := by decide +kernel
theorem dX6_near_5 : decode cX6_near 5 = .ok (.getfield 40, 3) := by decide +kernel
theorem dX6_near_8 : decode cX6_near 8 = .ok (.iload_n 1, 1) := by decide +kernel
theorem dX6_near_9 : decode cX6_near 9 = .ok (.aload_n 0, 1) := by decide +kernel
theorem dX6_near_10 : decode cX6_near 10 = .ok (.invokevirtual 139, 3) := by decide +kernel
theorem dX6_near_13 : decode cX6_near 13 = .ok (.iconst 2, 1) := by decide +kernel
theorem dX6_near_14 : decode cX6_near 14 = .ok (.iadd, 1) := by decide +kernel
theorem dX6_near_15 : decode cX6_near 15 = .ok (.invokevirtual 170, 3) := by decide +kernel
theorem dX6_near_18 : decode cX6_near 18 = .ok (.ireturn, 1) := by decide +kernel
set_option maxRecDepth 20000 in
theorem ggX6_blots_X6_requirePerson : GoodIn wsX6_blots wsX6_requirePerson := goodIn_ca (goodIn_r _ [5, 6, 7] (by decide +kernel) (by decide +kernel)) (goodIn_sub (fun _ h => List.mem_cons_of_mem _ (List.mem_append_right _ h)) (by decide +kernel))
set_option maxRecDepth 20000 in
theorem gX6_blots_X6_requirePerson : GoodIn wsX6_blots (va_wsS RX6 93 yX6_requirePerson wsX6_requirePerson) := goodIn_app (goodIn_of _ (by decide +kernel)) ggX6_blots_X6_requirePerson
set_option maxRecDepth 20000 in
theorem ggX6_blots_X4_blotsOf : GoodIn wsX6_blots wsX4_blotsOf := goodIn_r _ [12, 13, 14, 15, 16, 17, 18, 19, 27, 28, 29, 30, 31, 32, 33] (by decide +kernel) (by decide +kernel)
set_option maxRecDepth 20000 in
theorem gX6_blots_X4_blotsOf : GoodIn wsX6_blots (wsV RX6 174 RX4 yX4_blotsOf wsX4_blotsOf) := goodIn_app (goodIn_of _ (by decide +kernel)) ggX6_blots_X4_blotsOf
theorem dX6_blots_0 : decode cX6_blots 0 = .ok (.iload_n 1, 1) := by decide +kernel
theorem dX6_blots_1 : decode cX6_blots 1 = .ok (.invokestatic 93, 3) := by decide +kernel
theorem dX6_blots_4 : decode cX6_blots 4 = .ok (.aload_n 0, 1) := by decide +kernel
theorem dX6_blots_5 : decode cX6_blots 5 = .ok (.getfield 40, 3) := by decide +kernel
theorem dX6_blots_8 : decode cX6_blots 8 = .ok (.iload_n 1, 1) := by decide +kernel
theorem dX6_blots_9 : decode cX6_blots 9 = .ok (.invokevirtual 174, 3) := by decide +kernel
theorem dX6_blots_12 : decode cX6_blots 12 = .ok (.ireturn, 1) := by decide +kernel
set_option maxRecDepth 20000 in
theorem ggX6_rests_X6_requirePerson : GoodIn wsX6_rests wsX6_requirePerson := goodIn_ca (goodIn_r _ [6, 7, 8] (by decide +kernel) (by decide +kernel)) (goodIn_sub (fun _ h => List.mem_cons_of_mem _ (List.mem_append_right _ h)) (by decide +kernel))
set_option maxRecDepth 20000 in
theorem gX6_rests_X6_requirePerson : GoodIn wsX6_rests (va_wsS RX6 93 yX6_requirePerson wsX6_requirePerson) := goodIn_app (goodIn_of _ (by decide +kernel)) ggX6_rests_X6_requirePerson
set_option maxRecDepth 20000 in
theorem ggX6_rests_X4_isResting : GoodIn wsX6_rests wsX4_isResting := goodIn_r _ [13, 14, 15, 16, 17, 18, 19, 20, 28, 29, 30, 31, 32, 33, 34] (by decide +kernel) (by decide +kernel)
set_option maxRecDepth 20000 in
theorem gX6_rests_X4_isResting : GoodIn wsX6_rests (wsV RX6 177 RX4 yX4_isResting wsX4_isResting) := goodIn_app (goodIn_of _ (by decide +kernel)) ggX6_rests_X4_isResting
theorem dX6_rests_0 : decode cX6_rests 0 = .ok (.iload_n 1, 1) := by decide +kernel
theorem dX6_rests_1 : decode cX6_rests 1 = .ok (.invokestatic 93, 3) := by decide +kernel
theorem dX6_rests_4 : decode cX6_rests 4 = .ok (.aload_n 0, 1) := by decide +kernel
theorem dX6_rests_5 : decode cX6_rests 5 = .ok (.getfield 40, 3) := by decide +kernel
theorem dX6_rests_8 : decode cX6_rests 8 = .ok (.iload_n 1, 1) := by decide +kernel
theorem dX6_rests_9 : decode cX6_rests 9 = .ok (.aload_n 0, 1) := by decide +kernel
theorem dX6_rests_10 : decode cX6_rests 10 = .ok (.getfield 48, 3) := by decide +kernel
theorem dX6_rests_13 : decode cX6_rests 13 = .ok (.invokevirtual 177, 3) := by decide +kernel
theorem dX6_rests_16 : decode cX6_rests 16 = .ok (.ireturn, 1) := by decide +kernel
set_option maxRecDepth 20000 in
theorem ggX6_onCall_X4_dutyAt : GoodIn wsX6_onCall wsX4_dutyAt := goodIn_r _ [7, 8, 9, 10, 11, 12, 13, 14, 15, 16, 17, 18, 6, 19, 20, 28, 29, 30, 31, 32, 33, 34] (by decide +kernel) (by decide +kernel)
set_option maxRecDepth 20000 in
theorem gX6_onCall_X4_dutyAt : GoodIn wsX6_onCall (wsV RX6 180 RX4 yX4_dutyAt wsX4_dutyAt) := goodIn_app (goodIn_of _ (by decide +kernel)) ggX6_onCall_X4_dutyAt
theorem dX6_onCall_0 : decode cX6_onCall 0 = .ok (.aload_n 0, 1) := by decide +kernel
theorem dX6_onCall_1 : decode cX6_onCall 1 = .ok (.getfield 40, 3) := by decide +kernel
theorem dX6_onCall_4 : decode cX6_onCall 4 = .ok (.aload_n 0, 1) := by decide +kernel
theorem dX6_onCall_5 : decode cX6_onCall 5 = .ok (.getfield 48, 3) := by decide +kernel
theorem dX6_onCall_8 : decode cX6_onCall 8 = .ok (.invokevirtual 180, 3) := by decide +kernel
theorem dX6_onCall_11 : decode cX6_onCall 11 = .ok (.ireturn, 1) := by decide +kernel
set_option maxRecDepth 20000 in
theorem ggX6_calls_X6_requirePerson : GoodIn wsX6_calls wsX6_requirePerson := goodIn_ca (goodIn_r _ [5, 6, 7] (by decide +kernel) (by decide +kernel)) (goodIn_sub (fun _ h => List.mem_cons_of_mem _ (List.mem_append_right _ h)) (by decide +kernel))
set_option maxRecDepth 20000 in
theorem gX6_calls_X6_requirePerson : GoodIn wsX6_calls (va_wsS RX6 93 yX6_requirePerson wsX6_requirePerson) := goodIn_app (goodIn_of _ (by decide +kernel)) ggX6_calls_X6_requirePerson
set_option maxRecDepth 20000 in
theorem ggX6_calls_X4_callCount : GoodIn wsX6_calls wsX4_callCount := goodIn_r _ [12, 13, 14, 15, 16, 17, 18, 19, 20, 28, 29, 30, 31, 32, 33, 34] (by decide +kernel) (by decide +kernel)
set_option maxRecDepth 20000 in
theorem gX6_calls_X4_callCount : GoodIn wsX6_calls (wsV RX6 183 RX4 yX4_callCount wsX4_callCount) := goodIn_app (goodIn_of _ (by decide +kernel)) ggX6_calls_X4_callCount
theorem dX6_calls_0 : decode cX6_calls 0 = .ok (.iload_n 1, 1) := by decide +kernel
theorem dX6_calls_1 : decode cX6_calls 1 = .ok (.invokestatic 93, 3) := by decide +kernel
theorem dX6_calls_4 : decode cX6_calls 4 = .ok (.aload_n 0, 1) := by decide +kernel
theorem dX6_calls_5 : decode cX6_calls 5 = .ok (.getfield 40, 3) := by decide +kernel
theorem dX6_calls_8 : decode cX6_calls 8 = .ok (.iload_n 1, 1) := by decide +kernel
theorem dX6_calls_9 : decode cX6_calls 9 = .ok (.iload_n 2, 1) := by decide +kernel
theorem dX6_calls_10 : decode cX6_calls 10 = .ok (.invokevirtual 183, 3) := by decide +kernel
theorem dX6_calls_13 : decode cX6_calls 13 = .ok (.ireturn, 1) := by decide +kernel
set_option maxRecDepth 20000 in
theorem ggX6_missed_X4_missedCount : GoodIn wsX6_missed wsX4_missedCount := goodIn_r _ [6, 7, 15, 16, 17, 18, 19, 20] (by decide +kernel) (by decide +kernel)
set_option maxRecDepth 20000 in
theorem gX6_missed_X4_missedCount : GoodIn wsX6_missed (wsV RX6 187 RX4 yX4_missedCount wsX4_missedCount) := goodIn_app (goodIn_of _ (by decide +kernel)) ggX6_missed_X4_missedCount
theorem dX6_missed_0 : decode cX6_missed 0 = .ok (.aload_n 0, 1) := by decide +kernel
theorem dX6_missed_1 : decode cX6_missed 1 = .ok (.getfield 40, 3) := by decide +kernel
theorem dX6_missed_4 : decode cX6_missed 4 = .ok (.invokevirtual 187, 3) := by decide +kernel
theorem dX6_missed_7 : decode cX6_missed 7 = .ok (.ireturn, 1) := by decide +kernel
theorem dX6_versions_0 : decode cX6_versions 0 = .ok (.aload_n 0, 1) := by decide +kernel
theorem dX6_versions_1 : decode cX6_versions 1 = .ok (.getfield 44, 3) := by decide +kernel
theorem dX6_versions_4 : decode cX6_versions 4 = .ok (.ireturn, 1) := by decide +kernel
set_option maxRecDepth 20000 in
theorem ggX6_version_X6_requireRing : GoodIn wsX6_version wsX6_requireRing := goodIn_ca (goodIn_r _ [4, 5, 6] (by decide +kernel) (by decide +kernel)) (goodIn_sub (fun _ h => List.mem_cons_of_mem _ (List.mem_append_right _ h)) (by decide +kernel))
set_option maxRecDepth 20000 in
theorem gX6_version_X6_requireRing : GoodIn wsX6_version (va_wsS RX6 109 yX6_requireRing wsX6_requireRing) := goodIn_app (goodIn_of _ (by decide +kernel)) ggX6_version_X6_requireRing
set_option maxRecDepth 20000 in
theorem ggX6_version_X6_runs : GoodIn wsX6_version wsX6_runs := goodIn_r _ [10, 11, 12, 13, 3, 14, 15, 16, 17, 18, 19, 20, 21, 22, 23, 24, 25, 26, 27, 28, 29, 30, 31, 32, 33, 34, 35, 36, 37, 38, 39, 40, 41, 42] (by decide +kernel) (by decide +kernel)
set_option maxRecDepth 20000 in
theorem gX6_version_X6_runs : GoodIn wsX6_version (wsV RX6 112 RX6 yX6_runs wsX6_runs) := goodIn_app (goodIn_of _ (by decide +kernel)) ggX6_version_X6_runs
theorem dX6_version_0 : decode cX6_version 0 = .ok (.iload_n 1, 1) := by decide +kernel
theorem dX6_version_1 : decode cX6_version 1 = .ok (.invokestatic 109, 3) := by decide +kernel
theorem dX6_version_4 : decode cX6_version 4 = .ok (.aload_n 0, 1) := by decide +kernel
theorem dX6_version_5 : decode cX6_version 5 = .ok (.iload_n 1, 1) := by decide +kernel
theorem dX6_version_6 : decode cX6_version 6 = .ok (.invokevirtual 112, 3) := by decide +kernel
theorem dX6_version_9 : decode cX6_version 9 = .ok (.ireturn, 1) := by decide +kernel
set_option maxRecDepth 20000 in
theorem ggX6_level_X6_requireSwitch : GoodIn wsX6_level wsX6_requireSwitch := goodIn_ca (goodIn_r _ [5, 6, 7, 8, 9, 4, 10] (by decide +kernel) (by decide +kernel)) (goodIn_sub (fun _ h => List.mem_cons_of_mem _ (List.mem_append_right _ h)) (by decide +kernel))
set_option maxRecDepth 20000 in
theorem gX6_level_X6_requireSwitch : GoodIn wsX6_level (va_wsS RX6 62 yX6_requireSwitch wsX6_requireSwitch) := goodIn_app (goodIn_of _ (by decide +kernel)) ggX6_level_X6_requireSwitch
set_option maxRecDepth 20000 in
theorem ggX6_level_X0_valueNow : GoodIn wsX6_level wsX0_valueNow := goodIn_r _ [15, 16, 17, 18, 19, 20, 21, 22, 23, 31, 32, 33, 34, 35, 36, 37, 38] (by decide +kernel) (by decide +kernel)
set_option maxRecDepth 20000 in
theorem gX6_level_X0_valueNow : GoodIn wsX6_level (wsV RX6 101 RX0 yX0_valueNow wsX0_valueNow) := goodIn_app (goodIn_of _ (by decide +kernel)) ggX6_level_X0_valueNow
theorem dX6_level_0 : decode cX6_level 0 = .ok (.iload_n 1, 1) := by decide +kernel
theorem dX6_level_1 : decode cX6_level 1 = .ok (.invokestatic 62, 3) := by decide +kernel
theorem dX6_level_4 : decode cX6_level 4 = .ok (.aload_n 0, 1) := by decide +kernel
theorem dX6_level_5 : decode cX6_level 5 = .ok (.getfield 26, 3) := by decide +kernel
theorem dX6_level_8 : decode cX6_level 8 = .ok (.iload_n 1, 1) := by decide +kernel
theorem dX6_level_9 : decode cX6_level 9 = .ok (.invokevirtual 101, 3) := by decide +kernel
theorem dX6_level_12 : decode cX6_level 12 = .ok (.ireturn, 1) := by decide +kernel
set_option maxRecDepth 20000 in
theorem ggX6_isOn_X6_requireSwitch : GoodIn wsX6_isOn wsX6_requireSwitch := goodIn_ca (goodIn_r _ [5, 6, 7, 8, 9, 4, 10] (by decide +kernel) (by decide +kernel)) (goodIn_sub (fun _ h => List.mem_cons_of_mem _ (List.mem_append_right _ h)) (by decide +kernel))
set_option maxRecDepth 20000 in
theorem gX6_isOn_X6_requireSwitch : GoodIn wsX6_isOn (va_wsS RX6 62 yX6_requireSwitch wsX6_requireSwitch) := goodIn_app (goodIn_of _ (by decide +kernel)) ggX6_isOn_X6_requireSwitch
set_option maxRecDepth 20000 in
theorem ggX6_isOn_X6_requireRing : GoodIn wsX6_isOn wsX6_requireRing := goodIn_ca (goodIn_r _ [13, 6, 7] (by decide +kernel) (by decide +kernel)) (goodIn_sub (fun _ h => List.mem_cons_of_mem _ (List.mem_append_right _ h)) (by decide +kernel))
set_option maxRecDepth 20000 in
theorem gX6_isOn_X6_requireRing : GoodIn wsX6_isOn (va_wsS RX6 109 yX6_requireRing wsX6_requireRing) := goodIn_app (goodIn_of _ (by decide +kernel)) ggX6_isOn_X6_requireRing
set_option maxRecDepth 20000 in
theorem ggX6_isOn_X6_setIn : GoodIn wsX6_isOn wsX6_setIn := goodIn_r _ [17, 18, 19, 20, 21, 22, 23, 24, 25, 26, 27, 28, 29, 30, 31, 32, 33, 4, 34, 45, 46, 47, 48, 49, 50, 51, 52, 53, 54, 55, 56, 57, 58, 59] (by decide +kernel) (by decide +kernel)
set_option maxRecDepth 20000 in
theorem gX6_isOn_X6_setIn : GoodIn wsX6_isOn (wsV RX6 190 RX6 yX6_setIn wsX6_setIn) := goodIn_app (goodIn_of _ (by decide +kernel)) ggX6_isOn_X6_setIn
set_option maxRecDepth 20000 in
theorem ggX6_isOn_X3_onAmong : GoodIn wsX6_isOn wsX3_onAmong := goodIn_r _ [39, 40, 41, 27, 28, 29, 30, 31, 33, 4, 34, 60, 61, 59] (by decide +kernel) (by decide +kernel)
set_option maxRecDepth 20000 in
theorem gX6_isOn_X3_onAmong : GoodIn wsX6_isOn (wsV RX6 193 RX3 yX3_onAmong wsX3_onAmong) := goodIn_app (goodIn_of _ (by decide +kernel)) ggX6_isOn_X3_onAmong
set_option maxRecDepth 20000 in
theorem ggX6_isOn_X6_hasBit : GoodIn wsX6_isOn wsX6_hasBit := goodIn_r _ [44] (by decide +kernel) (by decide +kernel)
set_option maxRecDepth 20000 in
theorem gX6_isOn_X6_hasBit : GoodIn wsX6_isOn (va_wsS RX6 196 yX6_hasBit wsX6_hasBit) := goodIn_app (goodIn_of _ (by decide +kernel)) ggX6_isOn_X6_hasBit
theorem dX6_isOn_0 : decode cX6_isOn 0 = .ok (.iload_n 1, 1) := by decide +kernel
theorem dX6_isOn_1 : decode cX6_isOn 1 = .ok (.invokestatic 62, 3) := by decide +kernel
theorem dX6_isOn_4 : decode cX6_isOn 4 = .ok (.iload_n 2, 1) := by decide +kernel
theorem dX6_isOn_5 : decode cX6_isOn 5 = .ok (.invokestatic 109, 3) := by decide +kernel
theorem dX6_isOn_8 : decode cX6_isOn 8 = .ok (.aload_n 0, 1) := by decide +kernel
theorem dX6_isOn_9 : decode cX6_isOn 9 = .ok (.getfield 12, 3) := by decide +kernel
theorem dX6_isOn_12 : decode cX6_isOn 12 = .ok (.aload_n 0, 1) := by decide +kernel
theorem dX6_isOn_13 : decode cX6_isOn 13 = .ok (.iload_n 2, 1) := by decide +kernel
theorem dX6_isOn_14 : decode cX6_isOn 14 = .ok (.invokevirtual 190, 3) := by decide +kernel
theorem dX6_isOn_17 : decode cX6_isOn 17 = .ok (.invokevirtual 193, 3) := by decide +kernel
theorem dX6_isOn_20 : decode cX6_isOn 20 = .ok (.iload_n 1, 1) := by decide +kernel
theorem dX6_isOn_21 : decode cX6_isOn 21 = .ok (.invokestatic 196, 3) := by decide +kernel
theorem dX6_isOn_24 : decode cX6_isOn 24 = .ok (.ireturn, 1) := by decide +kernel
set_option maxRecDepth 20000 in
theorem ggX6_isFaulty_X6_requireRing : GoodIn wsX6_isFaulty wsX6_requireRing := goodIn_ca (goodIn_r _ [4, 5, 6] (by decide +kernel) (by decide +kernel)) (goodIn_sub (fun _ h => List.mem_cons_of_mem _ (List.mem_append_right _ h)) (by decide +kernel))
set_option maxRecDepth 20000 in
theorem gX6_isFaulty_X6_requireRing : GoodIn wsX6_isFaulty (va_wsS RX6 109 yX6_requireRing wsX6_requireRing) := goodIn_app (goodIn_of _ (by decide +kernel)) ggX6_isFaulty_X6_requireRing
set_option maxRecDepth 20000 in
theorem ggX6_isFaulty_X6_showsFault : GoodIn wsX6_isFaulty wsX6_showsFault := goodIn_r _ [10, 11, 12, 13, 14, 15, 3, 16, 17, 18, 19, 20, 21, 22, 23, 24, 25, 26, 27, 28, 29, 30, 31, 32, 33, 34, 35, 36, 37, 38, 39, 40, 41, 42, 43, 44, 45, 46, 47, 48, 49, 50, 51, 52, 53, 54, 55, 56, 57, 58, 59, 60, 61, 62, 63, 64, 65, 66, 67, 68, 69, 70, 71, 72, 73, 74, 75, 76, 77] (by decide +kernel) (by decide +kernel)
set_option maxRecDepth 20000 in
theorem gX6_isFaulty_X6_showsFault : GoodIn wsX6_isFaulty (wsV RX6 199 RX6 yX6_showsFault wsX6_showsFault) := goodIn_app (goodIn_of _ (by decide +kernel)) ggX6_isFaulty_X6_showsFault
theorem dX6_isFaulty_0 : decode cX6_isFaulty 0 = .ok (.iload_n 1, 1) := by decide +kernel
theorem dX6_isFaulty_1 : decode cX6_isFaulty 1 = .ok (.invokestatic 109, 3) := by decide +kernel
theorem dX6_isFaulty_4 : decode cX6_isFaulty 4 = .ok (.aload_n 0, 1) := by decide +kernel
theorem dX6_isFaulty_5 : decode cX6_isFaulty 5 = .ok (.iload_n 1, 1) := by decide +kernel
theorem dX6_isFaulty_6 : decode cX6_isFaulty 6 = .ok (.invokevirtual 199, 3) := by decide +kernel
theorem dX6_isFaulty_9 : decode cX6_isFaulty 9 = .ok (.ireturn, 1) := by decide +kernel
set_option maxRecDepth 20000 in
theorem ggX6_rollable_X6_requireRing : GoodIn wsX6_rollable wsX6_requireRing := goodIn_ca (goodIn_r _ [5, 6, 7] (by decide +kernel) (by decide +kernel)) (goodIn_sub (fun _ h => List.mem_cons_of_mem _ (List.mem_append_right _ h)) (by decide +kernel))
set_option maxRecDepth 20000 in
theorem gX6_rollable_X6_requireRing : GoodIn wsX6_rollable (va_wsS RX6 109 yX6_requireRing wsX6_requireRing) := goodIn_app (goodIn_of _ (by decide +kernel)) ggX6_rollable_X6_requireRing
set_option maxRecDepth 20000 in
theorem ggX6_rollable_X6_runs : GoodIn wsX6_rollable wsX6_runs := goodIn_r _ [11, 12, 13, 14, 4, 15, 16, 17, 18, 19, 20, 21, 22, 23, 24, 25, 26, 27, 28, 47, 48, 49, 50, 51, 52, 53, 54, 55, 56, 57, 58, 59, 60, 61] (by decide +kernel) (by decide +kernel)
set_option maxRecDepth 20000 in
theorem gX6_rollable_X6_runs : GoodIn wsX6_rollable (wsV RX6 112 RX6 yX6_runs wsX6_runs) := goodIn_app (goodIn_of _ (by decide +kernel)) ggX6_rollable_X6_runs
set_option maxRecDepth 20000 in
theorem ggX6_rollable_X6_isHeldBack : GoodIn wsX6_rollable wsX6_isHeldBack := goodIn_r _ [32, 12, 33, 34, 13, 14, 4, 15, 16, 17, 18, 19, 20, 21, 22, 23, 24, 25, 26, 27, 28, 35, 36, 37, 38, 39, 40, 41, 42, 43, 44, 45, 46, 47, 48, 49, 50, 51, 52, 53, 54, 55, 56, 57, 58, 59, 60, 61, 62, 63, 64, 65, 66, 67, 68] (by decide +kernel) (by decide +kernel)
set_option maxRecDepth 20000 in
theorem gX6_rollable_X6_isHeldBack : GoodIn wsX6_rollable (wsV RX6 117 RX6 yX6_isHeldBack wsX6_isHeldBack) := goodIn_app (goodIn_of _ (by decide +kernel)) ggX6_rollable_X6_isHeldBack
theorem dX6_rollable_0 : decode cX6_rollable 0 = .ok (.iload_n 1, 1) := by decide +kernel
theorem dX6_rollable_1 : decode cX6_rollable 1 = .ok (.invokestatic 109, 3) := by decide +kernel
theorem dX6_rollable_4 : decode cX6_rollable 4 = .ok (.iload_n 1, 1) := by decide +kernel
theorem dX6_rollable_5 : decode cX6_rollable 5 = .ok (.ifCond .ne 12, 3) := by decide +kernel
theorem dX6_rollable_8 : decode cX6_rollable 8 = .ok (.aload_n 0, 1) := by decide +kernel
theorem dX6_rollable_9 : decode cX6_rollable 9 = .ok (.getfield 44, 3) := by decide +kernel
theorem dX6_rollable_12 : decode cX6_rollable 12 = .ok (.iconst 1, 1) := by decide +kernel
theorem dX6_rollable_13 : decode cX6_rollable 13 = .ok (.isub, 1) := by decide +kernel
theorem dX6_rollable_14 : decode cX6_rollable 14 = .ok (.goto 10, 3) := by decide +kernel
theorem dX6_rollable_17 : decode cX6_rollable 17 = .ok (.aload_n 0, 1) := by decide +kernel
theorem dX6_rollable_18 : decode cX6_rollable 18 = .ok (.iload_n 1, 1) := by decide +kernel
theorem dX6_rollable_19 : decode cX6_rollable 19 = .ok (.iconst 1, 1) := by decide +kernel
theorem dX6_rollable_20 : decode cX6_rollable 20 = .ok (.isub, 1) := by decide +kernel
theorem dX6_rollable_21 : decode cX6_rollable 21 = .ok (.invokevirtual 112, 3) := by decide +kernel
theorem dX6_rollable_24 : decode cX6_rollable 24 = .ok (.istore_n 2, 1) := by decide +kernel
theorem dX6_rollable_25 : decode cX6_rollable 25 = .ok (.aload_n 0, 1) := by decide +kernel
theorem dX6_rollable_26 : decode cX6_rollable 26 = .ok (.iload_n 1, 1) := by decide +kernel
theorem dX6_rollable_27 : decode cX6_rollable 27 = .ok (.invokevirtual 112, 3) := by decide +kernel
theorem dX6_rollable_30 : decode cX6_rollable 30 = .ok (.iload_n 2, 1) := by decide +kernel
theorem dX6_rollable_31 : decode cX6_rollable 31 = .ok (.if_icmp .eq 12, 3) := by decide +kernel
theorem dX6_rollable_34 : decode cX6_rollable 34 = .ok (.aload_n 0, 1) := by decide +kernel
theorem dX6_rollable_35 : decode cX6_rollable 35 = .ok (.iload_n 1, 1) := by decide +kernel
theorem dX6_rollable_36 : decode cX6_rollable 36 = .ok (.iload_n 2, 1) := by decide +kernel
theorem dX6_rollable_37 : decode cX6_rollable 37 = .ok (.invokevirtual 117, 3) := by decide +kernel
theorem dX6_rollable_40 : decode cX6_rollable 40 = .ok (.ifCond .eq 7, 3) := by decide +kernel
theorem dX6_rollable_43 : decode cX6_rollable 43 = .ok (.iconst (-1), 1) := by decide +kernel
theorem dX6_rollable_44 : decode cX6_rollable 44 = .ok (.goto 4, 3) := by decide +kernel
theorem dX6_rollable_47 : decode cX6_rollable 47 = .ok (.iload_n 2, 1) := by decide +kernel
theorem dX6_rollable_48 : decode cX6_rollable 48 = .ok (.ireturn, 1) := by decide +kernel
set_option maxRecDepth 20000 in
theorem ggX6_changes_X0_total : GoodIn wsX6_changes wsX0_total := goodIn_r _ [6, 7, 15, 16, 17, 18, 19, 20, 21] (by decide +kernel) (by decide +kernel)
set_option maxRecDepth 20000 in
theorem gX6_changes_X0_total : GoodIn wsX6_changes (wsV RX6 203 RX0 yX0_total wsX0_total) := goodIn_app (goodIn_of _ (by decide +kernel)) ggX6_changes_X0_total
theorem dX6_changes_0 : decode cX6_changes 0 = .ok (.aload_n 0, 1) := by decide +kernel
theorem dX6_changes_1 : decode cX6_changes 1 = .ok (.getfield 26, 3) := by decide +kernel
theorem dX6_changes_4 : decode cX6_changes 4 = .ok (.invokevirtual 203, 3) := by decide +kernel
theorem dX6_changes_7 : decode cX6_changes 7 = .ok (.ireturn, 1) := by decide +kernel
set_option maxRecDepth 20000 in
theorem ggX6_change_X6_requireChange : GoodIn wsX6_change wsX6_requireChange := goodIn_ca (goodIn_r _ [6, 7, 8, 1, 9, 10, 11, 12, 13, 14, 39, 40, 41, 42, 43, 44, 45, 46, 47, 48, 49, 50, 51, 52] (by decide +kernel) (by decide +kernel)) (goodIn_sub (fun _ h => List.mem_cons_of_mem _ (List.mem_append_right _ h)) (by decide +kernel))
set_option maxRecDepth 20000 in
theorem gX6_change_X6_requireChange : GoodIn wsX6_change (wsV RX6 125 RX6 yX6_requireChange wsX6_requireChange) := goodIn_app (goodIn_of _ (by decide +kernel)) ggX6_change_X6_requireChange
set_option maxRecDepth 20000 in
theorem ggX6_change_X0_subjectOf : GoodIn wsX6_change wsX0_subjectOf := goodIn_r _ [18, 19, 20, 21, 22, 23, 24, 25, 46, 47, 48, 49, 50, 51, 52, 53] (by decide +kernel) (by decide +kernel)
set_option maxRecDepth 20000 in
theorem gX6_change_X0_subjectOf : GoodIn wsX6_change (wsV RX6 128 RX0 yX0_subjectOf wsX0_subjectOf) := goodIn_app (goodIn_of _ (by decide +kernel)) ggX6_change_X0_subjectOf
set_option maxRecDepth 20000 in
theorem ggX6_change_X0_personOf : GoodIn wsX6_change wsX0_personOf := goodIn_r _ [29, 30, 20, 21, 22, 23, 24, 25, 46, 47, 48, 49, 50, 51, 52, 53] (by decide +kernel) (by decide +kernel)
set_option maxRecDepth 20000 in
theorem gX6_change_X0_personOf : GoodIn wsX6_change (wsV RX6 204 RX0 yX0_personOf wsX0_personOf) := goodIn_app (goodIn_of _ (by decide +kernel)) ggX6_change_X0_personOf
set_option maxRecDepth 20000 in
theorem ggX6_change_X0_valueOf : GoodIn wsX6_change wsX0_valueOf := goodIn_r _ [34, 35, 20, 21, 22, 23, 24, 25, 46, 47, 48, 49, 50, 51, 52, 53] (by decide +kernel) (by decide +kernel)
set_option maxRecDepth 20000 in
theorem gX6_change_X0_valueOf : GoodIn wsX6_change (wsV RX6 207 RX0 yX0_valueOf wsX0_valueOf) := goodIn_app (goodIn_of _ (by decide +kernel)) ggX6_change_X0_valueOf
set_option maxRecDepth 20000 in
theorem ggX6_change_X6_isSwitch : GoodIn wsX6_change wsX6_isSwitch := goodIn_r _ [38] (by decide +kernel) (by decide +kernel)
set_option maxRecDepth 20000 in
theorem gX6_change_X6_isSwitch : GoodIn wsX6_change (va_wsS RX6 210 yX6_isSwitch wsX6_isSwitch) := goodIn_app (goodIn_of _ (by decide +kernel)) ggX6_change_X6_isSwitch
theorem dX6_change_0 : decode cX6_change 0 = .ok (.aload_n 0, 1) := by decide +kernel
theorem dX6_change_1 : decode cX6_change 1 = .ok (.iload_n 1, 1) := by decide +kernel
theorem dX6_change_2 : decode cX6_change 2 = .ok (.invokevirtual 125, 3) := by decide +kernel
theorem dX6_change_5 : decode cX6_change 5 = .ok (.aload_n 0, 1) := by decide +kernel
theorem dX6_change_6 : decode cX6_change 6 = .ok (.getfield 26, 3) := by decide +kernel
theorem dX6_change_9 : decode cX6_change 9 = .ok (.iload_n 1, 1) := by decide +kernel
theorem dX6_change_10 : decode cX6_change 10 = .ok (.invokevirtual 128, 3) := by decide +kernel
theorem dX6_change_13 : decode cX6_change 13 = .ok (.istore_n 2, 1) := by decide +kernel
theorem dX6_change_14 : decode cX6_change 14 = .ok (.sipush 10000, 3) := by decide +kernel
theorem dX6_change_17 : decode cX6_change 17 = .ok (.aload_n 0, 1) := by decide +kernel
theorem dX6_change_18 : decode cX6_change 18 = .ok (.getfield 26, 3) := by decide +kernel
theorem dX6_change_21 : decode cX6_change 21 = .ok (.iload_n 1, 1) := by decide +kernel
theorem dX6_change_22 : decode cX6_change 22 = .ok (.invokevirtual 204, 3) := by decide +kernel
theorem dX6_change_25 : decode cX6_change 25 = .ok (.imul, 1) := by decide +kernel
theorem dX6_change_26 : decode cX6_change 26 = .ok (.aload_n 0, 1) := by decide +kernel
theorem dX6_change_27 : decode cX6_change 27 = .ok (.getfield 26, 3) := by decide +kernel
theorem dX6_change_30 : decode cX6_change 30 = .ok (.iload_n 1, 1) := by decide +kernel
theorem dX6_change_31 : decode cX6_change 31 = .ok (.invokevirtual 207, 3) := by decide +kernel
theorem dX6_change_34 : decode cX6_change 34 = .ok (.iadd, 1) := by decide +kernel
theorem dX6_change_35 : decode cX6_change 35 = .ok (.istore_n 3, 1) := by decide +kernel
theorem dX6_change_36 : decode cX6_change 36 = .ok (.iload_n 2, 1) := by decide +kernel
theorem dX6_change_37 : decode cX6_change 37 = .ok (.invokestatic 210, 3) := by decide +kernel
theorem dX6_change_40 : decode cX6_change 40 = .ok (.ifCond .eq 10, 3) := by decide +kernel
theorem dX6_change_43 : decode cX6_change 43 = .ok (.iload_n 3, 1) := by decide +kernel
theorem dX6_change_44 : decode cX6_change 44 = .ok (.bipush 100, 2) := by decide +kernel
theorem dX6_change_46 : decode cX6_change 46 = .ok (.iload_n 2, 1) := by decide +kernel
theorem dX6_change_47 : decode cX6_change 47 = .ok (.imul, 1) := by decide +kernel
theorem dX6_change_48 : decode cX6_change 48 = .ok (.iadd, 1) := by decide +kernel
theorem dX6_change_49 : decode cX6_change 49 = .ok (.ireturn, 1) := by decide +kernel
theorem dX6_change_50 : decode cX6_change 50 = .ok (.iload_n 3, 1) := by decide +kernel
theorem dX6_change_51 : decode cX6_change 51 = .ok (.sipush 1000, 3) := by decide +kernel
theorem dX6_change_54 : decode cX6_change 54 = .ok (.iadd, 1) := by decide +kernel
theorem dX6_change_55 : decode cX6_change 55 = .ok (.bipush 100, 2) := by decide +kernel
theorem dX6_change_57 : decode cX6_change 57 = .ok (.iload_n 2, 1) := by decide +kernel
theorem dX6_change_58 : decode cX6_change 58 = .ok (.bipush 8, 2) := by decide +kernel
theorem dX6_change_60 : decode cX6_change 60 = .ok (.isub, 1) := by decide +kernel
theorem dX6_change_61 : decode cX6_change 61 = .ok (.imul, 1) := by decide +kernel
theorem dX6_change_62 : decode cX6_change 62 = .ok (.iadd, 1) := by decide +kernel
theorem dX6_change_63 : decode cX6_change 63 = .ok (.ireturn, 1) := by decide +kernel
set_option maxRecDepth 20000 in
theorem ggX6_madeAt_X6_requireChange : GoodIn wsX6_madeAt wsX6_requireChange := goodIn_ca (goodIn_r _ [6, 7, 8, 1, 9, 10, 11, 12, 13, 14, 26, 27, 28, 29, 30, 31, 32, 33, 34, 35, 36, 37, 38, 39] (by decide +kernel) (by decide +kernel)) (goodIn_sub (fun _ h => List.mem_cons_of_mem _ (List.mem_append_right _ h)) (by decide +kernel))
set_option maxRecDepth 20000 in
theorem gX6_madeAt_X6_requireChange : GoodIn wsX6_madeAt (wsV RX6 125 RX6 yX6_requireChange wsX6_requireChange) := goodIn_app (goodIn_of _ (by decide +kernel)) ggX6_madeAt_X6_requireChange
set_option maxRecDepth 20000 in
theorem ggX6_madeAt_X0_timeOf : GoodIn wsX6_madeAt wsX0_timeOf := goodIn_r _ [18, 19, 20, 21, 22, 23, 24, 25, 33, 34, 35, 36, 37, 38, 39, 40] (by decide +kernel) (by decide +kernel)
set_option maxRecDepth 20000 in
theorem gX6_madeAt_X0_timeOf : GoodIn wsX6_madeAt (wsV RX6 213 RX0 yX0_timeOf wsX0_timeOf) := goodIn_app (goodIn_of _ (by decide +kernel)) ggX6_madeAt_X0_timeOf
theorem dX6_madeAt_0 : decode cX6_madeAt 0 = .ok (.aload_n 0, 1) := by decide +kernel
theorem dX6_madeAt_1 : decode cX6_madeAt 1 = .ok (.iload_n 1, 1) := by decide +kernel
theorem dX6_madeAt_2 : decode cX6_madeAt 2 = .ok (.invokevirtual 125, 3) := by decide +kernel
theorem dX6_madeAt_5 : decode cX6_madeAt 5 = .ok (.aload_n 0, 1) := by decide +kernel
theorem dX6_madeAt_6 : decode cX6_madeAt 6 = .ok (.getfield 26, 3) := by decide +kernel
theorem dX6_madeAt_9 : decode cX6_madeAt 9 = .ok (.iload_n 1, 1) := by decide +kernel
theorem dX6_madeAt_10 : decode cX6_madeAt 10 = .ok (.invokevirtual 213, 3) := by decide +kernel
theorem dX6_madeAt_13 : decode cX6_madeAt 13 = .ok (.ireturn, 1) := by decide +kernel
set_option maxRecDepth 20000 in
theorem ggX6_heals_X6_requireChange : GoodIn wsX6_heals wsX6_requireChange := goodIn_ca (goodIn_r _ [5, 6, 7, 8, 9, 10, 11, 12, 13, 14, 83, 84, 85, 86, 87, 88, 89, 90, 91, 92, 93, 94, 95, 96] (by decide +kernel) (by decide +kernel)) (goodIn_sub (fun _ h => List.mem_cons_of_mem _ (List.mem_append_right _ h)) (by decide +kernel))
set_option maxRecDepth 20000 in
theorem gX6_heals_X6_requireChange : GoodIn wsX6_heals (wsV RX6 125 RX6 yX6_requireChange wsX6_requireChange) := goodIn_app (goodIn_of _ (by decide +kernel)) ggX6_heals_X6_requireChange
set_option maxRecDepth 20000 in
theorem ggX6_heals_X6_requireRing : GoodIn wsX6_heals wsX6_requireRing := goodIn_ca (goodIn_r _ [17, 6, 7] (by decide +kernel) (by decide +kernel)) (goodIn_sub (fun _ h => List.mem_cons_of_mem _ (List.mem_append_right _ h)) (by decide +kernel))
set_option maxRecDepth 20000 in
theorem gX6_heals_X6_requireRing : GoodIn wsX6_heals (va_wsS RX6 109 yX6_requireRing wsX6_requireRing) := goodIn_app (goodIn_of _ (by decide +kernel)) ggX6_heals_X6_requireRing
set_option maxRecDepth 20000 in
theorem ggX6_heals_X6_showsFault : GoodIn wsX6_heals wsX6_showsFault := goodIn_r _ [21, 22, 23, 24, 25, 26, 4, 27, 8, 28, 29, 30, 31, 32, 33, 12, 34, 35, 36, 37, 38, 39, 40, 41, 42, 43, 44, 45, 46, 47, 48, 49, 50, 51, 52, 53, 54, 55, 56, 57, 58, 59, 60, 61, 62, 63, 64, 65, 83, 84, 85, 86, 87, 88, 89, 90, 91, 92, 93, 94, 95, 96, 97, 98, 99, 100, 101, 102, 103] (by decide +kernel) (by decide +kernel)
set_option maxRecDepth 20000 in
theorem gX6_heals_X6_showsFault : GoodIn wsX6_heals (wsV RX6 199 RX6 yX6_showsFault wsX6_showsFault) := goodIn_app (goodIn_of _ (by decide +kernel)) ggX6_heals_X6_showsFault
set_option maxRecDepth 20000 in
theorem ggX6_heals_X6_showsFaultWithout : GoodIn wsX6_heals wsX6_showsFaultWithout := goodIn_r _ [69, 8, 22, 23, 70, 71, 72, 12, 73, 74, 37, 38, 39, 40, 41, 42, 75, 76, 77, 78, 35, 79, 36, 28, 29, 4, 30, 24, 25, 26, 27, 31, 32, 33, 34, 43, 44, 45, 46, 47, 48, 49, 80, 81, 82, 50, 51, 52, 53, 54, 55, 56, 57, 58, 59, 60, 61, 62, 63, 64, 65, 83, 84, 85, 86, 87, 88, 89, 90, 91, 92, 93, 94, 95, 96, 97, 98, 99, 100, 101, 102, 103] (by decide +kernel) (by decide +kernel)
set_option maxRecDepth 20000 in
theorem gX6_heals_X6_showsFaultWithout : GoodIn wsX6_heals (wsV RX6 216 RX6 yX6_showsFaultWithout wsX6_showsFaultWithout) := goodIn_app (goodIn_of _ (by decide +kernel)) ggX6_heals_X6_showsFaultWithout
theorem dX6_heals_0 : decode cX6_heals 0 = .ok (.aload_n 0, 1) := by decide +kernel
theorem dX6_heals_1 : decode cX6_heals 1 = .ok (.iload_n 1, 1) := by decide +kernel
theorem dX6_heals_2 : decode cX6_heals 2 = .ok (.invokevirtual 125, 3) := by decide +kernel
theorem dX6_heals_5 : decode cX6_heals 5 = .ok (.iload_n 2, 1) := by decide +kernel
theorem dX6_heals_6 : decode cX6_heals 6 = .ok (.invokestatic 109, 3) := by decide +kernel
theorem dX6_heals_9 : decode cX6_heals 9 = .ok (.aload_n 0, 1) := by decide +kernel
theorem dX6_heals_10 : decode cX6_heals 10 = .ok (.iload_n 2, 1) := by decide +kernel
theorem dX6_heals_11 : decode cX6_heals 11 = .ok (.invokevirtual 199, 3) := by decide +kernel
theorem dX6_heals_14 : decode cX6_heals 14 = .ok (.ifCond .eq 16, 3) := by decide +kernel
theorem dX6_heals_17 : decode cX6_heals 17 = .ok (.aload_n 0, 1) := by decide +kernel
theorem dX6_heals_18 : decode cX6_heals 18 = .ok (.iload_n 1, 1) := by decide +kernel
theorem dX6_heals_19 : decode cX6_heals 19 = .ok (.iload_n 2, 1) := by decide +kernel
theorem dX6_heals_20 : decode cX6_heals 20 = .ok (.invokevirtual 216, 3) := by decide +kernel
theorem dX6_heals_23 : decode cX6_heals 23 = .ok (.ifCond .ne 7, 3) := by decide +kernel
theorem dX6_heals_26 : decode cX6_heals 26 = .ok (.iconst 1, 1) := by decide +kernel
theorem dX6_heals_27 : decode cX6_heals 27 = .ok (.goto 4, 3) := by decide +kernel
theorem dX6_heals_30 : decode cX6_heals 30 = .ok (.iconst 0, 1) := by decide +kernel
theorem dX6_heals_31 : decode cX6_heals 31 = .ok (.ireturn, 1) := by decide +kernel
set_option maxRecDepth 20000 in
theorem ggX6_trace_X6_requireRing : GoodIn wsX6_trace wsX6_requireRing := goodIn_ca (goodIn_r _ [4, 5, 6] (by decide +kernel) (by decide +kernel)) (goodIn_sub (fun _ h => List.mem_cons_of_mem _ (List.mem_append_right _ h)) (by decide +kernel))
set_option maxRecDepth 20000 in
theorem gX6_trace_X6_requireRing : GoodIn wsX6_trace (va_wsS RX6 109 yX6_requireRing wsX6_requireRing) := goodIn_app (goodIn_of _ (by decide +kernel)) ggX6_trace_X6_requireRing
set_option maxRecDepth 20000 in
theorem ggX6_trace_X6_latestHealing : GoodIn wsX6_trace wsX6_latestHealing := goodIn_r _ [10, 11, 12, 13, 14, 3, 15, 16, 17, 18, 19, 20, 21, 22, 23, 24, 25, 26, 27, 28, 29, 30, 31, 32, 33, 34, 35, 36, 37, 38, 39, 40, 41, 42, 43, 44, 45, 46, 47, 48, 49, 50, 51, 52, 53, 54, 55, 56, 57, 58, 59, 60, 61, 62, 63, 64, 65, 66, 67, 68, 69, 70, 71, 72, 73, 74, 75, 76, 77, 78, 79, 80, 81, 82, 83, 84, 85, 86, 87, 88, 89, 90, 91, 92, 93, 94, 95, 96, 97, 98, 99, 100, 101, 102] (by decide +kernel) (by decide +kernel)
set_option maxRecDepth 20000 in
theorem gX6_trace_X6_latestHealing : GoodIn wsX6_trace (wsV RX6 219 RX6 yX6_latestHealing wsX6_latestHealing) := goodIn_app (goodIn_of _ (by decide +kernel)) ggX6_trace_X6_latestHealing
theorem dX6_trace_0 : decode cX6_trace 0 = .ok (.iload_n 1, 1) := by decide +kernel
theorem dX6_trace_1 : decode cX6_trace 1 = .ok (.invokestatic 109, 3) := by decide +kernel
theorem dX6_trace_4 : decode cX6_trace 4 = .ok (.aload_n 0, 1) := by decide +kernel
theorem dX6_trace_5 : decode cX6_trace 5 = .ok (.iload_n 1, 1) := by decide +kernel
theorem dX6_trace_6 : decode cX6_trace 6 = .ok (.invokevirtual 219, 3) := by decide +kernel
theorem dX6_trace_9 : decode cX6_trace 9 = .ok (.ireturn, 1) := by decide +kernel
set_option maxRecDepth 20000 in
theorem ggX6_traceByTrying_X6_requireRing : GoodIn wsX6_traceByTrying wsX6_requireRing := goodIn_ca (goodIn_r _ [5, 6, 7] (by decide +kernel) (by decide +kernel)) (goodIn_sub (fun _ h => List.mem_cons_of_mem _ (List.mem_append_right _ h)) (by decide +kernel))
set_option maxRecDepth 20000 in
theorem gX6_traceByTrying_X6_requireRing : GoodIn wsX6_traceByTrying (va_wsS RX6 109 yX6_requireRing wsX6_requireRing) := goodIn_app (goodIn_of _ (by decide +kernel)) ggX6_traceByTrying_X6_requireRing
set_option maxRecDepth 20000 in
theorem ggX6_traceByTrying_X6_showsFault : GoodIn wsX6_traceByTrying wsX6_showsFault := goodIn_r _ [11, 12, 13, 14, 15, 16, 4, 17, 1, 18, 19, 20, 21, 22, 23, 24, 25, 26, 27, 28, 29, 30, 31, 32, 33, 34, 35, 36, 37, 38, 39, 40, 41, 42, 43, 44, 45, 46, 47, 48, 49, 50, 51, 52, 53, 54, 55, 56, 79, 80, 81, 82, 83, 84, 85, 86, 87, 88, 89, 90, 91, 92, 93, 94, 95, 96, 97, 98, 99] (by decide +kernel) (by decide +kernel)
set_option maxRecDepth 20000 in
theorem gX6_traceByTrying_X6_showsFault : GoodIn wsX6_traceByTrying (wsV RX6 199 RX6 yX6_showsFault wsX6_showsFault) := goodIn_app (goodIn_of _ (by decide +kernel)) ggX6_traceByTrying_X6_showsFault
set_option maxRecDepth 20000 in
theorem ggX6_traceByTrying_X0_total : GoodIn wsX6_traceByTrying wsX0_total := goodIn_r _ [60, 61, 86, 87, 88, 89, 90, 91, 92] (by decide +kernel) (by decide +kernel)
set_option maxRecDepth 20000 in
theorem gX6_traceByTrying_X0_total : GoodIn wsX6_traceByTrying (wsV RX6 203 RX0 yX0_total wsX0_total) := goodIn_app (goodIn_of _ (by decide +kernel)) ggX6_traceByTrying_X0_total
set_option maxRecDepth 20000 in
theorem ggX6_traceByTrying_X6_showsFaultWithout : GoodIn wsX6_traceByTrying wsX6_showsFaultWithout := goodIn_r _ [65, 1, 12, 13, 66, 67, 68, 24, 69, 70, 28, 29, 30, 31, 32, 33, 71, 72, 73, 74, 26, 75, 27, 18, 19, 4, 20, 14, 15, 16, 17, 21, 22, 23, 25, 34, 35, 36, 37, 38, 39, 40, 76, 77, 78, 41, 42, 43, 44, 45, 46, 47, 48, 49, 50, 51, 52, 53, 54, 55, 56, 79, 80, 81, 82, 83, 84, 85, 86, 87, 88, 89, 90, 91, 92, 93, 94, 95, 96, 97, 98, 99] (by decide +kernel) (by decide +kernel)
set_option maxRecDepth 20000 in
theorem gX6_traceByTrying_X6_showsFaultWithout : GoodIn wsX6_traceByTrying (wsV RX6 216 RX6 yX6_showsFaultWithout wsX6_showsFaultWithout) := goodIn_app (goodIn_of _ (by decide +kernel)) ggX6_traceByTrying_X6_showsFaultWithout
theorem dX6_traceByTrying_0 : decode cX6_traceByTrying 0 = .ok (.iload_n 1, 1) := by decide +kernel
theorem dX6_traceByTrying_1 : decode cX6_traceByTrying 1 = .ok (.invokestatic 109, 3) := by decide +kernel
theorem dX6_traceByTrying_4 : decode cX6_traceByTrying 4 = .ok (.aload_n 0, 1) := by decide +kernel
theorem dX6_traceByTrying_5 : decode cX6_traceByTrying 5 = .ok (.iload_n 1, 1) := by decide +kernel
theorem dX6_traceByTrying_6 : decode cX6_traceByTrying 6 = .ok (.invokevirtual 199, 3) := by decide +kernel
theorem dX6_traceByTrying_9 : decode cX6_traceByTrying 9 = .ok (.ifCond .ne 5, 3) := by decide +kernel
theorem dX6_traceByTrying_12 : decode cX6_traceByTrying 12 = .ok (.iconst (-1), 1) := by decide +kernel
theorem dX6_traceByTrying_13 : decode cX6_traceByTrying 13 = .ok (.ireturn, 1) := by decide +kernel
theorem dX6_traceByTrying_14 : decode cX6_traceByTrying 14 = .ok (.aload_n 0, 1) := by decide +kernel
theorem dX6_traceByTrying_15 : decode cX6_traceByTrying 15 = .ok (.getfield 26, 3) := by decide +kernel
theorem dX6_traceByTrying_18 : decode cX6_traceByTrying 18 = .ok (.invokevirtual 203, 3) := by decide +kernel
theorem dX6_traceByTrying_21 : decode cX6_traceByTrying 21 = .ok (.iconst 1, 1) := by decide +kernel
theorem dX6_traceByTrying_22 : decode cX6_traceByTrying 22 = .ok (.isub, 1) := by decide +kernel
theorem dX6_traceByTrying_23 : decode cX6_traceByTrying 23 = .ok (.istore_n 2, 1) := by decide +kernel
theorem dX6_traceByTrying_24 : decode cX6_traceByTrying 24 = .ok (.iload_n 2, 1) := by decide +kernel
theorem dX6_traceByTrying_25 : decode cX6_traceByTrying 25 = .ok (.ifCond .lt 20, 3) := by decide +kernel
theorem dX6_traceByTrying_28 : decode cX6_traceByTrying 28 = .ok (.aload_n 0, 1) := by decide +kernel
theorem dX6_traceByTrying_29 : decode cX6_traceByTrying 29 = .ok (.iload_n 2, 1) := by decide +kernel
theorem dX6_traceByTrying_30 : decode cX6_traceByTrying 30 = .ok (.iload_n 1, 1) := by decide +kernel
theorem dX6_traceByTrying_31 : decode cX6_traceByTrying 31 = .ok (.invokevirtual 216, 3) := by decide +kernel
theorem dX6_traceByTrying_34 : decode cX6_traceByTrying 34 = .ok (.ifCond .ne 5, 3) := by decide +kernel
theorem dX6_traceByTrying_37 : decode cX6_traceByTrying 37 = .ok (.iload_n 2, 1) := by decide +kernel
theorem dX6_traceByTrying_38 : decode cX6_traceByTrying 38 = .ok (.ireturn, 1) := by decide +kernel
theorem dX6_traceByTrying_39 : decode cX6_traceByTrying 39 = .ok (.iinc 2 (-1), 3) := by decide +kernel
theorem dX6_traceByTrying_42 : decode cX6_traceByTrying 42 = .ok (.goto (-18), 3) := by decide +kernel
theorem dX6_traceByTrying_45 : decode cX6_traceByTrying 45 = .ok (.iconst (-1), 1) := by decide +kernel
theorem dX6_traceByTrying_46 : decode cX6_traceByTrying 46 = .ok (.ireturn, 1) := by decide +kernel
set_option maxRecDepth 20000 in
theorem ggX6_incidents_X2_total : GoodIn wsX6_incidents wsX2_total := goodIn_r _ [6, 7, 15, 16, 17, 18, 19, 20, 21] (by decide +kernel) (by decide +kernel)
set_option maxRecDepth 20000 in
theorem gX6_incidents_X2_total : GoodIn wsX6_incidents (wsV RX6 155 RX2 yX2_total wsX2_total) := goodIn_app (goodIn_of _ (by decide +kernel)) ggX6_incidents_X2_total
theorem dX6_incidents_0 : decode cX6_incidents 0 = .ok (.aload_n 0, 1) := by decide +kernel
theorem dX6_incidents_1 : decode cX6_incidents 1 = .ok (.getfield 33, 3) := by decide +kernel
theorem dX6_incidents_4 : decode cX6_incidents 4 = .ok (.invokevirtual 155, 3) := by decide +kernel
theorem dX6_incidents_7 : decode cX6_incidents 7 = .ok (.ireturn, 1) := by decide +kernel
set_option maxRecDepth 20000 in
theorem ggX6_openIn_X6_requireRing : GoodIn wsX6_openIn wsX6_requireRing := goodIn_ca (goodIn_r _ [5, 6, 7] (by decide +kernel) (by decide +kernel)) (goodIn_sub (fun _ h => List.mem_cons_of_mem _ (List.mem_append_right _ h)) (by decide +kernel))
set_option maxRecDepth 20000 in
theorem gX6_openIn_X6_requireRing : GoodIn wsX6_openIn (va_wsS RX6 109 yX6_requireRing wsX6_requireRing) := goodIn_app (goodIn_of _ (by decide +kernel)) ggX6_openIn_X6_requireRing
set_option maxRecDepth 20000 in
theorem ggX6_openIn_X2_openOf : GoodIn wsX6_openIn wsX2_openOf := goodIn_r _ [12, 13, 14, 15, 16, 17, 18, 19, 27, 28, 29, 30, 31, 32, 33, 34] (by decide +kernel) (by decide +kernel)
set_option maxRecDepth 20000 in
theorem gX6_openIn_X2_openOf : GoodIn wsX6_openIn (wsV RX6 222 RX2 yX2_openOf wsX2_openOf) := goodIn_app (goodIn_of _ (by decide +kernel)) ggX6_openIn_X2_openOf
theorem dX6_openIn_0 : decode cX6_openIn 0 = .ok (.iload_n 1, 1) := by decide +kernel
theorem dX6_openIn_1 : decode cX6_openIn 1 = .ok (.invokestatic 109, 3) := by decide +kernel
theorem dX6_openIn_4 : decode cX6_openIn 4 = .ok (.aload_n 0, 1) := by decide +kernel
theorem dX6_openIn_5 : decode cX6_openIn 5 = .ok (.getfield 33, 3) := by decide +kernel
theorem dX6_openIn_8 : decode cX6_openIn 8 = .ok (.iload_n 1, 1) := by decide +kernel
theorem dX6_openIn_9 : decode cX6_openIn 9 = .ok (.invokevirtual 222, 3) := by decide +kernel
theorem dX6_openIn_12 : decode cX6_openIn 12 = .ok (.ireturn, 1) := by decide +kernel
set_option maxRecDepth 20000 in
theorem ggX6_openedAt_X6_requireIncident : GoodIn wsX6_openedAt wsX6_requireIncident := goodIn_ca (goodIn_r _ [6, 7, 8, 1, 9, 10, 11, 12, 13, 14, 31, 32, 33, 34, 35, 36, 37, 38, 39, 40, 41, 42, 43, 44] (by decide +kernel) (by decide +kernel)) (goodIn_sub (fun _ h => List.mem_cons_of_mem _ (List.mem_append_right _ h)) (by decide +kernel))
set_option maxRecDepth 20000 in
theorem gX6_openedAt_X6_requireIncident : GoodIn wsX6_openedAt (wsV RX6 225 RX6 yX6_requireIncident wsX6_requireIncident) := goodIn_app (goodIn_of _ (by decide +kernel)) ggX6_openedAt_X6_requireIncident
set_option maxRecDepth 20000 in
theorem ggX6_openedAt_X2_startOf : GoodIn wsX6_openedAt wsX2_startOf := goodIn_r _ [18, 19, 20, 21, 22, 23, 24, 25, 38, 39, 40, 41, 42, 43, 44, 45] (by decide +kernel) (by decide +kernel)
set_option maxRecDepth 20000 in
theorem gX6_openedAt_X2_startOf : GoodIn wsX6_openedAt (wsV RX6 228 RX2 yX2_startOf wsX2_startOf) := goodIn_app (goodIn_of _ (by decide +kernel)) ggX6_openedAt_X2_startOf
set_option maxRecDepth 20000 in
theorem ggX6_openedAt_X2_ringOf : GoodIn wsX6_openedAt wsX2_ringOf := goodIn_r _ [29, 30, 20, 21, 22, 23, 24, 25, 38, 39, 40, 41, 42, 43, 44, 45] (by decide +kernel) (by decide +kernel)
set_option maxRecDepth 20000 in
theorem gX6_openedAt_X2_ringOf : GoodIn wsX6_openedAt (wsV RX6 231 RX2 yX2_ringOf wsX2_ringOf) := goodIn_app (goodIn_of _ (by decide +kernel)) ggX6_openedAt_X2_ringOf
theorem dX6_openedAt_0 : decode cX6_openedAt 0 = .ok (.aload_n 0, 1) := by decide +kernel
theorem dX6_openedAt_1 : decode cX6_openedAt 1 = .ok (.iload_n 1, 1) := by decide +kernel
theorem dX6_openedAt_2 : decode cX6_openedAt 2 = .ok (.invokevirtual 225, 3) := by decide +kernel
theorem dX6_openedAt_5 : decode cX6_openedAt 5 = .ok (.bipush 10, 2) := by decide +kernel
theorem dX6_openedAt_7 : decode cX6_openedAt 7 = .ok (.aload_n 0, 1) := by decide +kernel
theorem dX6_openedAt_8 : decode cX6_openedAt 8 = .ok (.getfield 33, 3) := by decide +kernel
theorem dX6_openedAt_11 : decode cX6_openedAt 11 = .ok (.iload_n 1, 1) := by decide +kernel
theorem dX6_openedAt_12 : decode cX6_openedAt 12 = .ok (.invokevirtual 228, 3) := by decide +kernel
theorem dX6_openedAt_15 : decode cX6_openedAt 15 = .ok (.imul, 1) := by decide +kernel
theorem dX6_openedAt_16 : decode cX6_openedAt 16 = .ok (.aload_n 0, 1) := by decide +kernel
theorem dX6_openedAt_17 : decode cX6_openedAt 17 = .ok (.getfield 33, 3) := by decide +kernel
theorem dX6_openedAt_20 : decode cX6_openedAt 20 = .ok (.iload_n 1, 1) := by decide +kernel
theorem dX6_openedAt_21 : decode cX6_openedAt 21 = .ok (.invokevirtual 231, 3) := by decide +kernel
theorem dX6_openedAt_24 : decode cX6_openedAt 24 = .ok (.iadd, 1) := by decide +kernel
theorem dX6_openedAt_25 : decode cX6_openedAt 25 = .ok (.ireturn, 1) := by decide +kernel
set_option maxRecDepth 20000 in
theorem ggX6_closedAt_X6_requireIncident : GoodIn wsX6_closedAt wsX6_requireIncident := goodIn_ca (goodIn_r _ [6, 7, 8, 1, 9, 10, 11, 12, 13, 14, 26, 27, 28, 29, 30, 31, 32, 33, 34, 35, 36, 37, 38, 39] (by decide +kernel) (by decide +kernel)) (goodIn_sub (fun _ h => List.mem_cons_of_mem _ (List.mem_append_right _ h)) (by decide +kernel))
set_option maxRecDepth 20000 in
theorem gX6_closedAt_X6_requireIncident : GoodIn wsX6_closedAt (wsV RX6 225 RX6 yX6_requireIncident wsX6_requireIncident) := goodIn_app (goodIn_of _ (by decide +kernel)) ggX6_closedAt_X6_requireIncident
set_option maxRecDepth 20000 in
theorem ggX6_closedAt_X2_endOf : GoodIn wsX6_closedAt wsX2_endOf := goodIn_r _ [18, 19, 20, 21, 22, 23, 24, 25, 33, 34, 35, 36, 37, 38, 39, 40] (by decide +kernel) (by decide +kernel)
set_option maxRecDepth 20000 in
theorem gX6_closedAt_X2_endOf : GoodIn wsX6_closedAt (wsV RX6 234 RX2 yX2_endOf wsX2_endOf) := goodIn_app (goodIn_of _ (by decide +kernel)) ggX6_closedAt_X2_endOf
theorem dX6_closedAt_0 : decode cX6_closedAt 0 = .ok (.aload_n 0, 1) := by decide +kernel
theorem dX6_closedAt_1 : decode cX6_closedAt 1 = .ok (.iload_n 1, 1) := by decide +kernel
theorem dX6_closedAt_2 : decode cX6_closedAt 2 = .ok (.invokevirtual 225, 3) := by decide +kernel
theorem dX6_closedAt_5 : decode cX6_closedAt 5 = .ok (.aload_n 0, 1) := by decide +kernel
theorem dX6_closedAt_6 : decode cX6_closedAt 6 = .ok (.getfield 33, 3) := by decide +kernel
theorem dX6_closedAt_9 : decode cX6_closedAt 9 = .ok (.iload_n 1, 1) := by decide +kernel
theorem dX6_closedAt_10 : decode cX6_closedAt 10 = .ok (.invokevirtual 234, 3) := by decide +kernel
theorem dX6_closedAt_13 : decode cX6_closedAt 13 = .ok (.ireturn, 1) := by decide +kernel
theorem dX6_requirePerson_0 : decode cX6_requirePerson 0 = .ok (.iload_n 0, 1) := by decide +kernel
theorem dX6_requirePerson_1 : decode cX6_requirePerson 1 = .ok (.ifCond .lt 9, 3) := by decide +kernel
theorem dX6_requirePerson_4 : decode cX6_requirePerson 4 = .ok (.iload_n 0, 1) := by decide +kernel
theorem dX6_requirePerson_5 : decode cX6_requirePerson 5 = .ok (.bipush 6, 2) := by decide +kernel
theorem dX6_requirePerson_7 : decode cX6_requirePerson 7 = .ok (.if_icmp .lt 13, 3) := by decide +kernel
theorem dX6_requirePerson_10 : decode cX6_requirePerson 10 = .ok (.new 165, 3) := by decide +kernel
theorem dX6_requirePerson_13 : decode cX6_requirePerson 13 = .ok (.dup, 1) := by decide +kernel
theorem dX6_requirePerson_14 : decode cX6_requirePerson 14 = .ok (.ldc 243, 2) := by decide +kernel
theorem dX6_requirePerson_16 : decode cX6_requirePerson 16 = .ok (.invokespecial 169, 3) := by decide +kernel
theorem dX6_requirePerson_19 : decode cX6_requirePerson 19 = .ok (.athrow, 1) := by decide +kernel
theorem dX6_requirePerson_20 : decode cX6_requirePerson 20 = .ok (.return_, 1) := by decide +kernel
theorem dX6_requireRing_0 : decode cX6_requireRing 0 = .ok (.iload_n 0, 1) := by decide +kernel
theorem dX6_requireRing_1 : decode cX6_requireRing 1 = .ok (.ifCond .lt 8, 3) := by decide +kernel
theorem dX6_requireRing_4 : decode cX6_requireRing 4 = .ok (.iload_n 0, 1) := by decide +kernel
theorem dX6_requireRing_5 : decode cX6_requireRing 5 = .ok (.iconst 4, 1) := by decide +kernel
theorem dX6_requireRing_6 : decode cX6_requireRing 6 = .ok (.if_icmp .lt 13, 3) := by decide +kernel
theorem dX6_requireRing_9 : decode cX6_requireRing 9 = .ok (.new 165, 3) := by decide +kernel
theorem dX6_requireRing_12 : decode cX6_requireRing 12 = .ok (.dup, 1) := by decide +kernel
theorem dX6_requireRing_13 : decode cX6_requireRing 13 = .ok (.ldc 245, 2) := by decide +kernel
theorem dX6_requireRing_15 : decode cX6_requireRing 15 = .ok (.invokespecial 169, 3) := by decide +kernel
theorem dX6_requireRing_18 : decode cX6_requireRing 18 = .ok (.athrow, 1) := by decide +kernel
theorem dX6_requireRing_19 : decode cX6_requireRing 19 = .ok (.return_, 1) := by decide +kernel
set_option maxRecDepth 20000 in
theorem ggX6_requireSwitch_X6_isSwitch : GoodIn wsX6_requireSwitch wsX6_isSwitch := goodIn_r _ [6] (by decide +kernel) (by decide +kernel)
set_option maxRecDepth 20000 in
theorem gX6_requireSwitch_X6_isSwitch : GoodIn wsX6_requireSwitch (va_wsS RX6 210 yX6_isSwitch wsX6_isSwitch) := goodIn_app (goodIn_of _ (by decide +kernel)) ggX6_requireSwitch_X6_isSwitch
theorem dX6_requireSwitch_0 : decode cX6_requireSwitch 0 = .ok (.iload_n 0, 1) := by decide +kernel
theorem dX6_requireSwitch_1 : decode cX6_requireSwitch 1 = .ok (.invokestatic 210, 3) := by decide +kernel
theorem dX6_requireSwitch_4 : decode cX6_requireSwitch 4 = .ok (.ifCond .ne 13, 3) := by decide +kernel
theorem dX6_requireSwitch_7 : decode cX6_requireSwitch 7 = .ok (.new 165, 3) := by decide +kernel
theorem dX6_requireSwitch_10 : decode cX6_requireSwitch 10 = .ok (.dup, 1) := by decide +kernel
theorem dX6_requireSwitch_11 : decode cX6_requireSwitch 11 = .ok (.ldc 247, 2) := by decide +kernel
theorem dX6_requireSwitch_13 : decode cX6_requireSwitch 13 = .ok (.invokespecial 169, 3) := by decide +kernel
theorem dX6_requireSwitch_16 : decode cX6_requireSwitch 16 = .ok (.athrow, 1) := by decide +kernel
theorem dX6_requireSwitch_17 : decode cX6_requireSwitch 17 = .ok (.return_, 1) := by decide +kernel
theorem dX6_requireVersion_0 : decode cX6_requireVersion 0 = .ok (.iload_n 1, 1) := by decide +kernel
theorem dX6_requireVersion_1 : decode cX6_requireVersion 1 = .ok (.ifCond .lt 11, 3) := by decide +kernel
theorem dX6_requireVersion_4 : decode cX6_requireVersion 4 = .ok (.iload_n 1, 1) := by decide +kernel
theorem dX6_requireVersion_5 : decode cX6_requireVersion 5 = .ok (.aload_n 0, 1) := by decide +kernel
theorem dX6_requireVersion_6 : decode cX6_requireVersion 6 = .ok (.getfield 44, 3) := by decide +kernel
theorem dX6_requireVersion_9 : decode cX6_requireVersion 9 = .ok (.if_icmp .lt 13, 3) := by decide +kernel
theorem dX6_requireVersion_12 : decode cX6_requireVersion 12 = .ok (.new 165, 3) := by decide +kernel
theorem dX6_requireVersion_15 : decode cX6_requireVersion 15 = .ok (.dup, 1) := by decide +kernel
theorem dX6_requireVersion_16 : decode cX6_requireVersion 16 = .ok (.ldc 249, 2) := by decide +kernel
theorem dX6_requireVersion_18 : decode cX6_requireVersion 18 = .ok (.invokespecial 169, 3) := by decide +kernel
theorem dX6_requireVersion_21 : decode cX6_requireVersion 21 = .ok (.athrow, 1) := by decide +kernel
theorem dX6_requireVersion_22 : decode cX6_requireVersion 22 = .ok (.return_, 1) := by decide +kernel
set_option maxRecDepth 20000 in
theorem ggX6_requireChange_X0_total : GoodIn wsX6_requireChange wsX0_total := goodIn_r _ [8, 9, 17, 18, 19, 20, 21, 22, 23] (by decide +kernel) (by decide +kernel)
set_option maxRecDepth 20000 in
theorem gX6_requireChange_X0_total : GoodIn wsX6_requireChange (wsV RX6 203 RX0 yX0_total wsX0_total) := goodIn_app (goodIn_of _ (by decide +kernel)) ggX6_requireChange_X0_total
theorem dX6_requireChange_0 : decode cX6_requireChange 0 = .ok (.iload_n 1, 1) := by decide +kernel
theorem dX6_requireChange_1 : decode cX6_requireChange 1 = .ok (.ifCond .lt 14, 3) := by decide +kernel
theorem dX6_requireChange_4 : decode cX6_requireChange 4 = .ok (.iload_n 1, 1) := by decide +kernel
theorem dX6_requireChange_5 : decode cX6_requireChange 5 = .ok (.aload_n 0, 1) := by decide +kernel
theorem dX6_requireChange_6 : decode cX6_requireChange 6 = .ok (.getfield 26, 3) := by decide +kernel
theorem dX6_requireChange_9 : decode cX6_requireChange 9 = .ok (.invokevirtual 203, 3) := by decide +kernel
theorem dX6_requireChange_12 : decode cX6_requireChange 12 = .ok (.if_icmp .lt 13, 3) := by decide +kernel
theorem dX6_requireChange_15 : decode cX6_requireChange 15 = .ok (.new 165, 3) := by decide +kernel
theorem dX6_requireChange_18 : decode cX6_requireChange 18 = .ok (.dup, 1) := by decide +kernel
theorem dX6_requireChange_19 : decode cX6_requireChange 19 = .ok (.ldc 251, 2) := by decide +kernel
theorem dX6_requireChange_21 : decode cX6_requireChange 21 = .ok (.invokespecial 169, 3) := by decide +kernel
theorem dX6_requireChange_24 : decode cX6_requireChange 24 = .ok (.athrow, 1) := by decide +kernel
theorem dX6_requireChange_25 : decode cX6_requireChange 25 = .ok (.return_, 1) := by decide +kernel
set_option maxRecDepth 20000 in
theorem ggX6_requireIncident_X2_total : GoodIn wsX6_requireIncident wsX2_total := goodIn_r _ [8, 9, 17, 18, 19, 20, 21, 22, 23] (by decide +kernel) (by decide +kernel)
set_option maxRecDepth 20000 in
theorem gX6_requireIncident_X2_total : GoodIn wsX6_requireIncident (wsV RX6 155 RX2 yX2_total wsX2_total) := goodIn_app (goodIn_of _ (by decide +kernel)) ggX6_requireIncident_X2_total
theorem dX6_requireIncident_0 : decode cX6_requireIncident 0 = .ok (.iload_n 1, 1) := by decide +kernel
theorem dX6_requireIncident_1 : decode cX6_requireIncident 1 = .ok (.ifCond .lt 14, 3) := by decide +kernel
theorem dX6_requireIncident_4 : decode cX6_requireIncident 4 = .ok (.iload_n 1, 1) := by decide +kernel
theorem dX6_requireIncident_5 : decode cX6_requireIncident 5 = .ok (.aload_n 0, 1) := by decide +kernel
theorem dX6_requireIncident_6 : decode cX6_requireIncident 6 = .ok (.getfield 33, 3) := by decide +kernel
theorem dX6_requireIncident_9 : decode cX6_requireIncident 9 = .ok (.invokevirtual 155, 3) := by decide +kernel
theorem dX6_requireIncident_12 : decode cX6_requireIncident 12 = .ok (.if_icmp .lt 13, 3) := by decide +kernel
theorem dX6_requireIncident_15 : decode cX6_requireIncident 15 = .ok (.new 165, 3) := by decide +kernel
theorem dX6_requireIncident_18 : decode cX6_requireIncident 18 = .ok (.dup, 1) := by decide +kernel
theorem dX6_requireIncident_19 : decode cX6_requireIncident 19 = .ok (.ldc 253, 2) := by decide +kernel
theorem dX6_requireIncident_21 : decode cX6_requireIncident 21 = .ok (.invokespecial 169, 3) := by decide +kernel
theorem dX6_requireIncident_24 : decode cX6_requireIncident 24 = .ok (.athrow, 1) := by decide +kernel
theorem dX6_requireIncident_25 : decode cX6_requireIncident 25 = .ok (.return_, 1) := by decide +kernel
set_option maxRecDepth 20000 in
theorem ggX6_requireCanChange_X4_isResting : GoodIn wsX6_requireCanChange wsX4_isResting := goodIn_r _ [10, 11, 12, 13, 14, 15, 16, 17, 31, 32, 33, 34, 35, 36, 37] (by decide +kernel) (by decide +kernel)
set_option maxRecDepth 20000 in
theorem gX6_requireCanChange_X4_isResting : GoodIn wsX6_requireCanChange (wsV RX6 177 RX4 yX4_isResting wsX4_isResting) := goodIn_app (goodIn_of _ (by decide +kernel)) ggX6_requireCanChange_X4_isResting
set_option maxRecDepth 20000 in
theorem ggX6_requireCanChange_X0_total : GoodIn wsX6_requireCanChange wsX0_total := goodIn_r _ [22, 23, 38, 39, 40, 41, 42, 43, 44] (by decide +kernel) (by decide +kernel)
set_option maxRecDepth 20000 in
theorem gX6_requireCanChange_X0_total : GoodIn wsX6_requireCanChange (wsV RX6 203 RX0 yX0_total wsX0_total) := goodIn_app (goodIn_of _ (by decide +kernel)) ggX6_requireCanChange_X0_total
theorem dX6_requireCanChange_0 : decode cX6_requireCanChange 0 = .ok (.aload_n 0, 1) := by decide +kernel
theorem dX6_requireCanChange_1 : decode cX6_requireCanChange 1 = .ok (.getfield 40, 3) := by decide +kernel
theorem dX6_requireCanChange_4 : decode cX6_requireCanChange 4 = .ok (.iload_n 1, 1) := by decide +kernel
theorem dX6_requireCanChange_5 : decode cX6_requireCanChange 5 = .ok (.aload_n 0, 1) := by decide +kernel
theorem dX6_requireCanChange_6 : decode cX6_requireCanChange 6 = .ok (.getfield 48, 3) := by decide +kernel
theorem dX6_requireCanChange_9 : decode cX6_requireCanChange 9 = .ok (.invokevirtual 177, 3) := by decide +kernel
theorem dX6_requireCanChange_12 : decode cX6_requireCanChange 12 = .ok (.ifCond .eq 13, 3) := by decide +kernel
theorem dX6_requireCanChange_15 : decode cX6_requireCanChange 15 = .ok (.new 51, 3) := by decide +kernel
theorem dX6_requireCanChange_18 : decode cX6_requireCanChange 18 = .ok (.dup, 1) := by decide +kernel
theorem dX6_requireCanChange_19 : decode cX6_requireCanChange 19 = .ok (.ldc 255, 2) := by decide +kernel
theorem dX6_requireCanChange_21 : decode cX6_requireCanChange 21 = .ok (.invokespecial 55, 3) := by decide +kernel
theorem dX6_requireCanChange_24 : decode cX6_requireCanChange 24 = .ok (.athrow, 1) := by decide +kernel
theorem dX6_requireCanChange_25 : decode cX6_requireCanChange 25 = .ok (.aload_n 0, 1) := by decide +kernel
theorem dX6_requireCanChange_26 : decode cX6_requireCanChange 26 = .ok (.getfield 26, 3) := by decide +kernel
theorem dX6_requireCanChange_29 : decode cX6_requireCanChange 29 = .ok (.invokevirtual 203, 3) := by decide +kernel
theorem dX6_requireCanChange_32 : decode cX6_requireCanChange 32 = .ok (.sipush 200, 3) := by decide +kernel
theorem dX6_requireCanChange_35 : decode cX6_requireCanChange 35 = .ok (.if_icmp .lt 14, 3) := by decide +kernel
theorem dX6_requireCanChange_38 : decode cX6_requireCanChange 38 = .ok (.new 51, 3) := by decide +kernel
theorem dX6_requireCanChange_41 : decode cX6_requireCanChange 41 = .ok (.dup, 1) := by decide +kernel
theorem dX6_requireCanChange_42 : decode cX6_requireCanChange 42 = .ok (.ldc_w 257, 3) := by decide +kernel
theorem dX6_requireCanChange_45 : decode cX6_requireCanChange 45 = .ok (.invokespecial 55, 3) := by decide +kernel
theorem dX6_requireCanChange_48 : decode cX6_requireCanChange 48 = .ok (.athrow, 1) := by decide +kernel
theorem dX6_requireCanChange_49 : decode cX6_requireCanChange 49 = .ok (.return_, 1) := by decide +kernel
theorem dX6_isSwitch_0 : decode cX6_isSwitch 0 = .ok (.iload_n 0, 1) := by decide +kernel
theorem dX6_isSwitch_1 : decode cX6_isSwitch 1 = .ok (.ifCond .lt 13, 3) := by decide +kernel
theorem dX6_isSwitch_4 : decode cX6_isSwitch 4 = .ok (.iload_n 0, 1) := by decide +kernel
theorem dX6_isSwitch_5 : decode cX6_isSwitch 5 = .ok (.bipush 8, 2) := by decide +kernel
theorem dX6_isSwitch_7 : decode cX6_isSwitch 7 = .ok (.if_icmp .ge 7, 3) := by decide +kernel
theorem dX6_isSwitch_10 : decode cX6_isSwitch 10 = .ok (.iconst 1, 1) := by decide +kernel
theorem dX6_isSwitch_11 : decode cX6_isSwitch 11 = .ok (.goto 4, 3) := by decide +kernel
theorem dX6_isSwitch_14 : decode cX6_isSwitch 14 = .ok (.iconst 0, 1) := by decide +kernel
theorem dX6_isSwitch_15 : decode cX6_isSwitch 15 = .ok (.ireturn, 1) := by decide +kernel
theorem dX6_subjectOfRing_0 : decode cX6_subjectOfRing 0 = .ok (.bipush 8, 2) := by decide +kernel
theorem dX6_subjectOfRing_2 : decode cX6_subjectOfRing 2 = .ok (.iload_n 0, 1) := by decide +kernel
theorem dX6_subjectOfRing_3 : decode cX6_subjectOfRing 3 = .ok (.iadd, 1) := by decide +kernel
theorem dX6_subjectOfRing_4 : decode cX6_subjectOfRing 4 = .ok (.ireturn, 1) := by decide +kernel
theorem dX6_hasBit_0 : decode cX6_hasBit 0 = .ok (.iload_n 0, 1) := by decide +kernel
theorem dX6_hasBit_1 : decode cX6_hasBit 1 = .ok (.iload_n 1, 1) := by decide +kernel
theorem dX6_hasBit_2 : decode cX6_hasBit 2 = .ok (.ishr, 1) := by decide +kernel
theorem dX6_hasBit_3 : decode cX6_hasBit 3 = .ok (.iconst 1, 1) := by decide +kernel
theorem dX6_hasBit_4 : decode cX6_hasBit 4 = .ok (.iand, 1) := by decide +kernel
theorem dX6_hasBit_5 : decode cX6_hasBit 5 = .ok (.iconst 1, 1) := by decide +kernel
theorem dX6_hasBit_6 : decode cX6_hasBit 6 = .ok (.if_icmp .ne 7, 3) := by decide +kernel
theorem dX6_hasBit_9 : decode cX6_hasBit 9 = .ok (.iconst 1, 1) := by decide +kernel
theorem dX6_hasBit_10 : decode cX6_hasBit 10 = .ok (.goto 4, 3) := by decide +kernel
theorem dX6_hasBit_13 : decode cX6_hasBit 13 = .ok (.iconst 0, 1) := by decide +kernel
theorem dX6_hasBit_14 : decode cX6_hasBit 14 = .ok (.ireturn, 1) := by decide +kernel
theorem dX6_withBit_0 : decode cX6_withBit 0 = .ok (.iload_n 2, 1) := by decide +kernel
theorem dX6_withBit_1 : decode cX6_withBit 1 = .ok (.ifCond .eq 11, 3) := by decide +kernel
theorem dX6_withBit_4 : decode cX6_withBit 4 = .ok (.iload_n 0, 1) := by decide +kernel
theorem dX6_withBit_5 : decode cX6_withBit 5 = .ok (.iconst 1, 1) := by decide +kernel
theorem dX6_withBit_6 : decode cX6_withBit 6 = .ok (.iload_n 1, 1) := by decide +kernel
theorem dX6_withBit_7 : decode cX6_withBit 7 = .ok (.ishl, 1) := by decide +kernel
theorem dX6_withBit_8 : decode cX6_withBit 8 = .ok (.ior, 1) := by decide +kernel
theorem dX6_withBit_9 : decode cX6_withBit 9 = .ok (.goto 10, 3) := by decide +kernel
theorem dX6_withBit_12 : decode cX6_withBit 12 = .ok (.iload_n 0, 1) := by decide +kernel
theorem dX6_withBit_13 : decode cX6_withBit 13 = .ok (.iconst 1, 1) := by decide +kernel
theorem dX6_withBit_14 : decode cX6_withBit 14 = .ok (.iload_n 1, 1) := by decide +kernel
theorem dX6_withBit_15 : decode cX6_withBit 15 = .ok (.ishl, 1) := by decide +kernel
theorem dX6_withBit_16 : decode cX6_withBit 16 = .ok (.iconst (-1), 1) := by decide +kernel
theorem dX6_withBit_17 : decode cX6_withBit 17 = .ok (.ixor, 1) := by decide +kernel
theorem dX6_withBit_18 : decode cX6_withBit 18 = .ok (.iand, 1) := by decide +kernel
theorem dX6_withBit_19 : decode cX6_withBit 19 = .ok (.ireturn, 1) := by decide +kernel
theorem dX6_weekNow_0 : decode cX6_weekNow 0 = .ok (.aload_n 0, 1) := by decide +kernel
theorem dX6_weekNow_1 : decode cX6_weekNow 1 = .ok (.getfield 48, 3) := by decide +kernel
theorem dX6_weekNow_4 : decode cX6_weekNow 4 = .ok (.bipush 14, 2) := by decide +kernel
theorem dX6_weekNow_6 : decode cX6_weekNow 6 = .ok (.idiv, 1) := by decide +kernel
theorem dX6_weekNow_7 : decode cX6_weekNow 7 = .ok (.ireturn, 1) := by decide +kernel
set_option maxRecDepth 20000 in
theorem ggX6_runs_X6_subjectOfRing : GoodIn wsX6_runs wsX6_subjectOfRing := goodIn_r _ [5] (by decide +kernel) (by decide +kernel)
set_option maxRecDepth 20000 in
theorem gX6_runs_X6_subjectOfRing : GoodIn wsX6_runs (va_wsS RX6 122 yX6_subjectOfRing wsX6_subjectOfRing) := goodIn_app (goodIn_of _ (by decide +kernel)) ggX6_runs_X6_subjectOfRing
set_option maxRecDepth 20000 in
theorem ggX6_runs_X0_valueNow : GoodIn wsX6_runs wsX0_valueNow := goodIn_r _ [10, 11, 12, 13, 14, 15, 16, 17, 18, 26, 27, 28, 29, 30, 31, 32, 33] (by decide +kernel) (by decide +kernel)
set_option maxRecDepth 20000 in
theorem gX6_runs_X0_valueNow : GoodIn wsX6_runs (wsV RX6 101 RX0 yX0_valueNow wsX0_valueNow) := goodIn_app (goodIn_of _ (by decide +kernel)) ggX6_runs_X0_valueNow
theorem dX6_runs_0 : decode cX6_runs 0 = .ok (.aload_n 0, 1) := by decide +kernel
theorem dX6_runs_1 : decode cX6_runs 1 = .ok (.getfield 26, 3) := by decide +kernel
theorem dX6_runs_4 : decode cX6_runs 4 = .ok (.iload_n 1, 1) := by decide +kernel
theorem dX6_runs_5 : decode cX6_runs 5 = .ok (.invokestatic 122, 3) := by decide +kernel
theorem dX6_runs_8 : decode cX6_runs 8 = .ok (.invokevirtual 101, 3) := by decide +kernel
theorem dX6_runs_11 : decode cX6_runs 11 = .ok (.ireturn, 1) := by decide +kernel
set_option maxRecDepth 20000 in
theorem ggX6_setIn_X0_valueNow : GoodIn wsX6_setIn wsX0_valueNow := goodIn_r _ [6, 7, 8, 9, 10, 11, 12, 13, 14, 26, 27, 28, 29, 30, 31, 32, 33] (by decide +kernel) (by decide +kernel)
set_option maxRecDepth 20000 in
theorem gX6_setIn_X0_valueNow : GoodIn wsX6_setIn (wsV RX6 101 RX0 yX0_valueNow wsX0_valueNow) := goodIn_app (goodIn_of _ (by decide +kernel)) ggX6_setIn_X0_valueNow
set_option maxRecDepth 20000 in
theorem ggX6_setIn_X6_withBit : GoodIn wsX6_setIn wsX6_withBit := goodIn_r _ [18] (by decide +kernel) (by decide +kernel)
set_option maxRecDepth 20000 in
theorem gX6_setIn_X6_withBit : GoodIn wsX6_setIn (va_wsS RX6 259 yX6_withBit wsX6_withBit) := goodIn_app (goodIn_of _ (by decide +kernel)) ggX6_setIn_X6_withBit
theorem dX6_setIn_0 : decode cX6_setIn 0 = .ok (.iconst 0, 1) := by decide +kernel
theorem dX6_setIn_1 : decode cX6_setIn 1 = .ok (.istore_n 2, 1) := by decide +kernel
theorem dX6_setIn_2 : decode cX6_setIn 2 = .ok (.iconst 0, 1) := by decide +kernel
theorem dX6_setIn_3 : decode cX6_setIn 3 = .ok (.istore_n 3, 1) := by decide +kernel
theorem dX6_setIn_4 : decode cX6_setIn 4 = .ok (.iload_n 3, 1) := by decide +kernel
theorem dX6_setIn_5 : decode cX6_setIn 5 = .ok (.bipush 8, 2) := by decide +kernel
theorem dX6_setIn_7 : decode cX6_setIn 7 = .ok (.if_icmp .ge 32, 3) := by decide +kernel
theorem dX6_setIn_10 : decode cX6_setIn 10 = .ok (.iload_n 2, 1) := by decide +kernel
theorem dX6_setIn_11 : decode cX6_setIn 11 = .ok (.iload_n 3, 1) := by decide +kernel
theorem dX6_setIn_12 : decode cX6_setIn 12 = .ok (.aload_n 0, 1) := by decide +kernel
theorem dX6_setIn_13 : decode cX6_setIn 13 = .ok (.getfield 26, 3) := by decide +kernel
theorem dX6_setIn_16 : decode cX6_setIn 16 = .ok (.iload_n 3, 1) := by decide +kernel
theorem dX6_setIn_17 : decode cX6_setIn 17 = .ok (.invokevirtual 101, 3) := by decide +kernel
theorem dX6_setIn_20 : decode cX6_setIn 20 = .ok (.iload_n 1, 1) := by decide +kernel
theorem dX6_setIn_21 : decode cX6_setIn 21 = .ok (.if_icmp .le 7, 3) := by decide +kernel
theorem dX6_setIn_24 : decode cX6_setIn 24 = .ok (.iconst 1, 1) := by decide +kernel
theorem dX6_setIn_25 : decode cX6_setIn 25 = .ok (.goto 4, 3) := by decide +kernel
theorem dX6_setIn_28 : decode cX6_setIn 28 = .ok (.iconst 0, 1) := by decide +kernel
theorem dX6_setIn_29 : decode cX6_setIn 29 = .ok (.invokestatic 259, 3) := by decide +kernel
theorem dX6_setIn_32 : decode cX6_setIn 32 = .ok (.istore_n 2, 1) := by decide +kernel
theorem dX6_setIn_33 : decode cX6_setIn 33 = .ok (.iinc 3 1, 3) := by decide +kernel
theorem dX6_setIn_36 : decode cX6_setIn 36 = .ok (.goto (-32), 3) := by decide +kernel
theorem dX6_setIn_39 : decode cX6_setIn 39 = .ok (.iload_n 2, 1) := by decide +kernel
theorem dX6_setIn_40 : decode cX6_setIn 40 = .ok (.ireturn, 1) := by decide +kernel
set_option maxRecDepth 20000 in
theorem ggX6_isHeldBack_X6_subjectOfRing : GoodIn wsX6_isHeldBack wsX6_subjectOfRing := goodIn_r _ [7] (by decide +kernel) (by decide +kernel)
set_option maxRecDepth 20000 in
theorem gX6_isHeldBack_X6_subjectOfRing : GoodIn wsX6_isHeldBack (va_wsS RX6 122 yX6_subjectOfRing wsX6_subjectOfRing) := goodIn_app (goodIn_of _ (by decide +kernel)) ggX6_isHeldBack_X6_subjectOfRing
set_option maxRecDepth 20000 in
theorem ggX6_isHeldBack_X0_valueNow : GoodIn wsX6_isHeldBack wsX0_valueNow := goodIn_r _ [12, 13, 14, 15, 16, 17, 18, 19, 20, 40, 41, 42, 43, 44, 45, 46, 47] (by decide +kernel) (by decide +kernel)
set_option maxRecDepth 20000 in
theorem gX6_isHeldBack_X0_valueNow : GoodIn wsX6_isHeldBack (wsV RX6 101 RX0 yX0_valueNow wsX0_valueNow) := goodIn_app (goodIn_of _ (by decide +kernel)) ggX6_isHeldBack_X0_valueNow
set_option maxRecDepth 20000 in
theorem ggX6_isHeldBack_X0_sinceWhen : GoodIn wsX6_isHeldBack wsX0_sinceWhen := goodIn_r _ [24, 13, 25, 15, 16, 17, 18, 19, 20, 40, 41, 42, 43, 44, 45, 46, 47] (by decide +kernel) (by decide +kernel)
set_option maxRecDepth 20000 in
theorem gX6_isHeldBack_X0_sinceWhen : GoodIn wsX6_isHeldBack (wsV RX6 263 RX0 yX0_sinceWhen wsX0_sinceWhen) := goodIn_app (goodIn_of _ (by decide +kernel)) ggX6_isHeldBack_X0_sinceWhen
set_option maxRecDepth 20000 in
theorem ggX6_isHeldBack_X2_anyOpenBelow : GoodIn wsX6_isHeldBack wsX2_anyOpenBelow := goodIn_r _ [30, 31, 32, 16, 17, 18, 19, 20, 48, 49, 50, 51, 52, 53, 54, 47] (by decide +kernel) (by decide +kernel)
set_option maxRecDepth 20000 in
theorem gX6_isHeldBack_X2_anyOpenBelow : GoodIn wsX6_isHeldBack (wsV RX6 266 RX2 yX2_anyOpenBelow wsX2_anyOpenBelow) := goodIn_app (goodIn_of _ (by decide +kernel)) ggX6_isHeldBack_X2_anyOpenBelow
theorem dX6_isHeldBack_0 : decode cX6_isHeldBack 0 = .ok (.iload_n 1, 1) := by decide +kernel
theorem dX6_isHeldBack_1 : decode cX6_isHeldBack 1 = .ok (.ifCond .ne 5, 3) := by decide +kernel
theorem dX6_isHeldBack_4 : decode cX6_isHeldBack 4 = .ok (.iconst 0, 1) := by decide +kernel
theorem dX6_isHeldBack_5 : decode cX6_isHeldBack 5 = .ok (.ireturn, 1) := by decide +kernel
theorem dX6_isHeldBack_6 : decode cX6_isHeldBack 6 = .ok (.iload_n 1, 1) := by decide +kernel
theorem dX6_isHeldBack_7 : decode cX6_isHeldBack 7 = .ok (.iconst 1, 1) := by decide +kernel
theorem dX6_isHeldBack_8 : decode cX6_isHeldBack 8 = .ok (.isub, 1) := by decide +kernel
theorem dX6_isHeldBack_9 : decode cX6_isHeldBack 9 = .ok (.invokestatic 122, 3) := by decide +kernel
theorem dX6_isHeldBack_12 : decode cX6_isHeldBack 12 = .ok (.istore_n 3, 1) := by decide +kernel
theorem dX6_isHeldBack_13 : decode cX6_isHeldBack 13 = .ok (.aload_n 0, 1) := by decide +kernel
theorem dX6_isHeldBack_14 : decode cX6_isHeldBack 14 = .ok (.getfield 26, 3) := by decide +kernel
theorem dX6_isHeldBack_17 : decode cX6_isHeldBack 17 = .ok (.iload_n 3, 1) := by decide +kernel
theorem dX6_isHeldBack_18 : decode cX6_isHeldBack 18 = .ok (.invokevirtual 101, 3) := by decide +kernel
theorem dX6_isHeldBack_21 : decode cX6_isHeldBack 21 = .ok (.iload_n 2, 1) := by decide +kernel
theorem dX6_isHeldBack_22 : decode cX6_isHeldBack 22 = .ok (.if_icmp .ne 24, 3) := by decide +kernel
theorem dX6_isHeldBack_25 : decode cX6_isHeldBack 25 = .ok (.aload_n 0, 1) := by decide +kernel
theorem dX6_isHeldBack_26 : decode cX6_isHeldBack 26 = .ok (.getfield 48, 3) := by decide +kernel
theorem dX6_isHeldBack_29 : decode cX6_isHeldBack 29 = .ok (.aload_n 0, 1) := by decide +kernel
theorem dX6_isHeldBack_30 : decode cX6_isHeldBack 30 = .ok (.getfield 26, 3) := by decide +kernel
theorem dX6_isHeldBack_33 : decode cX6_isHeldBack 33 = .ok (.iload_n 3, 1) := by decide +kernel
theorem dX6_isHeldBack_34 : decode cX6_isHeldBack 34 = .ok (.invokevirtual 263, 3) := by decide +kernel
theorem dX6_isHeldBack_37 : decode cX6_isHeldBack 37 = .ok (.isub, 1) := by decide +kernel
theorem dX6_isHeldBack_38 : decode cX6_isHeldBack 38 = .ok (.iconst 2, 1) := by decide +kernel
theorem dX6_isHeldBack_39 : decode cX6_isHeldBack 39 = .ok (.if_icmp .lt 7, 3) := by decide +kernel
theorem dX6_isHeldBack_42 : decode cX6_isHeldBack 42 = .ok (.iconst 1, 1) := by decide +kernel
theorem dX6_isHeldBack_43 : decode cX6_isHeldBack 43 = .ok (.goto 4, 3) := by decide +kernel
theorem dX6_isHeldBack_46 : decode cX6_isHeldBack 46 = .ok (.iconst 0, 1) := by decide +kernel
theorem dX6_isHeldBack_47 : decode cX6_isHeldBack 47 = .ok (.istore 4, 2) := by decide +kernel
theorem dX6_isHeldBack_49 : decode cX6_isHeldBack 49 = .ok (.iload 4, 2) := by decide +kernel
theorem dX6_isHeldBack_51 : decode cX6_isHeldBack 51 = .ok (.ifCond .eq 14, 3) := by decide +kernel
theorem dX6_isHeldBack_54 : decode cX6_isHeldBack 54 = .ok (.aload_n 0, 1) := by decide +kernel
theorem dX6_isHeldBack_55 : decode cX6_isHeldBack 55 = .ok (.getfield 33, 3) := by decide +kernel
theorem dX6_isHeldBack_58 : decode cX6_isHeldBack 58 = .ok (.iload_n 1, 1) := by decide +kernel
theorem dX6_isHeldBack_59 : decode cX6_isHeldBack 59 = .ok (.invokevirtual 266, 3) := by decide +kernel
theorem dX6_isHeldBack_62 : decode cX6_isHeldBack 62 = .ok (.ifCond .eq 7, 3) := by decide +kernel
theorem dX6_isHeldBack_65 : decode cX6_isHeldBack 65 = .ok (.iconst 1, 1) := by decide +kernel
theorem dX6_isHeldBack_66 : decode cX6_isHeldBack 66 = .ok (.goto 4, 3) := by decide +kernel
theorem dX6_isHeldBack_69 : decode cX6_isHeldBack 69 = .ok (.iconst 0, 1) := by decide +kernel
theorem dX6_isHeldBack_70 : decode cX6_isHeldBack 70 = .ok (.ireturn, 1) := by decide +kernel
set_option maxRecDepth 20000 in
theorem ggX6_showsFault_X6_runs : GoodIn wsX6_showsFault wsX6_runs := goodIn_r _ [7, 8, 9, 10, 6, 11, 12, 13, 14, 15, 16, 17, 18, 19, 20, 21, 22, 23, 24, 48, 49, 50, 51, 52, 53, 54, 55, 56, 57, 58, 59, 60, 61, 62] (by decide +kernel) (by decide +kernel)
set_option maxRecDepth 20000 in
theorem gX6_showsFault_X6_runs : GoodIn wsX6_showsFault (wsV RX6 112 RX6 yX6_runs wsX6_runs) := goodIn_app (goodIn_of _ (by decide +kernel)) ggX6_showsFault_X6_runs
set_option maxRecDepth 20000 in
theorem ggX6_showsFault_X6_setIn : GoodIn wsX6_showsFault wsX6_setIn := goodIn_r _ [28, 8, 12, 13, 14, 15, 16, 17, 18, 19, 20, 21, 22, 23, 24, 29, 30, 6, 31, 48, 49, 50, 51, 52, 53, 54, 55, 56, 57, 58, 59, 60, 61, 62] (by decide +kernel) (by decide +kernel)
set_option maxRecDepth 20000 in
theorem gX6_showsFault_X6_setIn : GoodIn wsX6_showsFault (wsV RX6 190 RX6 yX6_setIn wsX6_setIn) := goodIn_app (goodIn_of _ (by decide +kernel)) ggX6_showsFault_X6_setIn
set_option maxRecDepth 20000 in
theorem ggX6_showsFault_X3_onAmong : GoodIn wsX6_showsFault wsX3_onAmong := goodIn_r _ [36, 37, 38, 20, 21, 22, 23, 24, 30, 6, 31, 63, 64, 62] (by decide +kernel) (by decide +kernel)
set_option maxRecDepth 20000 in
theorem gX6_showsFault_X3_onAmong : GoodIn wsX6_showsFault (wsV RX6 193 RX3 yX3_onAmong wsX3_onAmong) := goodIn_app (goodIn_of _ (by decide +kernel)) ggX6_showsFault_X3_onAmong
set_option maxRecDepth 20000 in
theorem ggX6_showsFault_X1_anyShows : GoodIn wsX6_showsFault wsX1_anyShows := goodIn_r _ [43, 44, 45, 46, 47, 20, 21, 22, 23, 24, 65, 66, 67, 68, 62] (by decide +kernel) (by decide +kernel)
set_option maxRecDepth 20000 in
theorem gX6_showsFault_X1_anyShows : GoodIn wsX6_showsFault (wsV RX6 269 RX1 yX1_anyShows wsX1_anyShows) := goodIn_app (goodIn_of _ (by decide +kernel)) ggX6_showsFault_X1_anyShows
theorem dX6_showsFault_0 : decode cX6_showsFault 0 = .ok (.aload_n 0, 1) := by decide +kernel
theorem dX6_showsFault_1 : decode cX6_showsFault 1 = .ok (.getfield 19, 3) := by decide +kernel
theorem dX6_showsFault_4 : decode cX6_showsFault 4 = .ok (.aload_n 0, 1) := by decide +kernel
theorem dX6_showsFault_5 : decode cX6_showsFault 5 = .ok (.iload_n 1, 1) := by decide +kernel
theorem dX6_showsFault_6 : decode cX6_showsFault 6 = .ok (.invokevirtual 112, 3) := by decide +kernel
theorem dX6_showsFault_9 : decode cX6_showsFault 9 = .ok (.aload_n 0, 1) := by decide +kernel
theorem dX6_showsFault_10 : decode cX6_showsFault 10 = .ok (.getfield 12, 3) := by decide +kernel
theorem dX6_showsFault_13 : decode cX6_showsFault 13 = .ok (.aload_n 0, 1) := by decide +kernel
theorem dX6_showsFault_14 : decode cX6_showsFault 14 = .ok (.iload_n 1, 1) := by decide +kernel
theorem dX6_showsFault_15 : decode cX6_showsFault 15 = .ok (.invokevirtual 190, 3) := by decide +kernel
theorem dX6_showsFault_18 : decode cX6_showsFault 18 = .ok (.invokevirtual 193, 3) := by decide +kernel
theorem dX6_showsFault_21 : decode cX6_showsFault 21 = .ok (.invokevirtual 269, 3) := by decide +kernel
theorem dX6_showsFault_24 : decode cX6_showsFault 24 = .ok (.ireturn, 1) := by decide +kernel
set_option maxRecDepth 20000 in
theorem ggX6_showsFaultWithout_X0_subjectOf : GoodIn wsX6_showsFaultWithout wsX0_subjectOf := goodIn_r _ [8, 9, 10, 11, 12, 13, 14, 15, 68, 69, 70, 71, 72, 73, 74, 75] (by decide +kernel) (by decide +kernel)
set_option maxRecDepth 20000 in
theorem gX6_showsFaultWithout_X0_subjectOf : GoodIn wsX6_showsFaultWithout (wsV RX6 128 RX0 yX0_subjectOf wsX0_subjectOf) := goodIn_app (goodIn_of _ (by decide +kernel)) ggX6_showsFaultWithout_X0_subjectOf
set_option maxRecDepth 20000 in
theorem ggX6_showsFaultWithout_X0_valueWithout : GoodIn wsX6_showsFaultWithout wsX0_valueWithout := goodIn_r _ [19, 20, 9, 21, 22, 10, 11, 12, 13, 14, 15, 68, 69, 70, 71, 72, 73, 74, 75] (by decide +kernel) (by decide +kernel)
set_option maxRecDepth 20000 in
theorem gX6_showsFaultWithout_X0_valueWithout : GoodIn wsX6_showsFaultWithout (wsV RX6 136 RX0 yX0_valueWithout wsX0_valueWithout) := goodIn_app (goodIn_of _ (by decide +kernel)) ggX6_showsFaultWithout_X0_valueWithout
set_option maxRecDepth 20000 in
theorem ggX6_showsFaultWithout_X6_subjectOfRing : GoodIn wsX6_showsFaultWithout wsX6_subjectOfRing := goodIn_r _ [26] (by decide +kernel) (by decide +kernel)
set_option maxRecDepth 20000 in
theorem gX6_showsFaultWithout_X6_subjectOfRing : GoodIn wsX6_showsFaultWithout (va_wsS RX6 122 yX6_subjectOfRing wsX6_subjectOfRing) := goodIn_app (goodIn_of _ (by decide +kernel)) ggX6_showsFaultWithout_X6_subjectOfRing
set_option maxRecDepth 20000 in
theorem ggX6_showsFaultWithout_X6_runs : GoodIn wsX6_showsFaultWithout wsX6_runs := goodIn_r _ [30, 1, 23, 24, 25, 26, 31, 32, 33, 7, 34, 20, 22, 10, 11, 12, 13, 14, 15, 61, 62, 63, 64, 65, 66, 67, 68, 69, 70, 71, 72, 73, 74, 75] (by decide +kernel) (by decide +kernel)
set_option maxRecDepth 20000 in
theorem gX6_showsFaultWithout_X6_runs : GoodIn wsX6_showsFaultWithout (wsV RX6 112 RX6 yX6_runs wsX6_runs) := goodIn_app (goodIn_of _ (by decide +kernel)) ggX6_showsFaultWithout_X6_runs
set_option maxRecDepth 20000 in
theorem ggX6_showsFaultWithout_X6_setIn : GoodIn wsX6_showsFaultWithout wsX6_setIn := goodIn_r _ [38, 1, 31, 32, 33, 7, 34, 20, 22, 10, 11, 12, 13, 14, 15, 39, 40, 25, 41, 61, 62, 63, 64, 65, 66, 67, 68, 69, 70, 71, 72, 73, 74, 75] (by decide +kernel) (by decide +kernel)
set_option maxRecDepth 20000 in
theorem gX6_showsFaultWithout_X6_setIn : GoodIn wsX6_showsFaultWithout (wsV RX6 190 RX6 yX6_setIn wsX6_setIn) := goodIn_app (goodIn_of _ (by decide +kernel)) ggX6_showsFaultWithout_X6_setIn
set_option maxRecDepth 20000 in
theorem ggX6_showsFaultWithout_X6_isSwitch : GoodIn wsX6_showsFaultWithout wsX6_isSwitch := goodIn_r _ [44] (by decide +kernel) (by decide +kernel)
set_option maxRecDepth 20000 in
theorem gX6_showsFaultWithout_X6_isSwitch : GoodIn wsX6_showsFaultWithout (va_wsS RX6 210 yX6_isSwitch wsX6_isSwitch) := goodIn_app (goodIn_of _ (by decide +kernel)) ggX6_showsFaultWithout_X6_isSwitch
set_option maxRecDepth 20000 in
theorem ggX6_showsFaultWithout_X6_withBit : GoodIn wsX6_showsFaultWithout wsX6_withBit := goodIn_r _ [41] (by decide +kernel) (by decide +kernel)
set_option maxRecDepth 20000 in
theorem gX6_showsFaultWithout_X6_withBit : GoodIn wsX6_showsFaultWithout (va_wsS RX6 259 yX6_withBit wsX6_withBit) := goodIn_app (goodIn_of _ (by decide +kernel)) ggX6_showsFaultWithout_X6_withBit
set_option maxRecDepth 20000 in
theorem ggX6_showsFaultWithout_X3_onAmong : GoodIn wsX6_showsFaultWithout wsX3_onAmong := goodIn_r _ [49, 50, 51, 11, 12, 13, 14, 15, 40, 25, 41, 76, 77, 75] (by decide +kernel) (by decide +kernel)
set_option maxRecDepth 20000 in
theorem gX6_showsFaultWithout_X3_onAmong : GoodIn wsX6_showsFaultWithout (wsV RX6 193 RX3 yX3_onAmong wsX3_onAmong) := goodIn_app (goodIn_of _ (by decide +kernel)) ggX6_showsFaultWithout_X3_onAmong
set_option maxRecDepth 20000 in
theorem ggX6_showsFaultWithout_X1_anyShows : GoodIn wsX6_showsFaultWithout wsX1_anyShows := goodIn_r _ [56, 57, 58, 59, 60, 11, 12, 13, 14, 15, 78, 79, 80, 81, 75] (by decide +kernel) (by decide +kernel)
set_option maxRecDepth 20000 in
theorem gX6_showsFaultWithout_X1_anyShows : GoodIn wsX6_showsFaultWithout (wsV RX6 269 RX1 yX1_anyShows wsX1_anyShows) := goodIn_app (goodIn_of _ (by decide +kernel)) ggX6_showsFaultWithout_X1_anyShows
theorem dX6_showsFaultWithout_0 : decode cX6_showsFaultWithout 0 = .ok (.aload_n 0, 1) := by decide +kernel
theorem dX6_showsFaultWithout_1 : decode cX6_showsFaultWithout 1 = .ok (.getfield 26, 3) := by decide +kernel
theorem dX6_showsFaultWithout_4 : decode cX6_showsFaultWithout 4 = .ok (.iload_n 1, 1) := by decide +kernel
theorem dX6_showsFaultWithout_5 : decode cX6_showsFaultWithout 5 = .ok (.invokevirtual 128, 3) := by decide +kernel
theorem dX6_showsFaultWithout_8 : decode cX6_showsFaultWithout 8 = .ok (.istore_n 3, 1) := by decide +kernel
theorem dX6_showsFaultWithout_9 : decode cX6_showsFaultWithout 9 = .ok (.aload_n 0, 1) := by decide +kernel
theorem dX6_showsFaultWithout_10 : decode cX6_showsFaultWithout 10 = .ok (.getfield 26, 3) := by decide +kernel
theorem dX6_showsFaultWithout_13 : decode cX6_showsFaultWithout 13 = .ok (.iload_n 1, 1) := by decide +kernel
theorem dX6_showsFaultWithout_14 : decode cX6_showsFaultWithout 14 = .ok (.invokevirtual 136, 3) := by decide +kernel
theorem dX6_showsFaultWithout_17 : decode cX6_showsFaultWithout 17 = .ok (.istore 4, 2) := by decide +kernel
theorem dX6_showsFaultWithout_19 : decode cX6_showsFaultWithout 19 = .ok (.iload_n 3, 1) := by decide +kernel
theorem dX6_showsFaultWithout_20 : decode cX6_showsFaultWithout 20 = .ok (.iload_n 2, 1) := by decide +kernel
theorem dX6_showsFaultWithout_21 : decode cX6_showsFaultWithout 21 = .ok (.invokestatic 122, 3) := by decide +kernel
theorem dX6_showsFaultWithout_24 : decode cX6_showsFaultWithout 24 = .ok (.if_icmp .ne 8, 3) := by decide +kernel
theorem dX6_showsFaultWithout_27 : decode cX6_showsFaultWithout 27 = .ok (.iload 4, 2) := by decide +kernel
theorem dX6_showsFaultWithout_29 : decode cX6_showsFaultWithout 29 = .ok (.goto 8, 3) := by decide +kernel
theorem dX6_showsFaultWithout_32 : decode cX6_showsFaultWithout 32 = .ok (.aload_n 0, 1) := by decide +kernel
theorem dX6_showsFaultWithout_33 : decode cX6_showsFaultWithout 33 = .ok (.iload_n 2, 1) := by decide +kernel
theorem dX6_showsFaultWithout_34 : decode cX6_showsFaultWithout 34 = .ok (.invokevirtual 112, 3) := by decide +kernel
theorem dX6_showsFaultWithout_37 : decode cX6_showsFaultWithout 37 = .ok (.istore 5, 2) := by decide +kernel
theorem dX6_showsFaultWithout_39 : decode cX6_showsFaultWithout 39 = .ok (.aload_n 0, 1) := by decide +kernel
theorem dX6_showsFaultWithout_40 : decode cX6_showsFaultWithout 40 = .ok (.iload_n 2, 1) := by decide +kernel
theorem dX6_showsFaultWithout_41 : decode cX6_showsFaultWithout 41 = .ok (.invokevirtual 190, 3) := by decide +kernel
theorem dX6_showsFaultWithout_44 : decode cX6_showsFaultWithout 44 = .ok (.istore 6, 2) := by decide +kernel
theorem dX6_showsFaultWithout_46 : decode cX6_showsFaultWithout 46 = .ok (.iload_n 3, 1) := by decide +kernel
theorem dX6_showsFaultWithout_47 : decode cX6_showsFaultWithout 47 = .ok (.invokestatic 210, 3) := by decide +kernel
theorem dX6_showsFaultWithout_50 : decode cX6_showsFaultWithout 50 = .ok (.ifCond .eq 22, 3) := by decide +kernel
theorem dX6_showsFaultWithout_53 : decode cX6_showsFaultWithout 53 = .ok (.iload 6, 2) := by decide +kernel
theorem dX6_showsFaultWithout_55 : decode cX6_showsFaultWithout 55 = .ok (.iload_n 3, 1) := by decide +kernel
theorem dX6_showsFaultWithout_56 : decode cX6_showsFaultWithout 56 = .ok (.iload 4, 2) := by decide +kernel
theorem dX6_showsFaultWithout_58 : decode cX6_showsFaultWithout 58 = .ok (.iload_n 2, 1) := by decide +kernel
theorem dX6_showsFaultWithout_59 : decode cX6_showsFaultWithout 59 = .ok (.if_icmp .le 7, 3) := by decide +kernel
theorem dX6_showsFaultWithout_62 : decode cX6_showsFaultWithout 62 = .ok (.iconst 1, 1) := by decide +kernel
theorem dX6_showsFaultWithout_63 : decode cX6_showsFaultWithout 63 = .ok (.goto 4, 3) := by decide +kernel
theorem dX6_showsFaultWithout_66 : decode cX6_showsFaultWithout 66 = .ok (.iconst 0, 1) := by decide +kernel
theorem dX6_showsFaultWithout_67 : decode cX6_showsFaultWithout 67 = .ok (.invokestatic 259, 3) := by decide +kernel
theorem dX6_showsFaultWithout_70 : decode cX6_showsFaultWithout 70 = .ok (.istore 6, 2) := by decide +kernel
theorem dX6_showsFaultWithout_72 : decode cX6_showsFaultWithout 72 = .ok (.aload_n 0, 1) := by decide +kernel
theorem dX6_showsFaultWithout_73 : decode cX6_showsFaultWithout 73 = .ok (.getfield 19, 3) := by decide +kernel
theorem dX6_showsFaultWithout_76 : decode cX6_showsFaultWithout 76 = .ok (.iload 5, 2) := by decide +kernel
theorem dX6_showsFaultWithout_78 : decode cX6_showsFaultWithout 78 = .ok (.aload_n 0, 1) := by decide +kernel
theorem dX6_showsFaultWithout_79 : decode cX6_showsFaultWithout 79 = .ok (.getfield 12, 3) := by decide +kernel
theorem dX6_showsFaultWithout_82 : decode cX6_showsFaultWithout 82 = .ok (.iload 6, 2) := by decide +kernel
theorem dX6_showsFaultWithout_84 : decode cX6_showsFaultWithout 84 = .ok (.invokevirtual 193, 3) := by decide +kernel
theorem dX6_showsFaultWithout_87 : decode cX6_showsFaultWithout 87 = .ok (.invokevirtual 269, 3) := by decide +kernel
theorem dX6_showsFaultWithout_90 : decode cX6_showsFaultWithout 90 = .ok (.ireturn, 1) := by decide +kernel
set_option maxRecDepth 20000 in
theorem ggX6_latestHealing_X6_showsFault : GoodIn wsX6_latestHealing wsX6_showsFault := goodIn_r _ [6, 7, 8, 9, 10, 11, 5, 12, 1, 13, 14, 15, 16, 17, 18, 19, 20, 21, 22, 23, 24, 25, 26, 27, 28, 29, 30, 31, 32, 33, 34, 35, 36, 37, 38, 39, 40, 41, 42, 43, 44, 45, 46, 47, 48, 49, 50, 51, 73, 74, 75, 76, 77, 78, 79, 80, 81, 82, 83, 84, 85, 86, 87, 88, 89, 90, 91, 92, 93] (by decide +kernel) (by decide +kernel)
set_option maxRecDepth 20000 in
theorem gX6_latestHealing_X6_showsFault : GoodIn wsX6_latestHealing (wsV RX6 199 RX6 yX6_showsFault wsX6_showsFault) := goodIn_app (goodIn_of _ (by decide +kernel)) ggX6_latestHealing_X6_showsFault
set_option maxRecDepth 20000 in
theorem ggX6_latestHealing_X0_latestOf : GoodIn wsX6_latestHealing wsX0_latestOf := goodIn_r _ [55, 21, 23, 24, 25, 26, 27, 28, 80, 81, 82, 83, 84, 85, 86, 87] (by decide +kernel) (by decide +kernel)
set_option maxRecDepth 20000 in
theorem gX6_latestHealing_X0_latestOf : GoodIn wsX6_latestHealing (wsV RX6 131 RX0 yX0_latestOf wsX0_latestOf) := goodIn_app (goodIn_of _ (by decide +kernel)) ggX6_latestHealing_X0_latestOf
set_option maxRecDepth 20000 in
theorem ggX6_latestHealing_X6_isSwitch : GoodIn wsX6_latestHealing wsX6_isSwitch := goodIn_r _ [58] (by decide +kernel) (by decide +kernel)
set_option maxRecDepth 20000 in
theorem gX6_latestHealing_X6_isSwitch : GoodIn wsX6_latestHealing (va_wsS RX6 210 yX6_isSwitch wsX6_isSwitch) := goodIn_app (goodIn_of _ (by decide +kernel)) ggX6_latestHealing_X6_isSwitch
set_option maxRecDepth 20000 in
theorem ggX6_latestHealing_X6_subjectOfRing : GoodIn wsX6_latestHealing wsX6_subjectOfRing := goodIn_r _ [15] (by decide +kernel) (by decide +kernel)
set_option maxRecDepth 20000 in
theorem gX6_latestHealing_X6_subjectOfRing : GoodIn wsX6_latestHealing (va_wsS RX6 122 yX6_subjectOfRing wsX6_subjectOfRing) := goodIn_app (goodIn_of _ (by decide +kernel)) ggX6_latestHealing_X6_subjectOfRing
set_option maxRecDepth 20000 in
theorem ggX6_latestHealing_X6_showsFaultWithout : GoodIn wsX6_latestHealing wsX6_showsFaultWithout := goodIn_r _ [62, 1, 7, 8, 63, 64, 65, 19, 66, 67, 23, 24, 25, 26, 27, 28, 68, 69, 70, 71, 21, 72, 22, 13, 14, 5, 15, 9, 10, 11, 12, 16, 17, 18, 20, 29, 30, 31, 32, 33, 34, 35, 56, 57, 58, 36, 37, 38, 39, 40, 41, 42, 43, 44, 45, 46, 47, 48, 49, 50, 51, 73, 74, 75, 76, 77, 78, 79, 80, 81, 82, 83, 84, 85, 86, 87, 88, 89, 90, 91, 92, 93] (by decide +kernel) (by decide +kernel)
set_option maxRecDepth 20000 in
theorem gX6_latestHealing_X6_showsFaultWithout : GoodIn wsX6_latestHealing (wsV RX6 216 RX6 yX6_showsFaultWithout wsX6_showsFaultWithout) := goodIn_app (goodIn_of _ (by decide +kernel)) ggX6_latestHealing_X6_showsFaultWithout
theorem dX6_latestHealing_0 : decode cX6_latestHealing 0 = .ok (.aload_n 0, 1) := by decide +kernel
theorem dX6_latestHealing_1 : decode cX6_latestHealing 1 = .ok (.iload_n 1, 1) := by decide +kernel
theorem dX6_latestHealing_2 : decode cX6_latestHealing 2 = .ok (.invokevirtual 199, 3) := by decide +kernel
theorem dX6_latestHealing_5 : decode cX6_latestHealing 5 = .ok (.ifCond .ne 5, 3) := by decide +kernel
theorem dX6_latestHealing_8 : decode cX6_latestHealing 8 = .ok (.iconst (-1), 1) := by decide +kernel
theorem dX6_latestHealing_9 : decode cX6_latestHealing 9 = .ok (.ireturn, 1) := by decide +kernel
theorem dX6_latestHealing_10 : decode cX6_latestHealing 10 = .ok (.iconst (-1), 1) := by decide +kernel
theorem dX6_latestHealing_11 : decode cX6_latestHealing 11 = .ok (.istore_n 2, 1) := by decide +kernel
theorem dX6_latestHealing_12 : decode cX6_latestHealing 12 = .ok (.iconst 0, 1) := by decide +kernel
theorem dX6_latestHealing_13 : decode cX6_latestHealing 13 = .ok (.istore_n 3, 1) := by decide +kernel
theorem dX6_latestHealing_14 : decode cX6_latestHealing 14 = .ok (.iload_n 3, 1) := by decide +kernel
theorem dX6_latestHealing_15 : decode cX6_latestHealing 15 = .ok (.bipush 12, 2) := by decide +kernel
theorem dX6_latestHealing_17 : decode cX6_latestHealing 17 = .ok (.if_icmp .ge 65, 3) := by decide +kernel
theorem dX6_latestHealing_20 : decode cX6_latestHealing 20 = .ok (.aload_n 0, 1) := by decide +kernel
theorem dX6_latestHealing_21 : decode cX6_latestHealing 21 = .ok (.getfield 26, 3) := by decide +kernel
theorem dX6_latestHealing_24 : decode cX6_latestHealing 24 = .ok (.iload_n 3, 1) := by decide +kernel
theorem dX6_latestHealing_25 : decode cX6_latestHealing 25 = .ok (.invokevirtual 131, 3) := by decide +kernel
theorem dX6_latestHealing_28 : decode cX6_latestHealing 28 = .ok (.istore 4, 2) := by decide +kernel
theorem dX6_latestHealing_30 : decode cX6_latestHealing 30 = .ok (.iload_n 3, 1) := by decide +kernel
theorem dX6_latestHealing_31 : decode cX6_latestHealing 31 = .ok (.invokestatic 210, 3) := by decide +kernel
theorem dX6_latestHealing_34 : decode cX6_latestHealing 34 = .ok (.ifCond .ne 11, 3) := by decide +kernel
theorem dX6_latestHealing_37 : decode cX6_latestHealing 37 = .ok (.iload_n 3, 1) := by decide +kernel
theorem dX6_latestHealing_38 : decode cX6_latestHealing 38 = .ok (.iload_n 1, 1) := by decide +kernel
theorem dX6_latestHealing_39 : decode cX6_latestHealing 39 = .ok (.invokestatic 122, 3) := by decide +kernel
theorem dX6_latestHealing_42 : decode cX6_latestHealing 42 = .ok (.if_icmp .ne 7, 3) := by decide +kernel
theorem dX6_latestHealing_45 : decode cX6_latestHealing 45 = .ok (.iconst 1, 1) := by decide +kernel
theorem dX6_latestHealing_46 : decode cX6_latestHealing 46 = .ok (.goto 4, 3) := by decide +kernel
theorem dX6_latestHealing_49 : decode cX6_latestHealing 49 = .ok (.iconst 0, 1) := by decide +kernel
theorem dX6_latestHealing_50 : decode cX6_latestHealing 50 = .ok (.istore 5, 2) := by decide +kernel
theorem dX6_latestHealing_52 : decode cX6_latestHealing 52 = .ok (.iload 5, 2) := by decide +kernel
theorem dX6_latestHealing_54 : decode cX6_latestHealing 54 = .ok (.ifCond .eq 22, 3) := by decide +kernel
theorem dX6_latestHealing_57 : decode cX6_latestHealing 57 = .ok (.iload 4, 2) := by decide +kernel
theorem dX6_latestHealing_59 : decode cX6_latestHealing 59 = .ok (.iload_n 2, 1) := by decide +kernel
theorem dX6_latestHealing_60 : decode cX6_latestHealing 60 = .ok (.if_icmp .le 16, 3) := by decide +kernel
theorem dX6_latestHealing_63 : decode cX6_latestHealing 63 = .ok (.aload_n 0, 1) := by decide +kernel
theorem dX6_latestHealing_64 : decode cX6_latestHealing 64 = .ok (.iload 4, 2) := by decide +kernel
theorem dX6_latestHealing_66 : decode cX6_latestHealing 66 = .ok (.iload_n 1, 1) := by decide +kernel
theorem dX6_latestHealing_67 : decode cX6_latestHealing 67 = .ok (.invokevirtual 216, 3) := by decide +kernel
theorem dX6_latestHealing_70 : decode cX6_latestHealing 70 = .ok (.ifCond .ne 6, 3) := by decide +kernel
theorem dX6_latestHealing_73 : decode cX6_latestHealing 73 = .ok (.iload 4, 2) := by decide +kernel
theorem dX6_latestHealing_75 : decode cX6_latestHealing 75 = .ok (.istore_n 2, 1) := by decide +kernel
theorem dX6_latestHealing_76 : decode cX6_latestHealing 76 = .ok (.iinc 3 1, 3) := by decide +kernel
theorem dX6_latestHealing_79 : decode cX6_latestHealing 79 = .ok (.goto (-65), 3) := by decide +kernel
theorem dX6_latestHealing_82 : decode cX6_latestHealing 82 = .ok (.iload_n 2, 1) := by decide +kernel
theorem dX6_latestHealing_83 : decode cX6_latestHealing 83 = .ok (.ireturn, 1) := by decide +kernel
set_option maxRecDepth 20000 in
theorem ggX6_beginHalf_X6_weekNow : GoodIn wsX6_beginHalf wsX6_weekNow := goodIn_r _ [7, 1, 33, 34, 35, 36, 37, 38, 39] (by decide +kernel) (by decide +kernel)
set_option maxRecDepth 20000 in
theorem gX6_beginHalf_X6_weekNow : GoodIn wsX6_beginHalf (wsV RX6 139 RX6 yX6_weekNow wsX6_weekNow) := goodIn_app (goodIn_of _ (by decide +kernel)) ggX6_beginHalf_X6_weekNow
set_option maxRecDepth 20000 in
theorem ggX6_beginHalf_X4_beginWeek : GoodIn wsX6_beginHalf wsX4_beginWeek := goodIn_r _ [12, 13, 14, 15, 16, 17, 18, 19, 20, 21, 22, 23, 24, 25, 26, 27, 11, 28, 29, 30, 31, 32, 40, 41, 42, 43, 44, 45, 46] (by decide +kernel) (by decide +kernel)
set_option maxRecDepth 20000 in
theorem gX6_beginHalf_X4_beginWeek : GoodIn wsX6_beginHalf (wsV RX6 272 RX4 yX4_beginWeek wsX4_beginWeek) := goodIn_app (goodIn_of _ (by decide +kernel)) ggX6_beginHalf_X4_beginWeek
theorem dX6_beginHalf_0 : decode cX6_beginHalf 0 = .ok (.aload_n 0, 1) := by decide +kernel
theorem dX6_beginHalf_1 : decode cX6_beginHalf 1 = .ok (.dup, 1) := by decide +kernel
theorem dX6_beginHalf_2 : decode cX6_beginHalf 2 = .ok (.getfield 48, 3) := by decide +kernel
theorem dX6_beginHalf_5 : decode cX6_beginHalf 5 = .ok (.iconst 1, 1) := by decide +kernel
theorem dX6_beginHalf_6 : decode cX6_beginHalf 6 = .ok (.iadd, 1) := by decide +kernel
theorem dX6_beginHalf_7 : decode cX6_beginHalf 7 = .ok (.putfield 48, 3) := by decide +kernel
theorem dX6_beginHalf_10 : decode cX6_beginHalf 10 = .ok (.aload_n 0, 1) := by decide +kernel
theorem dX6_beginHalf_11 : decode cX6_beginHalf 11 = .ok (.getfield 48, 3) := by decide +kernel
theorem dX6_beginHalf_14 : decode cX6_beginHalf 14 = .ok (.bipush 14, 2) := by decide +kernel
theorem dX6_beginHalf_16 : decode cX6_beginHalf 16 = .ok (.irem, 1) := by decide +kernel
theorem dX6_beginHalf_17 : decode cX6_beginHalf 17 = .ok (.ifCond .ne 14, 3) := by decide +kernel
theorem dX6_beginHalf_20 : decode cX6_beginHalf 20 = .ok (.aload_n 0, 1) := by decide +kernel
theorem dX6_beginHalf_21 : decode cX6_beginHalf 21 = .ok (.getfield 40, 3) := by decide +kernel
theorem dX6_beginHalf_24 : decode cX6_beginHalf 24 = .ok (.aload_n 0, 1) := by decide +kernel
theorem dX6_beginHalf_25 : decode cX6_beginHalf 25 = .ok (.invokevirtual 139, 3) := by decide +kernel
theorem dX6_beginHalf_28 : decode cX6_beginHalf 28 = .ok (.invokevirtual 272, 3) := by decide +kernel
theorem dX6_beginHalf_31 : decode cX6_beginHalf 31 = .ok (.return_, 1) := by decide +kernel
set_option maxRecDepth 20000 in
theorem ggX6_settleRing_X6_showsFault : GoodIn wsX6_settleRing wsX6_showsFault := goodIn_r _ [9, 10, 11, 12, 13, 14, 8, 15, 4, 16, 17, 18, 19, 20, 21, 22, 23, 24, 25, 26, 27, 28, 29, 30, 31, 32, 33, 34, 35, 36, 37, 38, 39, 40, 41, 42, 43, 44, 45, 46, 47, 48, 49, 50, 51, 52, 53, 54, 121, 122, 123, 124, 125, 126, 127, 128, 129, 130, 131, 132, 133, 134, 135, 136, 137, 138, 139, 140, 141] (by decide +kernel) (by decide +kernel)
set_option maxRecDepth 20000 in
theorem gX6_settleRing_X6_showsFault : GoodIn wsX6_settleRing (wsV RX6 199 RX6 yX6_showsFault wsX6_showsFault) := goodIn_app (goodIn_of _ (by decide +kernel)) ggX6_settleRing_X6_showsFault
set_option maxRecDepth 20000 in
theorem ggX6_settleRing_X2_close : GoodIn wsX6_settleRing wsX2_close := goodIn_r _ [59, 60, 61, 62, 27, 28, 29, 30, 31, 63, 64, 65, 66, 142, 143, 144, 145, 146, 147, 148, 135] (by decide +kernel) (by decide +kernel)
set_option maxRecDepth 20000 in
theorem gX6_settleRing_X2_close : GoodIn wsX6_settleRing (wsV RX6 275 RX2 yX2_close wsX2_close) := goodIn_app (goodIn_of _ (by decide +kernel)) ggX6_settleRing_X2_close
set_option maxRecDepth 20000 in
theorem ggX6_settleRing_X2_openOf : GoodIn wsX6_settleRing wsX2_openOf := goodIn_r _ [70, 60, 62, 27, 28, 29, 30, 31, 142, 143, 144, 145, 146, 147, 148, 135] (by decide +kernel) (by decide +kernel)
set_option maxRecDepth 20000 in
theorem gX6_settleRing_X2_openOf : GoodIn wsX6_settleRing (wsV RX6 222 RX2 yX2_openOf wsX2_openOf) := goodIn_app (goodIn_of _ (by decide +kernel)) ggX6_settleRing_X2_openOf
set_option maxRecDepth 20000 in
theorem ggX6_settleRing_X2_total : GoodIn wsX6_settleRing wsX2_total := goodIn_r _ [74, 75, 142, 143, 144, 145, 146, 147, 148] (by decide +kernel) (by decide +kernel)
set_option maxRecDepth 20000 in
theorem gX6_settleRing_X2_total : GoodIn wsX6_settleRing (wsV RX6 155 RX2 yX2_total wsX2_total) := goodIn_app (goodIn_of _ (by decide +kernel)) ggX6_settleRing_X2_total
set_option maxRecDepth 20000 in
theorem ggX6_settleRing_X6_latestHealing : GoodIn wsX6_settleRing wsX6_latestHealing := goodIn_r _ [79, 4, 5, 6, 7, 8, 9, 10, 11, 12, 13, 14, 15, 16, 17, 18, 19, 20, 21, 22, 23, 24, 25, 26, 27, 28, 29, 30, 31, 32, 33, 34, 35, 36, 37, 38, 39, 40, 41, 42, 43, 44, 45, 46, 47, 48, 49, 50, 51, 52, 53, 54, 80, 81, 82, 83, 84, 85, 86, 87, 88, 89, 90, 91, 92, 93, 94, 95, 96, 97, 98, 99, 100, 121, 122, 123, 124, 125, 126, 127, 128, 129, 130, 131, 132, 133, 134, 135, 136, 137, 138, 139, 140, 141] (by decide +kernel) (by decide +kernel)
set_option maxRecDepth 20000 in
theorem gX6_settleRing_X6_latestHealing : GoodIn wsX6_settleRing (wsV RX6 219 RX6 yX6_latestHealing wsX6_latestHealing) := goodIn_app (goodIn_of _ (by decide +kernel)) ggX6_settleRing_X6_latestHealing
set_option maxRecDepth 20000 in
theorem ggX6_settleRing_X2_open : GoodIn wsX6_settleRing wsX2_open := goodIn_r _ [104, 105, 75, 106, 107, 60, 63, 64, 65, 29, 66, 31, 142, 143, 144, 145, 146, 147, 148, 135] (by decide +kernel) (by decide +kernel)
set_option maxRecDepth 20000 in
theorem gX6_settleRing_X2_open : GoodIn wsX6_settleRing (wsV RX6 278 RX2 yX2_open wsX2_open) := goodIn_app (goodIn_of _ (by decide +kernel)) ggX6_settleRing_X2_open
set_option maxRecDepth 20000 in
theorem ggX6_settleRing_X0_personOf : GoodIn wsX6_settleRing wsX0_personOf := goodIn_r _ [111, 112, 26, 27, 28, 29, 30, 31, 128, 129, 130, 131, 132, 133, 134, 135] (by decide +kernel) (by decide +kernel)
set_option maxRecDepth 20000 in
theorem gX6_settleRing_X0_personOf : GoodIn wsX6_settleRing (wsV RX6 204 RX0 yX0_personOf wsX0_personOf) := goodIn_app (goodIn_of _ (by decide +kernel)) ggX6_settleRing_X0_personOf
set_option maxRecDepth 20000 in
theorem ggX6_settleRing_X4_addBlot : GoodIn wsX6_settleRing wsX4_addBlot := goodIn_r _ [117, 118, 119, 27, 28, 29, 30, 31, 120, 64, 65, 66, 149, 150, 151, 152, 153, 154, 135] (by decide +kernel) (by decide +kernel)
set_option maxRecDepth 20000 in
theorem gX6_settleRing_X4_addBlot : GoodIn wsX6_settleRing (wsV RX6 282 RX4 yX4_addBlot wsX4_addBlot) := goodIn_app (goodIn_of _ (by decide +kernel)) ggX6_settleRing_X4_addBlot
theorem dX6_settleRing_0 : decode cX6_settleRing 0 = .ok (.aload_n 0, 1) := by decide +kernel
theorem dX6_settleRing_1 : decode cX6_settleRing 1 = .ok (.iload_n 1, 1) := by decide +kernel
theorem dX6_settleRing_2 : decode cX6_settleRing 2 = .ok (.invokevirtual 199, 3) := by decide +kernel
theorem dX6_settleRing_5 : decode cX6_settleRing 5 = .ok (.ifCond .ne 16, 3) := by decide +kernel
theorem dX6_settleRing_8 : decode cX6_settleRing 8 = .ok (.aload_n 0, 1) := by decide +kernel
theorem dX6_settleRing_9 : decode cX6_settleRing 9 = .ok (.getfield 33, 3) := by decide +kernel
theorem dX6_settleRing_12 : decode cX6_settleRing 12 = .ok (.iload_n 1, 1) := by decide +kernel
theorem dX6_settleRing_13 : decode cX6_settleRing 13 = .ok (.aload_n 0, 1) := by decide +kernel
theorem dX6_settleRing_14 : decode cX6_settleRing 14 = .ok (.getfield 48, 3) := by decide +kernel
theorem dX6_settleRing_17 : decode cX6_settleRing 17 = .ok (.invokevirtual 275, 3) := by decide +kernel
theorem dX6_settleRing_20 : decode cX6_settleRing 20 = .ok (.return_, 1) := by decide +kernel
theorem dX6_settleRing_21 : decode cX6_settleRing 21 = .ok (.aload_n 0, 1) := by decide +kernel
theorem dX6_settleRing_22 : decode cX6_settleRing 22 = .ok (.getfield 33, 3) := by decide +kernel
theorem dX6_settleRing_25 : decode cX6_settleRing 25 = .ok (.iload_n 1, 1) := by decide +kernel
theorem dX6_settleRing_26 : decode cX6_settleRing 26 = .ok (.invokevirtual 222, 3) := by decide +kernel
theorem dX6_settleRing_29 : decode cX6_settleRing 29 = .ok (.iconst (-1), 1) := by decide +kernel
theorem dX6_settleRing_30 : decode cX6_settleRing 30 = .ok (.if_icmp .ne 16, 3) := by decide +kernel
theorem dX6_settleRing_33 : decode cX6_settleRing 33 = .ok (.aload_n 0, 1) := by decide +kernel
theorem dX6_settleRing_34 : decode cX6_settleRing 34 = .ok (.getfield 33, 3) := by decide +kernel
theorem dX6_settleRing_37 : decode cX6_settleRing 37 = .ok (.invokevirtual 155, 3) := by decide +kernel
theorem dX6_settleRing_40 : decode cX6_settleRing 40 = .ok (.sipush 200, 3) := by decide +kernel
theorem dX6_settleRing_43 : decode cX6_settleRing 43 = .ok (.if_icmp .lt 4, 3) := by decide +kernel
theorem dX6_settleRing_46 : decode cX6_settleRing 46 = .ok (.return_, 1) := by decide +kernel
theorem dX6_settleRing_47 : decode cX6_settleRing 47 = .ok (.aload_n 0, 1) := by decide +kernel
theorem dX6_settleRing_48 : decode cX6_settleRing 48 = .ok (.iload_n 1, 1) := by decide +kernel
theorem dX6_settleRing_49 : decode cX6_settleRing 49 = .ok (.invokevirtual 219, 3) := by decide +kernel
theorem dX6_settleRing_52 : decode cX6_settleRing 52 = .ok (.istore_n 2, 1) := by decide +kernel
theorem dX6_settleRing_53 : decode cX6_settleRing 53 = .ok (.aload_n 0, 1) := by decide +kernel
theorem dX6_settleRing_54 : decode cX6_settleRing 54 = .ok (.getfield 33, 3) := by decide +kernel
theorem dX6_settleRing_57 : decode cX6_settleRing 57 = .ok (.iload_n 1, 1) := by decide +kernel
theorem dX6_settleRing_58 : decode cX6_settleRing 58 = .ok (.aload_n 0, 1) := by decide +kernel
theorem dX6_settleRing_59 : decode cX6_settleRing 59 = .ok (.getfield 48, 3) := by decide +kernel
theorem dX6_settleRing_62 : decode cX6_settleRing 62 = .ok (.iload_n 2, 1) := by decide +kernel
theorem dX6_settleRing_63 : decode cX6_settleRing 63 = .ok (.invokevirtual 278, 3) := by decide +kernel
theorem dX6_settleRing_66 : decode cX6_settleRing 66 = .ok (.iload_n 2, 1) := by decide +kernel
theorem dX6_settleRing_67 : decode cX6_settleRing 67 = .ok (.iconst (-1), 1) := by decide +kernel
theorem dX6_settleRing_68 : decode cX6_settleRing 68 = .ok (.if_icmp .eq 18, 3) := by decide +kernel
theorem dX6_settleRing_71 : decode cX6_settleRing 71 = .ok (.aload_n 0, 1) := by decide +kernel
theorem dX6_settleRing_72 : decode cX6_settleRing 72 = .ok (.getfield 40, 3) := by decide +kernel
theorem dX6_settleRing_75 : decode cX6_settleRing 75 = .ok (.aload_n 0, 1) := by decide +kernel
theorem dX6_settleRing_76 : decode cX6_settleRing 76 = .ok (.getfield 26, 3) := by decide +kernel
theorem dX6_settleRing_79 : decode cX6_settleRing 79 = .ok (.iload_n 2, 1) := by decide +kernel
theorem dX6_settleRing_80 : decode cX6_settleRing 80 = .ok (.invokevirtual 204, 3) := by decide +kernel
theorem dX6_settleRing_83 : decode cX6_settleRing 83 = .ok (.invokevirtual 282, 3) := by decide +kernel
theorem dX6_settleRing_86 : decode cX6_settleRing 86 = .ok (.return_, 1) := by decide +kernel
set_option maxRecDepth 20000 in
theorem ggX6_callIfOpen_X2_anyOpenBelow : GoodIn wsX6_callIfOpen wsX2_anyOpenBelow := goodIn_r _ [8, 9, 10, 11, 12, 13, 14, 15, 54, 55, 56, 57, 58, 59, 60, 61] (by decide +kernel) (by decide +kernel)
set_option maxRecDepth 20000 in
theorem gX6_callIfOpen_X2_anyOpenBelow : GoodIn wsX6_callIfOpen (wsV RX6 266 RX2 yX2_anyOpenBelow wsX2_anyOpenBelow) := goodIn_app (goodIn_of _ (by decide +kernel)) ggX6_callIfOpen_X2_anyOpenBelow
set_option maxRecDepth 20000 in
theorem ggX6_callIfOpen_X4_callAt : GoodIn wsX6_callIfOpen wsX4_callAt := goodIn_r _ [20, 21, 22, 23, 24, 25, 26, 27, 19, 28, 29, 30, 31, 11, 12, 13, 14, 15, 32, 33, 34, 35, 36, 37, 38, 39, 62, 63, 64, 65, 66, 67, 61] (by decide +kernel) (by decide +kernel)
set_option maxRecDepth 20000 in
theorem gX6_callIfOpen_X4_callAt : GoodIn wsX6_callIfOpen (wsV RX6 285 RX4 yX4_callAt wsX4_callAt) := goodIn_app (goodIn_of _ (by decide +kernel)) ggX6_callIfOpen_X4_callAt
set_option maxRecDepth 20000 in
theorem ggX6_callIfOpen_X2_noteWoken : GoodIn wsX6_callIfOpen wsX2_noteWoken := goodIn_r _ [43, 44, 45, 46, 37, 38, 13, 39, 15, 54, 55, 56, 57, 58, 59, 60, 61] (by decide +kernel) (by decide +kernel)
set_option maxRecDepth 20000 in
theorem gX6_callIfOpen_X2_noteWoken : GoodIn wsX6_callIfOpen (wsV RX6 288 RX2 yX2_noteWoken wsX2_noteWoken) := goodIn_app (goodIn_of _ (by decide +kernel)) ggX6_callIfOpen_X2_noteWoken
theorem dX6_callIfOpen_0 : decode cX6_callIfOpen 0 = .ok (.aload_n 0, 1) := by decide +kernel
theorem dX6_callIfOpen_1 : decode cX6_callIfOpen 1 = .ok (.getfield 33, 3) := by decide +kernel
theorem dX6_callIfOpen_4 : decode cX6_callIfOpen 4 = .ok (.iconst 4, 1) := by decide +kernel
theorem dX6_callIfOpen_5 : decode cX6_callIfOpen 5 = .ok (.invokevirtual 266, 3) := by decide +kernel
theorem dX6_callIfOpen_8 : decode cX6_callIfOpen 8 = .ok (.ifCond .eq 22, 3) := by decide +kernel
theorem dX6_callIfOpen_11 : decode cX6_callIfOpen 11 = .ok (.aload_n 0, 1) := by decide +kernel
theorem dX6_callIfOpen_12 : decode cX6_callIfOpen 12 = .ok (.getfield 33, 3) := by decide +kernel
theorem dX6_callIfOpen_15 : decode cX6_callIfOpen 15 = .ok (.iload_n 1, 1) := by decide +kernel
theorem dX6_callIfOpen_16 : decode cX6_callIfOpen 16 = .ok (.aload_n 0, 1) := by decide +kernel
theorem dX6_callIfOpen_17 : decode cX6_callIfOpen 17 = .ok (.getfield 40, 3) := by decide +kernel
theorem dX6_callIfOpen_20 : decode cX6_callIfOpen 20 = .ok (.aload_n 0, 1) := by decide +kernel
theorem dX6_callIfOpen_21 : decode cX6_callIfOpen 21 = .ok (.getfield 48, 3) := by decide +kernel
theorem dX6_callIfOpen_24 : decode cX6_callIfOpen 24 = .ok (.invokevirtual 285, 3) := by decide +kernel
theorem dX6_callIfOpen_27 : decode cX6_callIfOpen 27 = .ok (.invokevirtual 288, 3) := by decide +kernel
theorem dX6_callIfOpen_30 : decode cX6_callIfOpen 30 = .ok (.return_, 1) := by decide +kernel
