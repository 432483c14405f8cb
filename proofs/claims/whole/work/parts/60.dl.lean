set_option maxRecDepth 20000 in
theorem ggL_build_X6_build : GoodIn wsL_build wsX6_build := goodIn_ca (goodIn_r _ [6, 7, 8, 9, 10, 11, 12, 13, 14, 15, 16] (by decide +kernel) (by decide +kernel)) (goodIn_sub (fun _ h => List.mem_cons_of_mem _ (List.mem_append_right _ h)) (by decide +kernel))
set_option maxRecDepth 20000 in
theorem gL_build_X6_build : GoodIn wsL_build (wsV RL 7 RX6 yX6_build wsX6_build) := goodIn_app (goodIn_of _ (by decide +kernel)) ggL_build_X6_build
theorem dL_build_0 : decode cL_build 0 = .ok (.aload_n 1, 1) := by decide +kernel
theorem dL_build_1 : decode cL_build 1 = .ok (.iconst 0, 1) := by decide +kernel
theorem dL_build_2 : decode cL_build 2 = .ok (.aload_n 0, 1) := by decide +kernel
theorem dL_build_3 : decode cL_build 3 = .ok (.invokevirtual 7, 3) := by decide +kernel
theorem dL_build_6 : decode cL_build 6 = .ok (.i2l, 1) := by decide +kernel
theorem dL_build_7 : decode cL_build 7 = .ok (.lastore, 1) := by decide +kernel
theorem dL_build_8 : decode cL_build 8 = .ok (.goto 6, 3) := by decide +kernel
theorem dL_build_11 : decode cL_build 11 = .ok (.astore_n 2, 1) := by decide +kernel
theorem dL_build_12 : decode cL_build 12 = .ok (.iconst 1, 1) := by decide +kernel
theorem dL_build_13 : decode cL_build 13 = .ok (.ireturn, 1) := by decide +kernel
theorem dL_build_14 : decode cL_build 14 = .ok (.iconst 0, 1) := by decide +kernel
theorem dL_build_15 : decode cL_build 15 = .ok (.ireturn, 1) := by decide +kernel
set_option maxRecDepth 20000 in
theorem ggL_defect_X6_defect : GoodIn wsL_defect wsX6_defect := goodIn_ca (goodIn_ca (goodIn_r _ [7, 8, 9, 10, 11, 12, 13, 6, 14, 15, 16, 17, 18, 19, 20, 21, 22, 23, 24, 25, 26, 27, 28, 29, 30, 31, 32, 33, 34, 35, 36, 37, 38, 39, 40, 41, 42, 43, 44, 45, 46, 47, 48, 49, 50, 51, 52, 53, 54, 55, 56, 57, 58, 59, 60] (by decide +kernel) (by decide +kernel)) (goodIn_sub (fun _ h => List.mem_cons_of_mem _ (List.mem_append_left _ (List.mem_append_right _ h))) (by decide +kernel))) (goodIn_sub (fun _ h => List.mem_cons_of_mem _ (List.mem_append_right _ h)) (by decide +kernel))
set_option maxRecDepth 20000 in
theorem gL_defect_X6_defect : GoodIn wsL_defect (wsV RL 15 RX6 yX6_defect wsX6_defect) := goodIn_app (goodIn_of _ (by decide +kernel)) ggL_defect_X6_defect
theorem dL_defect_0 : decode cL_defect 0 = .ok (.aload 4, 2) := by decide +kernel
theorem dL_defect_2 : decode cL_defect 2 = .ok (.iconst 0, 1) := by decide +kernel
theorem dL_defect_3 : decode cL_defect 3 = .ok (.aload_n 0, 1) := by decide +kernel
theorem dL_defect_4 : decode cL_defect 4 = .ok (.iload_n 1, 1) := by decide +kernel
theorem dL_defect_5 : decode cL_defect 5 = .ok (.iload_n 2, 1) := by decide +kernel
theorem dL_defect_6 : decode cL_defect 6 = .ok (.iload_n 3, 1) := by decide +kernel
theorem dL_defect_7 : decode cL_defect 7 = .ok (.invokevirtual 15, 3) := by decide +kernel
theorem dL_defect_10 : decode cL_defect 10 = .ok (.i2l, 1) := by decide +kernel
theorem dL_defect_11 : decode cL_defect 11 = .ok (.lastore, 1) := by decide +kernel
theorem dL_defect_12 : decode cL_defect 12 = .ok (.goto 11, 3) := by decide +kernel
theorem dL_defect_15 : decode cL_defect 15 = .ok (.astore 5, 2) := by decide +kernel
theorem dL_defect_17 : decode cL_defect 17 = .ok (.iconst 1, 1) := by decide +kernel
theorem dL_defect_18 : decode cL_defect 18 = .ok (.ireturn, 1) := by decide +kernel
theorem dL_defect_19 : decode cL_defect 19 = .ok (.astore 5, 2) := by decide +kernel
theorem dL_defect_21 : decode cL_defect 21 = .ok (.iconst 2, 1) := by decide +kernel
theorem dL_defect_22 : decode cL_defect 22 = .ok (.ireturn, 1) := by decide +kernel
theorem dL_defect_23 : decode cL_defect 23 = .ok (.iconst 0, 1) := by decide +kernel
theorem dL_defect_24 : decode cL_defect 24 = .ok (.ireturn, 1) := by decide +kernel
set_option maxRecDepth 20000 in
theorem ggL_need_X6_need : GoodIn wsL_need wsX6_need := goodIn_ca (goodIn_ca (goodIn_ca (goodIn_r _ [8, 9, 10, 11, 12, 13, 14, 15, 7, 16, 17, 18, 19, 20, 21, 22, 23, 24, 25, 26, 27, 28, 29, 30, 31, 32, 33, 34, 35, 36, 37, 38, 39, 40, 41, 42, 43, 44, 45, 46, 47, 48, 49, 50, 51, 52, 53, 54, 55, 56, 57, 58, 59, 60, 61, 62, 63, 64, 65, 66, 67, 68, 69, 70, 71] (by decide +kernel) (by decide +kernel)) (goodIn_sub (fun _ h => List.mem_cons_of_mem _ (List.mem_append_left _ (List.mem_append_left _ (List.mem_append_right _ h)))) (by decide +kernel))) (goodIn_sub (fun _ h => List.mem_cons_of_mem _ (List.mem_append_left _ (List.mem_append_right _ h))) (by decide +kernel))) (goodIn_sub (fun _ h => List.mem_cons_of_mem _ (List.mem_append_right _ h)) (by decide +kernel))
set_option maxRecDepth 20000 in
theorem gL_need_X6_need : GoodIn wsL_need (wsV RL 21 RX6 yX6_need wsX6_need) := goodIn_app (goodIn_of _ (by decide +kernel)) ggL_need_X6_need
theorem dL_need_0 : decode cL_need 0 = .ok (.aload 4, 2) := by decide +kernel
theorem dL_need_2 : decode cL_need 2 = .ok (.iconst 0, 1) := by decide +kernel
theorem dL_need_3 : decode cL_need 3 = .ok (.aload_n 0, 1) := by decide +kernel
theorem dL_need_4 : decode cL_need 4 = .ok (.iload_n 1, 1) := by decide +kernel
theorem dL_need_5 : decode cL_need 5 = .ok (.iload_n 2, 1) := by decide +kernel
theorem dL_need_6 : decode cL_need 6 = .ok (.iload_n 3, 1) := by decide +kernel
theorem dL_need_7 : decode cL_need 7 = .ok (.invokevirtual 21, 3) := by decide +kernel
theorem dL_need_10 : decode cL_need 10 = .ok (.i2l, 1) := by decide +kernel
theorem dL_need_11 : decode cL_need 11 = .ok (.lastore, 1) := by decide +kernel
theorem dL_need_12 : decode cL_need 12 = .ok (.goto 15, 3) := by decide +kernel
theorem dL_need_15 : decode cL_need 15 = .ok (.astore 5, 2) := by decide +kernel
theorem dL_need_17 : decode cL_need 17 = .ok (.iconst 1, 1) := by decide +kernel
theorem dL_need_18 : decode cL_need 18 = .ok (.ireturn, 1) := by decide +kernel
theorem dL_need_19 : decode cL_need 19 = .ok (.astore 5, 2) := by decide +kernel
theorem dL_need_21 : decode cL_need 21 = .ok (.iconst 2, 1) := by decide +kernel
theorem dL_need_22 : decode cL_need 22 = .ok (.ireturn, 1) := by decide +kernel
theorem dL_need_23 : decode cL_need 23 = .ok (.astore 5, 2) := by decide +kernel
theorem dL_need_25 : decode cL_need 25 = .ok (.iconst 3, 1) := by decide +kernel
theorem dL_need_26 : decode cL_need 26 = .ok (.ireturn, 1) := by decide +kernel
theorem dL_need_27 : decode cL_need 27 = .ok (.iconst 0, 1) := by decide +kernel
theorem dL_need_28 : decode cL_need 28 = .ok (.ireturn, 1) := by decide +kernel
set_option maxRecDepth 20000 in
theorem ggL_turn_X6_turn : GoodIn wsL_turn wsX6_turn := goodIn_ca (goodIn_ca (goodIn_ca (goodIn_r _ [8, 9, 10, 11, 12, 13, 14, 15, 16, 7, 17, 18, 19, 20, 21, 22, 23, 24, 25, 26, 27, 28, 29, 30, 31, 32, 33, 34, 35, 36, 37, 38, 39, 40, 41, 42, 43, 44, 45, 46, 47, 48, 49, 50, 51, 52, 53, 54, 55, 56, 57, 58, 59, 60, 61, 62, 63, 64, 65, 66, 67, 68, 69, 70, 71, 72, 73, 74, 75, 76, 77, 78, 79, 80, 81, 82, 83, 84, 85, 86, 87, 88] (by decide +kernel) (by decide +kernel)) (goodIn_sub (fun _ h => List.mem_cons_of_mem _ (List.mem_append_left _ (List.mem_append_left _ (List.mem_append_right _ h)))) (by decide +kernel))) (goodIn_sub (fun _ h => List.mem_cons_of_mem _ (List.mem_append_left _ (List.mem_append_right _ h))) (by decide +kernel))) (goodIn_sub (fun _ h => List.mem_cons_of_mem _ (List.mem_append_right _ h)) (by decide +kernel))
set_option maxRecDepth 20000 in
theorem gL_turn_X6_turn : GoodIn wsL_turn (wsV RL 26 RX6 yX6_turn wsX6_turn) := goodIn_app (goodIn_of _ (by decide +kernel)) ggL_turn_X6_turn
theorem dL_turn_0 : decode cL_turn 0 = .ok (.aload 4, 2) := by decide +kernel
theorem dL_turn_2 : decode cL_turn 2 = .ok (.iconst 0, 1) := by decide +kernel
theorem dL_turn_3 : decode cL_turn 3 = .ok (.aload_n 0, 1) := by decide +kernel
theorem dL_turn_4 : decode cL_turn 4 = .ok (.iload_n 1, 1) := by decide +kernel
theorem dL_turn_5 : decode cL_turn 5 = .ok (.iload_n 2, 1) := by decide +kernel
theorem dL_turn_6 : decode cL_turn 6 = .ok (.iload_n 3, 1) := by decide +kernel
theorem dL_turn_7 : decode cL_turn 7 = .ok (.invokevirtual 26, 3) := by decide +kernel
theorem dL_turn_10 : decode cL_turn 10 = .ok (.i2l, 1) := by decide +kernel
theorem dL_turn_11 : decode cL_turn 11 = .ok (.lastore, 1) := by decide +kernel
theorem dL_turn_12 : decode cL_turn 12 = .ok (.goto 15, 3) := by decide +kernel
theorem dL_turn_15 : decode cL_turn 15 = .ok (.astore 5, 2) := by decide +kernel
theorem dL_turn_17 : decode cL_turn 17 = .ok (.iconst 1, 1) := by decide +kernel
theorem dL_turn_18 : decode cL_turn 18 = .ok (.ireturn, 1) := by decide +kernel
theorem dL_turn_19 : decode cL_turn 19 = .ok (.astore 5, 2) := by decide +kernel
theorem dL_turn_21 : decode cL_turn 21 = .ok (.iconst 2, 1) := by decide +kernel
theorem dL_turn_22 : decode cL_turn 22 = .ok (.ireturn, 1) := by decide +kernel
theorem dL_turn_23 : decode cL_turn 23 = .ok (.astore 5, 2) := by decide +kernel
theorem dL_turn_25 : decode cL_turn 25 = .ok (.iconst 3, 1) := by decide +kernel
theorem dL_turn_26 : decode cL_turn 26 = .ok (.ireturn, 1) := by decide +kernel
theorem dL_turn_27 : decode cL_turn 27 = .ok (.iconst 0, 1) := by decide +kernel
theorem dL_turn_28 : decode cL_turn 28 = .ok (.ireturn, 1) := by decide +kernel
set_option maxRecDepth 20000 in
theorem ggL_roll_X6_roll : GoodIn wsL_roll wsX6_roll := goodIn_ca (goodIn_ca (goodIn_r _ [7, 8, 9, 10, 11, 12, 13, 6, 14, 15, 16, 17, 18, 19, 20, 21, 22, 23, 24, 25, 26, 27, 28, 29, 30, 31, 32, 33, 34, 35, 36, 37, 38, 39, 40, 41, 42, 43, 44, 45, 46, 47, 48, 49, 50, 51, 52, 53, 54, 55, 56, 57, 58, 59, 60, 61, 62, 63, 64, 65, 66, 67, 68, 69, 70, 71, 72, 73, 74, 75, 76, 77, 78, 79, 80, 81, 82, 83, 84, 85, 86, 87, 88, 89, 90, 91, 92, 93, 94, 95, 96, 97, 98, 99, 100, 101, 102, 103, 104, 105, 106, 107, 108, 109, 110, 111, 112, 113, 114, 115, 116, 117] (by decide +kernel) (by decide +kernel)) (goodIn_sub (fun _ h => List.mem_cons_of_mem _ (List.mem_append_left _ (List.mem_append_right _ h))) (by decide +kernel))) (goodIn_sub (fun _ h => List.mem_cons_of_mem _ (List.mem_append_right _ h)) (by decide +kernel))
set_option maxRecDepth 20000 in
theorem gL_roll_X6_roll : GoodIn wsL_roll (wsV RL 30 RX6 yX6_roll wsX6_roll) := goodIn_app (goodIn_of _ (by decide +kernel)) ggL_roll_X6_roll
theorem dL_roll_0 : decode cL_roll 0 = .ok (.aload 4, 2) := by decide +kernel
theorem dL_roll_2 : decode cL_roll 2 = .ok (.iconst 0, 1) := by decide +kernel
theorem dL_roll_3 : decode cL_roll 3 = .ok (.aload_n 0, 1) := by decide +kernel
theorem dL_roll_4 : decode cL_roll 4 = .ok (.iload_n 1, 1) := by decide +kernel
theorem dL_roll_5 : decode cL_roll 5 = .ok (.iload_n 2, 1) := by decide +kernel
theorem dL_roll_6 : decode cL_roll 6 = .ok (.iload_n 3, 1) := by decide +kernel
theorem dL_roll_7 : decode cL_roll 7 = .ok (.invokevirtual 30, 3) := by decide +kernel
theorem dL_roll_10 : decode cL_roll 10 = .ok (.i2l, 1) := by decide +kernel
theorem dL_roll_11 : decode cL_roll 11 = .ok (.lastore, 1) := by decide +kernel
theorem dL_roll_12 : decode cL_roll 12 = .ok (.goto 11, 3) := by decide +kernel
theorem dL_roll_15 : decode cL_roll 15 = .ok (.astore 5, 2) := by decide +kernel
theorem dL_roll_17 : decode cL_roll 17 = .ok (.iconst 1, 1) := by decide +kernel
theorem dL_roll_18 : decode cL_roll 18 = .ok (.ireturn, 1) := by decide +kernel
theorem dL_roll_19 : decode cL_roll 19 = .ok (.astore 5, 2) := by decide +kernel
theorem dL_roll_21 : decode cL_roll 21 = .ok (.iconst 2, 1) := by decide +kernel
theorem dL_roll_22 : decode cL_roll 22 = .ok (.ireturn, 1) := by decide +kernel
theorem dL_roll_23 : decode cL_roll 23 = .ok (.iconst 0, 1) := by decide +kernel
theorem dL_roll_24 : decode cL_roll 24 = .ok (.ireturn, 1) := by decide +kernel
set_option maxRecDepth 20000 in
theorem ggL_revert_X6_revert : GoodIn wsL_revert wsX6_revert := goodIn_ca (goodIn_ca (goodIn_r _ [7, 8, 9, 10, 11, 12, 13, 6, 14, 15, 16, 17, 18, 19, 20, 21, 22, 23, 24, 25, 26, 27, 28, 29, 30, 31, 32, 33, 34, 35, 36, 37, 38, 39, 40, 41, 42, 43, 44, 45, 46, 47, 48, 49, 50, 51, 52, 53, 54, 55, 56, 57, 58, 59, 60, 61, 62, 63, 64, 65, 66, 67, 68, 69, 70, 71, 72, 73, 74, 75, 76, 77, 78, 79, 80, 81, 82, 83, 84, 85, 86, 87, 88, 89, 90, 91] (by decide +kernel) (by decide +kernel)) (goodIn_sub (fun _ h => List.mem_cons_of_mem _ (List.mem_append_left _ (List.mem_append_right _ h))) (by decide +kernel))) (goodIn_sub (fun _ h => List.mem_cons_of_mem _ (List.mem_append_right _ h)) (by decide +kernel))
set_option maxRecDepth 20000 in
theorem gL_revert_X6_revert : GoodIn wsL_revert (wsV RL 33 RX6 yX6_revert wsX6_revert) := goodIn_app (goodIn_of _ (by decide +kernel)) ggL_revert_X6_revert
theorem dL_revert_0 : decode cL_revert 0 = .ok (.aload_n 3, 1) := by decide +kernel
theorem dL_revert_1 : decode cL_revert 1 = .ok (.iconst 0, 1) := by decide +kernel
theorem dL_revert_2 : decode cL_revert 2 = .ok (.aload_n 0, 1) := by decide +kernel
theorem dL_revert_3 : decode cL_revert 3 = .ok (.iload_n 1, 1) := by decide +kernel
theorem dL_revert_4 : decode cL_revert 4 = .ok (.iload_n 2, 1) := by decide +kernel
theorem dL_revert_5 : decode cL_revert 5 = .ok (.invokevirtual 33, 3) := by decide +kernel
theorem dL_revert_8 : decode cL_revert 8 = .ok (.i2l, 1) := by decide +kernel
theorem dL_revert_9 : decode cL_revert 9 = .ok (.lastore, 1) := by decide +kernel
theorem dL_revert_10 : decode cL_revert 10 = .ok (.goto 11, 3) := by decide +kernel
theorem dL_revert_13 : decode cL_revert 13 = .ok (.astore 4, 2) := by decide +kernel
theorem dL_revert_15 : decode cL_revert 15 = .ok (.iconst 1, 1) := by decide +kernel
theorem dL_revert_16 : decode cL_revert 16 = .ok (.ireturn, 1) := by decide +kernel
theorem dL_revert_17 : decode cL_revert 17 = .ok (.astore 4, 2) := by decide +kernel
theorem dL_revert_19 : decode cL_revert 19 = .ok (.iconst 2, 1) := by decide +kernel
theorem dL_revert_20 : decode cL_revert 20 = .ok (.ireturn, 1) := by decide +kernel
theorem dL_revert_21 : decode cL_revert 21 = .ok (.iconst 0, 1) := by decide +kernel
theorem dL_revert_22 : decode cL_revert 22 = .ok (.ireturn, 1) := by decide +kernel
set_option maxRecDepth 20000 in
theorem ggL_takeOver_X6_takeOver : GoodIn wsL_takeOver wsX6_takeOver := goodIn_ca (goodIn_ca (goodIn_r _ [7, 8, 9, 10, 11, 12, 6, 13, 14, 15, 16, 17, 18, 19, 20, 21, 22, 23, 24, 25, 26, 27, 28, 29, 30, 31, 32, 33, 34, 35, 36, 37, 38, 39, 40, 41, 42, 43, 44, 45, 46, 47, 48, 49, 50, 51, 52, 53, 54] (by decide +kernel) (by decide +kernel)) (goodIn_sub (fun _ h => List.mem_cons_of_mem _ (List.mem_append_left _ (List.mem_append_right _ h))) (by decide +kernel))) (goodIn_sub (fun _ h => List.mem_cons_of_mem _ (List.mem_append_right _ h)) (by decide +kernel))
set_option maxRecDepth 20000 in
theorem gL_takeOver_X6_takeOver : GoodIn wsL_takeOver (wsV RL 37 RX6 yX6_takeOver wsX6_takeOver) := goodIn_app (goodIn_of _ (by decide +kernel)) ggL_takeOver_X6_takeOver
theorem dL_takeOver_0 : decode cL_takeOver 0 = .ok (.aload_n 2, 1) := by decide +kernel
theorem dL_takeOver_1 : decode cL_takeOver 1 = .ok (.iconst 0, 1) := by decide +kernel
theorem dL_takeOver_2 : decode cL_takeOver 2 = .ok (.aload_n 0, 1) := by decide +kernel
theorem dL_takeOver_3 : decode cL_takeOver 3 = .ok (.iload_n 1, 1) := by decide +kernel
theorem dL_takeOver_4 : decode cL_takeOver 4 = .ok (.invokevirtual 37, 3) := by decide +kernel
theorem dL_takeOver_7 : decode cL_takeOver 7 = .ok (.i2l, 1) := by decide +kernel
theorem dL_takeOver_8 : decode cL_takeOver 8 = .ok (.lastore, 1) := by decide +kernel
theorem dL_takeOver_9 : decode cL_takeOver 9 = .ok (.goto 9, 3) := by decide +kernel
theorem dL_takeOver_12 : decode cL_takeOver 12 = .ok (.astore_n 3, 1) := by decide +kernel
theorem dL_takeOver_13 : decode cL_takeOver 13 = .ok (.iconst 1, 1) := by decide +kernel
theorem dL_takeOver_14 : decode cL_takeOver 14 = .ok (.ireturn, 1) := by decide +kernel
theorem dL_takeOver_15 : decode cL_takeOver 15 = .ok (.astore_n 3, 1) := by decide +kernel
theorem dL_takeOver_16 : decode cL_takeOver 16 = .ok (.iconst 2, 1) := by decide +kernel
theorem dL_takeOver_17 : decode cL_takeOver 17 = .ok (.ireturn, 1) := by decide +kernel
theorem dL_takeOver_18 : decode cL_takeOver 18 = .ok (.iconst 0, 1) := by decide +kernel
theorem dL_takeOver_19 : decode cL_takeOver 19 = .ok (.ireturn, 1) := by decide +kernel
set_option maxRecDepth 20000 in
theorem ggL_pass_X6_pass : GoodIn wsL_pass wsX6_pass := goodIn_ca (goodIn_ca (goodIn_r _ [7, 8, 9, 10, 11, 12, 13, 14, 15, 16, 17, 18, 19, 20, 21, 22, 6, 23, 24, 25, 26, 27, 28, 29, 30, 31, 32, 33, 34, 35, 36, 37, 38, 39, 40, 41, 42, 43, 44, 45, 46, 47, 48, 49, 50, 51, 52, 53, 54, 55, 56, 57, 58, 59, 60, 61, 62, 63, 64, 65, 66, 67, 68, 69, 70, 71, 72, 73, 74, 75, 76, 77, 78, 79, 80, 81, 82, 83, 84, 85, 86, 87, 88, 89, 90, 91, 92, 93, 94, 95, 96, 97, 98, 99, 100, 101, 102, 103, 104, 105, 106, 107, 108, 109, 110, 111, 112, 113, 114, 115, 116, 117, 118, 119, 120, 121, 122, 123, 124, 125, 126, 127, 128, 129, 130, 131, 132, 133, 134, 135, 136, 137, 138, 139, 140, 141, 142, 143, 144, 145, 146, 147, 148, 149, 150, 151, 152, 153, 154, 155, 156, 157, 158, 159, 160, 161, 162, 163, 164, 165, 166, 167, 168, 169, 170, 171, 172, 173, 174, 175, 176, 177, 178, 179, 180, 181, 182, 183, 184, 185, 186, 187, 188, 189, 190, 191, 192, 193, 194, 195, 196, 197, 198, 199, 200, 201, 202, 203, 204, 205, 206, 207, 208, 209, 210, 211, 212, 213, 214, 215, 216, 217, 218] (by decide +kernel) (by decide +kernel)) (goodIn_sub (fun _ h => List.mem_cons_of_mem _ (List.mem_append_left _ (List.mem_append_right _ h))) (by decide +kernel))) (goodIn_sub (fun _ h => List.mem_cons_of_mem _ (List.mem_append_right _ h)) (by decide +kernel))
set_option maxRecDepth 20000 in
theorem gL_pass_X6_pass : GoodIn wsL_pass (wsV RL 41 RX6 yX6_pass wsX6_pass) := goodIn_app (goodIn_of _ (by decide +kernel)) ggL_pass_X6_pass
theorem dL_pass_0 : decode cL_pass 0 = .ok (.aload_n 2, 1) := by decide +kernel
theorem dL_pass_1 : decode cL_pass 1 = .ok (.iconst 0, 1) := by decide +kernel
theorem dL_pass_2 : decode cL_pass 2 = .ok (.aload_n 0, 1) := by decide +kernel
theorem dL_pass_3 : decode cL_pass 3 = .ok (.iload_n 1, 1) := by decide +kernel
theorem dL_pass_4 : decode cL_pass 4 = .ok (.invokevirtual 41, 3) := by decide +kernel
theorem dL_pass_7 : decode cL_pass 7 = .ok (.i2l, 1) := by decide +kernel
theorem dL_pass_8 : decode cL_pass 8 = .ok (.lastore, 1) := by decide +kernel
theorem dL_pass_9 : decode cL_pass 9 = .ok (.goto 9, 3) := by decide +kernel
theorem dL_pass_12 : decode cL_pass 12 = .ok (.astore_n 3, 1) := by decide +kernel
theorem dL_pass_13 : decode cL_pass 13 = .ok (.iconst 1, 1) := by decide +kernel
theorem dL_pass_14 : decode cL_pass 14 = .ok (.ireturn, 1) := by decide +kernel
theorem dL_pass_15 : decode cL_pass 15 = .ok (.astore_n 3, 1) := by decide +kernel
theorem dL_pass_16 : decode cL_pass 16 = .ok (.iconst 2, 1) := by decide +kernel
theorem dL_pass_17 : decode cL_pass 17 = .ok (.ireturn, 1) := by decide +kernel
theorem dL_pass_18 : decode cL_pass 18 = .ok (.iconst 0, 1) := by decide +kernel
theorem dL_pass_19 : decode cL_pass 19 = .ok (.ireturn, 1) := by decide +kernel
set_option maxRecDepth 20000 in
theorem ggL_holder_X6_holder : GoodIn wsL_holder wsX6_holder := goodIn_ca (goodIn_r _ [6, 7, 8, 9, 10, 11, 12, 5, 13, 14, 15, 16, 17, 18, 19, 20, 21, 22, 23, 24, 25, 26, 27, 28, 29, 30, 31, 32, 33, 34, 35, 36, 37, 38, 39, 40] (by decide +kernel) (by decide +kernel)) (goodIn_sub (fun _ h => List.mem_cons_of_mem _ (List.mem_append_right _ h)) (by decide +kernel))
set_option maxRecDepth 20000 in
theorem gL_holder_X6_holder : GoodIn wsL_holder (wsV RL 44 RX6 yX6_holder wsX6_holder) := goodIn_app (goodIn_of _ (by decide +kernel)) ggL_holder_X6_holder
theorem dL_holder_0 : decode cL_holder 0 = .ok (.aload_n 2, 1) := by decide +kernel
theorem dL_holder_1 : decode cL_holder 1 = .ok (.iconst 0, 1) := by decide +kernel
theorem dL_holder_2 : decode cL_holder 2 = .ok (.aload_n 0, 1) := by decide +kernel
theorem dL_holder_3 : decode cL_holder 3 = .ok (.iload_n 1, 1) := by decide +kernel
theorem dL_holder_4 : decode cL_holder 4 = .ok (.invokevirtual 44, 3) := by decide +kernel
theorem dL_holder_7 : decode cL_holder 7 = .ok (.i2l, 1) := by decide +kernel
theorem dL_holder_8 : decode cL_holder 8 = .ok (.lastore, 1) := by decide +kernel
theorem dL_holder_9 : decode cL_holder 9 = .ok (.goto 6, 3) := by decide +kernel
theorem dL_holder_12 : decode cL_holder 12 = .ok (.astore_n 3, 1) := by decide +kernel
theorem dL_holder_13 : decode cL_holder 13 = .ok (.iconst 1, 1) := by decide +kernel
theorem dL_holder_14 : decode cL_holder 14 = .ok (.ireturn, 1) := by decide +kernel
theorem dL_holder_15 : decode cL_holder 15 = .ok (.iconst 0, 1) := by decide +kernel
theorem dL_holder_16 : decode cL_holder 16 = .ok (.ireturn, 1) := by decide +kernel
set_option maxRecDepth 20000 in
theorem ggL_near_X6_near : GoodIn wsL_near wsX6_near := goodIn_ca (goodIn_r _ [6, 7, 8, 9, 5, 10, 11, 12, 13, 14, 15, 16, 17, 18, 19, 20, 21, 22, 23, 24, 25, 26, 27, 28, 29, 30, 31, 32, 33, 34, 35, 36, 37, 38, 39, 40, 41, 42, 43, 44] (by decide +kernel) (by decide +kernel)) (goodIn_sub (fun _ h => List.mem_cons_of_mem _ (List.mem_append_right _ h)) (by decide +kernel))
set_option maxRecDepth 20000 in
theorem gL_near_X6_near : GoodIn wsL_near (wsV RL 47 RX6 yX6_near wsX6_near) := goodIn_app (goodIn_of _ (by decide +kernel)) ggL_near_X6_near
theorem dL_near_0 : decode cL_near 0 = .ok (.aload_n 2, 1) := by decide +kernel
theorem dL_near_1 : decode cL_near 1 = .ok (.iconst 0, 1) := by decide +kernel
theorem dL_near_2 : decode cL_near 2 = .ok (.aload_n 0, 1) := by decide +kernel
theorem dL_near_3 : decode cL_near 3 = .ok (.iload_n 1, 1) := by decide +kernel
theorem dL_near_4 : decode cL_near 4 = .ok (.invokevirtual 47, 3) := by decide +kernel
theorem dL_near_7 : decode cL_near 7 = .ok (.i2l, 1) := by decide +kernel
theorem dL_near_8 : decode cL_near 8 = .ok (.lastore, 1) := by decide +kernel
theorem dL_near_9 : decode cL_near 9 = .ok (.goto 6, 3) := by decide +kernel
theorem dL_near_12 : decode cL_near 12 = .ok (.astore_n 3, 1) := by decide +kernel
theorem dL_near_13 : decode cL_near 13 = .ok (.iconst 1, 1) := by decide +kernel
theorem dL_near_14 : decode cL_near 14 = .ok (.ireturn, 1) := by decide +kernel
theorem dL_near_15 : decode cL_near 15 = .ok (.iconst 0, 1) := by decide +kernel
theorem dL_near_16 : decode cL_near 16 = .ok (.ireturn, 1) := by decide +kernel
set_option maxRecDepth 20000 in
theorem ggL_blots_X6_blots : GoodIn wsL_blots wsX6_blots := goodIn_ca (goodIn_r _ [6, 7, 8, 9, 5, 10, 11, 12, 13, 14, 15, 16, 17, 18, 19, 20, 21, 22, 23, 24, 25, 26, 27, 28, 29, 30, 31, 32, 33, 34, 35, 36, 37, 38] (by decide +kernel) (by decide +kernel)) (goodIn_sub (fun _ h => List.mem_cons_of_mem _ (List.mem_append_right _ h)) (by decide +kernel))
set_option maxRecDepth 20000 in
theorem gL_blots_X6_blots : GoodIn wsL_blots (wsV RL 50 RX6 yX6_blots wsX6_blots) := goodIn_app (goodIn_of _ (by decide +kernel)) ggL_blots_X6_blots
theorem dL_blots_0 : decode cL_blots 0 = .ok (.aload_n 2, 1) := by decide +kernel
theorem dL_blots_1 : decode cL_blots 1 = .ok (.iconst 0, 1) := by decide +kernel
theorem dL_blots_2 : decode cL_blots 2 = .ok (.aload_n 0, 1) := by decide +kernel
theorem dL_blots_3 : decode cL_blots 3 = .ok (.iload_n 1, 1) := by decide +kernel
theorem dL_blots_4 : decode cL_blots 4 = .ok (.invokevirtual 50, 3) := by decide +kernel
theorem dL_blots_7 : decode cL_blots 7 = .ok (.i2l, 1) := by decide +kernel
theorem dL_blots_8 : decode cL_blots 8 = .ok (.lastore, 1) := by decide +kernel
theorem dL_blots_9 : decode cL_blots 9 = .ok (.goto 6, 3) := by decide +kernel
theorem dL_blots_12 : decode cL_blots 12 = .ok (.astore_n 3, 1) := by decide +kernel
theorem dL_blots_13 : decode cL_blots 13 = .ok (.iconst 1, 1) := by decide +kernel
theorem dL_blots_14 : decode cL_blots 14 = .ok (.ireturn, 1) := by decide +kernel
theorem dL_blots_15 : decode cL_blots 15 = .ok (.iconst 0, 1) := by decide +kernel
theorem dL_blots_16 : decode cL_blots 16 = .ok (.ireturn, 1) := by decide +kernel
set_option maxRecDepth 20000 in
theorem ggL_rests_X6_rests : GoodIn wsL_rests wsX6_rests := goodIn_ca (goodIn_r _ [6, 7, 8, 9, 10, 5, 11, 12, 13, 14, 15, 16, 17, 18, 19, 20, 21, 22, 23, 24, 25, 26, 27, 28, 29, 30, 31, 32, 33, 34, 35, 36, 37, 38, 39] (by decide +kernel) (by decide +kernel)) (goodIn_sub (fun _ h => List.mem_cons_of_mem _ (List.mem_append_right _ h)) (by decide +kernel))
set_option maxRecDepth 20000 in
theorem gL_rests_X6_rests : GoodIn wsL_rests (wsV RL 53 RX6 yX6_rests wsX6_rests) := goodIn_app (goodIn_of _ (by decide +kernel)) ggL_rests_X6_rests
theorem dL_rests_0 : decode cL_rests 0 = .ok (.aload_n 2, 1) := by decide +kernel
theorem dL_rests_1 : decode cL_rests 1 = .ok (.iconst 0, 1) := by decide +kernel
theorem dL_rests_2 : decode cL_rests 2 = .ok (.aload_n 0, 1) := by decide +kernel
theorem dL_rests_3 : decode cL_rests 3 = .ok (.iload_n 1, 1) := by decide +kernel
theorem dL_rests_4 : decode cL_rests 4 = .ok (.invokevirtual 53, 3) := by decide +kernel
theorem dL_rests_7 : decode cL_rests 7 = .ok (.ifCond .eq 7, 3) := by decide +kernel
theorem dL_rests_10 : decode cL_rests 10 = .ok (.lconst 1, 1) := by decide +kernel
theorem dL_rests_11 : decode cL_rests 11 = .ok (.goto 4, 3) := by decide +kernel
theorem dL_rests_14 : decode cL_rests 14 = .ok (.lconst 0, 1) := by decide +kernel
theorem dL_rests_15 : decode cL_rests 15 = .ok (.lastore, 1) := by decide +kernel
theorem dL_rests_16 : decode cL_rests 16 = .ok (.goto 6, 3) := by decide +kernel
theorem dL_rests_19 : decode cL_rests 19 = .ok (.astore_n 3, 1) := by decide +kernel
theorem dL_rests_20 : decode cL_rests 20 = .ok (.iconst 1, 1) := by decide +kernel
theorem dL_rests_21 : decode cL_rests 21 = .ok (.ireturn, 1) := by decide +kernel
theorem dL_rests_22 : decode cL_rests 22 = .ok (.iconst 0, 1) := by decide +kernel
theorem dL_rests_23 : decode cL_rests 23 = .ok (.ireturn, 1) := by decide +kernel
set_option maxRecDepth 20000 in
theorem ggL_calls_X6_calls : GoodIn wsL_calls wsX6_calls := goodIn_ca (goodIn_r _ [6, 7, 8, 9, 5, 10, 11, 12, 13, 14, 15, 16, 17, 18, 19, 20, 21, 22, 23, 24, 25, 26, 27, 28, 29, 30, 31, 32, 33, 34, 35, 36, 37, 38, 39] (by decide +kernel) (by decide +kernel)) (goodIn_sub (fun _ h => List.mem_cons_of_mem _ (List.mem_append_right _ h)) (by decide +kernel))
set_option maxRecDepth 20000 in
theorem gL_calls_X6_calls : GoodIn wsL_calls (wsV RL 57 RX6 yX6_calls wsX6_calls) := goodIn_app (goodIn_of _ (by decide +kernel)) ggL_calls_X6_calls
theorem dL_calls_0 : decode cL_calls 0 = .ok (.aload_n 3, 1) := by decide +kernel
theorem dL_calls_1 : decode cL_calls 1 = .ok (.iconst 0, 1) := by decide +kernel
theorem dL_calls_2 : decode cL_calls 2 = .ok (.aload_n 0, 1) := by decide +kernel
theorem dL_calls_3 : decode cL_calls 3 = .ok (.iload_n 1, 1) := by decide +kernel
theorem dL_calls_4 : decode cL_calls 4 = .ok (.iload_n 2, 1) := by decide +kernel
theorem dL_calls_5 : decode cL_calls 5 = .ok (.invokevirtual 57, 3) := by decide +kernel
theorem dL_calls_8 : decode cL_calls 8 = .ok (.i2l, 1) := by decide +kernel
theorem dL_calls_9 : decode cL_calls 9 = .ok (.lastore, 1) := by decide +kernel
theorem dL_calls_10 : decode cL_calls 10 = .ok (.goto 7, 3) := by decide +kernel
theorem dL_calls_13 : decode cL_calls 13 = .ok (.astore 4, 2) := by decide +kernel
theorem dL_calls_15 : decode cL_calls 15 = .ok (.iconst 1, 1) := by decide +kernel
theorem dL_calls_16 : decode cL_calls 16 = .ok (.ireturn, 1) := by decide +kernel
theorem dL_calls_17 : decode cL_calls 17 = .ok (.iconst 0, 1) := by decide +kernel
theorem dL_calls_18 : decode cL_calls 18 = .ok (.ireturn, 1) := by decide +kernel
set_option maxRecDepth 20000 in
theorem ggL_version_X6_version : GoodIn wsL_version wsX6_version := goodIn_ca (goodIn_r _ [6, 7, 8, 5, 9, 10, 11, 12, 13, 14, 15, 16, 17, 18, 19, 20, 21, 22, 23, 24, 25, 26, 27, 28, 29, 30, 31, 32, 33, 34, 35, 36, 37, 38, 39, 40, 41, 42, 43, 44, 45, 46, 47] (by decide +kernel) (by decide +kernel)) (goodIn_sub (fun _ h => List.mem_cons_of_mem _ (List.mem_append_right _ h)) (by decide +kernel))
set_option maxRecDepth 20000 in
theorem gL_version_X6_version : GoodIn wsL_version (wsV RL 61 RX6 yX6_version wsX6_version) := goodIn_app (goodIn_of _ (by decide +kernel)) ggL_version_X6_version
theorem dL_version_0 : decode cL_version 0 = .ok (.aload_n 2, 1) := by decide +kernel
theorem dL_version_1 : decode cL_version 1 = .ok (.iconst 0, 1) := by decide +kernel
theorem dL_version_2 : decode cL_version 2 = .ok (.aload_n 0, 1) := by decide +kernel
theorem dL_version_3 : decode cL_version 3 = .ok (.iload_n 1, 1) := by decide +kernel
theorem dL_version_4 : decode cL_version 4 = .ok (.invokevirtual 61, 3) := by decide +kernel
theorem dL_version_7 : decode cL_version 7 = .ok (.i2l, 1) := by decide +kernel
theorem dL_version_8 : decode cL_version 8 = .ok (.lastore, 1) := by decide +kernel
theorem dL_version_9 : decode cL_version 9 = .ok (.goto 6, 3) := by decide +kernel
theorem dL_version_12 : decode cL_version 12 = .ok (.astore_n 3, 1) := by decide +kernel
theorem dL_version_13 : decode cL_version 13 = .ok (.iconst 1, 1) := by decide +kernel
theorem dL_version_14 : decode cL_version 14 = .ok (.ireturn, 1) := by decide +kernel
theorem dL_version_15 : decode cL_version 15 = .ok (.iconst 0, 1) := by decide +kernel
theorem dL_version_16 : decode cL_version 16 = .ok (.ireturn, 1) := by decide +kernel
set_option maxRecDepth 20000 in
theorem ggL_level_X6_level : GoodIn wsL_level wsX6_level := goodIn_ca (goodIn_r _ [6, 7, 8, 9, 5, 10, 11, 12, 13, 14, 15, 16, 17, 18, 19, 20, 21, 22, 23, 24, 25, 26, 27, 28, 29, 30, 31, 32, 33, 34, 35, 36, 37, 38, 39, 40, 41, 42, 43] (by decide +kernel) (by decide +kernel)) (goodIn_sub (fun _ h => List.mem_cons_of_mem _ (List.mem_append_right _ h)) (by decide +kernel))
set_option maxRecDepth 20000 in
theorem gL_level_X6_level : GoodIn wsL_level (wsV RL 64 RX6 yX6_level wsX6_level) := goodIn_app (goodIn_of _ (by decide +kernel)) ggL_level_X6_level
theorem dL_level_0 : decode cL_level 0 = .ok (.aload_n 2, 1) := by decide +kernel
theorem dL_level_1 : decode cL_level 1 = .ok (.iconst 0, 1) := by decide +kernel
theorem dL_level_2 : decode cL_level 2 = .ok (.aload_n 0, 1) := by decide +kernel
theorem dL_level_3 : decode cL_level 3 = .ok (.iload_n 1, 1) := by decide +kernel
theorem dL_level_4 : decode cL_level 4 = .ok (.invokevirtual 64, 3) := by decide +kernel
theorem dL_level_7 : decode cL_level 7 = .ok (.i2l, 1) := by decide +kernel
theorem dL_level_8 : decode cL_level 8 = .ok (.lastore, 1) := by decide +kernel
theorem dL_level_9 : decode cL_level 9 = .ok (.goto 6, 3) := by decide +kernel
theorem dL_level_12 : decode cL_level 12 = .ok (.astore_n 3, 1) := by decide +kernel
theorem dL_level_13 : decode cL_level 13 = .ok (.iconst 1, 1) := by decide +kernel
theorem dL_level_14 : decode cL_level 14 = .ok (.ireturn, 1) := by decide +kernel
theorem dL_level_15 : decode cL_level 15 = .ok (.iconst 0, 1) := by decide +kernel
theorem dL_level_16 : decode cL_level 16 = .ok (.ireturn, 1) := by decide +kernel
set_option maxRecDepth 20000 in
theorem ggL_isOn_X6_isOn : GoodIn wsL_isOn wsX6_isOn := goodIn_ca (goodIn_r _ [6, 7, 8, 9, 5, 10, 11, 12, 13, 14, 15, 16, 17, 18, 19, 20, 21, 22, 23, 24, 25, 26, 27, 28, 29, 30, 31, 32, 33, 34, 35, 36, 37, 38, 39, 40, 41, 42, 43, 44, 45, 46, 47, 48, 49, 50, 51, 52, 53, 54, 55, 56, 57, 58, 59, 60, 61, 62, 63, 64, 65, 66] (by decide +kernel) (by decide +kernel)) (goodIn_sub (fun _ h => List.mem_cons_of_mem _ (List.mem_append_right _ h)) (by decide +kernel))
set_option maxRecDepth 20000 in
theorem gL_isOn_X6_isOn : GoodIn wsL_isOn (wsV RL 67 RX6 yX6_isOn wsX6_isOn) := goodIn_app (goodIn_of _ (by decide +kernel)) ggL_isOn_X6_isOn
theorem dL_isOn_0 : decode cL_isOn 0 = .ok (.aload_n 3, 1) := by decide +kernel
theorem dL_isOn_1 : decode cL_isOn 1 = .ok (.iconst 0, 1) := by decide +kernel
theorem dL_isOn_2 : decode cL_isOn 2 = .ok (.aload_n 0, 1) := by decide +kernel
theorem dL_isOn_3 : decode cL_isOn 3 = .ok (.iload_n 1, 1) := by decide +kernel
theorem dL_isOn_4 : decode cL_isOn 4 = .ok (.iload_n 2, 1) := by decide +kernel
theorem dL_isOn_5 : decode cL_isOn 5 = .ok (.invokevirtual 67, 3) := by decide +kernel
theorem dL_isOn_8 : decode cL_isOn 8 = .ok (.ifCond .eq 7, 3) := by decide +kernel
theorem dL_isOn_11 : decode cL_isOn 11 = .ok (.lconst 1, 1) := by decide +kernel
theorem dL_isOn_12 : decode cL_isOn 12 = .ok (.goto 4, 3) := by decide +kernel
theorem dL_isOn_15 : decode cL_isOn 15 = .ok (.lconst 0, 1) := by decide +kernel
theorem dL_isOn_16 : decode cL_isOn 16 = .ok (.lastore, 1) := by decide +kernel
theorem dL_isOn_17 : decode cL_isOn 17 = .ok (.goto 7, 3) := by decide +kernel
theorem dL_isOn_20 : decode cL_isOn 20 = .ok (.astore 4, 2) := by decide +kernel
theorem dL_isOn_22 : decode cL_isOn 22 = .ok (.iconst 1, 1) := by decide +kernel
theorem dL_isOn_23 : decode cL_isOn 23 = .ok (.ireturn, 1) := by decide +kernel
theorem dL_isOn_24 : decode cL_isOn 24 = .ok (.iconst 0, 1) := by decide +kernel
theorem dL_isOn_25 : decode cL_isOn 25 = .ok (.ireturn, 1) := by decide +kernel
set_option maxRecDepth 20000 in
theorem ggL_isFaulty_X6_isFaulty : GoodIn wsL_isFaulty wsX6_isFaulty := goodIn_ca (goodIn_r _ [6, 7, 8, 5, 9, 10, 11, 12, 13, 14, 15, 16, 17, 18, 19, 20, 21, 22, 23, 24, 25, 26, 27, 28, 29, 30, 31, 32, 33, 34, 35, 36, 37, 38, 39, 40, 41, 42, 43, 44, 45, 46, 47, 48, 49, 50, 51, 52, 53, 54, 55, 56, 57, 58, 59, 60, 61, 62, 63, 64, 65, 66, 67, 68, 69, 70, 71, 72, 73, 74, 75, 76, 77, 78, 79, 80, 81, 82] (by decide +kernel) (by decide +kernel)) (goodIn_sub (fun _ h => List.mem_cons_of_mem _ (List.mem_append_right _ h)) (by decide +kernel))
set_option maxRecDepth 20000 in
theorem gL_isFaulty_X6_isFaulty : GoodIn wsL_isFaulty (wsV RL 71 RX6 yX6_isFaulty wsX6_isFaulty) := goodIn_app (goodIn_of _ (by decide +kernel)) ggL_isFaulty_X6_isFaulty
theorem dL_isFaulty_0 : decode cL_isFaulty 0 = .ok (.aload_n 2, 1) := by decide +kernel
theorem dL_isFaulty_1 : decode cL_isFaulty 1 = .ok (.iconst 0, 1) := by decide +kernel
theorem dL_isFaulty_2 : decode cL_isFaulty 2 = .ok (.aload_n 0, 1) := by decide +kernel
theorem dL_isFaulty_3 : decode cL_isFaulty 3 = .ok (.iload_n 1, 1) := by decide +kernel
theorem dL_isFaulty_4 : decode cL_isFaulty 4 = .ok (.invokevirtual 71, 3) := by decide +kernel
theorem dL_isFaulty_7 : decode cL_isFaulty 7 = .ok (.ifCond .eq 7, 3) := by decide +kernel
theorem dL_isFaulty_10 : decode cL_isFaulty 10 = .ok (.lconst 1, 1) := by decide +kernel
theorem dL_isFaulty_11 : decode cL_isFaulty 11 = .ok (.goto 4, 3) := by decide +kernel
theorem dL_isFaulty_14 : decode cL_isFaulty 14 = .ok (.lconst 0, 1) := by decide +kernel
theorem dL_isFaulty_15 : decode cL_isFaulty 15 = .ok (.lastore, 1) := by decide +kernel
theorem dL_isFaulty_16 : decode cL_isFaulty 16 = .ok (.goto 6, 3) := by decide +kernel
theorem dL_isFaulty_19 : decode cL_isFaulty 19 = .ok (.astore_n 3, 1) := by decide +kernel
theorem dL_isFaulty_20 : decode cL_isFaulty 20 = .ok (.iconst 1, 1) := by decide +kernel
theorem dL_isFaulty_21 : decode cL_isFaulty 21 = .ok (.ireturn, 1) := by decide +kernel
theorem dL_isFaulty_22 : decode cL_isFaulty 22 = .ok (.iconst 0, 1) := by decide +kernel
theorem dL_isFaulty_23 : decode cL_isFaulty 23 = .ok (.ireturn, 1) := by decide +kernel
set_option maxRecDepth 20000 in
theorem ggL_rollable_X6_rollable : GoodIn wsL_rollable wsX6_rollable := goodIn_ca (goodIn_r _ [6, 7, 8, 9, 5, 10, 11, 12, 13, 14, 15, 16, 17, 18, 19, 20, 21, 22, 23, 24, 25, 26, 27, 28, 29, 30, 31, 32, 33, 34, 35, 36, 37, 38, 39, 40, 41, 42, 43, 44, 45, 46, 47, 48, 49, 50, 51, 52, 53, 54, 55, 56, 57, 58, 59, 60, 61, 62, 63, 64, 65, 66, 67, 68, 69, 70, 71, 72, 73] (by decide +kernel) (by decide +kernel)) (goodIn_sub (fun _ h => List.mem_cons_of_mem _ (List.mem_append_right _ h)) (by decide +kernel))
set_option maxRecDepth 20000 in
theorem gL_rollable_X6_rollable : GoodIn wsL_rollable (wsV RL 74 RX6 yX6_rollable wsX6_rollable) := goodIn_app (goodIn_of _ (by decide +kernel)) ggL_rollable_X6_rollable
theorem dL_rollable_0 : decode cL_rollable 0 = .ok (.aload_n 2, 1) := by decide +kernel
theorem dL_rollable_1 : decode cL_rollable 1 = .ok (.iconst 0, 1) := by decide +kernel
theorem dL_rollable_2 : decode cL_rollable 2 = .ok (.aload_n 0, 1) := by decide +kernel
theorem dL_rollable_3 : decode cL_rollable 3 = .ok (.iload_n 1, 1) := by decide +kernel
theorem dL_rollable_4 : decode cL_rollable 4 = .ok (.invokevirtual 74, 3) := by decide +kernel
theorem dL_rollable_7 : decode cL_rollable 7 = .ok (.i2l, 1) := by decide +kernel
theorem dL_rollable_8 : decode cL_rollable 8 = .ok (.lastore, 1) := by decide +kernel
theorem dL_rollable_9 : decode cL_rollable 9 = .ok (.goto 6, 3) := by decide +kernel
theorem dL_rollable_12 : decode cL_rollable 12 = .ok (.astore_n 3, 1) := by decide +kernel
theorem dL_rollable_13 : decode cL_rollable 13 = .ok (.iconst 1, 1) := by decide +kernel
theorem dL_rollable_14 : decode cL_rollable 14 = .ok (.ireturn, 1) := by decide +kernel
theorem dL_rollable_15 : decode cL_rollable 15 = .ok (.iconst 0, 1) := by decide +kernel
theorem dL_rollable_16 : decode cL_rollable 16 = .ok (.ireturn, 1) := by decide +kernel
set_option maxRecDepth 20000 in
theorem ggL_change_X6_change : GoodIn wsL_change wsX6_change := goodIn_ca (goodIn_r _ [6, 7, 8, 9, 10, 5, 11, 12, 13, 14, 15, 16, 17, 18, 19, 20, 21, 22, 23, 24, 25, 26, 27, 28, 29, 30, 31, 32, 33, 34, 35, 36, 37, 38, 39, 40, 41, 42, 43, 44, 45, 46, 47, 48, 49, 50, 51, 52, 53, 54, 55, 56, 57, 58] (by decide +kernel) (by decide +kernel)) (goodIn_sub (fun _ h => List.mem_cons_of_mem _ (List.mem_append_right _ h)) (by decide +kernel))
set_option maxRecDepth 20000 in
theorem gL_change_X6_change : GoodIn wsL_change (wsV RL 77 RX6 yX6_change wsX6_change) := goodIn_app (goodIn_of _ (by decide +kernel)) ggL_change_X6_change
theorem dL_change_0 : decode cL_change 0 = .ok (.aload_n 2, 1) := by decide +kernel
theorem dL_change_1 : decode cL_change 1 = .ok (.iconst 0, 1) := by decide +kernel
theorem dL_change_2 : decode cL_change 2 = .ok (.aload_n 0, 1) := by decide +kernel
theorem dL_change_3 : decode cL_change 3 = .ok (.iload_n 1, 1) := by decide +kernel
theorem dL_change_4 : decode cL_change 4 = .ok (.invokevirtual 77, 3) := by decide +kernel
theorem dL_change_7 : decode cL_change 7 = .ok (.i2l, 1) := by decide +kernel
theorem dL_change_8 : decode cL_change 8 = .ok (.lastore, 1) := by decide +kernel
theorem dL_change_9 : decode cL_change 9 = .ok (.goto 6, 3) := by decide +kernel
theorem dL_change_12 : decode cL_change 12 = .ok (.astore_n 3, 1) := by decide +kernel
theorem dL_change_13 : decode cL_change 13 = .ok (.iconst 1, 1) := by decide +kernel
theorem dL_change_14 : decode cL_change 14 = .ok (.ireturn, 1) := by decide +kernel
theorem dL_change_15 : decode cL_change 15 = .ok (.iconst 0, 1) := by decide +kernel
theorem dL_change_16 : decode cL_change 16 = .ok (.ireturn, 1) := by decide +kernel
set_option maxRecDepth 20000 in
theorem ggL_madeAt_X6_madeAt : GoodIn wsL_madeAt wsX6_madeAt := goodIn_ca (goodIn_r _ [6, 7, 8, 9, 10, 5, 11, 12, 13, 14, 15, 16, 17, 18, 19, 20, 21, 22, 23, 24, 25, 26, 27, 28, 29, 30, 31, 32, 33, 34, 35, 36, 37, 38, 39, 40, 41, 42, 43, 44, 45] (by decide +kernel) (by decide +kernel)) (goodIn_sub (fun _ h => List.mem_cons_of_mem _ (List.mem_append_right _ h)) (by decide +kernel))
set_option maxRecDepth 20000 in
theorem gL_madeAt_X6_madeAt : GoodIn wsL_madeAt (wsV RL 80 RX6 yX6_madeAt wsX6_madeAt) := goodIn_app (goodIn_of _ (by decide +kernel)) ggL_madeAt_X6_madeAt
theorem dL_madeAt_0 : decode cL_madeAt 0 = .ok (.aload_n 2, 1) := by decide +kernel
theorem dL_madeAt_1 : decode cL_madeAt 1 = .ok (.iconst 0, 1) := by decide +kernel
theorem dL_madeAt_2 : decode cL_madeAt 2 = .ok (.aload_n 0, 1) := by decide +kernel
theorem dL_madeAt_3 : decode cL_madeAt 3 = .ok (.iload_n 1, 1) := by decide +kernel
theorem dL_madeAt_4 : decode cL_madeAt 4 = .ok (.invokevirtual 80, 3) := by decide +kernel
theorem dL_madeAt_7 : decode cL_madeAt 7 = .ok (.i2l, 1) := by decide +kernel
theorem dL_madeAt_8 : decode cL_madeAt 8 = .ok (.lastore, 1) := by decide +kernel
theorem dL_madeAt_9 : decode cL_madeAt 9 = .ok (.goto 6, 3) := by decide +kernel
theorem dL_madeAt_12 : decode cL_madeAt 12 = .ok (.astore_n 3, 1) := by decide +kernel
theorem dL_madeAt_13 : decode cL_madeAt 13 = .ok (.iconst 1, 1) := by decide +kernel
theorem dL_madeAt_14 : decode cL_madeAt 14 = .ok (.ireturn, 1) := by decide +kernel
theorem dL_madeAt_15 : decode cL_madeAt 15 = .ok (.iconst 0, 1) := by decide +kernel
theorem dL_madeAt_16 : decode cL_madeAt 16 = .ok (.ireturn, 1) := by decide +kernel
set_option maxRecDepth 20000 in
theorem ggL_heals_X6_heals : GoodIn wsL_heals wsX6_heals := goodIn_ca (goodIn_r _ [6, 7, 8, 9, 5, 10, 11, 12, 13, 14, 15, 16, 17, 18, 19, 20, 21, 22, 23, 24, 25, 26, 27, 28, 29, 30, 31, 32, 33, 34, 35, 36, 37, 38, 39, 40, 41, 42, 43, 44, 45, 46, 47, 48, 49, 50, 51, 52, 53, 54, 55, 56, 57, 58, 59, 60, 61, 62, 63, 64, 65, 66, 67, 68, 69, 70, 71, 72, 73, 74, 75, 76, 77, 78, 79, 80, 81, 82, 83, 84, 85, 86, 87, 88, 89, 90, 91, 92, 93, 94, 95, 96, 97, 98, 99, 100, 101, 102, 103, 104, 105, 106, 107, 108] (by decide +kernel) (by decide +kernel)) (goodIn_sub (fun _ h => List.mem_cons_of_mem _ (List.mem_append_right _ h)) (by decide +kernel))
set_option maxRecDepth 20000 in
theorem gL_heals_X6_heals : GoodIn wsL_heals (wsV RL 83 RX6 yX6_heals wsX6_heals) := goodIn_app (goodIn_of _ (by decide +kernel)) ggL_heals_X6_heals
theorem dL_heals_0 : decode cL_heals 0 = .ok (.aload_n 3, 1) := by decide +kernel
theorem dL_heals_1 : decode cL_heals 1 = .ok (.iconst 0, 1) := by decide +kernel
theorem dL_heals_2 : decode cL_heals 2 = .ok (.aload_n 0, 1) := by decide +kernel
theorem dL_heals_3 : decode cL_heals 3 = .ok (.iload_n 1, 1) := by decide +kernel
theorem dL_heals_4 : decode cL_heals 4 = .ok (.iload_n 2, 1) := by decide +kernel
theorem dL_heals_5 : decode cL_heals 5 = .ok (.invokevirtual 83, 3) := by decide +kernel
theorem dL_heals_8 : decode cL_heals 8 = .ok (.ifCond .eq 7, 3) := by decide +kernel
theorem dL_heals_11 : decode cL_heals 11 = .ok (.lconst 1, 1) := by decide +kernel
theorem dL_heals_12 : decode cL_heals 12 = .ok (.goto 4, 3) := by decide +kernel
theorem dL_heals_15 : decode cL_heals 15 = .ok (.lconst 0, 1) := by decide +kernel
theorem dL_heals_16 : decode cL_heals 16 = .ok (.lastore, 1) := by decide +kernel
theorem dL_heals_17 : decode cL_heals 17 = .ok (.goto 7, 3) := by decide +kernel
theorem dL_heals_20 : decode cL_heals 20 = .ok (.astore 4, 2) := by decide +kernel
theorem dL_heals_22 : decode cL_heals 22 = .ok (.iconst 1, 1) := by decide +kernel
theorem dL_heals_23 : decode cL_heals 23 = .ok (.ireturn, 1) := by decide +kernel
theorem dL_heals_24 : decode cL_heals 24 = .ok (.iconst 0, 1) := by decide +kernel
theorem dL_heals_25 : decode cL_heals 25 = .ok (.ireturn, 1) := by decide +kernel
set_option maxRecDepth 20000 in
theorem ggL_trace_X6_trace : GoodIn wsL_trace wsX6_trace := goodIn_ca (goodIn_r _ [6, 7, 8, 5, 9, 10, 11, 12, 13, 14, 15, 16, 17, 18, 19, 20, 21, 22, 23, 24, 25, 26, 27, 28, 29, 30, 31, 32, 33, 34, 35, 36, 37, 38, 39, 40, 41, 42, 43, 44, 45, 46, 47, 48, 49, 50, 51, 52, 53, 54, 55, 56, 57, 58, 59, 60, 61, 62, 63, 64, 65, 66, 67, 68, 69, 70, 71, 72, 73, 74, 75, 76, 77, 78, 79, 80, 81, 82, 83, 84, 85, 86, 87, 88, 89, 90, 91, 92, 93, 94, 95, 96, 97, 98, 99, 100, 101, 102, 103, 104, 105, 106, 107] (by decide +kernel) (by decide +kernel)) (goodIn_sub (fun _ h => List.mem_cons_of_mem _ (List.mem_append_right _ h)) (by decide +kernel))
set_option maxRecDepth 20000 in
theorem gL_trace_X6_trace : GoodIn wsL_trace (wsV RL 86 RX6 yX6_trace wsX6_trace) := goodIn_app (goodIn_of _ (by decide +kernel)) ggL_trace_X6_trace
theorem dL_trace_0 : decode cL_trace 0 = .ok (.aload_n 2, 1) := by decide +kernel
theorem dL_trace_1 : decode cL_trace 1 = .ok (.iconst 0, 1) := by decide +kernel
theorem dL_trace_2 : decode cL_trace 2 = .ok (.aload_n 0, 1) := by decide +kernel
theorem dL_trace_3 : decode cL_trace 3 = .ok (.iload_n 1, 1) := by decide +kernel
theorem dL_trace_4 : decode cL_trace 4 = .ok (.invokevirtual 86, 3) := by decide +kernel
theorem dL_trace_7 : decode cL_trace 7 = .ok (.i2l, 1) := by decide +kernel
theorem dL_trace_8 : decode cL_trace 8 = .ok (.lastore, 1) := by decide +kernel
theorem dL_trace_9 : decode cL_trace 9 = .ok (.goto 6, 3) := by decide +kernel
theorem dL_trace_12 : decode cL_trace 12 = .ok (.astore_n 3, 1) := by decide +kernel
theorem dL_trace_13 : decode cL_trace 13 = .ok (.iconst 1, 1) := by decide +kernel
theorem dL_trace_14 : decode cL_trace 14 = .ok (.ireturn, 1) := by decide +kernel
theorem dL_trace_15 : decode cL_trace 15 = .ok (.iconst 0, 1) := by decide +kernel
theorem dL_trace_16 : decode cL_trace 16 = .ok (.ireturn, 1) := by decide +kernel
set_option maxRecDepth 20000 in
theorem ggL_traceByTrying_X6_traceByTrying : GoodIn wsL_traceByTrying wsX6_traceByTrying := goodIn_ca (goodIn_r _ [6, 7, 8, 9, 5, 10, 11, 12, 13, 14, 15, 16, 17, 18, 19, 20, 21, 22, 23, 24, 25, 26, 27, 28, 29, 30, 31, 32, 33, 34, 35, 36, 37, 38, 39, 40, 41, 42, 43, 44, 45, 46, 47, 48, 49, 50, 51, 52, 53, 54, 55, 56, 57, 58, 59, 60, 61, 62, 63, 64, 65, 66, 67, 68, 69, 70, 71, 72, 73, 74, 75, 76, 77, 78, 79, 80, 81, 82, 83, 84, 85, 86, 87, 88, 89, 90, 91, 92, 93, 94, 95, 96, 97, 98, 99, 100, 101, 102, 103, 104] (by decide +kernel) (by decide +kernel)) (goodIn_sub (fun _ h => List.mem_cons_of_mem _ (List.mem_append_right _ h)) (by decide +kernel))
set_option maxRecDepth 20000 in
theorem gL_traceByTrying_X6_traceByTrying : GoodIn wsL_traceByTrying (wsV RL 89 RX6 yX6_traceByTrying wsX6_traceByTrying) := goodIn_app (goodIn_of _ (by decide +kernel)) ggL_traceByTrying_X6_traceByTrying
theorem dL_traceByTrying_0 : decode cL_traceByTrying 0 = .ok (.aload_n 2, 1) := by decide +kernel
theorem dL_traceByTrying_1 : decode cL_traceByTrying 1 = .ok (.iconst 0, 1) := by decide +kernel
theorem dL_traceByTrying_2 : decode cL_traceByTrying 2 = .ok (.aload_n 0, 1) := by decide +kernel
theorem dL_traceByTrying_3 : decode cL_traceByTrying 3 = .ok (.iload_n 1, 1) := by decide +kernel
theorem dL_traceByTrying_4 : decode cL_traceByTrying 4 = .ok (.invokevirtual 89, 3) := by decide +kernel
theorem dL_traceByTrying_7 : decode cL_traceByTrying 7 = .ok (.i2l, 1) := by decide +kernel
theorem dL_traceByTrying_8 : decode cL_traceByTrying 8 = .ok (.lastore, 1) := by decide +kernel
theorem dL_traceByTrying_9 : decode cL_traceByTrying 9 = .ok (.goto 6, 3) := by decide +kernel
theorem dL_traceByTrying_12 : decode cL_traceByTrying 12 = .ok (.astore_n 3, 1) := by decide +kernel
theorem dL_traceByTrying_13 : decode cL_traceByTrying 13 = .ok (.iconst 1, 1) := by decide +kernel
theorem dL_traceByTrying_14 : decode cL_traceByTrying 14 = .ok (.ireturn, 1) := by decide +kernel
theorem dL_traceByTrying_15 : decode cL_traceByTrying 15 = .ok (.iconst 0, 1) := by decide +kernel
theorem dL_traceByTrying_16 : decode cL_traceByTrying 16 = .ok (.ireturn, 1) := by decide +kernel
set_option maxRecDepth 20000 in
theorem ggL_openIn_X6_openIn : GoodIn wsL_openIn wsX6_openIn := goodIn_ca (goodIn_r _ [6, 7, 8, 9, 5, 10, 11, 12, 13, 14, 15, 16, 17, 18, 19, 20, 21, 22, 23, 24, 25, 26, 27, 28, 29, 30, 31, 32, 33, 34, 35, 36, 37, 38, 39] (by decide +kernel) (by decide +kernel)) (goodIn_sub (fun _ h => List.mem_cons_of_mem _ (List.mem_append_right _ h)) (by decide +kernel))
set_option maxRecDepth 20000 in
theorem gL_openIn_X6_openIn : GoodIn wsL_openIn (wsV RL 92 RX6 yX6_openIn wsX6_openIn) := goodIn_app (goodIn_of _ (by decide +kernel)) ggL_openIn_X6_openIn
theorem dL_openIn_0 : decode cL_openIn 0 = .ok (.aload_n 2, 1) := by decide +kernel
theorem dL_openIn_1 : decode cL_openIn 1 = .ok (.iconst 0, 1) := by decide +kernel
theorem dL_openIn_2 : decode cL_openIn 2 = .ok (.aload_n 0, 1) := by decide +kernel
theorem dL_openIn_3 : decode cL_openIn 3 = .ok (.iload_n 1, 1) := by decide +kernel
theorem dL_openIn_4 : decode cL_openIn 4 = .ok (.invokevirtual 92, 3) := by decide +kernel
theorem dL_openIn_7 : decode cL_openIn 7 = .ok (.i2l, 1) := by decide +kernel
theorem dL_openIn_8 : decode cL_openIn 8 = .ok (.lastore, 1) := by decide +kernel
theorem dL_openIn_9 : decode cL_openIn 9 = .ok (.goto 6, 3) := by decide +kernel
theorem dL_openIn_12 : decode cL_openIn 12 = .ok (.astore_n 3, 1) := by decide +kernel
theorem dL_openIn_13 : decode cL_openIn 13 = .ok (.iconst 1, 1) := by decide +kernel
theorem dL_openIn_14 : decode cL_openIn 14 = .ok (.ireturn, 1) := by decide +kernel
theorem dL_openIn_15 : decode cL_openIn 15 = .ok (.iconst 0, 1) := by decide +kernel
theorem dL_openIn_16 : decode cL_openIn 16 = .ok (.ireturn, 1) := by decide +kernel
set_option maxRecDepth 20000 in
theorem ggL_openedAt_X6_openedAt : GoodIn wsL_openedAt wsX6_openedAt := goodIn_ca (goodIn_r _ [6, 7, 8, 9, 10, 5, 11, 12, 13, 14, 15, 16, 17, 18, 19, 20, 21, 22, 23, 24, 25, 26, 27, 28, 29, 30, 31, 32, 33, 34, 35, 36, 37, 38, 39, 40, 41, 42, 43, 44, 45, 46, 47, 48, 49, 50] (by decide +kernel) (by decide +kernel)) (goodIn_sub (fun _ h => List.mem_cons_of_mem _ (List.mem_append_right _ h)) (by decide +kernel))
set_option maxRecDepth 20000 in
theorem gL_openedAt_X6_openedAt : GoodIn wsL_openedAt (wsV RL 95 RX6 yX6_openedAt wsX6_openedAt) := goodIn_app (goodIn_of _ (by decide +kernel)) ggL_openedAt_X6_openedAt
theorem dL_openedAt_0 : decode cL_openedAt 0 = .ok (.aload_n 2, 1) := by decide +kernel
theorem dL_openedAt_1 : decode cL_openedAt 1 = .ok (.iconst 0, 1) := by decide +kernel
theorem dL_openedAt_2 : decode cL_openedAt 2 = .ok (.aload_n 0, 1) := by decide +kernel
theorem dL_openedAt_3 : decode cL_openedAt 3 = .ok (.iload_n 1, 1) := by decide +kernel
theorem dL_openedAt_4 : decode cL_openedAt 4 = .ok (.invokevirtual 95, 3) := by decide +kernel
theorem dL_openedAt_7 : decode cL_openedAt 7 = .ok (.i2l, 1) := by decide +kernel
theorem dL_openedAt_8 : decode cL_openedAt 8 = .ok (.lastore, 1) := by decide +kernel
theorem dL_openedAt_9 : decode cL_openedAt 9 = .ok (.goto 6, 3) := by decide +kernel
theorem dL_openedAt_12 : decode cL_openedAt 12 = .ok (.astore_n 3, 1) := by decide +kernel
theorem dL_openedAt_13 : decode cL_openedAt 13 = .ok (.iconst 1, 1) := by decide +kernel
theorem dL_openedAt_14 : decode cL_openedAt 14 = .ok (.ireturn, 1) := by decide +kernel
theorem dL_openedAt_15 : decode cL_openedAt 15 = .ok (.iconst 0, 1) := by decide +kernel
theorem dL_openedAt_16 : decode cL_openedAt 16 = .ok (.ireturn, 1) := by decide +kernel
set_option maxRecDepth 20000 in
theorem ggL_closedAt_X6_closedAt : GoodIn wsL_closedAt wsX6_closedAt := goodIn_ca (goodIn_r _ [6, 7, 8, 9, 10, 5, 11, 12, 13, 14, 15, 16, 17, 18, 19, 20, 21, 22, 23, 24, 25, 26, 27, 28, 29, 30, 31, 32, 33, 34, 35, 36, 37, 38, 39, 40, 41, 42, 43, 44, 45] (by decide +kernel) (by decide +kernel)) (goodIn_sub (fun _ h => List.mem_cons_of_mem _ (List.mem_append_right _ h)) (by decide +kernel))
set_option maxRecDepth 20000 in
theorem gL_closedAt_X6_closedAt : GoodIn wsL_closedAt (wsV RL 98 RX6 yX6_closedAt wsX6_closedAt) := goodIn_app (goodIn_of _ (by decide +kernel)) ggL_closedAt_X6_closedAt
theorem dL_closedAt_0 : decode cL_closedAt 0 = .ok (.aload_n 2, 1) := by decide +kernel
theorem dL_closedAt_1 : decode cL_closedAt 1 = .ok (.iconst 0, 1) := by decide +kernel
theorem dL_closedAt_2 : decode cL_closedAt 2 = .ok (.aload_n 0, 1) := by decide +kernel
theorem dL_closedAt_3 : decode cL_closedAt 3 = .ok (.iload_n 1, 1) := by decide +kernel
theorem dL_closedAt_4 : decode cL_closedAt 4 = .ok (.invokevirtual 98, 3) := by decide +kernel
theorem dL_closedAt_7 : decode cL_closedAt 7 = .ok (.i2l, 1) := by decide +kernel
theorem dL_closedAt_8 : decode cL_closedAt 8 = .ok (.lastore, 1) := by decide +kernel
theorem dL_closedAt_9 : decode cL_closedAt 9 = .ok (.goto 6, 3) := by decide +kernel
theorem dL_closedAt_12 : decode cL_closedAt 12 = .ok (.astore_n 3, 1) := by decide +kernel
theorem dL_closedAt_13 : decode cL_closedAt 13 = .ok (.iconst 1, 1) := by decide +kernel
theorem dL_closedAt_14 : decode cL_closedAt 14 = .ok (.ireturn, 1) := by decide +kernel
theorem dL_closedAt_15 : decode cL_closedAt 15 = .ok (.iconst 0, 1) := by decide +kernel
theorem dL_closedAt_16 : decode cL_closedAt 16 = .ok (.ireturn, 1) := by decide +kernel
set_option maxRecDepth 20000 in
theorem ggL_tracedTo_X6_tracedTo : GoodIn wsL_tracedTo wsX6_tracedTo := goodIn_ca (goodIn_r _ [6, 7, 8, 9, 10, 5, 11, 12, 13, 14, 15, 16, 17, 18, 19, 20, 21, 22, 23, 24, 25, 26, 27, 28, 29, 30, 31, 32, 33, 34, 35, 36, 37, 38, 39, 40, 41, 42, 43, 44, 45] (by decide +kernel) (by decide +kernel)) (goodIn_sub (fun _ h => List.mem_cons_of_mem _ (List.mem_append_right _ h)) (by decide +kernel))
set_option maxRecDepth 20000 in
theorem gL_tracedTo_X6_tracedTo : GoodIn wsL_tracedTo (wsV RL 101 RX6 yX6_tracedTo wsX6_tracedTo) := goodIn_app (goodIn_of _ (by decide +kernel)) ggL_tracedTo_X6_tracedTo
theorem dL_tracedTo_0 : decode cL_tracedTo 0 = .ok (.aload_n 2, 1) := by decide +kernel
theorem dL_tracedTo_1 : decode cL_tracedTo 1 = .ok (.iconst 0, 1) := by decide +kernel
theorem dL_tracedTo_2 : decode cL_tracedTo 2 = .ok (.aload_n 0, 1) := by decide +kernel
theorem dL_tracedTo_3 : decode cL_tracedTo 3 = .ok (.iload_n 1, 1) := by decide +kernel
theorem dL_tracedTo_4 : decode cL_tracedTo 4 = .ok (.invokevirtual 101, 3) := by decide +kernel
theorem dL_tracedTo_7 : decode cL_tracedTo 7 = .ok (.i2l, 1) := by decide +kernel
theorem dL_tracedTo_8 : decode cL_tracedTo 8 = .ok (.lastore, 1) := by decide +kernel
theorem dL_tracedTo_9 : decode cL_tracedTo 9 = .ok (.goto 6, 3) := by decide +kernel
theorem dL_tracedTo_12 : decode cL_tracedTo 12 = .ok (.astore_n 3, 1) := by decide +kernel
theorem dL_tracedTo_13 : decode cL_tracedTo 13 = .ok (.iconst 1, 1) := by decide +kernel
theorem dL_tracedTo_14 : decode cL_tracedTo 14 = .ok (.ireturn, 1) := by decide +kernel
theorem dL_tracedTo_15 : decode cL_tracedTo 15 = .ok (.iconst 0, 1) := by decide +kernel
theorem dL_tracedTo_16 : decode cL_tracedTo 16 = .ok (.ireturn, 1) := by decide +kernel
set_option maxRecDepth 20000 in
theorem ggL_firstCalled_X6_firstCalled : GoodIn wsL_firstCalled wsX6_firstCalled := goodIn_ca (goodIn_r _ [6, 7, 8, 9, 10, 5, 11, 12, 13, 14, 15, 16, 17, 18, 19, 20, 21, 22, 23, 24, 25, 26, 27, 28, 29, 30, 31, 32, 33, 34, 35, 36, 37, 38, 39, 40, 41, 42, 43, 44, 45] (by decide +kernel) (by decide +kernel)) (goodIn_sub (fun _ h => List.mem_cons_of_mem _ (List.mem_append_right _ h)) (by decide +kernel))
set_option maxRecDepth 20000 in
theorem gL_firstCalled_X6_firstCalled : GoodIn wsL_firstCalled (wsV RL 104 RX6 yX6_firstCalled wsX6_firstCalled) := goodIn_app (goodIn_of _ (by decide +kernel)) ggL_firstCalled_X6_firstCalled
theorem dL_firstCalled_0 : decode cL_firstCalled 0 = .ok (.aload_n 2, 1) := by decide +kernel
theorem dL_firstCalled_1 : decode cL_firstCalled 1 = .ok (.iconst 0, 1) := by decide +kernel
theorem dL_firstCalled_2 : decode cL_firstCalled 2 = .ok (.aload_n 0, 1) := by decide +kernel
theorem dL_firstCalled_3 : decode cL_firstCalled 3 = .ok (.iload_n 1, 1) := by decide +kernel
theorem dL_firstCalled_4 : decode cL_firstCalled 4 = .ok (.invokevirtual 104, 3) := by decide +kernel
theorem dL_firstCalled_7 : decode cL_firstCalled 7 = .ok (.i2l, 1) := by decide +kernel
theorem dL_firstCalled_8 : decode cL_firstCalled 8 = .ok (.lastore, 1) := by decide +kernel
theorem dL_firstCalled_9 : decode cL_firstCalled 9 = .ok (.goto 6, 3) := by decide +kernel
theorem dL_firstCalled_12 : decode cL_firstCalled 12 = .ok (.astore_n 3, 1) := by decide +kernel
theorem dL_firstCalled_13 : decode cL_firstCalled 13 = .ok (.iconst 1, 1) := by decide +kernel
theorem dL_firstCalled_14 : decode cL_firstCalled 14 = .ok (.ireturn, 1) := by decide +kernel
theorem dL_firstCalled_15 : decode cL_firstCalled 15 = .ok (.iconst 0, 1) := by decide +kernel
theorem dL_firstCalled_16 : decode cL_firstCalled 16 = .ok (.ireturn, 1) := by decide +kernel
