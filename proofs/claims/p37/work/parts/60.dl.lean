theorem dL_cell_0 : decode cL_cell 0 = .ok (.iload_n 1, 1) := by decide +kernel
theorem dL_cell_1 : decode cL_cell 1 = .ok (.aload_n 0, 1) := by decide +kernel
theorem dL_cell_2 : decode cL_cell 2 = .ok (.arraylength, 1) := by decide +kernel
theorem dL_cell_3 : decode cL_cell 3 = .ok (.if_icmp .ge 9, 3) := by decide +kernel
theorem dL_cell_6 : decode cL_cell 6 = .ok (.aload_n 0, 1) := by decide +kernel
theorem dL_cell_7 : decode cL_cell 7 = .ok (.iload_n 1, 1) := by decide +kernel
theorem dL_cell_8 : decode cL_cell 8 = .ok (.iaload, 1) := by decide +kernel
theorem dL_cell_9 : decode cL_cell 9 = .ok (.goto 15, 3) := by decide +kernel
theorem dL_cell_12 : decode cL_cell 12 = .ok (.sipush 7919, 3) := by decide +kernel
theorem dL_cell_15 : decode cL_cell 15 = .ok (.iload_n 1, 1) := by decide +kernel
theorem dL_cell_16 : decode cL_cell 16 = .ok (.iconst 3, 1) := by decide +kernel
theorem dL_cell_17 : decode cL_cell 17 = .ok (.iadd, 1) := by decide +kernel
theorem dL_cell_18 : decode cL_cell 18 = .ok (.imul, 1) := by decide +kernel
theorem dL_cell_19 : decode cL_cell 19 = .ok (.iload_n 1, 1) := by decide +kernel
theorem dL_cell_20 : decode cL_cell 20 = .ok (.bipush 11, 2) := by decide +kernel
theorem dL_cell_22 : decode cL_cell 22 = .ok (.iadd, 1) := by decide +kernel
theorem dL_cell_23 : decode cL_cell 23 = .ok (.imul, 1) := by decide +kernel
theorem dL_cell_24 : decode cL_cell 24 = .ok (.ireturn, 1) := by decide +kernel
theorem dL_low_0 : decode cL_low 0 = .ok (.iload_n 0, 1) := by decide +kernel
theorem dL_low_1 : decode cL_low 1 = .ok (.ldc 7, 2) := by decide +kernel
theorem dL_low_3 : decode cL_low 3 = .ok (.iand, 1) := by decide +kernel
theorem dL_low_4 : decode cL_low 4 = .ok (.iload_n 1, 1) := by decide +kernel
theorem dL_low_5 : decode cL_low 5 = .ok (.irem, 1) := by decide +kernel
theorem dL_low_6 : decode cL_low 6 = .ok (.ireturn, 1) := by decide +kernel
set_option maxRecDepth 20000 in
theorem ggL_awake_X6_rests : GoodIn wsL_awake wsX6_rests := goodIn_ca (goodIn_r _ [5, 6, 7, 8, 9, 4, 10, 11, 12, 13, 14, 15, 16, 17, 18, 19, 20, 21, 22, 23, 24, 25, 26, 27, 28, 29, 30, 31, 32, 33, 34, 35, 36, 37, 38] (by decide +kernel) (by decide +kernel)) (goodIn_sub (fun _ h => List.mem_cons_of_mem _ (List.mem_append_right _ h)) (by decide +kernel))
set_option maxRecDepth 20000 in
theorem gL_awake_X6_rests : GoodIn wsL_awake (wsV RL 8 RX6 yX6_rests wsX6_rests) := goodIn_app (goodIn_of _ (by decide +kernel)) ggL_awake_X6_rests
theorem dL_awake_0 : decode cL_awake 0 = .ok (.iconst (-1), 1) := by decide +kernel
theorem dL_awake_1 : decode cL_awake 1 = .ok (.istore_n 2, 1) := by decide +kernel
theorem dL_awake_2 : decode cL_awake 2 = .ok (.iconst 5, 1) := by decide +kernel
theorem dL_awake_3 : decode cL_awake 3 = .ok (.istore_n 3, 1) := by decide +kernel
theorem dL_awake_4 : decode cL_awake 4 = .ok (.iload_n 3, 1) := by decide +kernel
theorem dL_awake_5 : decode cL_awake 5 = .ok (.ifCond .lt 33, 3) := by decide +kernel
theorem dL_awake_8 : decode cL_awake 8 = .ok (.aload_n 0, 1) := by decide +kernel
theorem dL_awake_9 : decode cL_awake 9 = .ok (.iload_n 1, 1) := by decide +kernel
theorem dL_awake_10 : decode cL_awake 10 = .ok (.iload_n 3, 1) := by decide +kernel
theorem dL_awake_11 : decode cL_awake 11 = .ok (.iadd, 1) := by decide +kernel
theorem dL_awake_12 : decode cL_awake 12 = .ok (.bipush 6, 2) := by decide +kernel
theorem dL_awake_14 : decode cL_awake 14 = .ok (.irem, 1) := by decide +kernel
theorem dL_awake_15 : decode cL_awake 15 = .ok (.invokevirtual 8, 3) := by decide +kernel
theorem dL_awake_18 : decode cL_awake 18 = .ok (.ifCond .eq 7, 3) := by decide +kernel
theorem dL_awake_21 : decode cL_awake 21 = .ok (.iload_n 2, 1) := by decide +kernel
theorem dL_awake_22 : decode cL_awake 22 = .ok (.goto 9, 3) := by decide +kernel
theorem dL_awake_25 : decode cL_awake 25 = .ok (.iload_n 1, 1) := by decide +kernel
theorem dL_awake_26 : decode cL_awake 26 = .ok (.iload_n 3, 1) := by decide +kernel
theorem dL_awake_27 : decode cL_awake 27 = .ok (.iadd, 1) := by decide +kernel
theorem dL_awake_28 : decode cL_awake 28 = .ok (.bipush 6, 2) := by decide +kernel
theorem dL_awake_30 : decode cL_awake 30 = .ok (.irem, 1) := by decide +kernel
theorem dL_awake_31 : decode cL_awake 31 = .ok (.istore_n 2, 1) := by decide +kernel
theorem dL_awake_32 : decode cL_awake 32 = .ok (.iinc 3 (-1), 3) := by decide +kernel
theorem dL_awake_35 : decode cL_awake 35 = .ok (.goto (-31), 3) := by decide +kernel
theorem dL_awake_38 : decode cL_awake 38 = .ok (.iload_n 2, 1) := by decide +kernel
theorem dL_awake_39 : decode cL_awake 39 = .ok (.ireturn, 1) := by decide +kernel
set_option maxRecDepth 20000 in
theorem ggL_isRing_X6_trace : GoodIn wsL_isRing wsX6_trace := goodIn_ca (goodIn_r _ [5, 6, 7, 4, 8, 9, 10, 11, 12, 13, 14, 15, 16, 17, 18, 19, 20, 21, 22, 23, 24, 25, 26, 27, 28, 29, 30, 31, 32, 33, 34, 35, 36, 37, 38, 39, 40, 41, 42, 43, 44, 45, 46, 47, 48, 49, 50, 51, 52, 53, 54, 55, 56, 57, 58, 59, 60, 61, 62, 63, 64, 65, 66, 67, 68, 69, 70, 71, 72, 73, 74, 75, 76, 77, 78, 79, 80, 81, 82, 83, 84, 85, 178, 179, 180, 181, 182, 183, 184, 185, 186, 187, 188, 189, 190, 191, 192, 193, 194, 195, 196, 197, 198] (by decide +kernel) (by decide +kernel)) (goodIn_sub (fun _ h => List.mem_cons_of_mem _ (List.mem_append_right _ h)) (by decide +kernel))
set_option maxRecDepth 20000 in
theorem gL_isRing_X6_trace : GoodIn wsL_isRing (wsV RL 14 RX6 yX6_trace wsX6_trace) := goodIn_app (goodIn_of _ (by decide +kernel)) ggL_isRing_X6_trace
set_option maxRecDepth 20000 in
theorem ggL_isRing_X6_openIn : GoodIn wsL_isRing wsX6_openIn := goodIn_ca (goodIn_r _ [89, 90, 6, 7, 4, 8, 9, 10, 91, 92, 93, 94, 95, 96, 97, 37, 38, 39, 40, 41, 178, 179, 180, 181, 182, 183, 184, 199, 200, 201, 202, 203, 204, 205, 192] (by decide +kernel) (by decide +kernel)) (goodIn_sub (fun _ h => List.mem_cons_of_mem _ (List.mem_append_right _ h)) (by decide +kernel))
set_option maxRecDepth 20000 in
theorem gL_isRing_X6_openIn : GoodIn wsL_isRing (wsV RL 18 RX6 yX6_openIn wsX6_openIn) := goodIn_app (goodIn_of _ (by decide +kernel)) ggL_isRing_X6_openIn
set_option maxRecDepth 20000 in
theorem ggL_isRing_X6_traceByTrying : GoodIn wsL_isRing wsX6_traceByTrying := goodIn_ca (goodIn_r _ [101, 15, 6, 7, 4, 8, 9, 10, 16, 17, 18, 19, 20, 21, 22, 23, 24, 25, 26, 27, 28, 29, 30, 31, 32, 33, 34, 35, 36, 37, 38, 39, 40, 41, 42, 43, 44, 45, 46, 47, 48, 49, 50, 51, 52, 53, 54, 55, 56, 57, 58, 59, 60, 61, 62, 63, 64, 102, 103, 104, 105, 106, 72, 73, 74, 75, 76, 77, 78, 79, 80, 81, 82, 83, 84, 85, 69, 70, 71, 178, 179, 180, 181, 182, 183, 184, 185, 186, 187, 188, 189, 190, 191, 192, 193, 194, 195, 196, 197, 198] (by decide +kernel) (by decide +kernel)) (goodIn_sub (fun _ h => List.mem_cons_of_mem _ (List.mem_append_right _ h)) (by decide +kernel))
set_option maxRecDepth 20000 in
theorem gL_isRing_X6_traceByTrying : GoodIn wsL_isRing (wsV RL 21 RX6 yX6_traceByTrying wsX6_traceByTrying) := goodIn_app (goodIn_of _ (by decide +kernel)) ggL_isRing_X6_traceByTrying
set_option maxRecDepth 20000 in
theorem ggL_isRing_X6_heals : GoodIn wsL_isRing wsX6_heals := goodIn_ca (goodIn_r _ [110, 111, 112, 113, 4, 114, 9, 10, 15, 102, 103, 104, 32, 105, 106, 6, 7, 8, 16, 17, 18, 19, 20, 21, 22, 23, 24, 25, 26, 27, 28, 29, 30, 31, 33, 34, 35, 36, 37, 38, 39, 40, 41, 42, 43, 44, 45, 46, 47, 48, 49, 50, 51, 52, 53, 54, 55, 56, 57, 58, 59, 60, 61, 62, 63, 64, 72, 73, 74, 75, 76, 77, 78, 79, 80, 81, 82, 83, 84, 85, 69, 70, 71, 178, 179, 180, 181, 182, 183, 184, 185, 186, 187, 188, 189, 190, 191, 192, 193, 194, 195, 196, 197, 198] (by decide +kernel) (by decide +kernel)) (goodIn_sub (fun _ h => List.mem_cons_of_mem _ (List.mem_append_right _ h)) (by decide +kernel))
set_option maxRecDepth 20000 in
theorem gL_isRing_X6_heals : GoodIn wsL_isRing (wsV RL 24 RX6 yX6_heals wsX6_heals) := goodIn_app (goodIn_of _ (by decide +kernel)) ggL_isRing_X6_heals
set_option maxRecDepth 20000 in
theorem ggL_isRing_X6_isFaulty : GoodIn wsL_isRing wsX6_isFaulty := goodIn_ca (goodIn_r _ [118, 6, 7, 4, 8, 9, 10, 16, 17, 18, 19, 20, 21, 22, 23, 24, 25, 15, 26, 27, 28, 29, 30, 31, 32, 33, 34, 35, 36, 37, 38, 39, 40, 41, 42, 43, 44, 45, 46, 47, 48, 49, 50, 51, 52, 53, 54, 55, 56, 57, 58, 59, 60, 61, 62, 63, 64, 178, 179, 180, 181, 182, 183, 184, 185, 186, 187, 188, 189, 190, 191, 192, 193, 194, 195, 196, 197, 198] (by decide +kernel) (by decide +kernel)) (goodIn_sub (fun _ h => List.mem_cons_of_mem _ (List.mem_append_right _ h)) (by decide +kernel))
set_option maxRecDepth 20000 in
theorem gL_isRing_X6_isFaulty : GoodIn wsL_isRing (wsV RL 28 RX6 yX6_isFaulty wsX6_isFaulty) := goodIn_app (goodIn_of _ (by decide +kernel)) ggL_isRing_X6_isFaulty
set_option maxRecDepth 20000 in
theorem ggL_isRing_X6_openedAt : GoodIn wsL_isRing wsX6_openedAt := goodIn_ca (goodIn_r _ [122, 90, 123, 124, 125, 4, 126, 9, 10, 127, 128, 129, 94, 130, 131, 132, 133, 134, 135, 136, 97, 37, 38, 39, 40, 41, 137, 138, 139, 140, 141, 178, 179, 180, 181, 182, 183, 184, 199, 200, 201, 202, 203, 204, 205, 192] (by decide +kernel) (by decide +kernel)) (goodIn_sub (fun _ h => List.mem_cons_of_mem _ (List.mem_append_right _ h)) (by decide +kernel))
set_option maxRecDepth 20000 in
theorem gL_isRing_X6_openedAt : GoodIn wsL_isRing (wsV RL 31 RX6 yX6_openedAt wsX6_openedAt) := goodIn_app (goodIn_of _ (by decide +kernel)) ggL_isRing_X6_openedAt
set_option maxRecDepth 20000 in
theorem ggL_isRing_X6_closedAt : GoodIn wsL_isRing wsX6_closedAt := goodIn_ca (goodIn_r _ [145, 90, 123, 124, 125, 4, 126, 9, 10, 127, 128, 129, 94, 130, 131, 146, 147, 148, 149, 150, 97, 37, 38, 39, 40, 41, 178, 179, 180, 181, 182, 183, 184, 199, 200, 201, 202, 203, 204, 205, 192] (by decide +kernel) (by decide +kernel)) (goodIn_sub (fun _ h => List.mem_cons_of_mem _ (List.mem_append_right _ h)) (by decide +kernel))
set_option maxRecDepth 20000 in
theorem gL_isRing_X6_closedAt : GoodIn wsL_isRing (wsV RL 34 RX6 yX6_closedAt wsX6_closedAt) := goodIn_app (goodIn_of _ (by decide +kernel)) ggL_isRing_X6_closedAt
set_option maxRecDepth 20000 in
theorem ggL_isRing_X6_rollable : GoodIn wsL_isRing wsX6_rollable := goodIn_ca (goodIn_r _ [154, 155, 6, 7, 4, 8, 9, 10, 22, 23, 24, 25, 15, 26, 27, 28, 29, 30, 31, 32, 33, 34, 35, 36, 37, 38, 39, 40, 41, 156, 157, 158, 159, 160, 90, 161, 162, 163, 164, 165, 166, 167, 168, 94, 169, 96, 97, 178, 179, 180, 181, 182, 183, 184, 185, 186, 187, 188, 189, 190, 191, 192, 199, 200, 201, 202, 203, 204, 205] (by decide +kernel) (by decide +kernel)) (goodIn_sub (fun _ h => List.mem_cons_of_mem _ (List.mem_append_right _ h)) (by decide +kernel))
set_option maxRecDepth 20000 in
theorem gL_isRing_X6_rollable : GoodIn wsL_isRing (wsV RL 37 RX6 yX6_rollable wsX6_rollable) := goodIn_app (goodIn_of _ (by decide +kernel)) ggL_isRing_X6_rollable
set_option maxRecDepth 20000 in
theorem ggL_isRing_X6_version : GoodIn wsL_isRing wsX6_version := goodIn_ca (goodIn_r _ [173, 6, 7, 4, 8, 9, 10, 22, 23, 24, 25, 15, 26, 27, 28, 29, 30, 31, 32, 33, 34, 35, 36, 37, 38, 39, 40, 41, 178, 179, 180, 181, 182, 183, 184, 185, 186, 187, 188, 189, 190, 191, 192] (by decide +kernel) (by decide +kernel)) (goodIn_sub (fun _ h => List.mem_cons_of_mem _ (List.mem_append_right _ h)) (by decide +kernel))
set_option maxRecDepth 20000 in
theorem gL_isRing_X6_version : GoodIn wsL_isRing (wsV RL 40 RX6 yX6_version wsX6_version) := goodIn_app (goodIn_of _ (by decide +kernel)) ggL_isRing_X6_version
set_option maxRecDepth 20000 in
theorem ggL_isRing_X6_versions : GoodIn wsL_isRing wsX6_versions := goodIn_r _ [177, 155, 178, 179, 180, 181, 182, 183, 184] (by decide +kernel) (by decide +kernel)
set_option maxRecDepth 20000 in
theorem gL_isRing_X6_versions : GoodIn wsL_isRing (wsV RL 43 RX6 yX6_versions wsX6_versions) := goodIn_app (goodIn_of _ (by decide +kernel)) ggL_isRing_X6_versions
theorem dL_isRing_0 : decode cL_isRing 0 = .ok (.aload_n 0, 1) := by decide +kernel
theorem dL_isRing_1 : decode cL_isRing 1 = .ok (.iload_n 1, 1) := by decide +kernel
theorem dL_isRing_2 : decode cL_isRing 2 = .ok (.invokevirtual 14, 3) := by decide +kernel
theorem dL_isRing_5 : decode cL_isRing 5 = .ok (.istore_n 2, 1) := by decide +kernel
theorem dL_isRing_6 : decode cL_isRing 6 = .ok (.aload_n 0, 1) := by decide +kernel
theorem dL_isRing_7 : decode cL_isRing 7 = .ok (.iload_n 1, 1) := by decide +kernel
theorem dL_isRing_8 : decode cL_isRing 8 = .ok (.invokevirtual 18, 3) := by decide +kernel
theorem dL_isRing_11 : decode cL_isRing 11 = .ok (.istore_n 3, 1) := by decide +kernel
theorem dL_isRing_12 : decode cL_isRing 12 = .ok (.aload_n 0, 1) := by decide +kernel
theorem dL_isRing_13 : decode cL_isRing 13 = .ok (.iload_n 1, 1) := by decide +kernel
theorem dL_isRing_14 : decode cL_isRing 14 = .ok (.invokevirtual 21, 3) := by decide +kernel
theorem dL_isRing_17 : decode cL_isRing 17 = .ok (.iload_n 2, 1) := by decide +kernel
theorem dL_isRing_18 : decode cL_isRing 18 = .ok (.if_icmp .ne 32, 3) := by decide +kernel
theorem dL_isRing_21 : decode cL_isRing 21 = .ok (.iload_n 2, 1) := by decide +kernel
theorem dL_isRing_22 : decode cL_isRing 22 = .ok (.ifCond .lt 12, 3) := by decide +kernel
theorem dL_isRing_25 : decode cL_isRing 25 = .ok (.aload_n 0, 1) := by decide +kernel
theorem dL_isRing_26 : decode cL_isRing 26 = .ok (.iload_n 2, 1) := by decide +kernel
theorem dL_isRing_27 : decode cL_isRing 27 = .ok (.iload_n 1, 1) := by decide +kernel
theorem dL_isRing_28 : decode cL_isRing 28 = .ok (.invokevirtual 24, 3) := by decide +kernel
theorem dL_isRing_31 : decode cL_isRing 31 = .ok (.ifCond .eq 19, 3) := by decide +kernel
theorem dL_isRing_34 : decode cL_isRing 34 = .ok (.iload_n 2, 1) := by decide +kernel
theorem dL_isRing_35 : decode cL_isRing 35 = .ok (.ifCond .lt 11, 3) := by decide +kernel
theorem dL_isRing_38 : decode cL_isRing 38 = .ok (.aload_n 0, 1) := by decide +kernel
theorem dL_isRing_39 : decode cL_isRing 39 = .ok (.iload_n 1, 1) := by decide +kernel
theorem dL_isRing_40 : decode cL_isRing 40 = .ok (.invokevirtual 28, 3) := by decide +kernel
theorem dL_isRing_43 : decode cL_isRing 43 = .ok (.ifCond .eq 7, 3) := by decide +kernel
theorem dL_isRing_46 : decode cL_isRing 46 = .ok (.iconst 1, 1) := by decide +kernel
theorem dL_isRing_47 : decode cL_isRing 47 = .ok (.goto 4, 3) := by decide +kernel
theorem dL_isRing_50 : decode cL_isRing 50 = .ok (.iconst 0, 1) := by decide +kernel
theorem dL_isRing_51 : decode cL_isRing 51 = .ok (.istore 4, 2) := by decide +kernel
theorem dL_isRing_53 : decode cL_isRing 53 = .ok (.iload 4, 2) := by decide +kernel
theorem dL_isRing_55 : decode cL_isRing 55 = .ok (.ifCond .eq 32, 3) := by decide +kernel
theorem dL_isRing_58 : decode cL_isRing 58 = .ok (.iload_n 3, 1) := by decide +kernel
theorem dL_isRing_59 : decode cL_isRing 59 = .ok (.ifCond .lt 24, 3) := by decide +kernel
theorem dL_isRing_62 : decode cL_isRing 62 = .ok (.aload_n 0, 1) := by decide +kernel
theorem dL_isRing_63 : decode cL_isRing 63 = .ok (.iload_n 3, 1) := by decide +kernel
theorem dL_isRing_64 : decode cL_isRing 64 = .ok (.invokevirtual 31, 3) := by decide +kernel
theorem dL_isRing_67 : decode cL_isRing 67 = .ok (.bipush 10, 2) := by decide +kernel
theorem dL_isRing_69 : decode cL_isRing 69 = .ok (.irem, 1) := by decide +kernel
theorem dL_isRing_70 : decode cL_isRing 70 = .ok (.iload_n 1, 1) := by decide +kernel
theorem dL_isRing_71 : decode cL_isRing 71 = .ok (.if_icmp .ne 16, 3) := by decide +kernel
theorem dL_isRing_74 : decode cL_isRing 74 = .ok (.aload_n 0, 1) := by decide +kernel
theorem dL_isRing_75 : decode cL_isRing 75 = .ok (.iload_n 3, 1) := by decide +kernel
theorem dL_isRing_76 : decode cL_isRing 76 = .ok (.invokevirtual 34, 3) := by decide +kernel
theorem dL_isRing_79 : decode cL_isRing 79 = .ok (.iconst (-1), 1) := by decide +kernel
theorem dL_isRing_80 : decode cL_isRing 80 = .ok (.if_icmp .ne 7, 3) := by decide +kernel
theorem dL_isRing_83 : decode cL_isRing 83 = .ok (.iconst 1, 1) := by decide +kernel
theorem dL_isRing_84 : decode cL_isRing 84 = .ok (.goto 4, 3) := by decide +kernel
theorem dL_isRing_87 : decode cL_isRing 87 = .ok (.iconst 0, 1) := by decide +kernel
theorem dL_isRing_88 : decode cL_isRing 88 = .ok (.istore 4, 2) := by decide +kernel
theorem dL_isRing_90 : decode cL_isRing 90 = .ok (.aload_n 0, 1) := by decide +kernel
theorem dL_isRing_91 : decode cL_isRing 91 = .ok (.iload_n 1, 1) := by decide +kernel
theorem dL_isRing_92 : decode cL_isRing 92 = .ok (.invokevirtual 37, 3) := by decide +kernel
theorem dL_isRing_95 : decode cL_isRing 95 = .ok (.istore 5, 2) := by decide +kernel
theorem dL_isRing_97 : decode cL_isRing 97 = .ok (.iload 4, 2) := by decide +kernel
theorem dL_isRing_99 : decode cL_isRing 99 = .ok (.ifCond .eq 31, 3) := by decide +kernel
theorem dL_isRing_102 : decode cL_isRing 102 = .ok (.iload 5, 2) := by decide +kernel
theorem dL_isRing_104 : decode cL_isRing 104 = .ok (.ifCond .lt 22, 3) := by decide +kernel
theorem dL_isRing_107 : decode cL_isRing 107 = .ok (.iload 5, 2) := by decide +kernel
theorem dL_isRing_109 : decode cL_isRing 109 = .ok (.aload_n 0, 1) := by decide +kernel
theorem dL_isRing_110 : decode cL_isRing 110 = .ok (.iload_n 1, 1) := by decide +kernel
theorem dL_isRing_111 : decode cL_isRing 111 = .ok (.invokevirtual 40, 3) := by decide +kernel
theorem dL_isRing_114 : decode cL_isRing 114 = .ok (.if_icmp .eq 16, 3) := by decide +kernel
theorem dL_isRing_117 : decode cL_isRing 117 = .ok (.iload 5, 2) := by decide +kernel
theorem dL_isRing_119 : decode cL_isRing 119 = .ok (.aload_n 0, 1) := by decide +kernel
theorem dL_isRing_120 : decode cL_isRing 120 = .ok (.invokevirtual 43, 3) := by decide +kernel
theorem dL_isRing_123 : decode cL_isRing 123 = .ok (.if_icmp .ge 7, 3) := by decide +kernel
theorem dL_isRing_126 : decode cL_isRing 126 = .ok (.iconst 1, 1) := by decide +kernel
theorem dL_isRing_127 : decode cL_isRing 127 = .ok (.goto 4, 3) := by decide +kernel
theorem dL_isRing_130 : decode cL_isRing 130 = .ok (.iconst 0, 1) := by decide +kernel
theorem dL_isRing_131 : decode cL_isRing 131 = .ok (.ireturn, 1) := by decide +kernel
set_option maxRecDepth 20000 in
theorem ggL_isRota_X6_time : GoodIn wsL_isRota wsX6_time := goodIn_r _ [5, 6, 83, 84, 85, 86, 87, 88, 89] (by decide +kernel) (by decide +kernel)
set_option maxRecDepth 20000 in
theorem gL_isRota_X6_time : GoodIn wsL_isRota (wsV RL 47 RX6 yX6_time wsX6_time) := goodIn_app (goodIn_of _ (by decide +kernel)) ggL_isRota_X6_time
set_option maxRecDepth 20000 in
theorem ggL_isRota_X6_holder : GoodIn wsL_isRota wsX6_holder := goodIn_ca (goodIn_r _ [10, 11, 12, 13, 14, 15, 16, 4, 17, 6, 18, 19, 20, 21, 22, 23, 24, 25, 26, 27, 28, 29, 83, 84, 85, 86, 87, 88, 89, 90, 91, 92, 93, 94, 95, 96] (by decide +kernel) (by decide +kernel)) (goodIn_sub (fun _ h => List.mem_cons_of_mem _ (List.mem_append_right _ h)) (by decide +kernel))
set_option maxRecDepth 20000 in
theorem gL_isRota_X6_holder : GoodIn wsL_isRota (wsV RL 50 RX6 yX6_holder wsX6_holder) := goodIn_app (goodIn_of _ (by decide +kernel)) ggL_isRota_X6_holder
set_option maxRecDepth 20000 in
theorem ggL_isRota_X6_blots : GoodIn wsL_isRota wsX6_blots := goodIn_ca (goodIn_r _ [33, 13, 34, 35, 4, 36, 11, 12, 37, 38, 39, 21, 40, 41, 24, 25, 26, 27, 28, 29, 83, 84, 85, 86, 87, 88, 89, 90, 91, 92, 93, 94, 95, 96] (by decide +kernel) (by decide +kernel)) (goodIn_sub (fun _ h => List.mem_cons_of_mem _ (List.mem_append_right _ h)) (by decide +kernel))
set_option maxRecDepth 20000 in
theorem gL_isRota_X6_blots : GoodIn wsL_isRota (wsV RL 53 RX6 yX6_blots wsX6_blots) := goodIn_app (goodIn_of _ (by decide +kernel)) ggL_isRota_X6_blots
set_option maxRecDepth 20000 in
theorem ggL_isRota_X6_near : GoodIn wsL_isRota wsX6_near := goodIn_ca (goodIn_r _ [45, 13, 34, 35, 4, 36, 11, 12, 14, 15, 16, 17, 6, 46, 47, 48, 21, 49, 23, 41, 24, 25, 26, 27, 28, 29, 83, 84, 85, 86, 87, 88, 89, 90, 91, 92, 93, 94, 95, 96] (by decide +kernel) (by decide +kernel)) (goodIn_sub (fun _ h => List.mem_cons_of_mem _ (List.mem_append_right _ h)) (by decide +kernel))
set_option maxRecDepth 20000 in
theorem gL_isRota_X6_near : GoodIn wsL_isRota (wsV RL 56 RX6 yX6_near wsX6_near) := goodIn_app (goodIn_of _ (by decide +kernel)) ggL_isRota_X6_near
set_option maxRecDepth 20000 in
theorem ggL_isRota_X6_onCall : GoodIn wsL_isRota wsX6_onCall := goodIn_r _ [53, 13, 6, 54, 55, 56, 21, 57, 23, 41, 24, 25, 26, 27, 28, 29, 58, 59, 60, 61, 62, 83, 84, 85, 86, 87, 88, 89, 90, 91, 92, 93, 94, 95, 96] (by decide +kernel) (by decide +kernel)
set_option maxRecDepth 20000 in
theorem gL_isRota_X6_onCall : GoodIn wsL_isRota (wsV RL 59 RX6 yX6_onCall wsX6_onCall) := goodIn_app (goodIn_of _ (by decide +kernel)) ggL_isRota_X6_onCall
set_option maxRecDepth 20000 in
theorem ggL_isRota_X6_incidents : GoodIn wsL_isRota wsX6_incidents := goodIn_r _ [66, 67, 68, 69, 70, 71, 72, 73, 83, 84, 85, 86, 87, 88, 89, 97, 98, 99, 100, 101, 102, 103] (by decide +kernel) (by decide +kernel)
set_option maxRecDepth 20000 in
theorem gL_isRota_X6_incidents : GoodIn wsL_isRota (wsV RL 62 RX6 yX6_incidents wsX6_incidents) := goodIn_app (goodIn_of _ (by decide +kernel)) ggL_isRota_X6_incidents
set_option maxRecDepth 20000 in
theorem ggL_isRota_L_awake : GoodIn wsL_isRota wsL_awake := goodIn_ca (goodIn_r _ [77, 78, 79, 80, 4, 81, 13, 6, 34, 35, 36, 11, 12, 82, 59, 60, 21, 61, 62, 24, 25, 26, 27, 28, 29, 83, 84, 85, 86, 87, 88, 89, 90, 91, 92, 93, 94, 95, 96] (by decide +kernel) (by decide +kernel)) (goodIn_sub (fun _ h => List.mem_cons_of_mem _ (List.mem_append_right _ h)) (by decide +kernel))
set_option maxRecDepth 20000 in
theorem gL_isRota_L_awake : GoodIn wsL_isRota (va_wsS RL 65 yL_awake wsL_awake) := goodIn_app (goodIn_of _ (by decide +kernel)) ggL_isRota_L_awake
set_option maxRecDepth 20000 in
theorem ggL_isRota_X6_rests : GoodIn wsL_isRota wsX6_rests := goodIn_ca (goodIn_r _ [81, 13, 6, 34, 35, 4, 36, 11, 12, 82, 59, 60, 21, 61, 62, 24, 25, 26, 27, 28, 29, 83, 84, 85, 86, 87, 88, 89, 90, 91, 92, 93, 94, 95, 96] (by decide +kernel) (by decide +kernel)) (goodIn_sub (fun _ h => List.mem_cons_of_mem _ (List.mem_append_right _ h)) (by decide +kernel))
set_option maxRecDepth 20000 in
theorem gL_isRota_X6_rests : GoodIn wsL_isRota (wsV RL 8 RX6 yX6_rests wsX6_rests) := goodIn_app (goodIn_of _ (by decide +kernel)) ggL_isRota_X6_rests
theorem dL_isRota_0 : decode cL_isRota 0 = .ok (.aload_n 0, 1) := by decide +kernel
theorem dL_isRota_1 : decode cL_isRota 1 = .ok (.invokevirtual 47, 3) := by decide +kernel
theorem dL_isRota_4 : decode cL_isRota 4 = .ok (.bipush 14, 2) := by decide +kernel
theorem dL_isRota_6 : decode cL_isRota 6 = .ok (.idiv, 1) := by decide +kernel
theorem dL_isRota_7 : decode cL_isRota 7 = .ok (.istore_n 1, 1) := by decide +kernel
theorem dL_isRota_8 : decode cL_isRota 8 = .ok (.iconst 0, 1) := by decide +kernel
theorem dL_isRota_9 : decode cL_isRota 9 = .ok (.istore_n 2, 1) := by decide +kernel
theorem dL_isRota_10 : decode cL_isRota 10 = .ok (.aload_n 0, 1) := by decide +kernel
theorem dL_isRota_11 : decode cL_isRota 11 = .ok (.iload_n 1, 1) := by decide +kernel
theorem dL_isRota_12 : decode cL_isRota 12 = .ok (.invokevirtual 50, 3) := by decide +kernel
theorem dL_isRota_15 : decode cL_isRota 15 = .ok (.aload_n 0, 1) := by decide +kernel
theorem dL_isRota_16 : decode cL_isRota 16 = .ok (.iload_n 1, 1) := by decide +kernel
theorem dL_isRota_17 : decode cL_isRota 17 = .ok (.iconst 1, 1) := by decide +kernel
theorem dL_isRota_18 : decode cL_isRota 18 = .ok (.iadd, 1) := by decide +kernel
theorem dL_isRota_19 : decode cL_isRota 19 = .ok (.invokevirtual 50, 3) := by decide +kernel
theorem dL_isRota_22 : decode cL_isRota 22 = .ok (.if_icmp .eq 7, 3) := by decide +kernel
theorem dL_isRota_25 : decode cL_isRota 25 = .ok (.iconst 1, 1) := by decide +kernel
theorem dL_isRota_26 : decode cL_isRota 26 = .ok (.goto 4, 3) := by decide +kernel
theorem dL_isRota_29 : decode cL_isRota 29 = .ok (.iconst 0, 1) := by decide +kernel
theorem dL_isRota_30 : decode cL_isRota 30 = .ok (.istore_n 3, 1) := by decide +kernel
theorem dL_isRota_31 : decode cL_isRota 31 = .ok (.iconst 0, 1) := by decide +kernel
theorem dL_isRota_32 : decode cL_isRota 32 = .ok (.istore 4, 2) := by decide +kernel
theorem dL_isRota_34 : decode cL_isRota 34 = .ok (.iload 4, 2) := by decide +kernel
theorem dL_isRota_36 : decode cL_isRota 36 = .ok (.bipush 6, 2) := by decide +kernel
theorem dL_isRota_38 : decode cL_isRota 38 = .ok (.if_icmp .ge 45, 3) := by decide +kernel
theorem dL_isRota_41 : decode cL_isRota 41 = .ok (.iload_n 2, 1) := by decide +kernel
theorem dL_isRota_42 : decode cL_isRota 42 = .ok (.aload_n 0, 1) := by decide +kernel
theorem dL_isRota_43 : decode cL_isRota 43 = .ok (.iload 4, 2) := by decide +kernel
theorem dL_isRota_45 : decode cL_isRota 45 = .ok (.invokevirtual 53, 3) := by decide +kernel
theorem dL_isRota_48 : decode cL_isRota 48 = .ok (.iadd, 1) := by decide +kernel
theorem dL_isRota_49 : decode cL_isRota 49 = .ok (.istore_n 2, 1) := by decide +kernel
theorem dL_isRota_50 : decode cL_isRota 50 = .ok (.iload_n 3, 1) := by decide +kernel
theorem dL_isRota_51 : decode cL_isRota 51 = .ok (.ifCond .eq 24, 3) := by decide +kernel
theorem dL_isRota_54 : decode cL_isRota 54 = .ok (.aload_n 0, 1) := by decide +kernel
theorem dL_isRota_55 : decode cL_isRota 55 = .ok (.iload 4, 2) := by decide +kernel
theorem dL_isRota_57 : decode cL_isRota 57 = .ok (.invokevirtual 56, 3) := by decide +kernel
theorem dL_isRota_60 : decode cL_isRota 60 = .ok (.iconst 1, 1) := by decide +kernel
theorem dL_isRota_61 : decode cL_isRota 61 = .ok (.aload_n 0, 1) := by decide +kernel
theorem dL_isRota_62 : decode cL_isRota 62 = .ok (.iload 4, 2) := by decide +kernel
theorem dL_isRota_64 : decode cL_isRota 64 = .ok (.invokevirtual 53, 3) := by decide +kernel
theorem dL_isRota_67 : decode cL_isRota 67 = .ok (.iadd, 1) := by decide +kernel
theorem dL_isRota_68 : decode cL_isRota 68 = .ok (.if_icmp .lt 7, 3) := by decide +kernel
theorem dL_isRota_71 : decode cL_isRota 71 = .ok (.iconst 1, 1) := by decide +kernel
theorem dL_isRota_72 : decode cL_isRota 72 = .ok (.goto 4, 3) := by decide +kernel
theorem dL_isRota_75 : decode cL_isRota 75 = .ok (.iconst 0, 1) := by decide +kernel
theorem dL_isRota_76 : decode cL_isRota 76 = .ok (.istore_n 3, 1) := by decide +kernel
theorem dL_isRota_77 : decode cL_isRota 77 = .ok (.iinc 4 1, 3) := by decide +kernel
theorem dL_isRota_80 : decode cL_isRota 80 = .ok (.goto (-46), 3) := by decide +kernel
theorem dL_isRota_83 : decode cL_isRota 83 = .ok (.aload_n 0, 1) := by decide +kernel
theorem dL_isRota_84 : decode cL_isRota 84 = .ok (.invokevirtual 59, 3) := by decide +kernel
theorem dL_isRota_87 : decode cL_isRota 87 = .ok (.istore 4, 2) := by decide +kernel
theorem dL_isRota_89 : decode cL_isRota 89 = .ok (.iload_n 3, 1) := by decide +kernel
theorem dL_isRota_90 : decode cL_isRota 90 = .ok (.ifCond .eq 40, 3) := by decide +kernel
theorem dL_isRota_93 : decode cL_isRota 93 = .ok (.iload_n 2, 1) := by decide +kernel
theorem dL_isRota_94 : decode cL_isRota 94 = .ok (.aload_n 0, 1) := by decide +kernel
theorem dL_isRota_95 : decode cL_isRota 95 = .ok (.invokevirtual 62, 3) := by decide +kernel
theorem dL_isRota_98 : decode cL_isRota 98 = .ok (.if_icmp .gt 32, 3) := by decide +kernel
theorem dL_isRota_101 : decode cL_isRota 101 = .ok (.iload 4, 2) := by decide +kernel
theorem dL_isRota_103 : decode cL_isRota 103 = .ok (.ifCond .ge 14, 3) := by decide +kernel
theorem dL_isRota_106 : decode cL_isRota 106 = .ok (.aload_n 0, 1) := by decide +kernel
theorem dL_isRota_107 : decode cL_isRota 107 = .ok (.iconst 0, 1) := by decide +kernel
theorem dL_isRota_108 : decode cL_isRota 108 = .ok (.invokestatic 65, 3) := by decide +kernel
theorem dL_isRota_111 : decode cL_isRota 111 = .ok (.ifCond .ge 19, 3) := by decide +kernel
theorem dL_isRota_114 : decode cL_isRota 114 = .ok (.goto 12, 3) := by decide +kernel
theorem dL_isRota_117 : decode cL_isRota 117 = .ok (.aload_n 0, 1) := by decide +kernel
theorem dL_isRota_118 : decode cL_isRota 118 = .ok (.iload 4, 2) := by decide +kernel
theorem dL_isRota_120 : decode cL_isRota 120 = .ok (.invokevirtual 8, 3) := by decide +kernel
theorem dL_isRota_123 : decode cL_isRota 123 = .ok (.ifCond .ne 7, 3) := by decide +kernel
theorem dL_isRota_126 : decode cL_isRota 126 = .ok (.iconst 1, 1) := by decide +kernel
theorem dL_isRota_127 : decode cL_isRota 127 = .ok (.goto 4, 3) := by decide +kernel
theorem dL_isRota_130 : decode cL_isRota 130 = .ok (.iconst 0, 1) := by decide +kernel
theorem dL_isRota_131 : decode cL_isRota 131 = .ok (.istore_n 3, 1) := by decide +kernel
theorem dL_isRota_132 : decode cL_isRota 132 = .ok (.iload_n 3, 1) := by decide +kernel
theorem dL_isRota_133 : decode cL_isRota 133 = .ok (.ifCond .eq 29, 3) := by decide +kernel
theorem dL_isRota_136 : decode cL_isRota 136 = .ok (.aload_n 0, 1) := by decide +kernel
theorem dL_isRota_137 : decode cL_isRota 137 = .ok (.aload_n 0, 1) := by decide +kernel
theorem dL_isRota_138 : decode cL_isRota 138 = .ok (.iload_n 1, 1) := by decide +kernel
theorem dL_isRota_139 : decode cL_isRota 139 = .ok (.invokevirtual 50, 3) := by decide +kernel
theorem dL_isRota_142 : decode cL_isRota 142 = .ok (.invokevirtual 8, 3) := by decide +kernel
theorem dL_isRota_145 : decode cL_isRota 145 = .ok (.ifCond .ne 13, 3) := by decide +kernel
theorem dL_isRota_148 : decode cL_isRota 148 = .ok (.iload 4, 2) := by decide +kernel
theorem dL_isRota_150 : decode cL_isRota 150 = .ok (.aload_n 0, 1) := by decide +kernel
theorem dL_isRota_151 : decode cL_isRota 151 = .ok (.iload_n 1, 1) := by decide +kernel
theorem dL_isRota_152 : decode cL_isRota 152 = .ok (.invokevirtual 50, 3) := by decide +kernel
theorem dL_isRota_155 : decode cL_isRota 155 = .ok (.if_icmp .ne 7, 3) := by decide +kernel
theorem dL_isRota_158 : decode cL_isRota 158 = .ok (.iconst 1, 1) := by decide +kernel
theorem dL_isRota_159 : decode cL_isRota 159 = .ok (.goto 4, 3) := by decide +kernel
theorem dL_isRota_162 : decode cL_isRota 162 = .ok (.iconst 0, 1) := by decide +kernel
theorem dL_isRota_163 : decode cL_isRota 163 = .ok (.ireturn, 1) := by decide +kernel
