set_option maxRecDepth 20000 in
theorem ggX0_init_X5_init : GoodIn wsX0_init wsX5_init := goodIn_r _ [16, 17, 2, 3, 18, 19, 20] (by decide +kernel) (by decide +kernel)
set_option maxRecDepth 20000 in
theorem gX0_init_X5_init : GoodIn wsX0_init (wsX5_init) := ggX0_init_X5_init
theorem dX0_init_0 : decode cX0_init 0 = .ok (.aload_n 0, 1) := by decide +kernel
theorem dX0_init_1 : decode cX0_init 1 = .ok (.invokespecial 3, 3) := by decide +kernel
theorem dX0_init_4 : decode cX0_init 4 = .ok (.aload_n 0, 1) := by decide +kernel
theorem dX0_init_5 : decode cX0_init 5 = .ok (.new 9, 3) := by decide +kernel
theorem dX0_init_8 : decode cX0_init 8 = .ok (.dup, 1) := by decide +kernel
theorem dX0_init_9 : decode cX0_init 9 = .ok (.sipush 200, 3) := by decide +kernel
theorem dX0_init_12 : decode cX0_init 12 = .ok (.iconst (-1), 1) := by decide +kernel
theorem dX0_init_13 : decode cX0_init 13 = .ok (.invokespecial 11, 3) := by decide +kernel
theorem dX0_init_16 : decode cX0_init 16 = .ok (.putfield 14, 3) := by decide +kernel
theorem dX0_init_19 : decode cX0_init 19 = .ok (.aload_n 0, 1) := by decide +kernel
theorem dX0_init_20 : decode cX0_init 20 = .ok (.new 9, 3) := by decide +kernel
theorem dX0_init_23 : decode cX0_init 23 = .ok (.dup, 1) := by decide +kernel
theorem dX0_init_24 : decode cX0_init 24 = .ok (.sipush 200, 3) := by decide +kernel
theorem dX0_init_27 : decode cX0_init 27 = .ok (.iconst (-1), 1) := by decide +kernel
theorem dX0_init_28 : decode cX0_init 28 = .ok (.invokespecial 11, 3) := by decide +kernel
theorem dX0_init_31 : decode cX0_init 31 = .ok (.putfield 20, 3) := by decide +kernel
theorem dX0_init_34 : decode cX0_init 34 = .ok (.aload_n 0, 1) := by decide +kernel
theorem dX0_init_35 : decode cX0_init 35 = .ok (.new 9, 3) := by decide +kernel
theorem dX0_init_38 : decode cX0_init 38 = .ok (.dup, 1) := by decide +kernel
theorem dX0_init_39 : decode cX0_init 39 = .ok (.sipush 200, 3) := by decide +kernel
theorem dX0_init_42 : decode cX0_init 42 = .ok (.iconst (-1), 1) := by decide +kernel
theorem dX0_init_43 : decode cX0_init 43 = .ok (.invokespecial 11, 3) := by decide +kernel
theorem dX0_init_46 : decode cX0_init 46 = .ok (.putfield 23, 3) := by decide +kernel
theorem dX0_init_49 : decode cX0_init 49 = .ok (.aload_n 0, 1) := by decide +kernel
theorem dX0_init_50 : decode cX0_init 50 = .ok (.new 9, 3) := by decide +kernel
theorem dX0_init_53 : decode cX0_init 53 = .ok (.dup, 1) := by decide +kernel
theorem dX0_init_54 : decode cX0_init 54 = .ok (.sipush 200, 3) := by decide +kernel
theorem dX0_init_57 : decode cX0_init 57 = .ok (.iconst (-1), 1) := by decide +kernel
theorem dX0_init_58 : decode cX0_init 58 = .ok (.invokespecial 11, 3) := by decide +kernel
theorem dX0_init_61 : decode cX0_init 61 = .ok (.putfield 26, 3) := by decide +kernel
theorem dX0_init_64 : decode cX0_init 64 = .ok (.aload_n 0, 1) := by decide +kernel
theorem dX0_init_65 : decode cX0_init 65 = .ok (.new 9, 3) := by decide +kernel
theorem dX0_init_68 : decode cX0_init 68 = .ok (.dup, 1) := by decide +kernel
theorem dX0_init_69 : decode cX0_init 69 = .ok (.sipush 200, 3) := by decide +kernel
theorem dX0_init_72 : decode cX0_init 72 = .ok (.iconst (-1), 1) := by decide +kernel
theorem dX0_init_73 : decode cX0_init 73 = .ok (.invokespecial 11, 3) := by decide +kernel
theorem dX0_init_76 : decode cX0_init 76 = .ok (.putfield 29, 3) := by decide +kernel
theorem dX0_init_79 : decode cX0_init 79 = .ok (.aload_n 0, 1) := by decide +kernel
theorem dX0_init_80 : decode cX0_init 80 = .ok (.new 9, 3) := by decide +kernel
theorem dX0_init_83 : decode cX0_init 83 = .ok (.dup, 1) := by decide +kernel
theorem dX0_init_84 : decode cX0_init 84 = .ok (.bipush 12, 2) := by decide +kernel
theorem dX0_init_86 : decode cX0_init 86 = .ok (.iconst (-1), 1) := by decide +kernel
theorem dX0_init_87 : decode cX0_init 87 = .ok (.invokespecial 11, 3) := by decide +kernel
theorem dX0_init_90 : decode cX0_init 90 = .ok (.putfield 32, 3) := by decide +kernel
theorem dX0_init_93 : decode cX0_init 93 = .ok (.aload_n 0, 1) := by decide +kernel
theorem dX0_init_94 : decode cX0_init 94 = .ok (.iconst 0, 1) := by decide +kernel
theorem dX0_init_95 : decode cX0_init 95 = .ok (.putfield 35, 3) := by decide +kernel
theorem dX0_init_98 : decode cX0_init 98 = .ok (.return_, 1) := by decide +kernel
theorem dX0_total_0 : decode cX0_total 0 = .ok (.aload_n 0, 1) := by decide +kernel
theorem dX0_total_1 : decode cX0_total 1 = .ok (.getfield 35, 3) := by decide +kernel
theorem dX0_total_4 : decode cX0_total 4 = .ok (.ireturn, 1) := by decide +kernel
set_option maxRecDepth 20000 in
theorem ggX0_add_X5_put : GoodIn wsX0_add wsX5_put := goodIn_r _ [12, 13, 25] (by decide +kernel) (by decide +kernel)
set_option maxRecDepth 20000 in
theorem gX0_add_X5_put : GoodIn wsX0_add (wsV RX0 39 RX5 yX5_put wsX5_put) := goodIn_app (goodIn_of _ (by decide +kernel)) ggX0_add_X5_put
set_option maxRecDepth 20000 in
theorem ggX0_add_X5_at : GoodIn wsX0_add wsX5_at := goodIn_r _ [17, 13, 25] (by decide +kernel) (by decide +kernel)
set_option maxRecDepth 20000 in
theorem gX0_add_X5_at : GoodIn wsX0_add (wsV RX0 42 RX5 yX5_at wsX5_at) := goodIn_app (goodIn_of _ (by decide +kernel)) ggX0_add_X5_at
theorem dX0_add_0 : decode cX0_add 0 = .ok (.aload_n 0, 1) := by decide +kernel
theorem dX0_add_1 : decode cX0_add 1 = .ok (.getfield 35, 3) := by decide +kernel
theorem dX0_add_4 : decode cX0_add 4 = .ok (.istore 5, 2) := by decide +kernel
theorem dX0_add_6 : decode cX0_add 6 = .ok (.aload_n 0, 1) := by decide +kernel
theorem dX0_add_7 : decode cX0_add 7 = .ok (.getfield 14, 3) := by decide +kernel
theorem dX0_add_10 : decode cX0_add 10 = .ok (.iload 5, 2) := by decide +kernel
theorem dX0_add_12 : decode cX0_add 12 = .ok (.iload_n 1, 1) := by decide +kernel
theorem dX0_add_13 : decode cX0_add 13 = .ok (.invokevirtual 39, 3) := by decide +kernel
theorem dX0_add_16 : decode cX0_add 16 = .ok (.aload_n 0, 1) := by decide +kernel
theorem dX0_add_17 : decode cX0_add 17 = .ok (.getfield 20, 3) := by decide +kernel
theorem dX0_add_20 : decode cX0_add 20 = .ok (.iload 5, 2) := by decide +kernel
theorem dX0_add_22 : decode cX0_add 22 = .ok (.iload_n 2, 1) := by decide +kernel
theorem dX0_add_23 : decode cX0_add 23 = .ok (.invokevirtual 39, 3) := by decide +kernel
theorem dX0_add_26 : decode cX0_add 26 = .ok (.aload_n 0, 1) := by decide +kernel
theorem dX0_add_27 : decode cX0_add 27 = .ok (.getfield 23, 3) := by decide +kernel
theorem dX0_add_30 : decode cX0_add 30 = .ok (.iload 5, 2) := by decide +kernel
theorem dX0_add_32 : decode cX0_add 32 = .ok (.iload_n 3, 1) := by decide +kernel
theorem dX0_add_33 : decode cX0_add 33 = .ok (.invokevirtual 39, 3) := by decide +kernel
theorem dX0_add_36 : decode cX0_add 36 = .ok (.aload_n 0, 1) := by decide +kernel
theorem dX0_add_37 : decode cX0_add 37 = .ok (.getfield 26, 3) := by decide +kernel
theorem dX0_add_40 : decode cX0_add 40 = .ok (.iload 5, 2) := by decide +kernel
theorem dX0_add_42 : decode cX0_add 42 = .ok (.iload 4, 2) := by decide +kernel
theorem dX0_add_44 : decode cX0_add 44 = .ok (.invokevirtual 39, 3) := by decide +kernel
theorem dX0_add_47 : decode cX0_add 47 = .ok (.aload_n 0, 1) := by decide +kernel
theorem dX0_add_48 : decode cX0_add 48 = .ok (.getfield 29, 3) := by decide +kernel
theorem dX0_add_51 : decode cX0_add 51 = .ok (.iload 5, 2) := by decide +kernel
theorem dX0_add_53 : decode cX0_add 53 = .ok (.aload_n 0, 1) := by decide +kernel
theorem dX0_add_54 : decode cX0_add 54 = .ok (.getfield 32, 3) := by decide +kernel
theorem dX0_add_57 : decode cX0_add 57 = .ok (.iload_n 3, 1) := by decide +kernel
theorem dX0_add_58 : decode cX0_add 58 = .ok (.invokevirtual 42, 3) := by decide +kernel
theorem dX0_add_61 : decode cX0_add 61 = .ok (.invokevirtual 39, 3) := by decide +kernel
theorem dX0_add_64 : decode cX0_add 64 = .ok (.aload_n 0, 1) := by decide +kernel
theorem dX0_add_65 : decode cX0_add 65 = .ok (.getfield 32, 3) := by decide +kernel
theorem dX0_add_68 : decode cX0_add 68 = .ok (.iload_n 3, 1) := by decide +kernel
theorem dX0_add_69 : decode cX0_add 69 = .ok (.iload 5, 2) := by decide +kernel
theorem dX0_add_71 : decode cX0_add 71 = .ok (.invokevirtual 39, 3) := by decide +kernel
theorem dX0_add_74 : decode cX0_add 74 = .ok (.aload_n 0, 1) := by decide +kernel
theorem dX0_add_75 : decode cX0_add 75 = .ok (.dup, 1) := by decide +kernel
theorem dX0_add_76 : decode cX0_add 76 = .ok (.getfield 35, 3) := by decide +kernel
theorem dX0_add_79 : decode cX0_add 79 = .ok (.iconst 1, 1) := by decide +kernel
theorem dX0_add_80 : decode cX0_add 80 = .ok (.iadd, 1) := by decide +kernel
theorem dX0_add_81 : decode cX0_add 81 = .ok (.putfield 35, 3) := by decide +kernel
theorem dX0_add_84 : decode cX0_add 84 = .ok (.iload 5, 2) := by decide +kernel
theorem dX0_add_86 : decode cX0_add 86 = .ok (.ireturn, 1) := by decide +kernel
set_option maxRecDepth 20000 in
theorem ggX0_personOf_X5_at : GoodIn wsX0_personOf wsX5_at := goodIn_r _ [6, 7, 15] (by decide +kernel) (by decide +kernel)
set_option maxRecDepth 20000 in
theorem gX0_personOf_X5_at : GoodIn wsX0_personOf (wsV RX0 42 RX5 yX5_at wsX5_at) := goodIn_app (goodIn_of _ (by decide +kernel)) ggX0_personOf_X5_at
theorem dX0_personOf_0 : decode cX0_personOf 0 = .ok (.aload_n 0, 1) := by decide +kernel
theorem dX0_personOf_1 : decode cX0_personOf 1 = .ok (.getfield 14, 3) := by decide +kernel
theorem dX0_personOf_4 : decode cX0_personOf 4 = .ok (.iload_n 1, 1) := by decide +kernel
theorem dX0_personOf_5 : decode cX0_personOf 5 = .ok (.invokevirtual 42, 3) := by decide +kernel
theorem dX0_personOf_8 : decode cX0_personOf 8 = .ok (.ireturn, 1) := by decide +kernel
set_option maxRecDepth 20000 in
theorem ggX0_timeOf_X5_at : GoodIn wsX0_timeOf wsX5_at := goodIn_r _ [6, 7, 15] (by decide +kernel) (by decide +kernel)
set_option maxRecDepth 20000 in
theorem gX0_timeOf_X5_at : GoodIn wsX0_timeOf (wsV RX0 42 RX5 yX5_at wsX5_at) := goodIn_app (goodIn_of _ (by decide +kernel)) ggX0_timeOf_X5_at
theorem dX0_timeOf_0 : decode cX0_timeOf 0 = .ok (.aload_n 0, 1) := by decide +kernel
theorem dX0_timeOf_1 : decode cX0_timeOf 1 = .ok (.getfield 20, 3) := by decide +kernel
theorem dX0_timeOf_4 : decode cX0_timeOf 4 = .ok (.iload_n 1, 1) := by decide +kernel
theorem dX0_timeOf_5 : decode cX0_timeOf 5 = .ok (.invokevirtual 42, 3) := by decide +kernel
theorem dX0_timeOf_8 : decode cX0_timeOf 8 = .ok (.ireturn, 1) := by decide +kernel
set_option maxRecDepth 20000 in
theorem ggX0_subjectOf_X5_at : GoodIn wsX0_subjectOf wsX5_at := goodIn_r _ [6, 7, 15] (by decide +kernel) (by decide +kernel)
set_option maxRecDepth 20000 in
theorem gX0_subjectOf_X5_at : GoodIn wsX0_subjectOf (wsV RX0 42 RX5 yX5_at wsX5_at) := goodIn_app (goodIn_of _ (by decide +kernel)) ggX0_subjectOf_X5_at
theorem dX0_subjectOf_0 : decode cX0_subjectOf 0 = .ok (.aload_n 0, 1) := by decide +kernel
theorem dX0_subjectOf_1 : decode cX0_subjectOf 1 = .ok (.getfield 23, 3) := by decide +kernel
theorem dX0_subjectOf_4 : decode cX0_subjectOf 4 = .ok (.iload_n 1, 1) := by decide +kernel
theorem dX0_subjectOf_5 : decode cX0_subjectOf 5 = .ok (.invokevirtual 42, 3) := by decide +kernel
theorem dX0_subjectOf_8 : decode cX0_subjectOf 8 = .ok (.ireturn, 1) := by decide +kernel
set_option maxRecDepth 20000 in
theorem ggX0_valueOf_X5_at : GoodIn wsX0_valueOf wsX5_at := goodIn_r _ [6, 7, 15] (by decide +kernel) (by decide +kernel)
set_option maxRecDepth 20000 in
theorem gX0_valueOf_X5_at : GoodIn wsX0_valueOf (wsV RX0 42 RX5 yX5_at wsX5_at) := goodIn_app (goodIn_of _ (by decide +kernel)) ggX0_valueOf_X5_at
theorem dX0_valueOf_0 : decode cX0_valueOf 0 = .ok (.aload_n 0, 1) := by decide +kernel
theorem dX0_valueOf_1 : decode cX0_valueOf 1 = .ok (.getfield 26, 3) := by decide +kernel
theorem dX0_valueOf_4 : decode cX0_valueOf 4 = .ok (.iload_n 1, 1) := by decide +kernel
theorem dX0_valueOf_5 : decode cX0_valueOf 5 = .ok (.invokevirtual 42, 3) := by decide +kernel
theorem dX0_valueOf_8 : decode cX0_valueOf 8 = .ok (.ireturn, 1) := by decide +kernel
set_option maxRecDepth 20000 in
theorem ggX0_latestOf_X5_at : GoodIn wsX0_latestOf wsX5_at := goodIn_r _ [6, 7, 15] (by decide +kernel) (by decide +kernel)
set_option maxRecDepth 20000 in
theorem gX0_latestOf_X5_at : GoodIn wsX0_latestOf (wsV RX0 42 RX5 yX5_at wsX5_at) := goodIn_app (goodIn_of _ (by decide +kernel)) ggX0_latestOf_X5_at
theorem dX0_latestOf_0 : decode cX0_latestOf 0 = .ok (.aload_n 0, 1) := by decide +kernel
theorem dX0_latestOf_1 : decode cX0_latestOf 1 = .ok (.getfield 32, 3) := by decide +kernel
theorem dX0_latestOf_4 : decode cX0_latestOf 4 = .ok (.iload_n 1, 1) := by decide +kernel
theorem dX0_latestOf_5 : decode cX0_latestOf 5 = .ok (.invokevirtual 42, 3) := by decide +kernel
theorem dX0_latestOf_8 : decode cX0_latestOf 8 = .ok (.ireturn, 1) := by decide +kernel
set_option maxRecDepth 20000 in
theorem ggX0_valueNow_X5_at : GoodIn wsX0_valueNow wsX5_at := goodIn_r _ [7, 8, 16] (by decide +kernel) (by decide +kernel)
set_option maxRecDepth 20000 in
theorem gX0_valueNow_X5_at : GoodIn wsX0_valueNow (wsV RX0 42 RX5 yX5_at wsX5_at) := goodIn_app (goodIn_of _ (by decide +kernel)) ggX0_valueNow_X5_at
theorem dX0_valueNow_0 : decode cX0_valueNow 0 = .ok (.aload_n 0, 1) := by decide +kernel
theorem dX0_valueNow_1 : decode cX0_valueNow 1 = .ok (.getfield 32, 3) := by decide +kernel
theorem dX0_valueNow_4 : decode cX0_valueNow 4 = .ok (.iload_n 1, 1) := by decide +kernel
theorem dX0_valueNow_5 : decode cX0_valueNow 5 = .ok (.invokevirtual 42, 3) := by decide +kernel
theorem dX0_valueNow_8 : decode cX0_valueNow 8 = .ok (.istore_n 2, 1) := by decide +kernel
theorem dX0_valueNow_9 : decode cX0_valueNow 9 = .ok (.iload_n 2, 1) := by decide +kernel
theorem dX0_valueNow_10 : decode cX0_valueNow 10 = .ok (.iconst (-1), 1) := by decide +kernel
theorem dX0_valueNow_11 : decode cX0_valueNow 11 = .ok (.if_icmp .ne 7, 3) := by decide +kernel
theorem dX0_valueNow_14 : decode cX0_valueNow 14 = .ok (.iconst 0, 1) := by decide +kernel
theorem dX0_valueNow_15 : decode cX0_valueNow 15 = .ok (.goto 11, 3) := by decide +kernel
theorem dX0_valueNow_18 : decode cX0_valueNow 18 = .ok (.aload_n 0, 1) := by decide +kernel
theorem dX0_valueNow_19 : decode cX0_valueNow 19 = .ok (.getfield 26, 3) := by decide +kernel
theorem dX0_valueNow_22 : decode cX0_valueNow 22 = .ok (.iload_n 2, 1) := by decide +kernel
theorem dX0_valueNow_23 : decode cX0_valueNow 23 = .ok (.invokevirtual 42, 3) := by decide +kernel
theorem dX0_valueNow_26 : decode cX0_valueNow 26 = .ok (.ireturn, 1) := by decide +kernel
set_option maxRecDepth 20000 in
theorem ggX0_sinceWhen_X5_at : GoodIn wsX0_sinceWhen wsX5_at := goodIn_r _ [7, 8, 16] (by decide +kernel) (by decide +kernel)
set_option maxRecDepth 20000 in
theorem gX0_sinceWhen_X5_at : GoodIn wsX0_sinceWhen (wsV RX0 42 RX5 yX5_at wsX5_at) := goodIn_app (goodIn_of _ (by decide +kernel)) ggX0_sinceWhen_X5_at
theorem dX0_sinceWhen_0 : decode cX0_sinceWhen 0 = .ok (.aload_n 0, 1) := by decide +kernel
theorem dX0_sinceWhen_1 : decode cX0_sinceWhen 1 = .ok (.getfield 32, 3) := by decide +kernel
theorem dX0_sinceWhen_4 : decode cX0_sinceWhen 4 = .ok (.iload_n 1, 1) := by decide +kernel
theorem dX0_sinceWhen_5 : decode cX0_sinceWhen 5 = .ok (.invokevirtual 42, 3) := by decide +kernel
theorem dX0_sinceWhen_8 : decode cX0_sinceWhen 8 = .ok (.istore_n 2, 1) := by decide +kernel
theorem dX0_sinceWhen_9 : decode cX0_sinceWhen 9 = .ok (.iload_n 2, 1) := by decide +kernel
theorem dX0_sinceWhen_10 : decode cX0_sinceWhen 10 = .ok (.iconst (-1), 1) := by decide +kernel
theorem dX0_sinceWhen_11 : decode cX0_sinceWhen 11 = .ok (.if_icmp .ne 7, 3) := by decide +kernel
theorem dX0_sinceWhen_14 : decode cX0_sinceWhen 14 = .ok (.iconst 0, 1) := by decide +kernel
theorem dX0_sinceWhen_15 : decode cX0_sinceWhen 15 = .ok (.goto 11, 3) := by decide +kernel
theorem dX0_sinceWhen_18 : decode cX0_sinceWhen 18 = .ok (.aload_n 0, 1) := by decide +kernel
theorem dX0_sinceWhen_19 : decode cX0_sinceWhen 19 = .ok (.getfield 20, 3) := by decide +kernel
theorem dX0_sinceWhen_22 : decode cX0_sinceWhen 22 = .ok (.iload_n 2, 1) := by decide +kernel
theorem dX0_sinceWhen_23 : decode cX0_sinceWhen 23 = .ok (.invokevirtual 42, 3) := by decide +kernel
theorem dX0_sinceWhen_26 : decode cX0_sinceWhen 26 = .ok (.ireturn, 1) := by decide +kernel
set_option maxRecDepth 20000 in
theorem ggX0_valueWithout_X5_at : GoodIn wsX0_valueWithout wsX5_at := goodIn_r _ [9, 10, 18] (by decide +kernel) (by decide +kernel)
set_option maxRecDepth 20000 in
theorem gX0_valueWithout_X5_at : GoodIn wsX0_valueWithout (wsV RX0 42 RX5 yX5_at wsX5_at) := goodIn_app (goodIn_of _ (by decide +kernel)) ggX0_valueWithout_X5_at
theorem dX0_valueWithout_0 : decode cX0_valueWithout 0 = .ok (.aload_n 0, 1) := by decide +kernel
theorem dX0_valueWithout_1 : decode cX0_valueWithout 1 = .ok (.getfield 32, 3) := by decide +kernel
theorem dX0_valueWithout_4 : decode cX0_valueWithout 4 = .ok (.aload_n 0, 1) := by decide +kernel
theorem dX0_valueWithout_5 : decode cX0_valueWithout 5 = .ok (.getfield 23, 3) := by decide +kernel
theorem dX0_valueWithout_8 : decode cX0_valueWithout 8 = .ok (.iload_n 1, 1) := by decide +kernel
theorem dX0_valueWithout_9 : decode cX0_valueWithout 9 = .ok (.invokevirtual 42, 3) := by decide +kernel
theorem dX0_valueWithout_12 : decode cX0_valueWithout 12 = .ok (.invokevirtual 42, 3) := by decide +kernel
theorem dX0_valueWithout_15 : decode cX0_valueWithout 15 = .ok (.istore_n 2, 1) := by decide +kernel
theorem dX0_valueWithout_16 : decode cX0_valueWithout 16 = .ok (.iload_n 2, 1) := by decide +kernel
theorem dX0_valueWithout_17 : decode cX0_valueWithout 17 = .ok (.iload_n 1, 1) := by decide +kernel
theorem dX0_valueWithout_18 : decode cX0_valueWithout 18 = .ok (.if_icmp .ne 14, 3) := by decide +kernel
theorem dX0_valueWithout_21 : decode cX0_valueWithout 21 = .ok (.aload_n 0, 1) := by decide +kernel
theorem dX0_valueWithout_22 : decode cX0_valueWithout 22 = .ok (.getfield 29, 3) := by decide +kernel
theorem dX0_valueWithout_25 : decode cX0_valueWithout 25 = .ok (.iload_n 1, 1) := by decide +kernel
theorem dX0_valueWithout_26 : decode cX0_valueWithout 26 = .ok (.invokevirtual 42, 3) := by decide +kernel
theorem dX0_valueWithout_29 : decode cX0_valueWithout 29 = .ok (.goto 4, 3) := by decide +kernel
theorem dX0_valueWithout_32 : decode cX0_valueWithout 32 = .ok (.iload_n 2, 1) := by decide +kernel
theorem dX0_valueWithout_33 : decode cX0_valueWithout 33 = .ok (.istore_n 3, 1) := by decide +kernel
theorem dX0_valueWithout_34 : decode cX0_valueWithout 34 = .ok (.iload_n 3, 1) := by decide +kernel
theorem dX0_valueWithout_35 : decode cX0_valueWithout 35 = .ok (.iconst (-1), 1) := by decide +kernel
theorem dX0_valueWithout_36 : decode cX0_valueWithout 36 = .ok (.if_icmp .ne 7, 3) := by decide +kernel
theorem dX0_valueWithout_39 : decode cX0_valueWithout 39 = .ok (.iconst 0, 1) := by decide +kernel
theorem dX0_valueWithout_40 : decode cX0_valueWithout 40 = .ok (.goto 11, 3) := by decide +kernel
theorem dX0_valueWithout_43 : decode cX0_valueWithout 43 = .ok (.aload_n 0, 1) := by decide +kernel
theorem dX0_valueWithout_44 : decode cX0_valueWithout 44 = .ok (.getfield 26, 3) := by decide +kernel
theorem dX0_valueWithout_47 : decode cX0_valueWithout 47 = .ok (.iload_n 3, 1) := by decide +kernel
theorem dX0_valueWithout_48 : decode cX0_valueWithout 48 = .ok (.invokevirtual 42, 3) := by decide +kernel
theorem dX0_valueWithout_51 : decode cX0_valueWithout 51 = .ok (.ireturn, 1) := by decide +kernel
set_option maxRecDepth 20000 in
theorem ggX1_init_X5_init : GoodIn wsX1_init wsX5_init := goodIn_r _ [13, 14, 2, 3, 15, 16, 17] (by decide +kernel) (by decide +kernel)
set_option maxRecDepth 20000 in
theorem gX1_init_X5_init : GoodIn wsX1_init (wsX5_init) := ggX1_init_X5_init
theorem dX1_init_0 : decode cX1_init 0 = .ok (.aload_n 0, 1) := by decide +kernel
theorem dX1_init_1 : decode cX1_init 1 = .ok (.invokespecial 3, 3) := by decide +kernel
theorem dX1_init_4 : decode cX1_init 4 = .ok (.aload_n 0, 1) := by decide +kernel
theorem dX1_init_5 : decode cX1_init 5 = .ok (.new 9, 3) := by decide +kernel
theorem dX1_init_8 : decode cX1_init 8 = .ok (.dup, 1) := by decide +kernel
theorem dX1_init_9 : decode cX1_init 9 = .ok (.bipush 20, 2) := by decide +kernel
theorem dX1_init_11 : decode cX1_init 11 = .ok (.iconst 0, 1) := by decide +kernel
theorem dX1_init_12 : decode cX1_init 12 = .ok (.invokespecial 11, 3) := by decide +kernel
theorem dX1_init_15 : decode cX1_init 15 = .ok (.putfield 14, 3) := by decide +kernel
theorem dX1_init_18 : decode cX1_init 18 = .ok (.aload_n 0, 1) := by decide +kernel
theorem dX1_init_19 : decode cX1_init 19 = .ok (.new 9, 3) := by decide +kernel
theorem dX1_init_22 : decode cX1_init 22 = .ok (.dup, 1) := by decide +kernel
theorem dX1_init_23 : decode cX1_init 23 = .ok (.bipush 20, 2) := by decide +kernel
theorem dX1_init_25 : decode cX1_init 25 = .ok (.iconst 0, 1) := by decide +kernel
theorem dX1_init_26 : decode cX1_init 26 = .ok (.invokespecial 11, 3) := by decide +kernel
theorem dX1_init_29 : decode cX1_init 29 = .ok (.putfield 20, 3) := by decide +kernel
theorem dX1_init_32 : decode cX1_init 32 = .ok (.aload_n 0, 1) := by decide +kernel
theorem dX1_init_33 : decode cX1_init 33 = .ok (.new 9, 3) := by decide +kernel
theorem dX1_init_36 : decode cX1_init 36 = .ok (.dup, 1) := by decide +kernel
theorem dX1_init_37 : decode cX1_init 37 = .ok (.bipush 20, 2) := by decide +kernel
theorem dX1_init_39 : decode cX1_init 39 = .ok (.iconst 0, 1) := by decide +kernel
theorem dX1_init_40 : decode cX1_init 40 = .ok (.invokespecial 11, 3) := by decide +kernel
theorem dX1_init_43 : decode cX1_init 43 = .ok (.putfield 23, 3) := by decide +kernel
theorem dX1_init_46 : decode cX1_init 46 = .ok (.aload_n 0, 1) := by decide +kernel
theorem dX1_init_47 : decode cX1_init 47 = .ok (.iconst 0, 1) := by decide +kernel
theorem dX1_init_48 : decode cX1_init 48 = .ok (.putfield 26, 3) := by decide +kernel
theorem dX1_init_51 : decode cX1_init 51 = .ok (.return_, 1) := by decide +kernel
theorem dX1_total_0 : decode cX1_total 0 = .ok (.aload_n 0, 1) := by decide +kernel
theorem dX1_total_1 : decode cX1_total 1 = .ok (.getfield 26, 3) := by decide +kernel
theorem dX1_total_4 : decode cX1_total 4 = .ok (.ireturn, 1) := by decide +kernel
set_option maxRecDepth 20000 in
theorem ggX1_add_X5_put : GoodIn wsX1_add wsX5_put := goodIn_r _ [9, 10, 22] (by decide +kernel) (by decide +kernel)
set_option maxRecDepth 20000 in
theorem gX1_add_X5_put : GoodIn wsX1_add (wsV RX1 30 RX5 yX5_put wsX5_put) := goodIn_app (goodIn_of _ (by decide +kernel)) ggX1_add_X5_put
set_option maxRecDepth 20000 in
theorem ggX1_add_X5_at : GoodIn wsX1_add wsX5_at := goodIn_r _ [14, 10, 22] (by decide +kernel) (by decide +kernel)
set_option maxRecDepth 20000 in
theorem gX1_add_X5_at : GoodIn wsX1_add (wsV RX1 33 RX5 yX5_at wsX5_at) := goodIn_app (goodIn_of _ (by decide +kernel)) ggX1_add_X5_at
set_option maxRecDepth 20000 in
theorem ggX1_add_X6_withBit : GoodIn wsX1_add wsX6_withBit := goodIn_r _ [17] (by decide +kernel) (by decide +kernel)
set_option maxRecDepth 20000 in
theorem gX1_add_X6_withBit_n37 : GoodIn wsX1_add (wsX6_withBit) := ggX1_add_X6_withBit
theorem dX1_add_0 : decode cX1_add 0 = .ok (.aload_n 0, 1) := by decide +kernel
theorem dX1_add_1 : decode cX1_add 1 = .ok (.dup, 1) := by decide +kernel
theorem dX1_add_2 : decode cX1_add 2 = .ok (.getfield 26, 3) := by decide +kernel
theorem dX1_add_5 : decode cX1_add 5 = .ok (.iconst 1, 1) := by decide +kernel
theorem dX1_add_6 : decode cX1_add 6 = .ok (.iadd, 1) := by decide +kernel
theorem dX1_add_7 : decode cX1_add 7 = .ok (.putfield 26, 3) := by decide +kernel
theorem dX1_add_10 : decode cX1_add 10 = .ok (.iload_n 2, 1) := by decide +kernel
theorem dX1_add_11 : decode cX1_add 11 = .ok (.iconst (-1), 1) := by decide +kernel
theorem dX1_add_12 : decode cX1_add 12 = .ok (.if_icmp .ne 15, 3) := by decide +kernel
theorem dX1_add_15 : decode cX1_add 15 = .ok (.aload_n 0, 1) := by decide +kernel
theorem dX1_add_16 : decode cX1_add 16 = .ok (.getfield 14, 3) := by decide +kernel
theorem dX1_add_19 : decode cX1_add 19 = .ok (.iload_n 1, 1) := by decide +kernel
theorem dX1_add_20 : decode cX1_add 20 = .ok (.iconst 1, 1) := by decide +kernel
theorem dX1_add_21 : decode cX1_add 21 = .ok (.invokevirtual 30, 3) := by decide +kernel
theorem dX1_add_24 : decode cX1_add 24 = .ok (.goto 52, 3) := by decide +kernel
theorem dX1_add_27 : decode cX1_add 27 = .ok (.iload_n 3, 1) := by decide +kernel
theorem dX1_add_28 : decode cX1_add 28 = .ok (.ifCond .eq 27, 3) := by decide +kernel
theorem dX1_add_31 : decode cX1_add 31 = .ok (.aload_n 0, 1) := by decide +kernel
theorem dX1_add_32 : decode cX1_add 32 = .ok (.getfield 20, 3) := by decide +kernel
theorem dX1_add_35 : decode cX1_add 35 = .ok (.iload_n 1, 1) := by decide +kernel
theorem dX1_add_36 : decode cX1_add 36 = .ok (.aload_n 0, 1) := by decide +kernel
theorem dX1_add_37 : decode cX1_add 37 = .ok (.getfield 20, 3) := by decide +kernel
theorem dX1_add_40 : decode cX1_add 40 = .ok (.iload_n 1, 1) := by decide +kernel
theorem dX1_add_41 : decode cX1_add 41 = .ok (.invokevirtual 33, 3) := by decide +kernel
theorem dX1_add_44 : decode cX1_add 44 = .ok (.iload_n 2, 1) := by decide +kernel
theorem dX1_add_45 : decode cX1_add 45 = .ok (.iconst 1, 1) := by decide +kernel
theorem dX1_add_46 : decode cX1_add 46 = .ok (.invokestatic 37, 3) := by decide +kernel
theorem dX1_add_49 : decode cX1_add 49 = .ok (.invokevirtual 30, 3) := by decide +kernel
theorem dX1_add_52 : decode cX1_add 52 = .ok (.goto 24, 3) := by decide +kernel
theorem dX1_add_55 : decode cX1_add 55 = .ok (.aload_n 0, 1) := by decide +kernel
theorem dX1_add_56 : decode cX1_add 56 = .ok (.getfield 23, 3) := by decide +kernel
theorem dX1_add_59 : decode cX1_add 59 = .ok (.iload_n 1, 1) := by decide +kernel
theorem dX1_add_60 : decode cX1_add 60 = .ok (.aload_n 0, 1) := by decide +kernel
theorem dX1_add_61 : decode cX1_add 61 = .ok (.getfield 23, 3) := by decide +kernel
theorem dX1_add_64 : decode cX1_add 64 = .ok (.iload_n 1, 1) := by decide +kernel
theorem dX1_add_65 : decode cX1_add 65 = .ok (.invokevirtual 33, 3) := by decide +kernel
theorem dX1_add_68 : decode cX1_add 68 = .ok (.iload_n 2, 1) := by decide +kernel
theorem dX1_add_69 : decode cX1_add 69 = .ok (.iconst 1, 1) := by decide +kernel
theorem dX1_add_70 : decode cX1_add 70 = .ok (.invokestatic 37, 3) := by decide +kernel
theorem dX1_add_73 : decode cX1_add 73 = .ok (.invokevirtual 30, 3) := by decide +kernel
theorem dX1_add_76 : decode cX1_add 76 = .ok (.return_, 1) := by decide +kernel
set_option maxRecDepth 20000 in
theorem ggX1_anyShows_X5_at : GoodIn wsX1_anyShows wsX5_at := goodIn_r _ [8, 9, 14] (by decide +kernel) (by decide +kernel)
set_option maxRecDepth 20000 in
theorem gX1_anyShows_X5_at : GoodIn wsX1_anyShows (wsV RX1 33 RX5 yX5_at wsX5_at) := goodIn_app (goodIn_of _ (by decide +kernel)) ggX1_anyShows_X5_at
theorem dX1_anyShows_0 : decode cX1_anyShows 0 = .ok (.aload_n 0, 1) := by decide +kernel
theorem dX1_anyShows_1 : decode cX1_anyShows 1 = .ok (.getfield 14, 3) := by decide +kernel
theorem dX1_anyShows_4 : decode cX1_anyShows 4 = .ok (.iload_n 1, 1) := by decide +kernel
theorem dX1_anyShows_5 : decode cX1_anyShows 5 = .ok (.invokevirtual 33, 3) := by decide +kernel
theorem dX1_anyShows_8 : decode cX1_anyShows 8 = .ok (.iconst 1, 1) := by decide +kernel
theorem dX1_anyShows_9 : decode cX1_anyShows 9 = .ok (.if_icmp .eq 31, 3) := by decide +kernel
theorem dX1_anyShows_12 : decode cX1_anyShows 12 = .ok (.aload_n 0, 1) := by decide +kernel
theorem dX1_anyShows_13 : decode cX1_anyShows 13 = .ok (.getfield 20, 3) := by decide +kernel
theorem dX1_anyShows_16 : decode cX1_anyShows 16 = .ok (.iload_n 1, 1) := by decide +kernel
theorem dX1_anyShows_17 : decode cX1_anyShows 17 = .ok (.invokevirtual 33, 3) := by decide +kernel
theorem dX1_anyShows_20 : decode cX1_anyShows 20 = .ok (.iload_n 2, 1) := by decide +kernel
theorem dX1_anyShows_21 : decode cX1_anyShows 21 = .ok (.iand, 1) := by decide +kernel
theorem dX1_anyShows_22 : decode cX1_anyShows 22 = .ok (.ifCond .ne 18, 3) := by decide +kernel
theorem dX1_anyShows_25 : decode cX1_anyShows 25 = .ok (.aload_n 0, 1) := by decide +kernel
theorem dX1_anyShows_26 : decode cX1_anyShows 26 = .ok (.getfield 23, 3) := by decide +kernel
theorem dX1_anyShows_29 : decode cX1_anyShows 29 = .ok (.iload_n 1, 1) := by decide +kernel
theorem dX1_anyShows_30 : decode cX1_anyShows 30 = .ok (.invokevirtual 33, 3) := by decide +kernel
theorem dX1_anyShows_33 : decode cX1_anyShows 33 = .ok (.iload_n 2, 1) := by decide +kernel
theorem dX1_anyShows_34 : decode cX1_anyShows 34 = .ok (.iconst (-1), 1) := by decide +kernel
theorem dX1_anyShows_35 : decode cX1_anyShows 35 = .ok (.ixor, 1) := by decide +kernel
theorem dX1_anyShows_36 : decode cX1_anyShows 36 = .ok (.iand, 1) := by decide +kernel
theorem dX1_anyShows_37 : decode cX1_anyShows 37 = .ok (.ifCond .eq 7, 3) := by decide +kernel
theorem dX1_anyShows_40 : decode cX1_anyShows 40 = .ok (.iconst 1, 1) := by decide +kernel
theorem dX1_anyShows_41 : decode cX1_anyShows 41 = .ok (.goto 4, 3) := by decide +kernel
theorem dX1_anyShows_44 : decode cX1_anyShows 44 = .ok (.iconst 0, 1) := by decide +kernel
theorem dX1_anyShows_45 : decode cX1_anyShows 45 = .ok (.ireturn, 1) := by decide +kernel
set_option maxRecDepth 20000 in
theorem ggX2_init_X5_init : GoodIn wsX2_init wsX5_init := goodIn_r _ [16, 17, 2, 3, 18, 19, 20] (by decide +kernel) (by decide +kernel)
set_option maxRecDepth 20000 in
theorem gX2_init_X5_init : GoodIn wsX2_init (wsX5_init) := ggX2_init_X5_init
theorem dX2_init_0 : decode cX2_init 0 = .ok (.aload_n 0, 1) := by decide +kernel
theorem dX2_init_1 : decode cX2_init 1 = .ok (.invokespecial 3, 3) := by decide +kernel
theorem dX2_init_4 : decode cX2_init 4 = .ok (.aload_n 0, 1) := by decide +kernel
theorem dX2_init_5 : decode cX2_init 5 = .ok (.new 9, 3) := by decide +kernel
theorem dX2_init_8 : decode cX2_init 8 = .ok (.dup, 1) := by decide +kernel
theorem dX2_init_9 : decode cX2_init 9 = .ok (.sipush 200, 3) := by decide +kernel
theorem dX2_init_12 : decode cX2_init 12 = .ok (.iconst (-1), 1) := by decide +kernel
theorem dX2_init_13 : decode cX2_init 13 = .ok (.invokespecial 11, 3) := by decide +kernel
theorem dX2_init_16 : decode cX2_init 16 = .ok (.putfield 14, 3) := by decide +kernel
theorem dX2_init_19 : decode cX2_init 19 = .ok (.aload_n 0, 1) := by decide +kernel
theorem dX2_init_20 : decode cX2_init 20 = .ok (.new 9, 3) := by decide +kernel
theorem dX2_init_23 : decode cX2_init 23 = .ok (.dup, 1) := by decide +kernel
theorem dX2_init_24 : decode cX2_init 24 = .ok (.sipush 200, 3) := by decide +kernel
theorem dX2_init_27 : decode cX2_init 27 = .ok (.iconst (-1), 1) := by decide +kernel
theorem dX2_init_28 : decode cX2_init 28 = .ok (.invokespecial 11, 3) := by decide +kernel
theorem dX2_init_31 : decode cX2_init 31 = .ok (.putfield 20, 3) := by decide +kernel
theorem dX2_init_34 : decode cX2_init 34 = .ok (.aload_n 0, 1) := by decide +kernel
theorem dX2_init_35 : decode cX2_init 35 = .ok (.new 9, 3) := by decide +kernel
theorem dX2_init_38 : decode cX2_init 38 = .ok (.dup, 1) := by decide +kernel
theorem dX2_init_39 : decode cX2_init 39 = .ok (.sipush 200, 3) := by decide +kernel
theorem dX2_init_42 : decode cX2_init 42 = .ok (.iconst (-1), 1) := by decide +kernel
theorem dX2_init_43 : decode cX2_init 43 = .ok (.invokespecial 11, 3) := by decide +kernel
theorem dX2_init_46 : decode cX2_init 46 = .ok (.putfield 23, 3) := by decide +kernel
theorem dX2_init_49 : decode cX2_init 49 = .ok (.aload_n 0, 1) := by decide +kernel
theorem dX2_init_50 : decode cX2_init 50 = .ok (.new 9, 3) := by decide +kernel
theorem dX2_init_53 : decode cX2_init 53 = .ok (.dup, 1) := by decide +kernel
theorem dX2_init_54 : decode cX2_init 54 = .ok (.sipush 200, 3) := by decide +kernel
theorem dX2_init_57 : decode cX2_init 57 = .ok (.iconst (-1), 1) := by decide +kernel
theorem dX2_init_58 : decode cX2_init 58 = .ok (.invokespecial 11, 3) := by decide +kernel
theorem dX2_init_61 : decode cX2_init 61 = .ok (.putfield 26, 3) := by decide +kernel
theorem dX2_init_64 : decode cX2_init 64 = .ok (.aload_n 0, 1) := by decide +kernel
theorem dX2_init_65 : decode cX2_init 65 = .ok (.new 9, 3) := by decide +kernel
theorem dX2_init_68 : decode cX2_init 68 = .ok (.dup, 1) := by decide +kernel
theorem dX2_init_69 : decode cX2_init 69 = .ok (.sipush 200, 3) := by decide +kernel
theorem dX2_init_72 : decode cX2_init 72 = .ok (.iconst (-1), 1) := by decide +kernel
theorem dX2_init_73 : decode cX2_init 73 = .ok (.invokespecial 11, 3) := by decide +kernel
theorem dX2_init_76 : decode cX2_init 76 = .ok (.putfield 29, 3) := by decide +kernel
theorem dX2_init_79 : decode cX2_init 79 = .ok (.aload_n 0, 1) := by decide +kernel
theorem dX2_init_80 : decode cX2_init 80 = .ok (.new 9, 3) := by decide +kernel
theorem dX2_init_83 : decode cX2_init 83 = .ok (.dup, 1) := by decide +kernel
theorem dX2_init_84 : decode cX2_init 84 = .ok (.iconst 4, 1) := by decide +kernel
theorem dX2_init_85 : decode cX2_init 85 = .ok (.iconst (-1), 1) := by decide +kernel
theorem dX2_init_86 : decode cX2_init 86 = .ok (.invokespecial 11, 3) := by decide +kernel
theorem dX2_init_89 : decode cX2_init 89 = .ok (.putfield 32, 3) := by decide +kernel
theorem dX2_init_92 : decode cX2_init 92 = .ok (.aload_n 0, 1) := by decide +kernel
theorem dX2_init_93 : decode cX2_init 93 = .ok (.iconst 0, 1) := by decide +kernel
theorem dX2_init_94 : decode cX2_init 94 = .ok (.putfield 35, 3) := by decide +kernel
theorem dX2_init_97 : decode cX2_init 97 = .ok (.return_, 1) := by decide +kernel
theorem dX2_total_0 : decode cX2_total 0 = .ok (.aload_n 0, 1) := by decide +kernel
theorem dX2_total_1 : decode cX2_total 1 = .ok (.getfield 35, 3) := by decide +kernel
theorem dX2_total_4 : decode cX2_total 4 = .ok (.ireturn, 1) := by decide +kernel
set_option maxRecDepth 20000 in
theorem ggX2_open_X5_put : GoodIn wsX2_open wsX5_put := goodIn_r _ [10, 11, 19] (by decide +kernel) (by decide +kernel)
set_option maxRecDepth 20000 in
theorem gX2_open_X5_put : GoodIn wsX2_open (wsV RX2 39 RX5 yX5_put wsX5_put) := goodIn_app (goodIn_of _ (by decide +kernel)) ggX2_open_X5_put
theorem dX2_open_0 : decode cX2_open 0 = .ok (.aload_n 0, 1) := by decide +kernel
theorem dX2_open_1 : decode cX2_open 1 = .ok (.getfield 14, 3) := by decide +kernel
theorem dX2_open_4 : decode cX2_open 4 = .ok (.aload_n 0, 1) := by decide +kernel
theorem dX2_open_5 : decode cX2_open 5 = .ok (.getfield 35, 3) := by decide +kernel
theorem dX2_open_8 : decode cX2_open 8 = .ok (.iload_n 1, 1) := by decide +kernel
theorem dX2_open_9 : decode cX2_open 9 = .ok (.invokevirtual 39, 3) := by decide +kernel
theorem dX2_open_12 : decode cX2_open 12 = .ok (.aload_n 0, 1) := by decide +kernel
theorem dX2_open_13 : decode cX2_open 13 = .ok (.getfield 20, 3) := by decide +kernel
theorem dX2_open_16 : decode cX2_open 16 = .ok (.aload_n 0, 1) := by decide +kernel
theorem dX2_open_17 : decode cX2_open 17 = .ok (.getfield 35, 3) := by decide +kernel
theorem dX2_open_20 : decode cX2_open 20 = .ok (.iload_n 2, 1) := by decide +kernel
theorem dX2_open_21 : decode cX2_open 21 = .ok (.invokevirtual 39, 3) := by decide +kernel
theorem dX2_open_24 : decode cX2_open 24 = .ok (.aload_n 0, 1) := by decide +kernel
theorem dX2_open_25 : decode cX2_open 25 = .ok (.getfield 26, 3) := by decide +kernel
theorem dX2_open_28 : decode cX2_open 28 = .ok (.aload_n 0, 1) := by decide +kernel
theorem dX2_open_29 : decode cX2_open 29 = .ok (.getfield 35, 3) := by decide +kernel
theorem dX2_open_32 : decode cX2_open 32 = .ok (.iload_n 3, 1) := by decide +kernel
theorem dX2_open_33 : decode cX2_open 33 = .ok (.invokevirtual 39, 3) := by decide +kernel
theorem dX2_open_36 : decode cX2_open 36 = .ok (.aload_n 0, 1) := by decide +kernel
theorem dX2_open_37 : decode cX2_open 37 = .ok (.getfield 32, 3) := by decide +kernel
theorem dX2_open_40 : decode cX2_open 40 = .ok (.iload_n 1, 1) := by decide +kernel
theorem dX2_open_41 : decode cX2_open 41 = .ok (.aload_n 0, 1) := by decide +kernel
theorem dX2_open_42 : decode cX2_open 42 = .ok (.getfield 35, 3) := by decide +kernel
theorem dX2_open_45 : decode cX2_open 45 = .ok (.invokevirtual 39, 3) := by decide +kernel
theorem dX2_open_48 : decode cX2_open 48 = .ok (.aload_n 0, 1) := by decide +kernel
theorem dX2_open_49 : decode cX2_open 49 = .ok (.dup, 1) := by decide +kernel
theorem dX2_open_50 : decode cX2_open 50 = .ok (.getfield 35, 3) := by decide +kernel
theorem dX2_open_53 : decode cX2_open 53 = .ok (.iconst 1, 1) := by decide +kernel
theorem dX2_open_54 : decode cX2_open 54 = .ok (.iadd, 1) := by decide +kernel
theorem dX2_open_55 : decode cX2_open 55 = .ok (.putfield 35, 3) := by decide +kernel
theorem dX2_open_58 : decode cX2_open 58 = .ok (.return_, 1) := by decide +kernel
set_option maxRecDepth 20000 in
theorem ggX2_close_X5_at : GoodIn wsX2_close wsX5_at := goodIn_r _ [7, 8, 20] (by decide +kernel) (by decide +kernel)
set_option maxRecDepth 20000 in
theorem gX2_close_X5_at : GoodIn wsX2_close (wsV RX2 42 RX5 yX5_at wsX5_at) := goodIn_app (goodIn_of _ (by decide +kernel)) ggX2_close_X5_at
set_option maxRecDepth 20000 in
theorem ggX2_close_X5_put : GoodIn wsX2_close wsX5_put := goodIn_r _ [12, 8, 20] (by decide +kernel) (by decide +kernel)
set_option maxRecDepth 20000 in
theorem gX2_close_X5_put : GoodIn wsX2_close (wsV RX2 39 RX5 yX5_put wsX5_put) := goodIn_app (goodIn_of _ (by decide +kernel)) ggX2_close_X5_put
theorem dX2_close_0 : decode cX2_close 0 = .ok (.aload_n 0, 1) := by decide +kernel
theorem dX2_close_1 : decode cX2_close 1 = .ok (.getfield 32, 3) := by decide +kernel
theorem dX2_close_4 : decode cX2_close 4 = .ok (.iload_n 1, 1) := by decide +kernel
theorem dX2_close_5 : decode cX2_close 5 = .ok (.invokevirtual 42, 3) := by decide +kernel
theorem dX2_close_8 : decode cX2_close 8 = .ok (.istore_n 3, 1) := by decide +kernel
theorem dX2_close_9 : decode cX2_close 9 = .ok (.iload_n 3, 1) := by decide +kernel
theorem dX2_close_10 : decode cX2_close 10 = .ok (.iconst (-1), 1) := by decide +kernel
theorem dX2_close_11 : decode cX2_close 11 = .ok (.if_icmp .eq 21, 3) := by decide +kernel
theorem dX2_close_14 : decode cX2_close 14 = .ok (.aload_n 0, 1) := by decide +kernel
theorem dX2_close_15 : decode cX2_close 15 = .ok (.getfield 23, 3) := by decide +kernel
theorem dX2_close_18 : decode cX2_close 18 = .ok (.iload_n 3, 1) := by decide +kernel
theorem dX2_close_19 : decode cX2_close 19 = .ok (.iload_n 2, 1) := by decide +kernel
theorem dX2_close_20 : decode cX2_close 20 = .ok (.invokevirtual 39, 3) := by decide +kernel
theorem dX2_close_23 : decode cX2_close 23 = .ok (.aload_n 0, 1) := by decide +kernel
theorem dX2_close_24 : decode cX2_close 24 = .ok (.getfield 32, 3) := by decide +kernel
theorem dX2_close_27 : decode cX2_close 27 = .ok (.iload_n 1, 1) := by decide +kernel
theorem dX2_close_28 : decode cX2_close 28 = .ok (.iconst (-1), 1) := by decide +kernel
theorem dX2_close_29 : decode cX2_close 29 = .ok (.invokevirtual 39, 3) := by decide +kernel
theorem dX2_close_32 : decode cX2_close 32 = .ok (.return_, 1) := by decide +kernel
set_option maxRecDepth 20000 in
theorem ggX2_noteWoken_X5_put : GoodIn wsX2_noteWoken wsX5_put := goodIn_r _ [7, 8, 16] (by decide +kernel) (by decide +kernel)
set_option maxRecDepth 20000 in
theorem gX2_noteWoken_X5_put : GoodIn wsX2_noteWoken (wsV RX2 39 RX5 yX5_put wsX5_put) := goodIn_app (goodIn_of _ (by decide +kernel)) ggX2_noteWoken_X5_put
theorem dX2_noteWoken_0 : decode cX2_noteWoken 0 = .ok (.iload_n 1, 1) := by decide +kernel
theorem dX2_noteWoken_1 : decode cX2_noteWoken 1 = .ok (.istore_n 3, 1) := by decide +kernel
theorem dX2_noteWoken_2 : decode cX2_noteWoken 2 = .ok (.iload_n 3, 1) := by decide +kernel
theorem dX2_noteWoken_3 : decode cX2_noteWoken 3 = .ok (.aload_n 0, 1) := by decide +kernel
theorem dX2_noteWoken_4 : decode cX2_noteWoken 4 = .ok (.getfield 35, 3) := by decide +kernel
theorem dX2_noteWoken_7 : decode cX2_noteWoken 7 = .ok (.if_icmp .ge 18, 3) := by decide +kernel
theorem dX2_noteWoken_10 : decode cX2_noteWoken 10 = .ok (.aload_n 0, 1) := by decide +kernel
theorem dX2_noteWoken_11 : decode cX2_noteWoken 11 = .ok (.getfield 29, 3) := by decide +kernel
theorem dX2_noteWoken_14 : decode cX2_noteWoken 14 = .ok (.iload_n 3, 1) := by decide +kernel
theorem dX2_noteWoken_15 : decode cX2_noteWoken 15 = .ok (.iload_n 2, 1) := by decide +kernel
theorem dX2_noteWoken_16 : decode cX2_noteWoken 16 = .ok (.invokevirtual 39, 3) := by decide +kernel
theorem dX2_noteWoken_19 : decode cX2_noteWoken 19 = .ok (.iinc 3 1, 3) := by decide +kernel
theorem dX2_noteWoken_22 : decode cX2_noteWoken 22 = .ok (.goto (-20), 3) := by decide +kernel
theorem dX2_noteWoken_25 : decode cX2_noteWoken 25 = .ok (.return_, 1) := by decide +kernel
set_option maxRecDepth 20000 in
theorem ggX2_anyOpenBelow_X5_at : GoodIn wsX2_anyOpenBelow wsX5_at := goodIn_r _ [6, 7, 15] (by decide +kernel) (by decide +kernel)
set_option maxRecDepth 20000 in
theorem gX2_anyOpenBelow_X5_at : GoodIn wsX2_anyOpenBelow (wsV RX2 42 RX5 yX5_at wsX5_at) := goodIn_app (goodIn_of _ (by decide +kernel)) ggX2_anyOpenBelow_X5_at
theorem dX2_anyOpenBelow_0 : decode cX2_anyOpenBelow 0 = .ok (.iconst 0, 1) := by decide +kernel
theorem dX2_anyOpenBelow_1 : decode cX2_anyOpenBelow 1 = .ok (.istore_n 2, 1) := by decide +kernel
theorem dX2_anyOpenBelow_2 : decode cX2_anyOpenBelow 2 = .ok (.iload_n 2, 1) := by decide +kernel
theorem dX2_anyOpenBelow_3 : decode cX2_anyOpenBelow 3 = .ok (.iload_n 1, 1) := by decide +kernel
theorem dX2_anyOpenBelow_4 : decode cX2_anyOpenBelow 4 = .ok (.if_icmp .ge 23, 3) := by decide +kernel
theorem dX2_anyOpenBelow_7 : decode cX2_anyOpenBelow 7 = .ok (.aload_n 0, 1) := by decide +kernel
theorem dX2_anyOpenBelow_8 : decode cX2_anyOpenBelow 8 = .ok (.getfield 32, 3) := by decide +kernel
theorem dX2_anyOpenBelow_11 : decode cX2_anyOpenBelow 11 = .ok (.iload_n 2, 1) := by decide +kernel
theorem dX2_anyOpenBelow_12 : decode cX2_anyOpenBelow 12 = .ok (.invokevirtual 42, 3) := by decide +kernel
theorem dX2_anyOpenBelow_15 : decode cX2_anyOpenBelow 15 = .ok (.iconst (-1), 1) := by decide +kernel
theorem dX2_anyOpenBelow_16 : decode cX2_anyOpenBelow 16 = .ok (.if_icmp .eq 5, 3) := by decide +kernel
theorem dX2_anyOpenBelow_19 : decode cX2_anyOpenBelow 19 = .ok (.iconst 1, 1) := by decide +kernel
theorem dX2_anyOpenBelow_20 : decode cX2_anyOpenBelow 20 = .ok (.ireturn, 1) := by decide +kernel
theorem dX2_anyOpenBelow_21 : decode cX2_anyOpenBelow 21 = .ok (.iinc 2 1, 3) := by decide +kernel
theorem dX2_anyOpenBelow_24 : decode cX2_anyOpenBelow 24 = .ok (.goto (-22), 3) := by decide +kernel
theorem dX2_anyOpenBelow_27 : decode cX2_anyOpenBelow 27 = .ok (.iconst 0, 1) := by decide +kernel
theorem dX2_anyOpenBelow_28 : decode cX2_anyOpenBelow 28 = .ok (.ireturn, 1) := by decide +kernel
set_option maxRecDepth 20000 in
theorem ggX2_openOf_X5_at : GoodIn wsX2_openOf wsX5_at := goodIn_r _ [6, 7, 15] (by decide +kernel) (by decide +kernel)
set_option maxRecDepth 20000 in
theorem gX2_openOf_X5_at : GoodIn wsX2_openOf (wsV RX2 42 RX5 yX5_at wsX5_at) := goodIn_app (goodIn_of _ (by decide +kernel)) ggX2_openOf_X5_at
theorem dX2_openOf_0 : decode cX2_openOf 0 = .ok (.aload_n 0, 1) := by decide +kernel
theorem dX2_openOf_1 : decode cX2_openOf 1 = .ok (.getfield 32, 3) := by decide +kernel
theorem dX2_openOf_4 : decode cX2_openOf 4 = .ok (.iload_n 1, 1) := by decide +kernel
theorem dX2_openOf_5 : decode cX2_openOf 5 = .ok (.invokevirtual 42, 3) := by decide +kernel
theorem dX2_openOf_8 : decode cX2_openOf 8 = .ok (.ireturn, 1) := by decide +kernel
set_option maxRecDepth 20000 in
theorem ggX2_ringOf_X5_at : GoodIn wsX2_ringOf wsX5_at := goodIn_r _ [6, 7, 15] (by decide +kernel) (by decide +kernel)
set_option maxRecDepth 20000 in
theorem gX2_ringOf_X5_at : GoodIn wsX2_ringOf (wsV RX2 42 RX5 yX5_at wsX5_at) := goodIn_app (goodIn_of _ (by decide +kernel)) ggX2_ringOf_X5_at
theorem dX2_ringOf_0 : decode cX2_ringOf 0 = .ok (.aload_n 0, 1) := by decide +kernel
theorem dX2_ringOf_1 : decode cX2_ringOf 1 = .ok (.getfield 14, 3) := by decide +kernel
theorem dX2_ringOf_4 : decode cX2_ringOf 4 = .ok (.iload_n 1, 1) := by decide +kernel
theorem dX2_ringOf_5 : decode cX2_ringOf 5 = .ok (.invokevirtual 42, 3) := by decide +kernel
theorem dX2_ringOf_8 : decode cX2_ringOf 8 = .ok (.ireturn, 1) := by decide +kernel
set_option maxRecDepth 20000 in
theorem ggX2_startOf_X5_at : GoodIn wsX2_startOf wsX5_at := goodIn_r _ [6, 7, 15] (by decide +kernel) (by decide +kernel)
set_option maxRecDepth 20000 in
theorem gX2_startOf_X5_at : GoodIn wsX2_startOf (wsV RX2 42 RX5 yX5_at wsX5_at) := goodIn_app (goodIn_of _ (by decide +kernel)) ggX2_startOf_X5_at
theorem dX2_startOf_0 : decode cX2_startOf 0 = .ok (.aload_n 0, 1) := by decide +kernel
theorem dX2_startOf_1 : decode cX2_startOf 1 = .ok (.getfield 20, 3) := by decide +kernel
theorem dX2_startOf_4 : decode cX2_startOf 4 = .ok (.iload_n 1, 1) := by decide +kernel
theorem dX2_startOf_5 : decode cX2_startOf 5 = .ok (.invokevirtual 42, 3) := by decide +kernel
theorem dX2_startOf_8 : decode cX2_startOf 8 = .ok (.ireturn, 1) := by decide +kernel
set_option maxRecDepth 20000 in
theorem ggX2_endOf_X5_at : GoodIn wsX2_endOf wsX5_at := goodIn_r _ [6, 7, 15] (by decide +kernel) (by decide +kernel)
set_option maxRecDepth 20000 in
theorem gX2_endOf_X5_at : GoodIn wsX2_endOf (wsV RX2 42 RX5 yX5_at wsX5_at) := goodIn_app (goodIn_of _ (by decide +kernel)) ggX2_endOf_X5_at
theorem dX2_endOf_0 : decode cX2_endOf 0 = .ok (.aload_n 0, 1) := by decide +kernel
theorem dX2_endOf_1 : decode cX2_endOf 1 = .ok (.getfield 23, 3) := by decide +kernel
theorem dX2_endOf_4 : decode cX2_endOf 4 = .ok (.iload_n 1, 1) := by decide +kernel
theorem dX2_endOf_5 : decode cX2_endOf 5 = .ok (.invokevirtual 42, 3) := by decide +kernel
theorem dX2_endOf_8 : decode cX2_endOf 8 = .ok (.ireturn, 1) := by decide +kernel
set_option maxRecDepth 20000 in
theorem ggX3_init_X5_init : GoodIn wsX3_init wsX5_init := goodIn_r _ [11, 12, 2, 3, 13, 14, 19] (by decide +kernel) (by decide +kernel)
set_option maxRecDepth 20000 in
theorem gX3_init_X5_init : GoodIn wsX3_init (wsX5_init) := ggX3_init_X5_init
set_option maxRecDepth 20000 in
theorem ggX3_init_X5_put : GoodIn wsX3_init wsX5_put := goodIn_r _ [18, 14, 19] (by decide +kernel) (by decide +kernel)
set_option maxRecDepth 20000 in
theorem gX3_init_X5_put : GoodIn wsX3_init (wsV RX3 23 RX5 yX5_put wsX5_put) := goodIn_app (goodIn_of _ (by decide +kernel)) ggX3_init_X5_put
theorem dX3_init_0 : decode cX3_init 0 = .ok (.aload_n 0, 1) := by decide +kernel
theorem dX3_init_1 : decode cX3_init 1 = .ok (.invokespecial 3, 3) := by decide +kernel
theorem dX3_init_4 : decode cX3_init 4 = .ok (.aload_n 0, 1) := by decide +kernel
theorem dX3_init_5 : decode cX3_init 5 = .ok (.new 9, 3) := by decide +kernel
theorem dX3_init_8 : decode cX3_init 8 = .ok (.dup, 1) := by decide +kernel
theorem dX3_init_9 : decode cX3_init 9 = .ok (.bipush 8, 2) := by decide +kernel
theorem dX3_init_11 : decode cX3_init 11 = .ok (.iconst 0, 1) := by decide +kernel
theorem dX3_init_12 : decode cX3_init 12 = .ok (.invokespecial 11, 3) := by decide +kernel
theorem dX3_init_15 : decode cX3_init 15 = .ok (.putfield 14, 3) := by decide +kernel
theorem dX3_init_18 : decode cX3_init 18 = .ok (.aload_n 0, 1) := by decide +kernel
theorem dX3_init_19 : decode cX3_init 19 = .ok (.new 9, 3) := by decide +kernel
theorem dX3_init_22 : decode cX3_init 22 = .ok (.dup, 1) := by decide +kernel
theorem dX3_init_23 : decode cX3_init 23 = .ok (.bipush 8, 2) := by decide +kernel
theorem dX3_init_25 : decode cX3_init 25 = .ok (.iconst 0, 1) := by decide +kernel
theorem dX3_init_26 : decode cX3_init 26 = .ok (.invokespecial 11, 3) := by decide +kernel
theorem dX3_init_29 : decode cX3_init 29 = .ok (.putfield 20, 3) := by decide +kernel
theorem dX3_init_32 : decode cX3_init 32 = .ok (.iconst 0, 1) := by decide +kernel
theorem dX3_init_33 : decode cX3_init 33 = .ok (.istore_n 1, 1) := by decide +kernel
theorem dX3_init_34 : decode cX3_init 34 = .ok (.iload_n 1, 1) := by decide +kernel
theorem dX3_init_35 : decode cX3_init 35 = .ok (.bipush 8, 2) := by decide +kernel
theorem dX3_init_37 : decode cX3_init 37 = .ok (.if_icmp .ge 20, 3) := by decide +kernel
theorem dX3_init_40 : decode cX3_init 40 = .ok (.aload_n 0, 1) := by decide +kernel
theorem dX3_init_41 : decode cX3_init 41 = .ok (.getfield 20, 3) := by decide +kernel
theorem dX3_init_44 : decode cX3_init 44 = .ok (.iload_n 1, 1) := by decide +kernel
theorem dX3_init_45 : decode cX3_init 45 = .ok (.iconst 1, 1) := by decide +kernel
theorem dX3_init_46 : decode cX3_init 46 = .ok (.iload_n 1, 1) := by decide +kernel
theorem dX3_init_47 : decode cX3_init 47 = .ok (.ishl, 1) := by decide +kernel
theorem dX3_init_48 : decode cX3_init 48 = .ok (.invokevirtual 23, 3) := by decide +kernel
theorem dX3_init_51 : decode cX3_init 51 = .ok (.iinc 1 1, 3) := by decide +kernel
theorem dX3_init_54 : decode cX3_init 54 = .ok (.goto (-20), 3) := by decide +kernel
theorem dX3_init_57 : decode cX3_init 57 = .ok (.return_, 1) := by decide +kernel
set_option maxRecDepth 20000 in
theorem ggX3_reaches_X5_at : GoodIn wsX3_reaches wsX5_at := goodIn_r _ [6, 7, 13] (by decide +kernel) (by decide +kernel)
set_option maxRecDepth 20000 in
theorem gX3_reaches_X5_at : GoodIn wsX3_reaches (wsV RX3 26 RX5 yX5_at wsX5_at) := goodIn_app (goodIn_of _ (by decide +kernel)) ggX3_reaches_X5_at
set_option maxRecDepth 20000 in
theorem ggX3_reaches_X6_hasBit : GoodIn wsX3_reaches wsX6_hasBit := goodIn_r _ [10] (by decide +kernel) (by decide +kernel)
set_option maxRecDepth 20000 in
theorem gX3_reaches_X6_hasBit_n30 : GoodIn wsX3_reaches (wsX6_hasBit) := ggX3_reaches_X6_hasBit
theorem dX3_reaches_0 : decode cX3_reaches 0 = .ok (.aload_n 0, 1) := by decide +kernel
theorem dX3_reaches_1 : decode cX3_reaches 1 = .ok (.getfield 20, 3) := by decide +kernel
theorem dX3_reaches_4 : decode cX3_reaches 4 = .ok (.iload_n 1, 1) := by decide +kernel
theorem dX3_reaches_5 : decode cX3_reaches 5 = .ok (.invokevirtual 26, 3) := by decide +kernel
theorem dX3_reaches_8 : decode cX3_reaches 8 = .ok (.iload_n 2, 1) := by decide +kernel
theorem dX3_reaches_9 : decode cX3_reaches 9 = .ok (.invokestatic 30, 3) := by decide +kernel
theorem dX3_reaches_12 : decode cX3_reaches 12 = .ok (.ireturn, 1) := by decide +kernel
set_option maxRecDepth 20000 in
theorem ggX3_directCount_X5_at : GoodIn wsX3_directCount wsX5_at := goodIn_r _ [6, 7, 17] (by decide +kernel) (by decide +kernel)
set_option maxRecDepth 20000 in
theorem gX3_directCount_X5_at : GoodIn wsX3_directCount (wsV RX3 26 RX5 yX5_at wsX5_at) := goodIn_app (goodIn_of _ (by decide +kernel)) ggX3_directCount_X5_at
set_option maxRecDepth 20000 in
theorem ggX3_directCount_J6_bitCount_0f7a4 : GoodIn wsX3_directCount wsJ6_bitCount_0f7a4 := goodIn_r _ [11, 12, 13, 14] (by decide +kernel) (by decide +kernel)
set_option maxRecDepth 20000 in
theorem gX3_directCount_J6_bitCount_0f7a4 : GoodIn wsX3_directCount (va_wsS RX3 34 yJ6_bitCount_0f7a4 wsJ6_bitCount_0f7a4) := goodIn_app (goodIn_of _ (by decide +kernel)) ggX3_directCount_J6_bitCount_0f7a4
theorem dX3_directCount_0 : decode cX3_directCount 0 = .ok (.aload_n 0, 1) := by decide +kernel
theorem dX3_directCount_1 : decode cX3_directCount 1 = .ok (.getfield 14, 3) := by decide +kernel
theorem dX3_directCount_4 : decode cX3_directCount 4 = .ok (.iload_n 1, 1) := by decide +kernel
theorem dX3_directCount_5 : decode cX3_directCount 5 = .ok (.invokevirtual 26, 3) := by decide +kernel
theorem dX3_directCount_8 : decode cX3_directCount 8 = .ok (.invokestatic 34, 3) := by decide +kernel
theorem dX3_directCount_11 : decode cX3_directCount 11 = .ok (.ireturn, 1) := by decide +kernel
set_option maxRecDepth 20000 in
theorem ggX3_put_X5_at : GoodIn wsX3_put wsX5_at := goodIn_r _ [7, 8, 25] (by decide +kernel) (by decide +kernel)
set_option maxRecDepth 20000 in
theorem gX3_put_X5_at : GoodIn wsX3_put (wsV RX3 26 RX5 yX5_at wsX5_at) := goodIn_app (goodIn_of _ (by decide +kernel)) ggX3_put_X5_at
set_option maxRecDepth 20000 in
theorem ggX3_put_X6_withBit : GoodIn wsX3_put wsX6_withBit := goodIn_r _ [11] (by decide +kernel) (by decide +kernel)
set_option maxRecDepth 20000 in
theorem gX3_put_X6_withBit_n39 : GoodIn wsX3_put (wsX6_withBit) := ggX3_put_X6_withBit
set_option maxRecDepth 20000 in
theorem ggX3_put_X5_put : GoodIn wsX3_put wsX5_put := goodIn_r _ [15, 8, 25] (by decide +kernel) (by decide +kernel)
set_option maxRecDepth 20000 in
theorem gX3_put_X5_put : GoodIn wsX3_put (wsV RX3 23 RX5 yX5_put wsX5_put) := goodIn_app (goodIn_of _ (by decide +kernel)) ggX3_put_X5_put
set_option maxRecDepth 20000 in
theorem ggX3_put_X3_gather : GoodIn wsX3_put wsX3_gather := goodIn_r _ [20, 1, 21, 10, 22, 3, 4, 5, 6, 7, 8, 23, 24, 25] (by decide +kernel) (by decide +kernel)
set_option maxRecDepth 20000 in
theorem gX3_put_X3_gather : GoodIn wsX3_put (wsV RX3 43 RX3 yX3_gather wsX3_gather) := goodIn_app (goodIn_of _ (by decide +kernel)) ggX3_put_X3_gather
theorem dX3_put_0 : decode cX3_put 0 = .ok (.aload_n 0, 1) := by decide +kernel
theorem dX3_put_1 : decode cX3_put 1 = .ok (.getfield 14, 3) := by decide +kernel
theorem dX3_put_4 : decode cX3_put 4 = .ok (.iload_n 1, 1) := by decide +kernel
theorem dX3_put_5 : decode cX3_put 5 = .ok (.aload_n 0, 1) := by decide +kernel
theorem dX3_put_6 : decode cX3_put 6 = .ok (.getfield 14, 3) := by decide +kernel
theorem dX3_put_9 : decode cX3_put 9 = .ok (.iload_n 1, 1) := by decide +kernel
theorem dX3_put_10 : decode cX3_put 10 = .ok (.invokevirtual 26, 3) := by decide +kernel
theorem dX3_put_13 : decode cX3_put 13 = .ok (.iload_n 2, 1) := by decide +kernel
theorem dX3_put_14 : decode cX3_put 14 = .ok (.iload_n 3, 1) := by decide +kernel
theorem dX3_put_15 : decode cX3_put 15 = .ok (.invokestatic 39, 3) := by decide +kernel
theorem dX3_put_18 : decode cX3_put 18 = .ok (.invokevirtual 23, 3) := by decide +kernel
theorem dX3_put_21 : decode cX3_put 21 = .ok (.iconst 0, 1) := by decide +kernel
theorem dX3_put_22 : decode cX3_put 22 = .ok (.istore 4, 2) := by decide +kernel
theorem dX3_put_24 : decode cX3_put 24 = .ok (.iload 4, 2) := by decide +kernel
theorem dX3_put_26 : decode cX3_put 26 = .ok (.bipush 8, 2) := by decide +kernel
theorem dX3_put_28 : decode cX3_put 28 = .ok (.if_icmp .ge 24, 3) := by decide +kernel
theorem dX3_put_31 : decode cX3_put 31 = .ok (.aload_n 0, 1) := by decide +kernel
theorem dX3_put_32 : decode cX3_put 32 = .ok (.getfield 20, 3) := by decide +kernel
theorem dX3_put_35 : decode cX3_put 35 = .ok (.iload 4, 2) := by decide +kernel
theorem dX3_put_37 : decode cX3_put 37 = .ok (.aload_n 0, 1) := by decide +kernel
theorem dX3_put_38 : decode cX3_put 38 = .ok (.iload 4, 2) := by decide +kernel
theorem dX3_put_40 : decode cX3_put 40 = .ok (.invokevirtual 43, 3) := by decide +kernel
theorem dX3_put_43 : decode cX3_put 43 = .ok (.invokevirtual 23, 3) := by decide +kernel
theorem dX3_put_46 : decode cX3_put 46 = .ok (.iinc 4 1, 3) := by decide +kernel
theorem dX3_put_49 : decode cX3_put 49 = .ok (.goto (-25), 3) := by decide +kernel
theorem dX3_put_52 : decode cX3_put 52 = .ok (.return_, 1) := by decide +kernel
set_option maxRecDepth 20000 in
theorem ggX3_gather_X6_hasBit : GoodIn wsX3_gather wsX6_hasBit := goodIn_r _ [4] (by decide +kernel) (by decide +kernel)
set_option maxRecDepth 20000 in
theorem gX3_gather_X6_hasBit_n30 : GoodIn wsX3_gather (wsX6_hasBit) := ggX3_gather_X6_hasBit
set_option maxRecDepth 20000 in
theorem ggX3_gather_X5_at : GoodIn wsX3_gather wsX5_at := goodIn_r _ [9, 10, 13] (by decide +kernel) (by decide +kernel)
set_option maxRecDepth 20000 in
theorem gX3_gather_X5_at : GoodIn wsX3_gather (wsV RX3 26 RX5 yX5_at wsX5_at) := goodIn_app (goodIn_of _ (by decide +kernel)) ggX3_gather_X5_at
theorem dX3_gather_0 : decode cX3_gather 0 = .ok (.iconst 1, 1) := by decide +kernel
theorem dX3_gather_1 : decode cX3_gather 1 = .ok (.iload_n 1, 1) := by decide +kernel
theorem dX3_gather_2 : decode cX3_gather 2 = .ok (.ishl, 1) := by decide +kernel
theorem dX3_gather_3 : decode cX3_gather 3 = .ok (.istore_n 2, 1) := by decide +kernel
theorem dX3_gather_4 : decode cX3_gather 4 = .ok (.iconst 1, 1) := by decide +kernel
theorem dX3_gather_5 : decode cX3_gather 5 = .ok (.istore_n 3, 1) := by decide +kernel
theorem dX3_gather_6 : decode cX3_gather 6 = .ok (.iload_n 3, 1) := by decide +kernel
theorem dX3_gather_7 : decode cX3_gather 7 = .ok (.bipush 8, 2) := by decide +kernel
theorem dX3_gather_9 : decode cX3_gather 9 = .ok (.if_icmp .ge 46, 3) := by decide +kernel
theorem dX3_gather_12 : decode cX3_gather 12 = .ok (.iconst 0, 1) := by decide +kernel
theorem dX3_gather_13 : decode cX3_gather 13 = .ok (.istore 4, 2) := by decide +kernel
theorem dX3_gather_15 : decode cX3_gather 15 = .ok (.iload 4, 2) := by decide +kernel
theorem dX3_gather_17 : decode cX3_gather 17 = .ok (.bipush 8, 2) := by decide +kernel
theorem dX3_gather_19 : decode cX3_gather 19 = .ok (.if_icmp .ge 30, 3) := by decide +kernel
theorem dX3_gather_22 : decode cX3_gather 22 = .ok (.iload_n 2, 1) := by decide +kernel
theorem dX3_gather_23 : decode cX3_gather 23 = .ok (.iload 4, 2) := by decide +kernel
theorem dX3_gather_25 : decode cX3_gather 25 = .ok (.invokestatic 30, 3) := by decide +kernel
theorem dX3_gather_28 : decode cX3_gather 28 = .ok (.ifCond .eq 15, 3) := by decide +kernel
theorem dX3_gather_31 : decode cX3_gather 31 = .ok (.iload_n 2, 1) := by decide +kernel
theorem dX3_gather_32 : decode cX3_gather 32 = .ok (.aload_n 0, 1) := by decide +kernel
theorem dX3_gather_33 : decode cX3_gather 33 = .ok (.getfield 14, 3) := by decide +kernel
theorem dX3_gather_36 : decode cX3_gather 36 = .ok (.iload 4, 2) := by decide +kernel
theorem dX3_gather_38 : decode cX3_gather 38 = .ok (.invokevirtual 26, 3) := by decide +kernel
theorem dX3_gather_41 : decode cX3_gather 41 = .ok (.ior, 1) := by decide +kernel
theorem dX3_gather_42 : decode cX3_gather 42 = .ok (.istore_n 2, 1) := by decide +kernel
theorem dX3_gather_43 : decode cX3_gather 43 = .ok (.iinc 4 1, 3) := by decide +kernel
theorem dX3_gather_46 : decode cX3_gather 46 = .ok (.goto (-31), 3) := by decide +kernel
theorem dX3_gather_49 : decode cX3_gather 49 = .ok (.iinc 3 1, 3) := by decide +kernel
theorem dX3_gather_52 : decode cX3_gather 52 = .ok (.goto (-46), 3) := by decide +kernel
theorem dX3_gather_55 : decode cX3_gather 55 = .ok (.iload_n 2, 1) := by decide +kernel
theorem dX3_gather_56 : decode cX3_gather 56 = .ok (.ireturn, 1) := by decide +kernel
set_option maxRecDepth 20000 in
theorem ggX3_onAmong_X5_at : GoodIn wsX3_onAmong wsX5_at := goodIn_r _ [6, 7, 13] (by decide +kernel) (by decide +kernel)
set_option maxRecDepth 20000 in
theorem gX3_onAmong_X5_at : GoodIn wsX3_onAmong (wsV RX3 26 RX5 yX5_at wsX5_at) := goodIn_app (goodIn_of _ (by decide +kernel)) ggX3_onAmong_X5_at
set_option maxRecDepth 20000 in
theorem ggX3_onAmong_X6_withBit : GoodIn wsX3_onAmong wsX6_withBit := goodIn_r _ [10] (by decide +kernel) (by decide +kernel)
set_option maxRecDepth 20000 in
theorem gX3_onAmong_X6_withBit_n39 : GoodIn wsX3_onAmong (wsX6_withBit) := ggX3_onAmong_X6_withBit
theorem dX3_onAmong_0 : decode cX3_onAmong 0 = .ok (.iconst 0, 1) := by decide +kernel
theorem dX3_onAmong_1 : decode cX3_onAmong 1 = .ok (.istore_n 2, 1) := by decide +kernel
theorem dX3_onAmong_2 : decode cX3_onAmong 2 = .ok (.iconst 0, 1) := by decide +kernel
theorem dX3_onAmong_3 : decode cX3_onAmong 3 = .ok (.istore_n 3, 1) := by decide +kernel
theorem dX3_onAmong_4 : decode cX3_onAmong 4 = .ok (.iload_n 3, 1) := by decide +kernel
theorem dX3_onAmong_5 : decode cX3_onAmong 5 = .ok (.bipush 8, 2) := by decide +kernel
theorem dX3_onAmong_7 : decode cX3_onAmong 7 = .ok (.if_icmp .ge 35, 3) := by decide +kernel
theorem dX3_onAmong_10 : decode cX3_onAmong 10 = .ok (.iload_n 2, 1) := by decide +kernel
theorem dX3_onAmong_11 : decode cX3_onAmong 11 = .ok (.iload_n 3, 1) := by decide +kernel
theorem dX3_onAmong_12 : decode cX3_onAmong 12 = .ok (.aload_n 0, 1) := by decide +kernel
theorem dX3_onAmong_13 : decode cX3_onAmong 13 = .ok (.getfield 20, 3) := by decide +kernel
theorem dX3_onAmong_16 : decode cX3_onAmong 16 = .ok (.iload_n 3, 1) := by decide +kernel
theorem dX3_onAmong_17 : decode cX3_onAmong 17 = .ok (.invokevirtual 26, 3) := by decide +kernel
theorem dX3_onAmong_20 : decode cX3_onAmong 20 = .ok (.iload_n 1, 1) := by decide +kernel
theorem dX3_onAmong_21 : decode cX3_onAmong 21 = .ok (.iconst (-1), 1) := by decide +kernel
theorem dX3_onAmong_22 : decode cX3_onAmong 22 = .ok (.ixor, 1) := by decide +kernel
theorem dX3_onAmong_23 : decode cX3_onAmong 23 = .ok (.iand, 1) := by decide +kernel
theorem dX3_onAmong_24 : decode cX3_onAmong 24 = .ok (.ifCond .ne 7, 3) := by decide +kernel
theorem dX3_onAmong_27 : decode cX3_onAmong 27 = .ok (.iconst 1, 1) := by decide +kernel
theorem dX3_onAmong_28 : decode cX3_onAmong 28 = .ok (.goto 4, 3) := by decide +kernel
theorem dX3_onAmong_31 : decode cX3_onAmong 31 = .ok (.iconst 0, 1) := by decide +kernel
theorem dX3_onAmong_32 : decode cX3_onAmong 32 = .ok (.invokestatic 39, 3) := by decide +kernel
theorem dX3_onAmong_35 : decode cX3_onAmong 35 = .ok (.istore_n 2, 1) := by decide +kernel
theorem dX3_onAmong_36 : decode cX3_onAmong 36 = .ok (.iinc 3 1, 3) := by decide +kernel
theorem dX3_onAmong_39 : decode cX3_onAmong 39 = .ok (.goto (-35), 3) := by decide +kernel
theorem dX3_onAmong_42 : decode cX3_onAmong 42 = .ok (.iload_n 2, 1) := by decide +kernel
theorem dX3_onAmong_43 : decode cX3_onAmong 43 = .ok (.ireturn, 1) := by decide +kernel
set_option maxRecDepth 20000 in
theorem ggX4_init_X5_init : GoodIn wsX4_init wsX5_init := goodIn_r _ [15, 16, 2, 3, 17, 18, 23] (by decide +kernel) (by decide +kernel)
set_option maxRecDepth 20000 in
theorem gX4_init_X5_init : GoodIn wsX4_init (wsX5_init) := ggX4_init_X5_init
set_option maxRecDepth 20000 in
theorem ggX4_init_X5_put : GoodIn wsX4_init wsX5_put := goodIn_r _ [22, 18, 23] (by decide +kernel) (by decide +kernel)
set_option maxRecDepth 20000 in
theorem gX4_init_X5_put : GoodIn wsX4_init (wsV RX4 20 RX5 yX5_put wsX5_put) := goodIn_app (goodIn_of _ (by decide +kernel)) ggX4_init_X5_put
theorem dX4_init_0 : decode cX4_init 0 = .ok (.aload_n 0, 1) := by decide +kernel
theorem dX4_init_1 : decode cX4_init 1 = .ok (.invokespecial 3, 3) := by decide +kernel
theorem dX4_init_4 : decode cX4_init 4 = .ok (.aload_n 0, 1) := by decide +kernel
theorem dX4_init_5 : decode cX4_init 5 = .ok (.new 9, 3) := by decide +kernel
theorem dX4_init_8 : decode cX4_init 8 = .ok (.dup, 1) := by decide +kernel
theorem dX4_init_9 : decode cX4_init 9 = .ok (.bipush 42, 2) := by decide +kernel
theorem dX4_init_11 : decode cX4_init 11 = .ok (.iconst (-1), 1) := by decide +kernel
theorem dX4_init_12 : decode cX4_init 12 = .ok (.invokespecial 11, 3) := by decide +kernel
theorem dX4_init_15 : decode cX4_init 15 = .ok (.putfield 14, 3) := by decide +kernel
theorem dX4_init_18 : decode cX4_init 18 = .ok (.aload_n 0, 1) := by decide +kernel
theorem dX4_init_19 : decode cX4_init 19 = .ok (.getfield 14, 3) := by decide +kernel
theorem dX4_init_22 : decode cX4_init 22 = .ok (.iconst 0, 1) := by decide +kernel
theorem dX4_init_23 : decode cX4_init 23 = .ok (.iconst 0, 1) := by decide +kernel
theorem dX4_init_24 : decode cX4_init 24 = .ok (.invokevirtual 20, 3) := by decide +kernel
theorem dX4_init_27 : decode cX4_init 27 = .ok (.aload_n 0, 1) := by decide +kernel
theorem dX4_init_28 : decode cX4_init 28 = .ok (.getfield 14, 3) := by decide +kernel
theorem dX4_init_31 : decode cX4_init 31 = .ok (.iconst 1, 1) := by decide +kernel
theorem dX4_init_32 : decode cX4_init 32 = .ok (.iconst 1, 1) := by decide +kernel
theorem dX4_init_33 : decode cX4_init 33 = .ok (.invokevirtual 20, 3) := by decide +kernel
theorem dX4_init_36 : decode cX4_init 36 = .ok (.aload_n 0, 1) := by decide +kernel
theorem dX4_init_37 : decode cX4_init 37 = .ok (.new 9, 3) := by decide +kernel
theorem dX4_init_40 : decode cX4_init 40 = .ok (.dup, 1) := by decide +kernel
theorem dX4_init_41 : decode cX4_init 41 = .ok (.bipush 6, 2) := by decide +kernel
theorem dX4_init_43 : decode cX4_init 43 = .ok (.iconst 0, 1) := by decide +kernel
theorem dX4_init_44 : decode cX4_init 44 = .ok (.invokespecial 11, 3) := by decide +kernel
theorem dX4_init_47 : decode cX4_init 47 = .ok (.putfield 23, 3) := by decide +kernel
theorem dX4_init_50 : decode cX4_init 50 = .ok (.aload_n 0, 1) := by decide +kernel
theorem dX4_init_51 : decode cX4_init 51 = .ok (.new 9, 3) := by decide +kernel
theorem dX4_init_54 : decode cX4_init 54 = .ok (.dup, 1) := by decide +kernel
theorem dX4_init_55 : decode cX4_init 55 = .ok (.bipush 6, 2) := by decide +kernel
theorem dX4_init_57 : decode cX4_init 57 = .ok (.iconst (-1), 1) := by decide +kernel
theorem dX4_init_58 : decode cX4_init 58 = .ok (.invokespecial 11, 3) := by decide +kernel
theorem dX4_init_61 : decode cX4_init 61 = .ok (.putfield 26, 3) := by decide +kernel
theorem dX4_init_64 : decode cX4_init 64 = .ok (.aload_n 0, 1) := by decide +kernel
theorem dX4_init_65 : decode cX4_init 65 = .ok (.new 9, 3) := by decide +kernel
theorem dX4_init_68 : decode cX4_init 68 = .ok (.dup, 1) := by decide +kernel
theorem dX4_init_69 : decode cX4_init 69 = .ok (.bipush 6, 2) := by decide +kernel
theorem dX4_init_71 : decode cX4_init 71 = .ok (.iconst 0, 1) := by decide +kernel
theorem dX4_init_72 : decode cX4_init 72 = .ok (.invokespecial 11, 3) := by decide +kernel
theorem dX4_init_75 : decode cX4_init 75 = .ok (.putfield 29, 3) := by decide +kernel
theorem dX4_init_78 : decode cX4_init 78 = .ok (.aload_n 0, 1) := by decide +kernel
theorem dX4_init_79 : decode cX4_init 79 = .ok (.new 9, 3) := by decide +kernel
theorem dX4_init_82 : decode cX4_init 82 = .ok (.dup, 1) := by decide +kernel
theorem dX4_init_83 : decode cX4_init 83 = .ok (.bipush 6, 2) := by decide +kernel
theorem dX4_init_85 : decode cX4_init 85 = .ok (.iconst 0, 1) := by decide +kernel
theorem dX4_init_86 : decode cX4_init 86 = .ok (.invokespecial 11, 3) := by decide +kernel
theorem dX4_init_89 : decode cX4_init 89 = .ok (.putfield 32, 3) := by decide +kernel
theorem dX4_init_92 : decode cX4_init 92 = .ok (.aload_n 0, 1) := by decide +kernel
theorem dX4_init_93 : decode cX4_init 93 = .ok (.iconst 0, 1) := by decide +kernel
theorem dX4_init_94 : decode cX4_init 94 = .ok (.putfield 35, 3) := by decide +kernel
theorem dX4_init_97 : decode cX4_init 97 = .ok (.return_, 1) := by decide +kernel
set_option maxRecDepth 20000 in
theorem ggX4_holderOf_X5_at : GoodIn wsX4_holderOf wsX5_at := goodIn_r _ [6, 7, 14] (by decide +kernel) (by decide +kernel)
set_option maxRecDepth 20000 in
theorem gX4_holderOf_X5_at : GoodIn wsX4_holderOf (wsV RX4 39 RX5 yX5_at wsX5_at) := goodIn_app (goodIn_of _ (by decide +kernel)) ggX4_holderOf_X5_at
theorem dX4_holderOf_0 : decode cX4_holderOf 0 = .ok (.aload_n 0, 1) := by decide +kernel
theorem dX4_holderOf_1 : decode cX4_holderOf 1 = .ok (.getfield 14, 3) := by decide +kernel
theorem dX4_holderOf_4 : decode cX4_holderOf 4 = .ok (.iload_n 1, 1) := by decide +kernel
theorem dX4_holderOf_5 : decode cX4_holderOf 5 = .ok (.invokevirtual 39, 3) := by decide +kernel
theorem dX4_holderOf_8 : decode cX4_holderOf 8 = .ok (.ireturn, 1) := by decide +kernel
set_option maxRecDepth 20000 in
theorem ggX4_giveWeek_X5_put : GoodIn wsX4_giveWeek wsX5_put := goodIn_r _ [6, 7, 14] (by decide +kernel) (by decide +kernel)
set_option maxRecDepth 20000 in
theorem gX4_giveWeek_X5_put : GoodIn wsX4_giveWeek (wsV RX4 20 RX5 yX5_put wsX5_put) := goodIn_app (goodIn_of _ (by decide +kernel)) ggX4_giveWeek_X5_put
theorem dX4_giveWeek_0 : decode cX4_giveWeek 0 = .ok (.aload_n 0, 1) := by decide +kernel
theorem dX4_giveWeek_1 : decode cX4_giveWeek 1 = .ok (.getfield 14, 3) := by decide +kernel
theorem dX4_giveWeek_4 : decode cX4_giveWeek 4 = .ok (.iload_n 1, 1) := by decide +kernel
theorem dX4_giveWeek_5 : decode cX4_giveWeek 5 = .ok (.iload_n 2, 1) := by decide +kernel
theorem dX4_giveWeek_6 : decode cX4_giveWeek 6 = .ok (.invokevirtual 20, 3) := by decide +kernel
theorem dX4_giveWeek_9 : decode cX4_giveWeek 9 = .ok (.return_, 1) := by decide +kernel
set_option maxRecDepth 20000 in
theorem ggX4_blotsOf_X5_at : GoodIn wsX4_blotsOf wsX5_at := goodIn_r _ [6, 7, 14] (by decide +kernel) (by decide +kernel)
set_option maxRecDepth 20000 in
theorem gX4_blotsOf_X5_at : GoodIn wsX4_blotsOf (wsV RX4 39 RX5 yX5_at wsX5_at) := goodIn_app (goodIn_of _ (by decide +kernel)) ggX4_blotsOf_X5_at
theorem dX4_blotsOf_0 : decode cX4_blotsOf 0 = .ok (.aload_n 0, 1) := by decide +kernel
theorem dX4_blotsOf_1 : decode cX4_blotsOf 1 = .ok (.getfield 23, 3) := by decide +kernel
theorem dX4_blotsOf_4 : decode cX4_blotsOf 4 = .ok (.iload_n 1, 1) := by decide +kernel
theorem dX4_blotsOf_5 : decode cX4_blotsOf 5 = .ok (.invokevirtual 39, 3) := by decide +kernel
theorem dX4_blotsOf_8 : decode cX4_blotsOf 8 = .ok (.ireturn, 1) := by decide +kernel
set_option maxRecDepth 20000 in
theorem ggX4_addBlot_X5_at : GoodIn wsX4_addBlot wsX5_at := goodIn_r _ [6, 7, 18] (by decide +kernel) (by decide +kernel)
set_option maxRecDepth 20000 in
theorem gX4_addBlot_X5_at : GoodIn wsX4_addBlot (wsV RX4 39 RX5 yX5_at wsX5_at) := goodIn_app (goodIn_of _ (by decide +kernel)) ggX4_addBlot_X5_at
set_option maxRecDepth 20000 in
theorem ggX4_addBlot_X5_put : GoodIn wsX4_addBlot wsX5_put := goodIn_r _ [11, 7, 18] (by decide +kernel) (by decide +kernel)
set_option maxRecDepth 20000 in
theorem gX4_addBlot_X5_put : GoodIn wsX4_addBlot (wsV RX4 20 RX5 yX5_put wsX5_put) := goodIn_app (goodIn_of _ (by decide +kernel)) ggX4_addBlot_X5_put
theorem dX4_addBlot_0 : decode cX4_addBlot 0 = .ok (.aload_n 0, 1) := by decide +kernel
theorem dX4_addBlot_1 : decode cX4_addBlot 1 = .ok (.getfield 23, 3) := by decide +kernel
theorem dX4_addBlot_4 : decode cX4_addBlot 4 = .ok (.iload_n 1, 1) := by decide +kernel
theorem dX4_addBlot_5 : decode cX4_addBlot 5 = .ok (.aload_n 0, 1) := by decide +kernel
theorem dX4_addBlot_6 : decode cX4_addBlot 6 = .ok (.getfield 23, 3) := by decide +kernel
theorem dX4_addBlot_9 : decode cX4_addBlot 9 = .ok (.iload_n 1, 1) := by decide +kernel
theorem dX4_addBlot_10 : decode cX4_addBlot 10 = .ok (.invokevirtual 39, 3) := by decide +kernel
theorem dX4_addBlot_13 : decode cX4_addBlot 13 = .ok (.iconst 1, 1) := by decide +kernel
theorem dX4_addBlot_14 : decode cX4_addBlot 14 = .ok (.iadd, 1) := by decide +kernel
theorem dX4_addBlot_15 : decode cX4_addBlot 15 = .ok (.invokevirtual 20, 3) := by decide +kernel
theorem dX4_addBlot_18 : decode cX4_addBlot 18 = .ok (.return_, 1) := by decide +kernel
set_option maxRecDepth 20000 in
theorem ggX4_nearness_X5_at : GoodIn wsX4_nearness wsX5_at := goodIn_r _ [7, 8, 15] (by decide +kernel) (by decide +kernel)
set_option maxRecDepth 20000 in
theorem gX4_nearness_X5_at : GoodIn wsX4_nearness (wsV RX4 39 RX5 yX5_at wsX5_at) := goodIn_app (goodIn_of _ (by decide +kernel)) ggX4_nearness_X5_at
theorem dX4_nearness_0 : decode cX4_nearness 0 = .ok (.iload_n 2, 1) := by decide +kernel
theorem dX4_nearness_1 : decode cX4_nearness 1 = .ok (.iconst 1, 1) := by decide +kernel
theorem dX4_nearness_2 : decode cX4_nearness 2 = .ok (.isub, 1) := by decide +kernel
theorem dX4_nearness_3 : decode cX4_nearness 3 = .ok (.istore_n 3, 1) := by decide +kernel
theorem dX4_nearness_4 : decode cX4_nearness 4 = .ok (.iload_n 3, 1) := by decide +kernel
theorem dX4_nearness_5 : decode cX4_nearness 5 = .ok (.ifCond .lt 34, 3) := by decide +kernel
theorem dX4_nearness_8 : decode cX4_nearness 8 = .ok (.aload_n 0, 1) := by decide +kernel
theorem dX4_nearness_9 : decode cX4_nearness 9 = .ok (.getfield 14, 3) := by decide +kernel
theorem dX4_nearness_12 : decode cX4_nearness 12 = .ok (.iload_n 3, 1) := by decide +kernel
theorem dX4_nearness_13 : decode cX4_nearness 13 = .ok (.invokevirtual 39, 3) := by decide +kernel
theorem dX4_nearness_16 : decode cX4_nearness 16 = .ok (.iload_n 1, 1) := by decide +kernel
theorem dX4_nearness_17 : decode cX4_nearness 17 = .ok (.if_icmp .ne 16, 3) := by decide +kernel
theorem dX4_nearness_20 : decode cX4_nearness 20 = .ok (.iload_n 2, 1) := by decide +kernel
theorem dX4_nearness_21 : decode cX4_nearness 21 = .ok (.iload_n 3, 1) := by decide +kernel
theorem dX4_nearness_22 : decode cX4_nearness 22 = .ok (.isub, 1) := by decide +kernel
theorem dX4_nearness_23 : decode cX4_nearness 23 = .ok (.aload_n 0, 1) := by decide +kernel
theorem dX4_nearness_24 : decode cX4_nearness 24 = .ok (.getfield 23, 3) := by decide +kernel
theorem dX4_nearness_27 : decode cX4_nearness 27 = .ok (.iload_n 1, 1) := by decide +kernel
theorem dX4_nearness_28 : decode cX4_nearness 28 = .ok (.invokevirtual 39, 3) := by decide +kernel
theorem dX4_nearness_31 : decode cX4_nearness 31 = .ok (.iadd, 1) := by decide +kernel
theorem dX4_nearness_32 : decode cX4_nearness 32 = .ok (.ireturn, 1) := by decide +kernel
theorem dX4_nearness_33 : decode cX4_nearness 33 = .ok (.iinc 3 (-1), 3) := by decide +kernel
theorem dX4_nearness_36 : decode cX4_nearness 36 = .ok (.goto (-32), 3) := by decide +kernel
theorem dX4_nearness_39 : decode cX4_nearness 39 = .ok (.iload_n 2, 1) := by decide +kernel
theorem dX4_nearness_40 : decode cX4_nearness 40 = .ok (.iconst 1, 1) := by decide +kernel
theorem dX4_nearness_41 : decode cX4_nearness 41 = .ok (.iadd, 1) := by decide +kernel
theorem dX4_nearness_42 : decode cX4_nearness 42 = .ok (.aload_n 0, 1) := by decide +kernel
theorem dX4_nearness_43 : decode cX4_nearness 43 = .ok (.getfield 23, 3) := by decide +kernel
theorem dX4_nearness_46 : decode cX4_nearness 46 = .ok (.iload_n 1, 1) := by decide +kernel
theorem dX4_nearness_47 : decode cX4_nearness 47 = .ok (.invokevirtual 39, 3) := by decide +kernel
theorem dX4_nearness_50 : decode cX4_nearness 50 = .ok (.iadd, 1) := by decide +kernel
theorem dX4_nearness_51 : decode cX4_nearness 51 = .ok (.ireturn, 1) := by decide +kernel
set_option maxRecDepth 20000 in
theorem ggX4_beginWeek_X5_at : GoodIn wsX4_beginWeek wsX5_at := goodIn_r _ [7, 8, 28] (by decide +kernel) (by decide +kernel)
set_option maxRecDepth 20000 in
theorem gX4_beginWeek_X5_at : GoodIn wsX4_beginWeek (wsV RX4 39 RX5 yX5_at wsX5_at) := goodIn_app (goodIn_of _ (by decide +kernel)) ggX4_beginWeek_X5_at
set_option maxRecDepth 20000 in
theorem ggX4_beginWeek_X5_put : GoodIn wsX4_beginWeek wsX5_put := goodIn_r _ [12, 8, 28] (by decide +kernel) (by decide +kernel)
set_option maxRecDepth 20000 in
theorem gX4_beginWeek_X5_put : GoodIn wsX4_beginWeek (wsV RX4 20 RX5 yX5_put wsX5_put) := goodIn_app (goodIn_of _ (by decide +kernel)) ggX4_beginWeek_X5_put
set_option maxRecDepth 20000 in
theorem ggX4_beginWeek_X4_nearestTo : GoodIn wsX4_beginWeek wsX4_nearestTo := goodIn_r _ [17, 2, 3, 4, 5, 6, 7, 8, 18, 19, 20, 16, 21, 1, 22, 23, 24, 25, 26, 27, 28] (by decide +kernel) (by decide +kernel)
set_option maxRecDepth 20000 in
theorem gX4_beginWeek_X4_nearestTo : GoodIn wsX4_beginWeek (wsV RX4 43 RX4 yX4_nearestTo wsX4_nearestTo) := goodIn_app (goodIn_of _ (by decide +kernel)) ggX4_beginWeek_X4_nearestTo
theorem dX4_beginWeek_0 : decode cX4_beginWeek 0 = .ok (.aload_n 0, 1) := by decide +kernel
theorem dX4_beginWeek_1 : decode cX4_beginWeek 1 = .ok (.getfield 23, 3) := by decide +kernel
theorem dX4_beginWeek_4 : decode cX4_beginWeek 4 = .ok (.aload_n 0, 1) := by decide +kernel
theorem dX4_beginWeek_5 : decode cX4_beginWeek 5 = .ok (.getfield 14, 3) := by decide +kernel
theorem dX4_beginWeek_8 : decode cX4_beginWeek 8 = .ok (.iload_n 1, 1) := by decide +kernel
theorem dX4_beginWeek_9 : decode cX4_beginWeek 9 = .ok (.invokevirtual 39, 3) := by decide +kernel
theorem dX4_beginWeek_12 : decode cX4_beginWeek 12 = .ok (.iconst 0, 1) := by decide +kernel
theorem dX4_beginWeek_13 : decode cX4_beginWeek 13 = .ok (.invokevirtual 20, 3) := by decide +kernel
theorem dX4_beginWeek_16 : decode cX4_beginWeek 16 = .ok (.aload_n 0, 1) := by decide +kernel
theorem dX4_beginWeek_17 : decode cX4_beginWeek 17 = .ok (.getfield 14, 3) := by decide +kernel
theorem dX4_beginWeek_20 : decode cX4_beginWeek 20 = .ok (.iload_n 1, 1) := by decide +kernel
theorem dX4_beginWeek_21 : decode cX4_beginWeek 21 = .ok (.iconst 1, 1) := by decide +kernel
theorem dX4_beginWeek_22 : decode cX4_beginWeek 22 = .ok (.iadd, 1) := by decide +kernel
theorem dX4_beginWeek_23 : decode cX4_beginWeek 23 = .ok (.aload_n 0, 1) := by decide +kernel
theorem dX4_beginWeek_24 : decode cX4_beginWeek 24 = .ok (.iload_n 1, 1) := by decide +kernel
theorem dX4_beginWeek_25 : decode cX4_beginWeek 25 = .ok (.iconst 1, 1) := by decide +kernel
theorem dX4_beginWeek_26 : decode cX4_beginWeek 26 = .ok (.iadd, 1) := by decide +kernel
theorem dX4_beginWeek_27 : decode cX4_beginWeek 27 = .ok (.invokevirtual 43, 3) := by decide +kernel
theorem dX4_beginWeek_30 : decode cX4_beginWeek 30 = .ok (.invokevirtual 20, 3) := by decide +kernel
theorem dX4_beginWeek_33 : decode cX4_beginWeek 33 = .ok (.return_, 1) := by decide +kernel
set_option maxRecDepth 20000 in
theorem ggX4_nearestTo_X5_at : GoodIn wsX4_nearestTo wsX5_at := goodIn_r _ [6, 7, 20] (by decide +kernel) (by decide +kernel)
set_option maxRecDepth 20000 in
theorem gX4_nearestTo_X5_at : GoodIn wsX4_nearestTo (wsV RX4 39 RX5 yX5_at wsX5_at) := goodIn_app (goodIn_of _ (by decide +kernel)) ggX4_nearestTo_X5_at
set_option maxRecDepth 20000 in
theorem ggX4_nearestTo_X4_nearness : GoodIn wsX4_nearestTo wsX4_nearness := goodIn_r _ [12, 1, 13, 2, 3, 4, 5, 6, 7, 14, 15, 16, 17, 18, 19, 20] (by decide +kernel) (by decide +kernel)
set_option maxRecDepth 20000 in
theorem gX4_nearestTo_X4_nearness : GoodIn wsX4_nearestTo (wsV RX4 46 RX4 yX4_nearness wsX4_nearness) := goodIn_app (goodIn_of _ (by decide +kernel)) ggX4_nearestTo_X4_nearness
theorem dX4_nearestTo_0 : decode cX4_nearestTo 0 = .ok (.aload_n 0, 1) := by decide +kernel
theorem dX4_nearestTo_1 : decode cX4_nearestTo 1 = .ok (.getfield 14, 3) := by decide +kernel
theorem dX4_nearestTo_4 : decode cX4_nearestTo 4 = .ok (.iload_n 1, 1) := by decide +kernel
theorem dX4_nearestTo_5 : decode cX4_nearestTo 5 = .ok (.iconst 1, 1) := by decide +kernel
theorem dX4_nearestTo_6 : decode cX4_nearestTo 6 = .ok (.isub, 1) := by decide +kernel
theorem dX4_nearestTo_7 : decode cX4_nearestTo 7 = .ok (.invokevirtual 39, 3) := by decide +kernel
theorem dX4_nearestTo_10 : decode cX4_nearestTo 10 = .ok (.istore_n 2, 1) := by decide +kernel
theorem dX4_nearestTo_11 : decode cX4_nearestTo 11 = .ok (.iconst (-1), 1) := by decide +kernel
theorem dX4_nearestTo_12 : decode cX4_nearestTo 12 = .ok (.istore_n 3, 1) := by decide +kernel
theorem dX4_nearestTo_13 : decode cX4_nearestTo 13 = .ok (.iconst (-1), 1) := by decide +kernel
theorem dX4_nearestTo_14 : decode cX4_nearestTo 14 = .ok (.istore 4, 2) := by decide +kernel
theorem dX4_nearestTo_16 : decode cX4_nearestTo 16 = .ok (.iconst 0, 1) := by decide +kernel
theorem dX4_nearestTo_17 : decode cX4_nearestTo 17 = .ok (.istore 5, 2) := by decide +kernel
theorem dX4_nearestTo_19 : decode cX4_nearestTo 19 = .ok (.iload 5, 2) := by decide +kernel
theorem dX4_nearestTo_21 : decode cX4_nearestTo 21 = .ok (.bipush 6, 2) := by decide +kernel
theorem dX4_nearestTo_23 : decode cX4_nearestTo 23 = .ok (.if_icmp .ge 38, 3) := by decide +kernel
theorem dX4_nearestTo_26 : decode cX4_nearestTo 26 = .ok (.aload_n 0, 1) := by decide +kernel
theorem dX4_nearestTo_27 : decode cX4_nearestTo 27 = .ok (.iload 5, 2) := by decide +kernel
theorem dX4_nearestTo_29 : decode cX4_nearestTo 29 = .ok (.iload_n 1, 1) := by decide +kernel
theorem dX4_nearestTo_30 : decode cX4_nearestTo 30 = .ok (.invokevirtual 46, 3) := by decide +kernel
theorem dX4_nearestTo_33 : decode cX4_nearestTo 33 = .ok (.istore 6, 2) := by decide +kernel
theorem dX4_nearestTo_35 : decode cX4_nearestTo 35 = .ok (.iload 5, 2) := by decide +kernel
theorem dX4_nearestTo_37 : decode cX4_nearestTo 37 = .ok (.iload_n 2, 1) := by decide +kernel
theorem dX4_nearestTo_38 : decode cX4_nearestTo 38 = .ok (.if_icmp .eq 17, 3) := by decide +kernel
theorem dX4_nearestTo_41 : decode cX4_nearestTo 41 = .ok (.iload 6, 2) := by decide +kernel
theorem dX4_nearestTo_43 : decode cX4_nearestTo 43 = .ok (.iload 4, 2) := by decide +kernel
theorem dX4_nearestTo_45 : decode cX4_nearestTo 45 = .ok (.if_icmp .le 10, 3) := by decide +kernel
theorem dX4_nearestTo_48 : decode cX4_nearestTo 48 = .ok (.iload 5, 2) := by decide +kernel
theorem dX4_nearestTo_50 : decode cX4_nearestTo 50 = .ok (.istore_n 3, 1) := by decide +kernel
theorem dX4_nearestTo_51 : decode cX4_nearestTo 51 = .ok (.iload 6, 2) := by decide +kernel
theorem dX4_nearestTo_53 : decode cX4_nearestTo 53 = .ok (.istore 4, 2) := by decide +kernel
theorem dX4_nearestTo_55 : decode cX4_nearestTo 55 = .ok (.iinc 5 1, 3) := by decide +kernel
theorem dX4_nearestTo_58 : decode cX4_nearestTo 58 = .ok (.goto (-39), 3) := by decide +kernel
theorem dX4_nearestTo_61 : decode cX4_nearestTo 61 = .ok (.iload_n 3, 1) := by decide +kernel
theorem dX4_nearestTo_62 : decode cX4_nearestTo 62 = .ok (.ireturn, 1) := by decide +kernel
set_option maxRecDepth 20000 in
theorem ggX4_isResting_X5_at : GoodIn wsX4_isResting wsX5_at := goodIn_r _ [6, 7, 14] (by decide +kernel) (by decide +kernel)
set_option maxRecDepth 20000 in
theorem gX4_isResting_X5_at : GoodIn wsX4_isResting (wsV RX4 39 RX5 yX5_at wsX5_at) := goodIn_app (goodIn_of _ (by decide +kernel)) ggX4_isResting_X5_at
theorem dX4_isResting_0 : decode cX4_isResting 0 = .ok (.aload_n 0, 1) := by decide +kernel
theorem dX4_isResting_1 : decode cX4_isResting 1 = .ok (.getfield 26, 3) := by decide +kernel
theorem dX4_isResting_4 : decode cX4_isResting 4 = .ok (.iload_n 1, 1) := by decide +kernel
theorem dX4_isResting_5 : decode cX4_isResting 5 = .ok (.invokevirtual 39, 3) := by decide +kernel
theorem dX4_isResting_8 : decode cX4_isResting 8 = .ok (.istore_n 3, 1) := by decide +kernel
theorem dX4_isResting_9 : decode cX4_isResting 9 = .ok (.iload_n 2, 1) := by decide +kernel
theorem dX4_isResting_10 : decode cX4_isResting 10 = .ok (.iload_n 3, 1) := by decide +kernel
theorem dX4_isResting_11 : decode cX4_isResting 11 = .ok (.if_icmp .gt 15, 3) := by decide +kernel
theorem dX4_isResting_14 : decode cX4_isResting 14 = .ok (.iload_n 2, 1) := by decide +kernel
theorem dX4_isResting_15 : decode cX4_isResting 15 = .ok (.iload_n 3, 1) := by decide +kernel
theorem dX4_isResting_16 : decode cX4_isResting 16 = .ok (.bipush 12, 2) := by decide +kernel
theorem dX4_isResting_18 : decode cX4_isResting 18 = .ok (.isub, 1) := by decide +kernel
theorem dX4_isResting_19 : decode cX4_isResting 19 = .ok (.if_icmp .le 7, 3) := by decide +kernel
theorem dX4_isResting_22 : decode cX4_isResting 22 = .ok (.iconst 1, 1) := by decide +kernel
theorem dX4_isResting_23 : decode cX4_isResting 23 = .ok (.goto 4, 3) := by decide +kernel
theorem dX4_isResting_26 : decode cX4_isResting 26 = .ok (.iconst 0, 1) := by decide +kernel
theorem dX4_isResting_27 : decode cX4_isResting 27 = .ok (.ireturn, 1) := by decide +kernel
set_option maxRecDepth 20000 in
theorem ggX4_dutyAt_X5_at : GoodIn wsX4_dutyAt wsX5_at := goodIn_r _ [7, 8, 21] (by decide +kernel) (by decide +kernel)
set_option maxRecDepth 20000 in
theorem gX4_dutyAt_X5_at : GoodIn wsX4_dutyAt (wsV RX4 39 RX5 yX5_at wsX5_at) := goodIn_app (goodIn_of _ (by decide +kernel)) ggX4_dutyAt_X5_at
set_option maxRecDepth 20000 in
theorem ggX4_dutyAt_X4_isResting : GoodIn wsX4_dutyAt wsX4_isResting := goodIn_r _ [13, 14, 3, 4, 5, 6, 7, 8, 15, 16, 17, 18, 19, 20, 21] (by decide +kernel) (by decide +kernel)
set_option maxRecDepth 20000 in
theorem gX4_dutyAt_X4_isResting : GoodIn wsX4_dutyAt (wsV RX4 50 RX4 yX4_isResting wsX4_isResting) := goodIn_app (goodIn_of _ (by decide +kernel)) ggX4_dutyAt_X4_isResting
theorem dX4_dutyAt_0 : decode cX4_dutyAt 0 = .ok (.aload_n 0, 1) := by decide +kernel
theorem dX4_dutyAt_1 : decode cX4_dutyAt 1 = .ok (.getfield 14, 3) := by decide +kernel
theorem dX4_dutyAt_4 : decode cX4_dutyAt 4 = .ok (.iload_n 1, 1) := by decide +kernel
theorem dX4_dutyAt_5 : decode cX4_dutyAt 5 = .ok (.bipush 14, 2) := by decide +kernel
theorem dX4_dutyAt_7 : decode cX4_dutyAt 7 = .ok (.idiv, 1) := by decide +kernel
theorem dX4_dutyAt_8 : decode cX4_dutyAt 8 = .ok (.invokevirtual 39, 3) := by decide +kernel
theorem dX4_dutyAt_11 : decode cX4_dutyAt 11 = .ok (.istore_n 2, 1) := by decide +kernel
theorem dX4_dutyAt_12 : decode cX4_dutyAt 12 = .ok (.aload_n 0, 1) := by decide +kernel
theorem dX4_dutyAt_13 : decode cX4_dutyAt 13 = .ok (.iload_n 2, 1) := by decide +kernel
theorem dX4_dutyAt_14 : decode cX4_dutyAt 14 = .ok (.iload_n 1, 1) := by decide +kernel
theorem dX4_dutyAt_15 : decode cX4_dutyAt 15 = .ok (.invokevirtual 50, 3) := by decide +kernel
theorem dX4_dutyAt_18 : decode cX4_dutyAt 18 = .ok (.ifCond .ne 5, 3) := by decide +kernel
theorem dX4_dutyAt_21 : decode cX4_dutyAt 21 = .ok (.iload_n 2, 1) := by decide +kernel
theorem dX4_dutyAt_22 : decode cX4_dutyAt 22 = .ok (.ireturn, 1) := by decide +kernel
theorem dX4_dutyAt_23 : decode cX4_dutyAt 23 = .ok (.iconst (-1), 1) := by decide +kernel
theorem dX4_dutyAt_24 : decode cX4_dutyAt 24 = .ok (.istore_n 3, 1) := by decide +kernel
theorem dX4_dutyAt_25 : decode cX4_dutyAt 25 = .ok (.iconst (-1), 1) := by decide +kernel
theorem dX4_dutyAt_26 : decode cX4_dutyAt 26 = .ok (.istore 4, 2) := by decide +kernel
theorem dX4_dutyAt_28 : decode cX4_dutyAt 28 = .ok (.iconst 0, 1) := by decide +kernel
theorem dX4_dutyAt_29 : decode cX4_dutyAt 29 = .ok (.istore 5, 2) := by decide +kernel
theorem dX4_dutyAt_31 : decode cX4_dutyAt 31 = .ok (.iload 5, 2) := by decide +kernel
theorem dX4_dutyAt_33 : decode cX4_dutyAt 33 = .ok (.bipush 6, 2) := by decide +kernel
theorem dX4_dutyAt_35 : decode cX4_dutyAt 35 = .ok (.if_icmp .ge 47, 3) := by decide +kernel
theorem dX4_dutyAt_38 : decode cX4_dutyAt 38 = .ok (.aload_n 0, 1) := by decide +kernel
theorem dX4_dutyAt_39 : decode cX4_dutyAt 39 = .ok (.iload 5, 2) := by decide +kernel
theorem dX4_dutyAt_41 : decode cX4_dutyAt 41 = .ok (.iload_n 1, 1) := by decide +kernel
theorem dX4_dutyAt_42 : decode cX4_dutyAt 42 = .ok (.invokevirtual 50, 3) := by decide +kernel
theorem dX4_dutyAt_45 : decode cX4_dutyAt 45 = .ok (.ifCond .ne 31, 3) := by decide +kernel
theorem dX4_dutyAt_48 : decode cX4_dutyAt 48 = .ok (.aload_n 0, 1) := by decide +kernel
theorem dX4_dutyAt_49 : decode cX4_dutyAt 49 = .ok (.getfield 23, 3) := by decide +kernel
theorem dX4_dutyAt_52 : decode cX4_dutyAt 52 = .ok (.iload 5, 2) := by decide +kernel
theorem dX4_dutyAt_54 : decode cX4_dutyAt 54 = .ok (.invokevirtual 39, 3) := by decide +kernel
theorem dX4_dutyAt_57 : decode cX4_dutyAt 57 = .ok (.iload 4, 2) := by decide +kernel
theorem dX4_dutyAt_59 : decode cX4_dutyAt 59 = .ok (.if_icmp .le 17, 3) := by decide +kernel
theorem dX4_dutyAt_62 : decode cX4_dutyAt 62 = .ok (.iload 5, 2) := by decide +kernel
theorem dX4_dutyAt_64 : decode cX4_dutyAt 64 = .ok (.istore_n 3, 1) := by decide +kernel
theorem dX4_dutyAt_65 : decode cX4_dutyAt 65 = .ok (.aload_n 0, 1) := by decide +kernel
theorem dX4_dutyAt_66 : decode cX4_dutyAt 66 = .ok (.getfield 23, 3) := by decide +kernel
theorem dX4_dutyAt_69 : decode cX4_dutyAt 69 = .ok (.iload 5, 2) := by decide +kernel
theorem dX4_dutyAt_71 : decode cX4_dutyAt 71 = .ok (.invokevirtual 39, 3) := by decide +kernel
theorem dX4_dutyAt_74 : decode cX4_dutyAt 74 = .ok (.istore 4, 2) := by decide +kernel
theorem dX4_dutyAt_76 : decode cX4_dutyAt 76 = .ok (.iinc 5 1, 3) := by decide +kernel
theorem dX4_dutyAt_79 : decode cX4_dutyAt 79 = .ok (.goto (-48), 3) := by decide +kernel
theorem dX4_dutyAt_82 : decode cX4_dutyAt 82 = .ok (.iload_n 3, 1) := by decide +kernel
theorem dX4_dutyAt_83 : decode cX4_dutyAt 83 = .ok (.ireturn, 1) := by decide +kernel
set_option maxRecDepth 20000 in
theorem ggX4_callAt_X4_dutyAt : GoodIn wsX4_callAt wsX4_dutyAt := goodIn_r _ [9, 10, 11, 12, 13, 14, 15, 16, 17, 18, 19, 20, 8, 21, 4, 26, 27, 28, 29, 30, 31, 32] (by decide +kernel) (by decide +kernel)
set_option maxRecDepth 20000 in
theorem gX4_callAt_X4_dutyAt : GoodIn wsX4_callAt (wsV RX4 54 RX4 yX4_dutyAt wsX4_dutyAt) := goodIn_app (goodIn_of _ (by decide +kernel)) ggX4_callAt_X4_dutyAt
set_option maxRecDepth 20000 in
theorem ggX4_callAt_X5_at : GoodIn wsX4_callAt wsX5_at := goodIn_r _ [16, 17, 32] (by decide +kernel) (by decide +kernel)
set_option maxRecDepth 20000 in
theorem gX4_callAt_X5_at : GoodIn wsX4_callAt (wsV RX4 39 RX5 yX5_at wsX5_at) := goodIn_app (goodIn_of _ (by decide +kernel)) ggX4_callAt_X5_at
set_option maxRecDepth 20000 in
theorem ggX4_callAt_X5_put : GoodIn wsX4_callAt wsX5_put := goodIn_r _ [25, 17, 32] (by decide +kernel) (by decide +kernel)
set_option maxRecDepth 20000 in
theorem gX4_callAt_X5_put : GoodIn wsX4_callAt (wsV RX4 20 RX5 yX5_put wsX5_put) := goodIn_app (goodIn_of _ (by decide +kernel)) ggX4_callAt_X5_put
theorem dX4_callAt_0 : decode cX4_callAt 0 = .ok (.aload_n 0, 1) := by decide +kernel
theorem dX4_callAt_1 : decode cX4_callAt 1 = .ok (.iload_n 1, 1) := by decide +kernel
theorem dX4_callAt_2 : decode cX4_callAt 2 = .ok (.invokevirtual 54, 3) := by decide +kernel
theorem dX4_callAt_5 : decode cX4_callAt 5 = .ok (.istore_n 2, 1) := by decide +kernel
theorem dX4_callAt_6 : decode cX4_callAt 6 = .ok (.iload_n 2, 1) := by decide +kernel
theorem dX4_callAt_7 : decode cX4_callAt 7 = .ok (.iconst (-1), 1) := by decide +kernel
theorem dX4_callAt_8 : decode cX4_callAt 8 = .ok (.if_icmp .ne 16, 3) := by decide +kernel
theorem dX4_callAt_11 : decode cX4_callAt 11 = .ok (.aload_n 0, 1) := by decide +kernel
theorem dX4_callAt_12 : decode cX4_callAt 12 = .ok (.dup, 1) := by decide +kernel
theorem dX4_callAt_13 : decode cX4_callAt 13 = .ok (.getfield 35, 3) := by decide +kernel
theorem dX4_callAt_16 : decode cX4_callAt 16 = .ok (.iconst 1, 1) := by decide +kernel
theorem dX4_callAt_17 : decode cX4_callAt 17 = .ok (.iadd, 1) := by decide +kernel
theorem dX4_callAt_18 : decode cX4_callAt 18 = .ok (.putfield 35, 3) := by decide +kernel
theorem dX4_callAt_21 : decode cX4_callAt 21 = .ok (.goto 60, 3) := by decide +kernel
theorem dX4_callAt_24 : decode cX4_callAt 24 = .ok (.iload_n 1, 1) := by decide +kernel
theorem dX4_callAt_25 : decode cX4_callAt 25 = .ok (.iconst 2, 1) := by decide +kernel
theorem dX4_callAt_26 : decode cX4_callAt 26 = .ok (.irem, 1) := by decide +kernel
theorem dX4_callAt_27 : decode cX4_callAt 27 = .ok (.ifCond .ne 24, 3) := by decide +kernel
theorem dX4_callAt_30 : decode cX4_callAt 30 = .ok (.aload_n 0, 1) := by decide +kernel
theorem dX4_callAt_31 : decode cX4_callAt 31 = .ok (.getfield 29, 3) := by decide +kernel
theorem dX4_callAt_34 : decode cX4_callAt 34 = .ok (.iload_n 2, 1) := by decide +kernel
theorem dX4_callAt_35 : decode cX4_callAt 35 = .ok (.aload_n 0, 1) := by decide +kernel
theorem dX4_callAt_36 : decode cX4_callAt 36 = .ok (.getfield 29, 3) := by decide +kernel
theorem dX4_callAt_39 : decode cX4_callAt 39 = .ok (.iload_n 2, 1) := by decide +kernel
theorem dX4_callAt_40 : decode cX4_callAt 40 = .ok (.invokevirtual 39, 3) := by decide +kernel
theorem dX4_callAt_43 : decode cX4_callAt 43 = .ok (.iconst 1, 1) := by decide +kernel
theorem dX4_callAt_44 : decode cX4_callAt 44 = .ok (.iadd, 1) := by decide +kernel
theorem dX4_callAt_45 : decode cX4_callAt 45 = .ok (.invokevirtual 20, 3) := by decide +kernel
theorem dX4_callAt_48 : decode cX4_callAt 48 = .ok (.goto 33, 3) := by decide +kernel
theorem dX4_callAt_51 : decode cX4_callAt 51 = .ok (.aload_n 0, 1) := by decide +kernel
theorem dX4_callAt_52 : decode cX4_callAt 52 = .ok (.getfield 32, 3) := by decide +kernel
theorem dX4_callAt_55 : decode cX4_callAt 55 = .ok (.iload_n 2, 1) := by decide +kernel
theorem dX4_callAt_56 : decode cX4_callAt 56 = .ok (.aload_n 0, 1) := by decide +kernel
theorem dX4_callAt_57 : decode cX4_callAt 57 = .ok (.getfield 32, 3) := by decide +kernel
theorem dX4_callAt_60 : decode cX4_callAt 60 = .ok (.iload_n 2, 1) := by decide +kernel
theorem dX4_callAt_61 : decode cX4_callAt 61 = .ok (.invokevirtual 39, 3) := by decide +kernel
theorem dX4_callAt_64 : decode cX4_callAt 64 = .ok (.iconst 1, 1) := by decide +kernel
theorem dX4_callAt_65 : decode cX4_callAt 65 = .ok (.iadd, 1) := by decide +kernel
theorem dX4_callAt_66 : decode cX4_callAt 66 = .ok (.invokevirtual 20, 3) := by decide +kernel
theorem dX4_callAt_69 : decode cX4_callAt 69 = .ok (.aload_n 0, 1) := by decide +kernel
theorem dX4_callAt_70 : decode cX4_callAt 70 = .ok (.getfield 26, 3) := by decide +kernel
theorem dX4_callAt_73 : decode cX4_callAt 73 = .ok (.iload_n 2, 1) := by decide +kernel
theorem dX4_callAt_74 : decode cX4_callAt 74 = .ok (.iload_n 1, 1) := by decide +kernel
theorem dX4_callAt_75 : decode cX4_callAt 75 = .ok (.bipush 12, 2) := by decide +kernel
theorem dX4_callAt_77 : decode cX4_callAt 77 = .ok (.iadd, 1) := by decide +kernel
theorem dX4_callAt_78 : decode cX4_callAt 78 = .ok (.invokevirtual 20, 3) := by decide +kernel
theorem dX4_callAt_81 : decode cX4_callAt 81 = .ok (.iload_n 2, 1) := by decide +kernel
theorem dX4_callAt_82 : decode cX4_callAt 82 = .ok (.ireturn, 1) := by decide +kernel
set_option maxRecDepth 20000 in
theorem ggX4_callCount_X5_at : GoodIn wsX4_callCount wsX5_at := goodIn_r _ [7, 8, 15] (by decide +kernel) (by decide +kernel)
set_option maxRecDepth 20000 in
theorem gX4_callCount_X5_at : GoodIn wsX4_callCount (wsV RX4 39 RX5 yX5_at wsX5_at) := goodIn_app (goodIn_of _ (by decide +kernel)) ggX4_callCount_X5_at
theorem dX4_callCount_0 : decode cX4_callCount 0 = .ok (.iload_n 2, 1) := by decide +kernel
theorem dX4_callCount_1 : decode cX4_callCount 1 = .ok (.ifCond .eq 14, 3) := by decide +kernel
theorem dX4_callCount_4 : decode cX4_callCount 4 = .ok (.aload_n 0, 1) := by decide +kernel
theorem dX4_callCount_5 : decode cX4_callCount 5 = .ok (.getfield 32, 3) := by decide +kernel
theorem dX4_callCount_8 : decode cX4_callCount 8 = .ok (.iload_n 1, 1) := by decide +kernel
theorem dX4_callCount_9 : decode cX4_callCount 9 = .ok (.invokevirtual 39, 3) := by decide +kernel
theorem dX4_callCount_12 : decode cX4_callCount 12 = .ok (.goto 11, 3) := by decide +kernel
theorem dX4_callCount_15 : decode cX4_callCount 15 = .ok (.aload_n 0, 1) := by decide +kernel
theorem dX4_callCount_16 : decode cX4_callCount 16 = .ok (.getfield 29, 3) := by decide +kernel
theorem dX4_callCount_19 : decode cX4_callCount 19 = .ok (.iload_n 1, 1) := by decide +kernel
theorem dX4_callCount_20 : decode cX4_callCount 20 = .ok (.invokevirtual 39, 3) := by decide +kernel
theorem dX4_callCount_23 : decode cX4_callCount 23 = .ok (.ireturn, 1) := by decide +kernel
theorem dX4_missedCount_0 : decode cX4_missedCount 0 = .ok (.aload_n 0, 1) := by decide +kernel
theorem dX4_missedCount_1 : decode cX4_missedCount 1 = .ok (.getfield 35, 3) := by decide +kernel
theorem dX4_missedCount_4 : decode cX4_missedCount 4 = .ok (.ireturn, 1) := by decide +kernel
theorem dX5_init_0 : decode cX5_init 0 = .ok (.aload_n 0, 1) := by decide +kernel
theorem dX5_init_1 : decode cX5_init 1 = .ok (.invokespecial 3, 3) := by decide +kernel
theorem dX5_init_4 : decode cX5_init 4 = .ok (.aload_n 0, 1) := by decide +kernel
theorem dX5_init_5 : decode cX5_init 5 = .ok (.iload_n 1, 1) := by decide +kernel
theorem dX5_init_6 : decode cX5_init 6 = .ok (.ifCond .ge 7, 3) := by decide +kernel
theorem dX5_init_9 : decode cX5_init 9 = .ok (.iconst 0, 1) := by decide +kernel
theorem dX5_init_10 : decode cX5_init 10 = .ok (.goto 4, 3) := by decide +kernel
theorem dX5_init_13 : decode cX5_init 13 = .ok (.iload_n 1, 1) := by decide +kernel
theorem dX5_init_14 : decode cX5_init 14 = .ok (.newarray .int, 2) := by decide +kernel
theorem dX5_init_16 : decode cX5_init 16 = .ok (.putfield 9, 3) := by decide +kernel
theorem dX5_init_19 : decode cX5_init 19 = .ok (.iconst 0, 1) := by decide +kernel
theorem dX5_init_20 : decode cX5_init 20 = .ok (.istore_n 3, 1) := by decide +kernel
theorem dX5_init_21 : decode cX5_init 21 = .ok (.iload_n 3, 1) := by decide +kernel
theorem dX5_init_22 : decode cX5_init 22 = .ok (.aload_n 0, 1) := by decide +kernel
theorem dX5_init_23 : decode cX5_init 23 = .ok (.getfield 9, 3) := by decide +kernel
theorem dX5_init_26 : decode cX5_init 26 = .ok (.arraylength, 1) := by decide +kernel
theorem dX5_init_27 : decode cX5_init 27 = .ok (.if_icmp .ge 16, 3) := by decide +kernel
theorem dX5_init_30 : decode cX5_init 30 = .ok (.aload_n 0, 1) := by decide +kernel
theorem dX5_init_31 : decode cX5_init 31 = .ok (.getfield 9, 3) := by decide +kernel
theorem dX5_init_34 : decode cX5_init 34 = .ok (.iload_n 3, 1) := by decide +kernel
theorem dX5_init_35 : decode cX5_init 35 = .ok (.iload_n 2, 1) := by decide +kernel
theorem dX5_init_36 : decode cX5_init 36 = .ok (.iastore, 1) := by decide +kernel
theorem dX5_init_37 : decode cX5_init 37 = .ok (.iinc 3 1, 3) := by decide +kernel
theorem dX5_init_40 : decode cX5_init 40 = .ok (.goto (-19), 3) := by decide +kernel
theorem dX5_init_43 : decode cX5_init 43 = .ok (.return_, 1) := by decide +kernel
theorem dX5_at_0 : decode cX5_at 0 = .ok (.iload_n 1, 1) := by decide +kernel
theorem dX5_at_1 : decode cX5_at 1 = .ok (.ifCond .lt 21, 3) := by decide +kernel
theorem dX5_at_4 : decode cX5_at 4 = .ok (.iload_n 1, 1) := by decide +kernel
theorem dX5_at_5 : decode cX5_at 5 = .ok (.aload_n 0, 1) := by decide +kernel
theorem dX5_at_6 : decode cX5_at 6 = .ok (.getfield 9, 3) := by decide +kernel
theorem dX5_at_9 : decode cX5_at 9 = .ok (.arraylength, 1) := by decide +kernel
theorem dX5_at_10 : decode cX5_at 10 = .ok (.if_icmp .ge 12, 3) := by decide +kernel
theorem dX5_at_13 : decode cX5_at 13 = .ok (.aload_n 0, 1) := by decide +kernel
theorem dX5_at_14 : decode cX5_at 14 = .ok (.getfield 9, 3) := by decide +kernel
theorem dX5_at_17 : decode cX5_at 17 = .ok (.iload_n 1, 1) := by decide +kernel
theorem dX5_at_18 : decode cX5_at 18 = .ok (.iaload, 1) := by decide +kernel
theorem dX5_at_19 : decode cX5_at 19 = .ok (.goto 4, 3) := by decide +kernel
theorem dX5_at_22 : decode cX5_at 22 = .ok (.iconst (-1), 1) := by decide +kernel
theorem dX5_at_23 : decode cX5_at 23 = .ok (.ireturn, 1) := by decide +kernel
theorem dX5_put_0 : decode cX5_put 0 = .ok (.iload_n 1, 1) := by decide +kernel
theorem dX5_put_1 : decode cX5_put 1 = .ok (.ifCond .lt 19, 3) := by decide +kernel
theorem dX5_put_4 : decode cX5_put 4 = .ok (.iload_n 1, 1) := by decide +kernel
theorem dX5_put_5 : decode cX5_put 5 = .ok (.aload_n 0, 1) := by decide +kernel
theorem dX5_put_6 : decode cX5_put 6 = .ok (.getfield 9, 3) := by decide +kernel
theorem dX5_put_9 : decode cX5_put 9 = .ok (.arraylength, 1) := by decide +kernel
theorem dX5_put_10 : decode cX5_put 10 = .ok (.if_icmp .ge 10, 3) := by decide +kernel
theorem dX5_put_13 : decode cX5_put 13 = .ok (.aload_n 0, 1) := by decide +kernel
theorem dX5_put_14 : decode cX5_put 14 = .ok (.getfield 9, 3) := by decide +kernel
theorem dX5_put_17 : decode cX5_put 17 = .ok (.iload_n 1, 1) := by decide +kernel
theorem dX5_put_18 : decode cX5_put 18 = .ok (.iload_n 2, 1) := by decide +kernel
theorem dX5_put_19 : decode cX5_put 19 = .ok (.iastore, 1) := by decide +kernel
theorem dX5_put_20 : decode cX5_put 20 = .ok (.return_, 1) := by decide +kernel
theorem dJ6_bitCount_0f7a4_0 : decode cJ6_bitCount_0f7a4 0 = .ok (.iload_n 0, 1) := by decide +kernel
theorem dJ6_bitCount_0f7a4_1 : decode cJ6_bitCount_0f7a4 1 = .ok (.iload_n 0, 1) := by decide +kernel
theorem dJ6_bitCount_0f7a4_2 : decode cJ6_bitCount_0f7a4 2 = .ok (.iconst 1, 1) := by decide +kernel
theorem dJ6_bitCount_0f7a4_3 : decode cJ6_bitCount_0f7a4 3 = .ok (.iushr, 1) := by decide +kernel
theorem dJ6_bitCount_0f7a4_4 : decode cJ6_bitCount_0f7a4 4 = .ok (.ldc_w 265, 3) := by decide +kernel
theorem dJ6_bitCount_0f7a4_7 : decode cJ6_bitCount_0f7a4 7 = .ok (.iand, 1) := by decide +kernel
theorem dJ6_bitCount_0f7a4_8 : decode cJ6_bitCount_0f7a4 8 = .ok (.isub, 1) := by decide +kernel
theorem dJ6_bitCount_0f7a4_9 : decode cJ6_bitCount_0f7a4 9 = .ok (.istore_n 0, 1) := by decide +kernel
theorem dJ6_bitCount_0f7a4_10 : decode cJ6_bitCount_0f7a4 10 = .ok (.iload_n 0, 1) := by decide +kernel
theorem dJ6_bitCount_0f7a4_11 : decode cJ6_bitCount_0f7a4 11 = .ok (.ldc_w 266, 3) := by decide +kernel
theorem dJ6_bitCount_0f7a4_14 : decode cJ6_bitCount_0f7a4 14 = .ok (.iand, 1) := by decide +kernel
theorem dJ6_bitCount_0f7a4_15 : decode cJ6_bitCount_0f7a4 15 = .ok (.iload_n 0, 1) := by decide +kernel
theorem dJ6_bitCount_0f7a4_16 : decode cJ6_bitCount_0f7a4 16 = .ok (.iconst 2, 1) := by decide +kernel
theorem dJ6_bitCount_0f7a4_17 : decode cJ6_bitCount_0f7a4 17 = .ok (.iushr, 1) := by decide +kernel
theorem dJ6_bitCount_0f7a4_18 : decode cJ6_bitCount_0f7a4 18 = .ok (.ldc_w 266, 3) := by decide +kernel
theorem dJ6_bitCount_0f7a4_21 : decode cJ6_bitCount_0f7a4 21 = .ok (.iand, 1) := by decide +kernel
theorem dJ6_bitCount_0f7a4_22 : decode cJ6_bitCount_0f7a4 22 = .ok (.iadd, 1) := by decide +kernel
theorem dJ6_bitCount_0f7a4_23 : decode cJ6_bitCount_0f7a4 23 = .ok (.istore_n 0, 1) := by decide +kernel
theorem dJ6_bitCount_0f7a4_24 : decode cJ6_bitCount_0f7a4 24 = .ok (.iload_n 0, 1) := by decide +kernel
theorem dJ6_bitCount_0f7a4_25 : decode cJ6_bitCount_0f7a4 25 = .ok (.iload_n 0, 1) := by decide +kernel
theorem dJ6_bitCount_0f7a4_26 : decode cJ6_bitCount_0f7a4 26 = .ok (.iconst 4, 1) := by decide +kernel
theorem dJ6_bitCount_0f7a4_27 : decode cJ6_bitCount_0f7a4 27 = .ok (.iushr, 1) := by decide +kernel
theorem dJ6_bitCount_0f7a4_28 : decode cJ6_bitCount_0f7a4 28 = .ok (.iadd, 1) := by decide +kernel
theorem dJ6_bitCount_0f7a4_29 : decode cJ6_bitCount_0f7a4 29 = .ok (.ldc_w 267, 3) := by decide +kernel
theorem dJ6_bitCount_0f7a4_32 : decode cJ6_bitCount_0f7a4 32 = .ok (.iand, 1) := by decide +kernel
theorem dJ6_bitCount_0f7a4_33 : decode cJ6_bitCount_0f7a4 33 = .ok (.istore_n 0, 1) := by decide +kernel
theorem dJ6_bitCount_0f7a4_34 : decode cJ6_bitCount_0f7a4 34 = .ok (.iload_n 0, 1) := by decide +kernel
theorem dJ6_bitCount_0f7a4_35 : decode cJ6_bitCount_0f7a4 35 = .ok (.iload_n 0, 1) := by decide +kernel
theorem dJ6_bitCount_0f7a4_36 : decode cJ6_bitCount_0f7a4 36 = .ok (.bipush 8, 2) := by decide +kernel
theorem dJ6_bitCount_0f7a4_38 : decode cJ6_bitCount_0f7a4 38 = .ok (.iushr, 1) := by decide +kernel
theorem dJ6_bitCount_0f7a4_39 : decode cJ6_bitCount_0f7a4 39 = .ok (.iadd, 1) := by decide +kernel
theorem dJ6_bitCount_0f7a4_40 : decode cJ6_bitCount_0f7a4 40 = .ok (.istore_n 0, 1) := by decide +kernel
theorem dJ6_bitCount_0f7a4_41 : decode cJ6_bitCount_0f7a4 41 = .ok (.iload_n 0, 1) := by decide +kernel
theorem dJ6_bitCount_0f7a4_42 : decode cJ6_bitCount_0f7a4 42 = .ok (.iload_n 0, 1) := by decide +kernel
theorem dJ6_bitCount_0f7a4_43 : decode cJ6_bitCount_0f7a4 43 = .ok (.bipush 16, 2) := by decide +kernel
theorem dJ6_bitCount_0f7a4_45 : decode cJ6_bitCount_0f7a4 45 = .ok (.iushr, 1) := by decide +kernel
theorem dJ6_bitCount_0f7a4_46 : decode cJ6_bitCount_0f7a4 46 = .ok (.iadd, 1) := by decide +kernel
theorem dJ6_bitCount_0f7a4_47 : decode cJ6_bitCount_0f7a4 47 = .ok (.istore_n 0, 1) := by decide +kernel
theorem dJ6_bitCount_0f7a4_48 : decode cJ6_bitCount_0f7a4 48 = .ok (.iload_n 0, 1) := by decide +kernel
theorem dJ6_bitCount_0f7a4_49 : decode cJ6_bitCount_0f7a4 49 = .ok (.bipush 63, 2) := by decide +kernel
theorem dJ6_bitCount_0f7a4_51 : decode cJ6_bitCount_0f7a4 51 = .ok (.iand, 1) := by decide +kernel
theorem dJ6_bitCount_0f7a4_52 : decode cJ6_bitCount_0f7a4 52 = .ok (.ireturn, 1) := by decide +kernel
