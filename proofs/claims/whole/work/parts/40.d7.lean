theorem dX7_init_0 : decode cX7_init 0 = .ok (.aload_n 0, 1) := by decide +kernel
theorem dX7_init_1 : decode cX7_init 1 = .ok (.invokespecial 1, 3) := by decide +kernel
theorem dX7_init_4 : decode cX7_init 4 = .ok (.aload_n 0, 1) := by decide +kernel
theorem dX7_init_5 : decode cX7_init 5 = .ok (.iconst 1, 1) := by decide +kernel
theorem dX7_init_6 : decode cX7_init 6 = .ok (.putfield 7, 3) := by decide +kernel
theorem dX7_init_9 : decode cX7_init 9 = .ok (.aload_n 0, 1) := by decide +kernel
theorem dX7_init_10 : decode cX7_init 10 = .ok (.bipush 8, 2) := by decide +kernel
theorem dX7_init_12 : decode cX7_init 12 = .ok (.newarray .int, 2) := by decide +kernel
theorem dX7_init_14 : decode cX7_init 14 = .ok (.putfield 13, 3) := by decide +kernel
theorem dX7_init_17 : decode cX7_init 17 = .ok (.aload_n 0, 1) := by decide +kernel
theorem dX7_init_18 : decode cX7_init 18 = .ok (.bipush 24, 2) := by decide +kernel
theorem dX7_init_20 : decode cX7_init 20 = .ok (.newarray .int, 2) := by decide +kernel
theorem dX7_init_22 : decode cX7_init 22 = .ok (.putfield 17, 3) := by decide +kernel
theorem dX7_init_25 : decode cX7_init 25 = .ok (.aload_n 0, 1) := by decide +kernel
theorem dX7_init_26 : decode cX7_init 26 = .ok (.bipush 24, 2) := by decide +kernel
theorem dX7_init_28 : decode cX7_init 28 = .ok (.newarray .int, 2) := by decide +kernel
theorem dX7_init_30 : decode cX7_init 30 = .ok (.putfield 20, 3) := by decide +kernel
theorem dX7_init_33 : decode cX7_init 33 = .ok (.aload_n 0, 1) := by decide +kernel
theorem dX7_init_34 : decode cX7_init 34 = .ok (.bipush 24, 2) := by decide +kernel
theorem dX7_init_36 : decode cX7_init 36 = .ok (.newarray .boolean, 2) := by decide +kernel
theorem dX7_init_38 : decode cX7_init 38 = .ok (.putfield 23, 3) := by decide +kernel
theorem dX7_init_41 : decode cX7_init 41 = .ok (.aload_n 0, 1) := by decide +kernel
theorem dX7_init_42 : decode cX7_init 42 = .ok (.sipush 200, 3) := by decide +kernel
theorem dX7_init_45 : decode cX7_init 45 = .ok (.newarray .int, 2) := by decide +kernel
theorem dX7_init_47 : decode cX7_init 47 = .ok (.putfield 27, 3) := by decide +kernel
theorem dX7_init_50 : decode cX7_init 50 = .ok (.aload_n 0, 1) := by decide +kernel
theorem dX7_init_51 : decode cX7_init 51 = .ok (.sipush 200, 3) := by decide +kernel
theorem dX7_init_54 : decode cX7_init 54 = .ok (.newarray .int, 2) := by decide +kernel
theorem dX7_init_56 : decode cX7_init 56 = .ok (.putfield 30, 3) := by decide +kernel
theorem dX7_init_59 : decode cX7_init 59 = .ok (.aload_n 0, 1) := by decide +kernel
theorem dX7_init_60 : decode cX7_init 60 = .ok (.sipush 200, 3) := by decide +kernel
theorem dX7_init_63 : decode cX7_init 63 = .ok (.newarray .int, 2) := by decide +kernel
theorem dX7_init_65 : decode cX7_init 65 = .ok (.putfield 33, 3) := by decide +kernel
theorem dX7_init_68 : decode cX7_init 68 = .ok (.aload_n 0, 1) := by decide +kernel
theorem dX7_init_69 : decode cX7_init 69 = .ok (.sipush 200, 3) := by decide +kernel
theorem dX7_init_72 : decode cX7_init 72 = .ok (.newarray .int, 2) := by decide +kernel
theorem dX7_init_74 : decode cX7_init 74 = .ok (.putfield 36, 3) := by decide +kernel
theorem dX7_init_77 : decode cX7_init 77 = .ok (.aload_n 0, 1) := by decide +kernel
theorem dX7_init_78 : decode cX7_init 78 = .ok (.sipush 200, 3) := by decide +kernel
theorem dX7_init_81 : decode cX7_init 81 = .ok (.newarray .int, 2) := by decide +kernel
theorem dX7_init_83 : decode cX7_init 83 = .ok (.putfield 39, 3) := by decide +kernel
theorem dX7_init_86 : decode cX7_init 86 = .ok (.aload_n 0, 1) := by decide +kernel
theorem dX7_init_87 : decode cX7_init 87 = .ok (.bipush 43, 2) := by decide +kernel
theorem dX7_init_89 : decode cX7_init 89 = .ok (.newarray .int, 2) := by decide +kernel
theorem dX7_init_91 : decode cX7_init 91 = .ok (.putfield 42, 3) := by decide +kernel
theorem dX7_init_94 : decode cX7_init 94 = .ok (.aload_n 0, 1) := by decide +kernel
theorem dX7_init_95 : decode cX7_init 95 = .ok (.bipush 6, 2) := by decide +kernel
theorem dX7_init_97 : decode cX7_init 97 = .ok (.newarray .int, 2) := by decide +kernel
theorem dX7_init_99 : decode cX7_init 99 = .ok (.putfield 45, 3) := by decide +kernel
theorem dX7_init_102 : decode cX7_init 102 = .ok (.aload_n 0, 1) := by decide +kernel
theorem dX7_init_103 : decode cX7_init 103 = .ok (.bipush 6, 2) := by decide +kernel
theorem dX7_init_105 : decode cX7_init 105 = .ok (.newarray .int, 2) := by decide +kernel
theorem dX7_init_107 : decode cX7_init 107 = .ok (.putfield 48, 3) := by decide +kernel
theorem dX7_init_110 : decode cX7_init 110 = .ok (.aload_n 0, 1) := by decide +kernel
theorem dX7_init_111 : decode cX7_init 111 = .ok (.bipush 6, 2) := by decide +kernel
theorem dX7_init_113 : decode cX7_init 113 = .ok (.newarray .int, 2) := by decide +kernel
theorem dX7_init_115 : decode cX7_init 115 = .ok (.putfield 51, 3) := by decide +kernel
theorem dX7_init_118 : decode cX7_init 118 = .ok (.aload_n 0, 1) := by decide +kernel
theorem dX7_init_119 : decode cX7_init 119 = .ok (.bipush 6, 2) := by decide +kernel
theorem dX7_init_121 : decode cX7_init 121 = .ok (.newarray .int, 2) := by decide +kernel
theorem dX7_init_123 : decode cX7_init 123 = .ok (.putfield 54, 3) := by decide +kernel
theorem dX7_init_126 : decode cX7_init 126 = .ok (.aload_n 0, 1) := by decide +kernel
theorem dX7_init_127 : decode cX7_init 127 = .ok (.sipush 200, 3) := by decide +kernel
theorem dX7_init_130 : decode cX7_init 130 = .ok (.newarray .int, 2) := by decide +kernel
theorem dX7_init_132 : decode cX7_init 132 = .ok (.putfield 57, 3) := by decide +kernel
theorem dX7_init_135 : decode cX7_init 135 = .ok (.aload_n 0, 1) := by decide +kernel
theorem dX7_init_136 : decode cX7_init 136 = .ok (.sipush 200, 3) := by decide +kernel
theorem dX7_init_139 : decode cX7_init 139 = .ok (.newarray .int, 2) := by decide +kernel
theorem dX7_init_141 : decode cX7_init 141 = .ok (.putfield 60, 3) := by decide +kernel
theorem dX7_init_144 : decode cX7_init 144 = .ok (.aload_n 0, 1) := by decide +kernel
theorem dX7_init_145 : decode cX7_init 145 = .ok (.sipush 200, 3) := by decide +kernel
theorem dX7_init_148 : decode cX7_init 148 = .ok (.newarray .int, 2) := by decide +kernel
theorem dX7_init_150 : decode cX7_init 150 = .ok (.putfield 63, 3) := by decide +kernel
theorem dX7_init_153 : decode cX7_init 153 = .ok (.aload_n 0, 1) := by decide +kernel
theorem dX7_init_154 : decode cX7_init 154 = .ok (.sipush 200, 3) := by decide +kernel
theorem dX7_init_157 : decode cX7_init 157 = .ok (.newarray .int, 2) := by decide +kernel
theorem dX7_init_159 : decode cX7_init 159 = .ok (.putfield 66, 3) := by decide +kernel
theorem dX7_init_162 : decode cX7_init 162 = .ok (.aload_n 0, 1) := by decide +kernel
theorem dX7_init_163 : decode cX7_init 163 = .ok (.sipush 200, 3) := by decide +kernel
theorem dX7_init_166 : decode cX7_init 166 = .ok (.newarray .int, 2) := by decide +kernel
theorem dX7_init_168 : decode cX7_init 168 = .ok (.putfield 69, 3) := by decide +kernel
theorem dX7_init_171 : decode cX7_init 171 = .ok (.aload_n 0, 1) := by decide +kernel
theorem dX7_init_172 : decode cX7_init 172 = .ok (.getfield 42, 3) := by decide +kernel
theorem dX7_init_175 : decode cX7_init 175 = .ok (.iconst 1, 1) := by decide +kernel
theorem dX7_init_176 : decode cX7_init 176 = .ok (.iconst 1, 1) := by decide +kernel
theorem dX7_init_177 : decode cX7_init 177 = .ok (.iastore, 1) := by decide +kernel
theorem dX7_init_178 : decode cX7_init 178 = .ok (.iconst 0, 1) := by decide +kernel
theorem dX7_init_179 : decode cX7_init 179 = .ok (.istore_n 1, 1) := by decide +kernel
theorem dX7_init_180 : decode cX7_init 180 = .ok (.iload_n 1, 1) := by decide +kernel
theorem dX7_init_181 : decode cX7_init 181 = .ok (.bipush 6, 2) := by decide +kernel
theorem dX7_init_183 : decode cX7_init 183 = .ok (.if_icmp .ge 16, 3) := by decide +kernel
theorem dX7_init_186 : decode cX7_init 186 = .ok (.aload_n 0, 1) := by decide +kernel
theorem dX7_init_187 : decode cX7_init 187 = .ok (.getfield 48, 3) := by decide +kernel
theorem dX7_init_190 : decode cX7_init 190 = .ok (.iload_n 1, 1) := by decide +kernel
theorem dX7_init_191 : decode cX7_init 191 = .ok (.iconst (-1), 1) := by decide +kernel
theorem dX7_init_192 : decode cX7_init 192 = .ok (.iastore, 1) := by decide +kernel
theorem dX7_init_193 : decode cX7_init 193 = .ok (.iinc 1 1, 3) := by decide +kernel
theorem dX7_init_196 : decode cX7_init 196 = .ok (.goto (-16), 3) := by decide +kernel
theorem dX7_init_199 : decode cX7_init 199 = .ok (.return_, 1) := by decide +kernel
theorem dX7_thrown_0 : decode cX7_thrown 0 = .ok (.aload_n 0, 1) := by decide +kernel
theorem dX7_thrown_1 : decode cX7_thrown 1 = .ok (.getfield 72, 3) := by decide +kernel
theorem dX7_thrown_4 : decode cX7_thrown 4 = .ok (.ireturn, 1) := by decide +kernel
theorem dX7_fails_0 : decode cX7_fails 0 = .ok (.aload_n 0, 1) := by decide +kernel
theorem dX7_fails_1 : decode cX7_fails 1 = .ok (.iload_n 1, 1) := by decide +kernel
theorem dX7_fails_2 : decode cX7_fails 2 = .ok (.putfield 72, 3) := by decide +kernel
theorem dX7_fails_5 : decode cX7_fails 5 = .ok (.iconst 0, 1) := by decide +kernel
theorem dX7_fails_6 : decode cX7_fails 6 = .ok (.ireturn, 1) := by decide +kernel
theorem dX7_in_0 : decode cX7_in 0 = .ok (.iload_n 0, 1) := by decide +kernel
theorem dX7_in_1 : decode cX7_in 1 = .ok (.iload_n 1, 1) := by decide +kernel
theorem dX7_in_2 : decode cX7_in 2 = .ok (.if_icmp .lt 12, 3) := by decide +kernel
theorem dX7_in_5 : decode cX7_in 5 = .ok (.iload_n 0, 1) := by decide +kernel
theorem dX7_in_6 : decode cX7_in 6 = .ok (.iload_n 2, 1) := by decide +kernel
theorem dX7_in_7 : decode cX7_in 7 = .ok (.if_icmp .gt 7, 3) := by decide +kernel
theorem dX7_in_10 : decode cX7_in 10 = .ok (.iconst 1, 1) := by decide +kernel
theorem dX7_in_11 : decode cX7_in 11 = .ok (.goto 4, 3) := by decide +kernel
theorem dX7_in_14 : decode cX7_in 14 = .ok (.iconst 0, 1) := by decide +kernel
theorem dX7_in_15 : decode cX7_in 15 = .ok (.ireturn, 1) := by decide +kernel
set_option maxRecDepth 20000 in
theorem ggX7_isPerson_X7_in : GoodIn wsX7_isPerson wsX7_in := goodIn_r _ [4] (by decide +kernel) (by decide +kernel)
set_option maxRecDepth 20000 in
theorem gX7_isPerson_X7_in : GoodIn wsX7_isPerson (va_wsS RX7 75 yX7_in wsX7_in) := goodIn_app (goodIn_of _ (by decide +kernel)) ggX7_isPerson_X7_in
theorem dX7_isPerson_0 : decode cX7_isPerson 0 = .ok (.iload_n 0, 1) := by decide +kernel
theorem dX7_isPerson_1 : decode cX7_isPerson 1 = .ok (.iconst 0, 1) := by decide +kernel
theorem dX7_isPerson_2 : decode cX7_isPerson 2 = .ok (.iconst 5, 1) := by decide +kernel
theorem dX7_isPerson_3 : decode cX7_isPerson 3 = .ok (.invokestatic 75, 3) := by decide +kernel
theorem dX7_isPerson_6 : decode cX7_isPerson 6 = .ok (.ireturn, 1) := by decide +kernel
set_option maxRecDepth 20000 in
theorem ggX7_isRing_X7_in : GoodIn wsX7_isRing wsX7_in := goodIn_r _ [4] (by decide +kernel) (by decide +kernel)
set_option maxRecDepth 20000 in
theorem gX7_isRing_X7_in : GoodIn wsX7_isRing (va_wsS RX7 75 yX7_in wsX7_in) := goodIn_app (goodIn_of _ (by decide +kernel)) ggX7_isRing_X7_in
theorem dX7_isRing_0 : decode cX7_isRing 0 = .ok (.iload_n 0, 1) := by decide +kernel
theorem dX7_isRing_1 : decode cX7_isRing 1 = .ok (.iconst 0, 1) := by decide +kernel
theorem dX7_isRing_2 : decode cX7_isRing 2 = .ok (.iconst 3, 1) := by decide +kernel
theorem dX7_isRing_3 : decode cX7_isRing 3 = .ok (.invokestatic 75, 3) := by decide +kernel
theorem dX7_isRing_6 : decode cX7_isRing 6 = .ok (.ireturn, 1) := by decide +kernel
set_option maxRecDepth 20000 in
theorem ggX7_isSwitch_X7_in : GoodIn wsX7_isSwitch wsX7_in := goodIn_r _ [4] (by decide +kernel) (by decide +kernel)
set_option maxRecDepth 20000 in
theorem gX7_isSwitch_X7_in : GoodIn wsX7_isSwitch (va_wsS RX7 75 yX7_in wsX7_in) := goodIn_app (goodIn_of _ (by decide +kernel)) ggX7_isSwitch_X7_in
theorem dX7_isSwitch_0 : decode cX7_isSwitch 0 = .ok (.iload_n 0, 1) := by decide +kernel
theorem dX7_isSwitch_1 : decode cX7_isSwitch 1 = .ok (.iconst 0, 1) := by decide +kernel
theorem dX7_isSwitch_2 : decode cX7_isSwitch 2 = .ok (.bipush 7, 2) := by decide +kernel
theorem dX7_isSwitch_4 : decode cX7_isSwitch 4 = .ok (.invokestatic 75, 3) := by decide +kernel
theorem dX7_isSwitch_7 : decode cX7_isSwitch 7 = .ok (.ireturn, 1) := by decide +kernel
set_option maxRecDepth 20000 in
theorem ggX7_isVersion_X7_in : GoodIn wsX7_isVersion wsX7_in := goodIn_r _ [5] (by decide +kernel) (by decide +kernel)
set_option maxRecDepth 20000 in
theorem gX7_isVersion_X7_in : GoodIn wsX7_isVersion (va_wsS RX7 75 yX7_in wsX7_in) := goodIn_app (goodIn_of _ (by decide +kernel)) ggX7_isVersion_X7_in
theorem dX7_isVersion_0 : decode cX7_isVersion 0 = .ok (.iload_n 1, 1) := by decide +kernel
theorem dX7_isVersion_1 : decode cX7_isVersion 1 = .ok (.iconst 0, 1) := by decide +kernel
theorem dX7_isVersion_2 : decode cX7_isVersion 2 = .ok (.aload_n 0, 1) := by decide +kernel
theorem dX7_isVersion_3 : decode cX7_isVersion 3 = .ok (.getfield 7, 3) := by decide +kernel
theorem dX7_isVersion_6 : decode cX7_isVersion 6 = .ok (.iconst 1, 1) := by decide +kernel
theorem dX7_isVersion_7 : decode cX7_isVersion 7 = .ok (.isub, 1) := by decide +kernel
theorem dX7_isVersion_8 : decode cX7_isVersion 8 = .ok (.invokestatic 75, 3) := by decide +kernel
theorem dX7_isVersion_11 : decode cX7_isVersion 11 = .ok (.ireturn, 1) := by decide +kernel
set_option maxRecDepth 20000 in
theorem ggX7_isChange_X7_in : GoodIn wsX7_isChange wsX7_in := goodIn_r _ [5] (by decide +kernel) (by decide +kernel)
set_option maxRecDepth 20000 in
theorem gX7_isChange_X7_in : GoodIn wsX7_isChange (va_wsS RX7 75 yX7_in wsX7_in) := goodIn_app (goodIn_of _ (by decide +kernel)) ggX7_isChange_X7_in
theorem dX7_isChange_0 : decode cX7_isChange 0 = .ok (.iload_n 1, 1) := by decide +kernel
theorem dX7_isChange_1 : decode cX7_isChange 1 = .ok (.iconst 0, 1) := by decide +kernel
theorem dX7_isChange_2 : decode cX7_isChange 2 = .ok (.aload_n 0, 1) := by decide +kernel
theorem dX7_isChange_3 : decode cX7_isChange 3 = .ok (.getfield 79, 3) := by decide +kernel
theorem dX7_isChange_6 : decode cX7_isChange 6 = .ok (.iconst 1, 1) := by decide +kernel
theorem dX7_isChange_7 : decode cX7_isChange 7 = .ok (.isub, 1) := by decide +kernel
theorem dX7_isChange_8 : decode cX7_isChange 8 = .ok (.invokestatic 75, 3) := by decide +kernel
theorem dX7_isChange_11 : decode cX7_isChange 11 = .ok (.ireturn, 1) := by decide +kernel
set_option maxRecDepth 20000 in
theorem ggX7_isIncident_X7_in : GoodIn wsX7_isIncident wsX7_in := goodIn_r _ [5] (by decide +kernel) (by decide +kernel)
set_option maxRecDepth 20000 in
theorem gX7_isIncident_X7_in : GoodIn wsX7_isIncident (va_wsS RX7 75 yX7_in wsX7_in) := goodIn_app (goodIn_of _ (by decide +kernel)) ggX7_isIncident_X7_in
theorem dX7_isIncident_0 : decode cX7_isIncident 0 = .ok (.iload_n 1, 1) := by decide +kernel
theorem dX7_isIncident_1 : decode cX7_isIncident 1 = .ok (.iconst 0, 1) := by decide +kernel
theorem dX7_isIncident_2 : decode cX7_isIncident 2 = .ok (.aload_n 0, 1) := by decide +kernel
theorem dX7_isIncident_3 : decode cX7_isIncident 3 = .ok (.getfield 82, 3) := by decide +kernel
theorem dX7_isIncident_6 : decode cX7_isIncident 6 = .ok (.iconst 1, 1) := by decide +kernel
theorem dX7_isIncident_7 : decode cX7_isIncident 7 = .ok (.isub, 1) := by decide +kernel
theorem dX7_isIncident_8 : decode cX7_isIncident 8 = .ok (.invokestatic 75, 3) := by decide +kernel
theorem dX7_isIncident_11 : decode cX7_isIncident 11 = .ok (.ireturn, 1) := by decide +kernel
theorem dX7_build_0 : decode cX7_build 0 = .ok (.aload_n 0, 1) := by decide +kernel
theorem dX7_build_1 : decode cX7_build 1 = .ok (.aload_n 0, 1) := by decide +kernel
theorem dX7_build_2 : decode cX7_build 2 = .ok (.getfield 7, 3) := by decide +kernel
theorem dX7_build_5 : decode cX7_build 5 = .ok (.bipush 20, 2) := by decide +kernel
theorem dX7_build_7 : decode cX7_build 7 = .ok (.if_icmp .ne 7, 3) := by decide +kernel
theorem dX7_build_10 : decode cX7_build 10 = .ok (.iconst 1, 1) := by decide +kernel
theorem dX7_build_11 : decode cX7_build 11 = .ok (.goto 4, 3) := by decide +kernel
theorem dX7_build_14 : decode cX7_build 14 = .ok (.iconst 0, 1) := by decide +kernel
theorem dX7_build_15 : decode cX7_build 15 = .ok (.putfield 72, 3) := by decide +kernel
theorem dX7_build_18 : decode cX7_build 18 = .ok (.aload_n 0, 1) := by decide +kernel
theorem dX7_build_19 : decode cX7_build 19 = .ok (.getfield 72, 3) := by decide +kernel
theorem dX7_build_22 : decode cX7_build 22 = .ok (.ifCond .le 5, 3) := by decide +kernel
theorem dX7_build_25 : decode cX7_build 25 = .ok (.iconst 0, 1) := by decide +kernel
theorem dX7_build_26 : decode cX7_build 26 = .ok (.ireturn, 1) := by decide +kernel
theorem dX7_build_27 : decode cX7_build 27 = .ok (.aload_n 0, 1) := by decide +kernel
theorem dX7_build_28 : decode cX7_build 28 = .ok (.dup, 1) := by decide +kernel
theorem dX7_build_29 : decode cX7_build 29 = .ok (.getfield 7, 3) := by decide +kernel
theorem dX7_build_32 : decode cX7_build 32 = .ok (.iconst 1, 1) := by decide +kernel
theorem dX7_build_33 : decode cX7_build 33 = .ok (.iadd, 1) := by decide +kernel
theorem dX7_build_34 : decode cX7_build 34 = .ok (.putfield 7, 3) := by decide +kernel
theorem dX7_build_37 : decode cX7_build 37 = .ok (.aload_n 0, 1) := by decide +kernel
theorem dX7_build_38 : decode cX7_build 38 = .ok (.getfield 7, 3) := by decide +kernel
theorem dX7_build_41 : decode cX7_build 41 = .ok (.iconst 1, 1) := by decide +kernel
theorem dX7_build_42 : decode cX7_build 42 = .ok (.isub, 1) := by decide +kernel
theorem dX7_build_43 : decode cX7_build 43 = .ok (.ireturn, 1) := by decide +kernel
set_option maxRecDepth 20000 in
theorem ggX7_defect_X7_isVersion : GoodIn wsX7_defect wsX7_isVersion := goodIn_r _ [10, 11, 12, 13, 9, 14, 18, 19, 20, 21, 22, 23, 24, 25, 26, 27, 28, 29, 30, 31, 32, 33, 34, 35, 36, 37, 38, 39, 40, 41, 42, 43] (by decide +kernel) (by decide +kernel)
set_option maxRecDepth 20000 in
theorem gX7_defect_X7_isVersion : GoodIn wsX7_defect (wsV RX7 85 RX7 yX7_isVersion wsX7_isVersion) := goodIn_app (goodIn_of _ (by decide +kernel)) ggX7_defect_X7_isVersion
set_option maxRecDepth 20000 in
theorem ggX7_defect_X7_isSwitch : GoodIn wsX7_defect wsX7_isSwitch := goodIn_r _ [17, 12, 13, 9, 14] (by decide +kernel) (by decide +kernel)
set_option maxRecDepth 20000 in
theorem gX7_defect_X7_isSwitch : GoodIn wsX7_defect (va_wsS RX7 89 yX7_isSwitch wsX7_isSwitch) := goodIn_app (goodIn_of _ (by decide +kernel)) ggX7_defect_X7_isSwitch
theorem dX7_defect_0 : decode cX7_defect 0 = .ok (.aload_n 0, 1) := by decide +kernel
theorem dX7_defect_1 : decode cX7_defect 1 = .ok (.aload_n 0, 1) := by decide +kernel
theorem dX7_defect_2 : decode cX7_defect 2 = .ok (.iload_n 1, 1) := by decide +kernel
theorem dX7_defect_3 : decode cX7_defect 3 = .ok (.invokevirtual 85, 3) := by decide +kernel
theorem dX7_defect_6 : decode cX7_defect 6 = .ok (.ifCond .eq 15, 3) := by decide +kernel
theorem dX7_defect_9 : decode cX7_defect 9 = .ok (.iload_n 2, 1) := by decide +kernel
theorem dX7_defect_10 : decode cX7_defect 10 = .ok (.iconst (-1), 1) := by decide +kernel
theorem dX7_defect_11 : decode cX7_defect 11 = .ok (.if_icmp .eq 14, 3) := by decide +kernel
theorem dX7_defect_14 : decode cX7_defect 14 = .ok (.iload_n 2, 1) := by decide +kernel
theorem dX7_defect_15 : decode cX7_defect 15 = .ok (.invokestatic 89, 3) := by decide +kernel
theorem dX7_defect_18 : decode cX7_defect 18 = .ok (.ifCond .ne 7, 3) := by decide +kernel
theorem dX7_defect_21 : decode cX7_defect 21 = .ok (.iconst 1, 1) := by decide +kernel
theorem dX7_defect_22 : decode cX7_defect 22 = .ok (.goto 17, 3) := by decide +kernel
theorem dX7_defect_25 : decode cX7_defect 25 = .ok (.aload_n 0, 1) := by decide +kernel
theorem dX7_defect_26 : decode cX7_defect 26 = .ok (.getfield 92, 3) := by decide +kernel
theorem dX7_defect_29 : decode cX7_defect 29 = .ok (.bipush 24, 2) := by decide +kernel
theorem dX7_defect_31 : decode cX7_defect 31 = .ok (.if_icmp .ne 7, 3) := by decide +kernel
theorem dX7_defect_34 : decode cX7_defect 34 = .ok (.iconst 2, 1) := by decide +kernel
theorem dX7_defect_35 : decode cX7_defect 35 = .ok (.goto 4, 3) := by decide +kernel
theorem dX7_defect_38 : decode cX7_defect 38 = .ok (.iconst 0, 1) := by decide +kernel
theorem dX7_defect_39 : decode cX7_defect 39 = .ok (.putfield 72, 3) := by decide +kernel
theorem dX7_defect_42 : decode cX7_defect 42 = .ok (.aload_n 0, 1) := by decide +kernel
theorem dX7_defect_43 : decode cX7_defect 43 = .ok (.getfield 72, 3) := by decide +kernel
theorem dX7_defect_46 : decode cX7_defect 46 = .ok (.ifCond .le 5, 3) := by decide +kernel
theorem dX7_defect_49 : decode cX7_defect 49 = .ok (.iconst 0, 1) := by decide +kernel
theorem dX7_defect_50 : decode cX7_defect 50 = .ok (.ireturn, 1) := by decide +kernel
theorem dX7_defect_51 : decode cX7_defect 51 = .ok (.aload_n 0, 1) := by decide +kernel
theorem dX7_defect_52 : decode cX7_defect 52 = .ok (.getfield 17, 3) := by decide +kernel
theorem dX7_defect_55 : decode cX7_defect 55 = .ok (.aload_n 0, 1) := by decide +kernel
theorem dX7_defect_56 : decode cX7_defect 56 = .ok (.getfield 92, 3) := by decide +kernel
theorem dX7_defect_59 : decode cX7_defect 59 = .ok (.iload_n 1, 1) := by decide +kernel
theorem dX7_defect_60 : decode cX7_defect 60 = .ok (.iastore, 1) := by decide +kernel
theorem dX7_defect_61 : decode cX7_defect 61 = .ok (.aload_n 0, 1) := by decide +kernel
theorem dX7_defect_62 : decode cX7_defect 62 = .ok (.getfield 20, 3) := by decide +kernel
theorem dX7_defect_65 : decode cX7_defect 65 = .ok (.aload_n 0, 1) := by decide +kernel
theorem dX7_defect_66 : decode cX7_defect 66 = .ok (.getfield 92, 3) := by decide +kernel
theorem dX7_defect_69 : decode cX7_defect 69 = .ok (.iload_n 2, 1) := by decide +kernel
theorem dX7_defect_70 : decode cX7_defect 70 = .ok (.iastore, 1) := by decide +kernel
theorem dX7_defect_71 : decode cX7_defect 71 = .ok (.aload_n 0, 1) := by decide +kernel
theorem dX7_defect_72 : decode cX7_defect 72 = .ok (.getfield 23, 3) := by decide +kernel
theorem dX7_defect_75 : decode cX7_defect 75 = .ok (.aload_n 0, 1) := by decide +kernel
theorem dX7_defect_76 : decode cX7_defect 76 = .ok (.getfield 92, 3) := by decide +kernel
theorem dX7_defect_79 : decode cX7_defect 79 = .ok (.iload_n 3, 1) := by decide +kernel
theorem dX7_defect_80 : decode cX7_defect 80 = .ok (.bastore, 1) := by decide +kernel
theorem dX7_defect_81 : decode cX7_defect 81 = .ok (.aload_n 0, 1) := by decide +kernel
theorem dX7_defect_82 : decode cX7_defect 82 = .ok (.dup, 1) := by decide +kernel
theorem dX7_defect_83 : decode cX7_defect 83 = .ok (.getfield 92, 3) := by decide +kernel
theorem dX7_defect_86 : decode cX7_defect 86 = .ok (.iconst 1, 1) := by decide +kernel
theorem dX7_defect_87 : decode cX7_defect 87 = .ok (.iadd, 1) := by decide +kernel
theorem dX7_defect_88 : decode cX7_defect 88 = .ok (.putfield 92, 3) := by decide +kernel
theorem dX7_defect_91 : decode cX7_defect 91 = .ok (.aload_n 0, 1) := by decide +kernel
theorem dX7_defect_92 : decode cX7_defect 92 = .ok (.getfield 92, 3) := by decide +kernel
theorem dX7_defect_95 : decode cX7_defect 95 = .ok (.ireturn, 1) := by decide +kernel
theorem dX7_reach_0 : decode cX7_reach 0 = .ok (.aload_n 0, 1) := by decide +kernel
theorem dX7_reach_1 : decode cX7_reach 1 = .ok (.getfield 13, 3) := by decide +kernel
theorem dX7_reach_4 : decode cX7_reach 4 = .ok (.iload_n 1, 1) := by decide +kernel
theorem dX7_reach_5 : decode cX7_reach 5 = .ok (.iaload, 1) := by decide +kernel
theorem dX7_reach_6 : decode cX7_reach 6 = .ok (.istore_n 2, 1) := by decide +kernel
theorem dX7_reach_7 : decode cX7_reach 7 = .ok (.iconst 0, 1) := by decide +kernel
theorem dX7_reach_8 : decode cX7_reach 8 = .ok (.istore_n 3, 1) := by decide +kernel
theorem dX7_reach_9 : decode cX7_reach 9 = .ok (.iload_n 3, 1) := by decide +kernel
theorem dX7_reach_10 : decode cX7_reach 10 = .ok (.bipush 8, 2) := by decide +kernel
theorem dX7_reach_12 : decode cX7_reach 12 = .ok (.if_icmp .ge 49, 3) := by decide +kernel
theorem dX7_reach_15 : decode cX7_reach 15 = .ok (.iconst 0, 1) := by decide +kernel
theorem dX7_reach_16 : decode cX7_reach 16 = .ok (.istore 4, 2) := by decide +kernel
theorem dX7_reach_18 : decode cX7_reach 18 = .ok (.iload 4, 2) := by decide +kernel
theorem dX7_reach_20 : decode cX7_reach 20 = .ok (.bipush 8, 2) := by decide +kernel
theorem dX7_reach_22 : decode cX7_reach 22 = .ok (.if_icmp .ge 33, 3) := by decide +kernel
theorem dX7_reach_25 : decode cX7_reach 25 = .ok (.iload_n 2, 1) := by decide +kernel
theorem dX7_reach_26 : decode cX7_reach 26 = .ok (.iload_n 2, 1) := by decide +kernel
theorem dX7_reach_27 : decode cX7_reach 27 = .ok (.iload 4, 2) := by decide +kernel
theorem dX7_reach_29 : decode cX7_reach 29 = .ok (.ishr, 1) := by decide +kernel
theorem dX7_reach_30 : decode cX7_reach 30 = .ok (.iconst 1, 1) := by decide +kernel
theorem dX7_reach_31 : decode cX7_reach 31 = .ok (.iand, 1) := by decide +kernel
theorem dX7_reach_32 : decode cX7_reach 32 = .ok (.iconst 1, 1) := by decide +kernel
theorem dX7_reach_33 : decode cX7_reach 33 = .ok (.if_icmp .ne 13, 3) := by decide +kernel
theorem dX7_reach_36 : decode cX7_reach 36 = .ok (.aload_n 0, 1) := by decide +kernel
theorem dX7_reach_37 : decode cX7_reach 37 = .ok (.getfield 13, 3) := by decide +kernel
theorem dX7_reach_40 : decode cX7_reach 40 = .ok (.iload 4, 2) := by decide +kernel
theorem dX7_reach_42 : decode cX7_reach 42 = .ok (.iaload, 1) := by decide +kernel
theorem dX7_reach_43 : decode cX7_reach 43 = .ok (.goto 4, 3) := by decide +kernel
theorem dX7_reach_46 : decode cX7_reach 46 = .ok (.iconst 0, 1) := by decide +kernel
theorem dX7_reach_47 : decode cX7_reach 47 = .ok (.ior, 1) := by decide +kernel
theorem dX7_reach_48 : decode cX7_reach 48 = .ok (.istore_n 2, 1) := by decide +kernel
theorem dX7_reach_49 : decode cX7_reach 49 = .ok (.iinc 4 1, 3) := by decide +kernel
theorem dX7_reach_52 : decode cX7_reach 52 = .ok (.goto (-34), 3) := by decide +kernel
theorem dX7_reach_55 : decode cX7_reach 55 = .ok (.iinc 3 1, 3) := by decide +kernel
theorem dX7_reach_58 : decode cX7_reach 58 = .ok (.goto (-49), 3) := by decide +kernel
theorem dX7_reach_61 : decode cX7_reach 61 = .ok (.iload_n 2, 1) := by decide +kernel
theorem dX7_reach_62 : decode cX7_reach 62 = .ok (.ireturn, 1) := by decide +kernel
theorem dX7_bits_0 : decode cX7_bits 0 = .ok (.iconst 0, 1) := by decide +kernel
theorem dX7_bits_1 : decode cX7_bits 1 = .ok (.istore_n 1, 1) := by decide +kernel
theorem dX7_bits_2 : decode cX7_bits 2 = .ok (.iconst 0, 1) := by decide +kernel
theorem dX7_bits_3 : decode cX7_bits 3 = .ok (.istore_n 2, 1) := by decide +kernel
theorem dX7_bits_4 : decode cX7_bits 4 = .ok (.iload_n 2, 1) := by decide +kernel
theorem dX7_bits_5 : decode cX7_bits 5 = .ok (.bipush 8, 2) := by decide +kernel
theorem dX7_bits_7 : decode cX7_bits 7 = .ok (.if_icmp .ge 17, 3) := by decide +kernel
theorem dX7_bits_10 : decode cX7_bits 10 = .ok (.iload_n 1, 1) := by decide +kernel
theorem dX7_bits_11 : decode cX7_bits 11 = .ok (.iload_n 0, 1) := by decide +kernel
theorem dX7_bits_12 : decode cX7_bits 12 = .ok (.iload_n 2, 1) := by decide +kernel
theorem dX7_bits_13 : decode cX7_bits 13 = .ok (.ishr, 1) := by decide +kernel
theorem dX7_bits_14 : decode cX7_bits 14 = .ok (.iconst 1, 1) := by decide +kernel
theorem dX7_bits_15 : decode cX7_bits 15 = .ok (.iand, 1) := by decide +kernel
theorem dX7_bits_16 : decode cX7_bits 16 = .ok (.iadd, 1) := by decide +kernel
theorem dX7_bits_17 : decode cX7_bits 17 = .ok (.istore_n 1, 1) := by decide +kernel
theorem dX7_bits_18 : decode cX7_bits 18 = .ok (.iinc 2 1, 3) := by decide +kernel
theorem dX7_bits_21 : decode cX7_bits 21 = .ok (.goto (-17), 3) := by decide +kernel
theorem dX7_bits_24 : decode cX7_bits 24 = .ok (.iload_n 1, 1) := by decide +kernel
theorem dX7_bits_25 : decode cX7_bits 25 = .ok (.ireturn, 1) := by decide +kernel
set_option maxRecDepth 20000 in
theorem ggX7_need_X7_isSwitch : GoodIn wsX7_need wsX7_isSwitch := goodIn_r _ [6, 7, 8, 5, 9] (by decide +kernel) (by decide +kernel)
set_option maxRecDepth 20000 in
theorem gX7_need_X7_isSwitch : GoodIn wsX7_need (va_wsS RX7 89 yX7_isSwitch wsX7_isSwitch) := goodIn_app (goodIn_of _ (by decide +kernel)) ggX7_need_X7_isSwitch
set_option maxRecDepth 20000 in
theorem ggX7_need_X7_reach : GoodIn wsX7_need wsX7_reach := goodIn_r _ [13, 2, 21, 22, 23, 24, 25, 26, 27, 28, 29, 30, 31, 32, 33, 34, 35, 36, 37, 38, 39, 40, 41, 42, 43, 44, 45, 46] (by decide +kernel) (by decide +kernel)
set_option maxRecDepth 20000 in
theorem gX7_need_X7_reach : GoodIn wsX7_need (wsV RX7 95 RX7 yX7_reach wsX7_reach) := goodIn_app (goodIn_of _ (by decide +kernel)) ggX7_need_X7_reach
set_option maxRecDepth 20000 in
theorem ggX7_need_X7_fails : GoodIn wsX7_need wsX7_fails := goodIn_r _ [17, 1, 21, 22, 23, 24, 25, 26, 27, 28, 29, 30, 31, 32, 33, 34, 35, 36, 37, 38, 39, 40, 41, 42, 43, 44, 45, 46] (by decide +kernel) (by decide +kernel)
set_option maxRecDepth 20000 in
theorem gX7_need_X7_fails : GoodIn wsX7_need (wsV RX7 99 RX7 yX7_fails wsX7_fails) := goodIn_app (goodIn_of _ (by decide +kernel)) ggX7_need_X7_fails
set_option maxRecDepth 20000 in
theorem ggX7_need_X7_bits : GoodIn wsX7_need wsX7_bits := goodIn_r _ [20] (by decide +kernel) (by decide +kernel)
set_option maxRecDepth 20000 in
theorem gX7_need_X7_bits : GoodIn wsX7_need (va_wsS RX7 102 yX7_bits wsX7_bits) := goodIn_app (goodIn_of _ (by decide +kernel)) ggX7_need_X7_bits
theorem dX7_need_0 : decode cX7_need 0 = .ok (.aload_n 0, 1) := by decide +kernel
theorem dX7_need_1 : decode cX7_need 1 = .ok (.iload_n 1, 1) := by decide +kernel
theorem dX7_need_2 : decode cX7_need 2 = .ok (.invokestatic 89, 3) := by decide +kernel
theorem dX7_need_5 : decode cX7_need 5 = .ok (.ifCond .eq 10, 3) := by decide +kernel
theorem dX7_need_8 : decode cX7_need 8 = .ok (.iload_n 2, 1) := by decide +kernel
theorem dX7_need_9 : decode cX7_need 9 = .ok (.invokestatic 89, 3) := by decide +kernel
theorem dX7_need_12 : decode cX7_need 12 = .ok (.ifCond .ne 7, 3) := by decide +kernel
theorem dX7_need_15 : decode cX7_need 15 = .ok (.iconst 1, 1) := by decide +kernel
theorem dX7_need_16 : decode cX7_need 16 = .ok (.goto 13, 3) := by decide +kernel
theorem dX7_need_19 : decode cX7_need 19 = .ok (.iload_n 1, 1) := by decide +kernel
theorem dX7_need_20 : decode cX7_need 20 = .ok (.iload_n 2, 1) := by decide +kernel
theorem dX7_need_21 : decode cX7_need 21 = .ok (.if_icmp .ne 7, 3) := by decide +kernel
theorem dX7_need_24 : decode cX7_need 24 = .ok (.iconst 2, 1) := by decide +kernel
theorem dX7_need_25 : decode cX7_need 25 = .ok (.goto 4, 3) := by decide +kernel
theorem dX7_need_28 : decode cX7_need 28 = .ok (.iconst 0, 1) := by decide +kernel
theorem dX7_need_29 : decode cX7_need 29 = .ok (.putfield 72, 3) := by decide +kernel
theorem dX7_need_32 : decode cX7_need 32 = .ok (.aload_n 0, 1) := by decide +kernel
theorem dX7_need_33 : decode cX7_need 33 = .ok (.getfield 72, 3) := by decide +kernel
theorem dX7_need_36 : decode cX7_need 36 = .ok (.ifCond .le 5, 3) := by decide +kernel
theorem dX7_need_39 : decode cX7_need 39 = .ok (.iconst 0, 1) := by decide +kernel
theorem dX7_need_40 : decode cX7_need 40 = .ok (.ireturn, 1) := by decide +kernel
theorem dX7_need_41 : decode cX7_need 41 = .ok (.iload_n 3, 1) := by decide +kernel
theorem dX7_need_42 : decode cX7_need 42 = .ok (.ifCond .eq 22, 3) := by decide +kernel
theorem dX7_need_45 : decode cX7_need 45 = .ok (.aload_n 0, 1) := by decide +kernel
theorem dX7_need_46 : decode cX7_need 46 = .ok (.iload_n 2, 1) := by decide +kernel
theorem dX7_need_47 : decode cX7_need 47 = .ok (.invokevirtual 95, 3) := by decide +kernel
theorem dX7_need_50 : decode cX7_need 50 = .ok (.iload_n 1, 1) := by decide +kernel
theorem dX7_need_51 : decode cX7_need 51 = .ok (.ishr, 1) := by decide +kernel
theorem dX7_need_52 : decode cX7_need 52 = .ok (.iconst 1, 1) := by decide +kernel
theorem dX7_need_53 : decode cX7_need 53 = .ok (.iand, 1) := by decide +kernel
theorem dX7_need_54 : decode cX7_need 54 = .ok (.iconst 1, 1) := by decide +kernel
theorem dX7_need_55 : decode cX7_need 55 = .ok (.if_icmp .ne 9, 3) := by decide +kernel
theorem dX7_need_58 : decode cX7_need 58 = .ok (.aload_n 0, 1) := by decide +kernel
theorem dX7_need_59 : decode cX7_need 59 = .ok (.iconst 3, 1) := by decide +kernel
theorem dX7_need_60 : decode cX7_need 60 = .ok (.invokevirtual 99, 3) := by decide +kernel
theorem dX7_need_63 : decode cX7_need 63 = .ok (.ireturn, 1) := by decide +kernel
theorem dX7_need_64 : decode cX7_need 64 = .ok (.aload_n 0, 1) := by decide +kernel
theorem dX7_need_65 : decode cX7_need 65 = .ok (.getfield 13, 3) := by decide +kernel
theorem dX7_need_68 : decode cX7_need 68 = .ok (.iload_n 1, 1) := by decide +kernel
theorem dX7_need_69 : decode cX7_need 69 = .ok (.iload_n 3, 1) := by decide +kernel
theorem dX7_need_70 : decode cX7_need 70 = .ok (.ifCond .eq 16, 3) := by decide +kernel
theorem dX7_need_73 : decode cX7_need 73 = .ok (.aload_n 0, 1) := by decide +kernel
theorem dX7_need_74 : decode cX7_need 74 = .ok (.getfield 13, 3) := by decide +kernel
theorem dX7_need_77 : decode cX7_need 77 = .ok (.iload_n 1, 1) := by decide +kernel
theorem dX7_need_78 : decode cX7_need 78 = .ok (.iaload, 1) := by decide +kernel
theorem dX7_need_79 : decode cX7_need 79 = .ok (.iconst 1, 1) := by decide +kernel
theorem dX7_need_80 : decode cX7_need 80 = .ok (.iload_n 2, 1) := by decide +kernel
theorem dX7_need_81 : decode cX7_need 81 = .ok (.ishl, 1) := by decide +kernel
theorem dX7_need_82 : decode cX7_need 82 = .ok (.ior, 1) := by decide +kernel
theorem dX7_need_83 : decode cX7_need 83 = .ok (.goto 15, 3) := by decide +kernel
theorem dX7_need_86 : decode cX7_need 86 = .ok (.aload_n 0, 1) := by decide +kernel
theorem dX7_need_87 : decode cX7_need 87 = .ok (.getfield 13, 3) := by decide +kernel
theorem dX7_need_90 : decode cX7_need 90 = .ok (.iload_n 1, 1) := by decide +kernel
theorem dX7_need_91 : decode cX7_need 91 = .ok (.iaload, 1) := by decide +kernel
theorem dX7_need_92 : decode cX7_need 92 = .ok (.iconst 1, 1) := by decide +kernel
theorem dX7_need_93 : decode cX7_need 93 = .ok (.iload_n 2, 1) := by decide +kernel
theorem dX7_need_94 : decode cX7_need 94 = .ok (.ishl, 1) := by decide +kernel
theorem dX7_need_95 : decode cX7_need 95 = .ok (.iconst (-1), 1) := by decide +kernel
theorem dX7_need_96 : decode cX7_need 96 = .ok (.ixor, 1) := by decide +kernel
theorem dX7_need_97 : decode cX7_need 97 = .ok (.iand, 1) := by decide +kernel
theorem dX7_need_98 : decode cX7_need 98 = .ok (.iastore, 1) := by decide +kernel
theorem dX7_need_99 : decode cX7_need 99 = .ok (.aload_n 0, 1) := by decide +kernel
theorem dX7_need_100 : decode cX7_need 100 = .ok (.getfield 13, 3) := by decide +kernel
theorem dX7_need_103 : decode cX7_need 103 = .ok (.iload_n 1, 1) := by decide +kernel
theorem dX7_need_104 : decode cX7_need 104 = .ok (.iaload, 1) := by decide +kernel
theorem dX7_need_105 : decode cX7_need 105 = .ok (.invokestatic 102, 3) := by decide +kernel
theorem dX7_need_108 : decode cX7_need 108 = .ok (.ireturn, 1) := by decide +kernel
theorem dX7_latest_0 : decode cX7_latest 0 = .ok (.iconst (-1), 1) := by decide +kernel
theorem dX7_latest_1 : decode cX7_latest 1 = .ok (.istore 4, 2) := by decide +kernel
theorem dX7_latest_3 : decode cX7_latest 3 = .ok (.iconst 0, 1) := by decide +kernel
theorem dX7_latest_4 : decode cX7_latest 4 = .ok (.istore 5, 2) := by decide +kernel
theorem dX7_latest_6 : decode cX7_latest 6 = .ok (.iload 5, 2) := by decide +kernel
theorem dX7_latest_8 : decode cX7_latest 8 = .ok (.aload_n 0, 1) := by decide +kernel
theorem dX7_latest_9 : decode cX7_latest 9 = .ok (.getfield 79, 3) := by decide +kernel
theorem dX7_latest_12 : decode cX7_latest 12 = .ok (.if_icmp .ge 46, 3) := by decide +kernel
theorem dX7_latest_15 : decode cX7_latest 15 = .ok (.iload 5, 2) := by decide +kernel
theorem dX7_latest_17 : decode cX7_latest 17 = .ok (.iload_n 3, 1) := by decide +kernel
theorem dX7_latest_18 : decode cX7_latest 18 = .ok (.if_icmp .eq 30, 3) := by decide +kernel
theorem dX7_latest_21 : decode cX7_latest 21 = .ok (.aload_n 0, 1) := by decide +kernel
theorem dX7_latest_22 : decode cX7_latest 22 = .ok (.getfield 30, 3) := by decide +kernel
theorem dX7_latest_25 : decode cX7_latest 25 = .ok (.iload 5, 2) := by decide +kernel
theorem dX7_latest_27 : decode cX7_latest 27 = .ok (.iaload, 1) := by decide +kernel
theorem dX7_latest_28 : decode cX7_latest 28 = .ok (.iload_n 1, 1) := by decide +kernel
theorem dX7_latest_29 : decode cX7_latest 29 = .ok (.if_icmp .ne 19, 3) := by decide +kernel
theorem dX7_latest_32 : decode cX7_latest 32 = .ok (.aload_n 0, 1) := by decide +kernel
theorem dX7_latest_33 : decode cX7_latest 33 = .ok (.getfield 33, 3) := by decide +kernel
theorem dX7_latest_36 : decode cX7_latest 36 = .ok (.iload 5, 2) := by decide +kernel
theorem dX7_latest_38 : decode cX7_latest 38 = .ok (.iaload, 1) := by decide +kernel
theorem dX7_latest_39 : decode cX7_latest 39 = .ok (.iload_n 2, 1) := by decide +kernel
theorem dX7_latest_40 : decode cX7_latest 40 = .ok (.if_icmp .ne 8, 3) := by decide +kernel
theorem dX7_latest_43 : decode cX7_latest 43 = .ok (.iload 5, 2) := by decide +kernel
theorem dX7_latest_45 : decode cX7_latest 45 = .ok (.goto 5, 3) := by decide +kernel
theorem dX7_latest_48 : decode cX7_latest 48 = .ok (.iload 4, 2) := by decide +kernel
theorem dX7_latest_50 : decode cX7_latest 50 = .ok (.istore 4, 2) := by decide +kernel
theorem dX7_latest_52 : decode cX7_latest 52 = .ok (.iinc 5 1, 3) := by decide +kernel
theorem dX7_latest_55 : decode cX7_latest 55 = .ok (.goto (-49), 3) := by decide +kernel
theorem dX7_latest_58 : decode cX7_latest 58 = .ok (.iload 4, 2) := by decide +kernel
theorem dX7_latest_60 : decode cX7_latest 60 = .ok (.ireturn, 1) := by decide +kernel
set_option maxRecDepth 20000 in
theorem ggX7_valueOf_X7_latest : GoodIn wsX7_valueOf wsX7_latest := goodIn_r _ [6, 7, 8, 9, 10, 11, 12, 13, 14, 15, 16, 17, 18, 19, 20, 21, 22, 23, 24, 25, 26, 27, 28, 29, 30, 31, 32, 33, 34, 35] (by decide +kernel) (by decide +kernel)
set_option maxRecDepth 20000 in
theorem gX7_valueOf_X7_latest : GoodIn wsX7_valueOf (wsV RX7 105 RX7 yX7_latest wsX7_latest) := goodIn_app (goodIn_of _ (by decide +kernel)) ggX7_valueOf_X7_latest
theorem dX7_valueOf_0 : decode cX7_valueOf 0 = .ok (.aload_n 0, 1) := by decide +kernel
theorem dX7_valueOf_1 : decode cX7_valueOf 1 = .ok (.iload_n 1, 1) := by decide +kernel
theorem dX7_valueOf_2 : decode cX7_valueOf 2 = .ok (.iload_n 2, 1) := by decide +kernel
theorem dX7_valueOf_3 : decode cX7_valueOf 3 = .ok (.iload_n 3, 1) := by decide +kernel
theorem dX7_valueOf_4 : decode cX7_valueOf 4 = .ok (.invokevirtual 105, 3) := by decide +kernel
theorem dX7_valueOf_7 : decode cX7_valueOf 7 = .ok (.istore 4, 2) := by decide +kernel
theorem dX7_valueOf_9 : decode cX7_valueOf 9 = .ok (.iload 4, 2) := by decide +kernel
theorem dX7_valueOf_11 : decode cX7_valueOf 11 = .ok (.iconst (-1), 1) := by decide +kernel
theorem dX7_valueOf_12 : decode cX7_valueOf 12 = .ok (.if_icmp .ne 7, 3) := by decide +kernel
theorem dX7_valueOf_15 : decode cX7_valueOf 15 = .ok (.iconst 0, 1) := by decide +kernel
theorem dX7_valueOf_16 : decode cX7_valueOf 16 = .ok (.goto 10, 3) := by decide +kernel
theorem dX7_valueOf_19 : decode cX7_valueOf 19 = .ok (.aload_n 0, 1) := by decide +kernel
theorem dX7_valueOf_20 : decode cX7_valueOf 20 = .ok (.getfield 36, 3) := by decide +kernel
theorem dX7_valueOf_23 : decode cX7_valueOf 23 = .ok (.iload 4, 2) := by decide +kernel
theorem dX7_valueOf_25 : decode cX7_valueOf 25 = .ok (.iaload, 1) := by decide +kernel
theorem dX7_valueOf_26 : decode cX7_valueOf 26 = .ok (.ireturn, 1) := by decide +kernel
set_option maxRecDepth 20000 in
theorem ggX7_ons_X7_valueOf : GoodIn wsX7_ons wsX7_valueOf := goodIn_r _ [6, 7, 8, 9, 10, 5, 11, 12, 13, 14, 15, 16, 17, 18, 19, 20, 21, 22, 23, 24, 25, 26, 27, 28, 29, 30, 31, 32, 33, 34, 35, 36, 37, 38, 39, 40] (by decide +kernel) (by decide +kernel)
set_option maxRecDepth 20000 in
theorem gX7_ons_X7_valueOf : GoodIn wsX7_ons (wsV RX7 109 RX7 yX7_valueOf wsX7_valueOf) := goodIn_app (goodIn_of _ (by decide +kernel)) ggX7_ons_X7_valueOf
theorem dX7_ons_0 : decode cX7_ons 0 = .ok (.iconst 0, 1) := by decide +kernel
theorem dX7_ons_1 : decode cX7_ons 1 = .ok (.istore_n 3, 1) := by decide +kernel
theorem dX7_ons_2 : decode cX7_ons 2 = .ok (.iconst 0, 1) := by decide +kernel
theorem dX7_ons_3 : decode cX7_ons 3 = .ok (.istore 4, 2) := by decide +kernel
theorem dX7_ons_5 : decode cX7_ons 5 = .ok (.iload 4, 2) := by decide +kernel
theorem dX7_ons_7 : decode cX7_ons 7 = .ok (.bipush 8, 2) := by decide +kernel
theorem dX7_ons_9 : decode cX7_ons 9 = .ok (.if_icmp .ge 32, 3) := by decide +kernel
theorem dX7_ons_12 : decode cX7_ons 12 = .ok (.iload_n 3, 1) := by decide +kernel
theorem dX7_ons_13 : decode cX7_ons 13 = .ok (.iload_n 1, 1) := by decide +kernel
theorem dX7_ons_14 : decode cX7_ons 14 = .ok (.aload_n 0, 1) := by decide +kernel
theorem dX7_ons_15 : decode cX7_ons 15 = .ok (.iconst 0, 1) := by decide +kernel
theorem dX7_ons_16 : decode cX7_ons 16 = .ok (.iload 4, 2) := by decide +kernel
theorem dX7_ons_18 : decode cX7_ons 18 = .ok (.iload_n 2, 1) := by decide +kernel
theorem dX7_ons_19 : decode cX7_ons 19 = .ok (.invokevirtual 109, 3) := by decide +kernel
theorem dX7_ons_22 : decode cX7_ons 22 = .ok (.if_icmp .ge 10, 3) := by decide +kernel
theorem dX7_ons_25 : decode cX7_ons 25 = .ok (.iconst 1, 1) := by decide +kernel
theorem dX7_ons_26 : decode cX7_ons 26 = .ok (.iload 4, 2) := by decide +kernel
theorem dX7_ons_28 : decode cX7_ons 28 = .ok (.ishl, 1) := by decide +kernel
theorem dX7_ons_29 : decode cX7_ons 29 = .ok (.goto 4, 3) := by decide +kernel
theorem dX7_ons_32 : decode cX7_ons 32 = .ok (.iconst 0, 1) := by decide +kernel
theorem dX7_ons_33 : decode cX7_ons 33 = .ok (.ior, 1) := by decide +kernel
theorem dX7_ons_34 : decode cX7_ons 34 = .ok (.istore_n 3, 1) := by decide +kernel
theorem dX7_ons_35 : decode cX7_ons 35 = .ok (.iinc 4 1, 3) := by decide +kernel
theorem dX7_ons_38 : decode cX7_ons 38 = .ok (.goto (-33), 3) := by decide +kernel
theorem dX7_ons_41 : decode cX7_ons 41 = .ok (.iconst 0, 1) := by decide +kernel
theorem dX7_ons_42 : decode cX7_ons 42 = .ok (.istore 4, 2) := by decide +kernel
theorem dX7_ons_44 : decode cX7_ons 44 = .ok (.iload 4, 2) := by decide +kernel
theorem dX7_ons_46 : decode cX7_ons 46 = .ok (.bipush 8, 2) := by decide +kernel
theorem dX7_ons_48 : decode cX7_ons 48 = .ok (.if_icmp .ge 52, 3) := by decide +kernel
theorem dX7_ons_51 : decode cX7_ons 51 = .ok (.iconst 0, 1) := by decide +kernel
theorem dX7_ons_52 : decode cX7_ons 52 = .ok (.istore 5, 2) := by decide +kernel
theorem dX7_ons_54 : decode cX7_ons 54 = .ok (.iload 5, 2) := by decide +kernel
theorem dX7_ons_56 : decode cX7_ons 56 = .ok (.bipush 8, 2) := by decide +kernel
theorem dX7_ons_58 : decode cX7_ons 58 = .ok (.if_icmp .ge 36, 3) := by decide +kernel
theorem dX7_ons_61 : decode cX7_ons 61 = .ok (.iload_n 3, 1) := by decide +kernel
theorem dX7_ons_62 : decode cX7_ons 62 = .ok (.aload_n 0, 1) := by decide +kernel
theorem dX7_ons_63 : decode cX7_ons 63 = .ok (.getfield 13, 3) := by decide +kernel
theorem dX7_ons_66 : decode cX7_ons 66 = .ok (.iload 5, 2) := by decide +kernel
theorem dX7_ons_68 : decode cX7_ons 68 = .ok (.iaload, 1) := by decide +kernel
theorem dX7_ons_69 : decode cX7_ons 69 = .ok (.iload_n 3, 1) := by decide +kernel
theorem dX7_ons_70 : decode cX7_ons 70 = .ok (.iconst (-1), 1) := by decide +kernel
theorem dX7_ons_71 : decode cX7_ons 71 = .ok (.ixor, 1) := by decide +kernel
theorem dX7_ons_72 : decode cX7_ons 72 = .ok (.iand, 1) := by decide +kernel
theorem dX7_ons_73 : decode cX7_ons 73 = .ok (.ifCond .eq 12, 3) := by decide +kernel
theorem dX7_ons_76 : decode cX7_ons 76 = .ok (.iconst 1, 1) := by decide +kernel
theorem dX7_ons_77 : decode cX7_ons 77 = .ok (.iload 5, 2) := by decide +kernel
theorem dX7_ons_79 : decode cX7_ons 79 = .ok (.ishl, 1) := by decide +kernel
theorem dX7_ons_80 : decode cX7_ons 80 = .ok (.iconst (-1), 1) := by decide +kernel
theorem dX7_ons_81 : decode cX7_ons 81 = .ok (.ixor, 1) := by decide +kernel
theorem dX7_ons_82 : decode cX7_ons 82 = .ok (.goto 4, 3) := by decide +kernel
theorem dX7_ons_85 : decode cX7_ons 85 = .ok (.iconst (-1), 1) := by decide +kernel
theorem dX7_ons_86 : decode cX7_ons 86 = .ok (.iand, 1) := by decide +kernel
theorem dX7_ons_87 : decode cX7_ons 87 = .ok (.istore_n 3, 1) := by decide +kernel
theorem dX7_ons_88 : decode cX7_ons 88 = .ok (.iinc 5 1, 3) := by decide +kernel
theorem dX7_ons_91 : decode cX7_ons 91 = .ok (.goto (-37), 3) := by decide +kernel
theorem dX7_ons_94 : decode cX7_ons 94 = .ok (.iinc 4 1, 3) := by decide +kernel
theorem dX7_ons_97 : decode cX7_ons 97 = .ok (.goto (-53), 3) := by decide +kernel
theorem dX7_ons_100 : decode cX7_ons 100 = .ok (.iload_n 3, 1) := by decide +kernel
theorem dX7_ons_101 : decode cX7_ons 101 = .ok (.ireturn, 1) := by decide +kernel
set_option maxRecDepth 20000 in
theorem ggX7_isBad_X7_valueOf : GoodIn wsX7_isBad wsX7_valueOf := goodIn_r _ [9, 10, 11, 12, 13, 8, 14, 15, 16, 17, 23, 24, 25, 26, 27, 28, 29, 30, 31, 32, 33, 34, 35, 36, 37, 38, 39, 40, 41, 42, 43, 44, 45, 46, 47, 48] (by decide +kernel) (by decide +kernel)
set_option maxRecDepth 20000 in
theorem gX7_isBad_X7_valueOf : GoodIn wsX7_isBad (wsV RX7 109 RX7 yX7_valueOf wsX7_valueOf) := goodIn_app (goodIn_of _ (by decide +kernel)) ggX7_isBad_X7_valueOf
set_option maxRecDepth 20000 in
theorem ggX7_isBad_X7_ons : GoodIn wsX7_isBad wsX7_ons := goodIn_r _ [21, 22, 5, 6, 7, 8, 9, 10, 11, 12, 13, 14, 15, 16, 17, 23, 24, 25, 26, 27, 28, 29, 30, 31, 32, 33, 34, 35, 36, 37, 38, 39, 40, 41, 42, 43, 44, 45, 46, 47, 48] (by decide +kernel) (by decide +kernel)
set_option maxRecDepth 20000 in
theorem gX7_isBad_X7_ons : GoodIn wsX7_isBad (wsV RX7 112 RX7 yX7_ons wsX7_ons) := goodIn_app (goodIn_of _ (by decide +kernel)) ggX7_isBad_X7_ons
theorem dX7_isBad_0 : decode cX7_isBad 0 = .ok (.aload_n 0, 1) := by decide +kernel
theorem dX7_isBad_1 : decode cX7_isBad 1 = .ok (.iconst 1, 1) := by decide +kernel
theorem dX7_isBad_2 : decode cX7_isBad 2 = .ok (.iload_n 1, 1) := by decide +kernel
theorem dX7_isBad_3 : decode cX7_isBad 3 = .ok (.iload_n 2, 1) := by decide +kernel
theorem dX7_isBad_4 : decode cX7_isBad 4 = .ok (.invokevirtual 109, 3) := by decide +kernel
theorem dX7_isBad_7 : decode cX7_isBad 7 = .ok (.istore_n 3, 1) := by decide +kernel
theorem dX7_isBad_8 : decode cX7_isBad 8 = .ok (.aload_n 0, 1) := by decide +kernel
theorem dX7_isBad_9 : decode cX7_isBad 9 = .ok (.iload_n 1, 1) := by decide +kernel
theorem dX7_isBad_10 : decode cX7_isBad 10 = .ok (.iload_n 2, 1) := by decide +kernel
theorem dX7_isBad_11 : decode cX7_isBad 11 = .ok (.invokevirtual 112, 3) := by decide +kernel
theorem dX7_isBad_14 : decode cX7_isBad 14 = .ok (.istore 4, 2) := by decide +kernel
theorem dX7_isBad_16 : decode cX7_isBad 16 = .ok (.iconst 0, 1) := by decide +kernel
theorem dX7_isBad_17 : decode cX7_isBad 17 = .ok (.istore 5, 2) := by decide +kernel
theorem dX7_isBad_19 : decode cX7_isBad 19 = .ok (.iconst 0, 1) := by decide +kernel
theorem dX7_isBad_20 : decode cX7_isBad 20 = .ok (.istore 6, 2) := by decide +kernel
theorem dX7_isBad_22 : decode cX7_isBad 22 = .ok (.iload 6, 2) := by decide +kernel
theorem dX7_isBad_24 : decode cX7_isBad 24 = .ok (.aload_n 0, 1) := by decide +kernel
theorem dX7_isBad_25 : decode cX7_isBad 25 = .ok (.getfield 92, 3) := by decide +kernel
theorem dX7_isBad_28 : decode cX7_isBad 28 = .ok (.if_icmp .ge 86, 3) := by decide +kernel
theorem dX7_isBad_31 : decode cX7_isBad 31 = .ok (.aload_n 0, 1) := by decide +kernel
theorem dX7_isBad_32 : decode cX7_isBad 32 = .ok (.getfield 20, 3) := by decide +kernel
theorem dX7_isBad_35 : decode cX7_isBad 35 = .ok (.iload 6, 2) := by decide +kernel
theorem dX7_isBad_37 : decode cX7_isBad 37 = .ok (.iaload, 1) := by decide +kernel
theorem dX7_isBad_38 : decode cX7_isBad 38 = .ok (.iconst (-1), 1) := by decide +kernel
theorem dX7_isBad_39 : decode cX7_isBad 39 = .ok (.if_icmp .eq 34, 3) := by decide +kernel
theorem dX7_isBad_42 : decode cX7_isBad 42 = .ok (.iload 4, 2) := by decide +kernel
theorem dX7_isBad_44 : decode cX7_isBad 44 = .ok (.aload_n 0, 1) := by decide +kernel
theorem dX7_isBad_45 : decode cX7_isBad 45 = .ok (.getfield 20, 3) := by decide +kernel
theorem dX7_isBad_48 : decode cX7_isBad 48 = .ok (.iload 6, 2) := by decide +kernel
theorem dX7_isBad_50 : decode cX7_isBad 50 = .ok (.iaload, 1) := by decide +kernel
theorem dX7_isBad_51 : decode cX7_isBad 51 = .ok (.ishr, 1) := by decide +kernel
theorem dX7_isBad_52 : decode cX7_isBad 52 = .ok (.iconst 1, 1) := by decide +kernel
theorem dX7_isBad_53 : decode cX7_isBad 53 = .ok (.iand, 1) := by decide +kernel
theorem dX7_isBad_54 : decode cX7_isBad 54 = .ok (.iconst 1, 1) := by decide +kernel
theorem dX7_isBad_55 : decode cX7_isBad 55 = .ok (.if_icmp .ne 7, 3) := by decide +kernel
theorem dX7_isBad_58 : decode cX7_isBad 58 = .ok (.iconst 1, 1) := by decide +kernel
theorem dX7_isBad_59 : decode cX7_isBad 59 = .ok (.goto 4, 3) := by decide +kernel
theorem dX7_isBad_62 : decode cX7_isBad 62 = .ok (.iconst 0, 1) := by decide +kernel
theorem dX7_isBad_63 : decode cX7_isBad 63 = .ok (.aload_n 0, 1) := by decide +kernel
theorem dX7_isBad_64 : decode cX7_isBad 64 = .ok (.getfield 23, 3) := by decide +kernel
theorem dX7_isBad_67 : decode cX7_isBad 67 = .ok (.iload 6, 2) := by decide +kernel
theorem dX7_isBad_69 : decode cX7_isBad 69 = .ok (.baload, 1) := by decide +kernel
theorem dX7_isBad_70 : decode cX7_isBad 70 = .ok (.if_icmp .ne 7, 3) := by decide +kernel
theorem dX7_isBad_73 : decode cX7_isBad 73 = .ok (.iconst 1, 1) := by decide +kernel
theorem dX7_isBad_74 : decode cX7_isBad 74 = .ok (.goto 4, 3) := by decide +kernel
theorem dX7_isBad_77 : decode cX7_isBad 77 = .ok (.iconst 0, 1) := by decide +kernel
theorem dX7_isBad_78 : decode cX7_isBad 78 = .ok (.istore 7, 2) := by decide +kernel
theorem dX7_isBad_80 : decode cX7_isBad 80 = .ok (.iload 5, 2) := by decide +kernel
theorem dX7_isBad_82 : decode cX7_isBad 82 = .ok (.ifCond .ne 19, 3) := by decide +kernel
theorem dX7_isBad_85 : decode cX7_isBad 85 = .ok (.aload_n 0, 1) := by decide +kernel
theorem dX7_isBad_86 : decode cX7_isBad 86 = .ok (.getfield 17, 3) := by decide +kernel
theorem dX7_isBad_89 : decode cX7_isBad 89 = .ok (.iload 6, 2) := by decide +kernel
theorem dX7_isBad_91 : decode cX7_isBad 91 = .ok (.iaload, 1) := by decide +kernel
theorem dX7_isBad_92 : decode cX7_isBad 92 = .ok (.iload_n 3, 1) := by decide +kernel
theorem dX7_isBad_93 : decode cX7_isBad 93 = .ok (.if_icmp .ne 12, 3) := by decide +kernel
theorem dX7_isBad_96 : decode cX7_isBad 96 = .ok (.iload 7, 2) := by decide +kernel
theorem dX7_isBad_98 : decode cX7_isBad 98 = .ok (.ifCond .eq 7, 3) := by decide +kernel
theorem dX7_isBad_101 : decode cX7_isBad 101 = .ok (.iconst 1, 1) := by decide +kernel
theorem dX7_isBad_102 : decode cX7_isBad 102 = .ok (.goto 4, 3) := by decide +kernel
theorem dX7_isBad_105 : decode cX7_isBad 105 = .ok (.iconst 0, 1) := by decide +kernel
theorem dX7_isBad_106 : decode cX7_isBad 106 = .ok (.istore 5, 2) := by decide +kernel
theorem dX7_isBad_108 : decode cX7_isBad 108 = .ok (.iinc 6 1, 3) := by decide +kernel
theorem dX7_isBad_111 : decode cX7_isBad 111 = .ok (.goto (-89), 3) := by decide +kernel
theorem dX7_isBad_114 : decode cX7_isBad 114 = .ok (.iload 5, 2) := by decide +kernel
theorem dX7_isBad_116 : decode cX7_isBad 116 = .ok (.ireturn, 1) := by decide +kernel
set_option maxRecDepth 20000 in
theorem ggX7_traceOf_X7_isBad : GoodIn wsX7_traceOf wsX7_isBad := goodIn_r _ [6, 7, 8, 9, 10, 11, 12, 13, 5, 14, 15, 16, 17, 18, 19, 1, 20, 21, 22, 23, 24, 25, 26, 27, 28, 29, 30, 31, 32, 33, 34, 35, 36, 37, 38, 39, 40, 41, 42, 43, 44, 45, 46, 47, 48, 49, 50, 51, 52] (by decide +kernel) (by decide +kernel)
set_option maxRecDepth 20000 in
theorem gX7_traceOf_X7_isBad : GoodIn wsX7_traceOf (wsV RX7 116 RX7 yX7_isBad wsX7_isBad) := goodIn_app (goodIn_of _ (by decide +kernel)) ggX7_traceOf_X7_isBad
theorem dX7_traceOf_0 : decode cX7_traceOf 0 = .ok (.iconst (-1), 1) := by decide +kernel
theorem dX7_traceOf_1 : decode cX7_traceOf 1 = .ok (.istore_n 2, 1) := by decide +kernel
theorem dX7_traceOf_2 : decode cX7_traceOf 2 = .ok (.aload_n 0, 1) := by decide +kernel
theorem dX7_traceOf_3 : decode cX7_traceOf 3 = .ok (.iload_n 1, 1) := by decide +kernel
theorem dX7_traceOf_4 : decode cX7_traceOf 4 = .ok (.iconst (-1), 1) := by decide +kernel
theorem dX7_traceOf_5 : decode cX7_traceOf 5 = .ok (.invokevirtual 116, 3) := by decide +kernel
theorem dX7_traceOf_8 : decode cX7_traceOf 8 = .ok (.istore_n 3, 1) := by decide +kernel
theorem dX7_traceOf_9 : decode cX7_traceOf 9 = .ok (.iconst 0, 1) := by decide +kernel
theorem dX7_traceOf_10 : decode cX7_traceOf 10 = .ok (.istore 4, 2) := by decide +kernel
theorem dX7_traceOf_12 : decode cX7_traceOf 12 = .ok (.iload 4, 2) := by decide +kernel
theorem dX7_traceOf_14 : decode cX7_traceOf 14 = .ok (.aload_n 0, 1) := by decide +kernel
theorem dX7_traceOf_15 : decode cX7_traceOf 15 = .ok (.getfield 79, 3) := by decide +kernel
theorem dX7_traceOf_18 : decode cX7_traceOf 18 = .ok (.if_icmp .ge 30, 3) := by decide +kernel
theorem dX7_traceOf_21 : decode cX7_traceOf 21 = .ok (.iload_n 3, 1) := by decide +kernel
theorem dX7_traceOf_22 : decode cX7_traceOf 22 = .ok (.ifCond .eq 26, 3) := by decide +kernel
theorem dX7_traceOf_25 : decode cX7_traceOf 25 = .ok (.aload_n 0, 1) := by decide +kernel
theorem dX7_traceOf_26 : decode cX7_traceOf 26 = .ok (.iload_n 1, 1) := by decide +kernel
theorem dX7_traceOf_27 : decode cX7_traceOf 27 = .ok (.iload 4, 2) := by decide +kernel
theorem dX7_traceOf_29 : decode cX7_traceOf 29 = .ok (.invokevirtual 116, 3) := by decide +kernel
theorem dX7_traceOf_32 : decode cX7_traceOf 32 = .ok (.ifCond .eq 7, 3) := by decide +kernel
theorem dX7_traceOf_35 : decode cX7_traceOf 35 = .ok (.iload_n 2, 1) := by decide +kernel
theorem dX7_traceOf_36 : decode cX7_traceOf 36 = .ok (.goto 5, 3) := by decide +kernel
theorem dX7_traceOf_39 : decode cX7_traceOf 39 = .ok (.iload 4, 2) := by decide +kernel
theorem dX7_traceOf_41 : decode cX7_traceOf 41 = .ok (.istore_n 2, 1) := by decide +kernel
theorem dX7_traceOf_42 : decode cX7_traceOf 42 = .ok (.iinc 4 1, 3) := by decide +kernel
theorem dX7_traceOf_45 : decode cX7_traceOf 45 = .ok (.goto (-33), 3) := by decide +kernel
theorem dX7_traceOf_48 : decode cX7_traceOf 48 = .ok (.iload_n 2, 1) := by decide +kernel
theorem dX7_traceOf_49 : decode cX7_traceOf 49 = .ok (.ireturn, 1) := by decide +kernel
theorem dX7_rested_0 : decode cX7_rested 0 = .ok (.aload_n 0, 1) := by decide +kernel
theorem dX7_rested_1 : decode cX7_rested 1 = .ok (.getfield 48, 3) := by decide +kernel
theorem dX7_rested_4 : decode cX7_rested 4 = .ok (.iload_n 1, 1) := by decide +kernel
theorem dX7_rested_5 : decode cX7_rested 5 = .ok (.iaload, 1) := by decide +kernel
theorem dX7_rested_6 : decode cX7_rested 6 = .ok (.iconst (-1), 1) := by decide +kernel
theorem dX7_rested_7 : decode cX7_rested 7 = .ok (.if_icmp .eq 36, 3) := by decide +kernel
theorem dX7_rested_10 : decode cX7_rested 10 = .ok (.aload_n 0, 1) := by decide +kernel
theorem dX7_rested_11 : decode cX7_rested 11 = .ok (.getfield 120, 3) := by decide +kernel
theorem dX7_rested_14 : decode cX7_rested 14 = .ok (.aload_n 0, 1) := by decide +kernel
theorem dX7_rested_15 : decode cX7_rested 15 = .ok (.getfield 48, 3) := by decide +kernel
theorem dX7_rested_18 : decode cX7_rested 18 = .ok (.iload_n 1, 1) := by decide +kernel
theorem dX7_rested_19 : decode cX7_rested 19 = .ok (.iaload, 1) := by decide +kernel
theorem dX7_rested_20 : decode cX7_rested 20 = .ok (.if_icmp .le 23, 3) := by decide +kernel
theorem dX7_rested_23 : decode cX7_rested 23 = .ok (.aload_n 0, 1) := by decide +kernel
theorem dX7_rested_24 : decode cX7_rested 24 = .ok (.getfield 120, 3) := by decide +kernel
theorem dX7_rested_27 : decode cX7_rested 27 = .ok (.aload_n 0, 1) := by decide +kernel
theorem dX7_rested_28 : decode cX7_rested 28 = .ok (.getfield 48, 3) := by decide +kernel
theorem dX7_rested_31 : decode cX7_rested 31 = .ok (.iload_n 1, 1) := by decide +kernel
theorem dX7_rested_32 : decode cX7_rested 32 = .ok (.iaload, 1) := by decide +kernel
theorem dX7_rested_33 : decode cX7_rested 33 = .ok (.bipush 12, 2) := by decide +kernel
theorem dX7_rested_35 : decode cX7_rested 35 = .ok (.iadd, 1) := by decide +kernel
theorem dX7_rested_36 : decode cX7_rested 36 = .ok (.if_icmp .gt 7, 3) := by decide +kernel
theorem dX7_rested_39 : decode cX7_rested 39 = .ok (.iconst 1, 1) := by decide +kernel
theorem dX7_rested_40 : decode cX7_rested 40 = .ok (.goto 4, 3) := by decide +kernel
theorem dX7_rested_43 : decode cX7_rested 43 = .ok (.iconst 0, 1) := by decide +kernel
theorem dX7_rested_44 : decode cX7_rested 44 = .ok (.ireturn, 1) := by decide +kernel
theorem dX7_makes_0 : decode cX7_makes 0 = .ok (.aload_n 0, 1) := by decide +kernel
theorem dX7_makes_1 : decode cX7_makes 1 = .ok (.getfield 27, 3) := by decide +kernel
theorem dX7_makes_4 : decode cX7_makes 4 = .ok (.aload_n 0, 1) := by decide +kernel
theorem dX7_makes_5 : decode cX7_makes 5 = .ok (.getfield 79, 3) := by decide +kernel
theorem dX7_makes_8 : decode cX7_makes 8 = .ok (.iload_n 1, 1) := by decide +kernel
theorem dX7_makes_9 : decode cX7_makes 9 = .ok (.iastore, 1) := by decide +kernel
theorem dX7_makes_10 : decode cX7_makes 10 = .ok (.aload_n 0, 1) := by decide +kernel
theorem dX7_makes_11 : decode cX7_makes 11 = .ok (.getfield 30, 3) := by decide +kernel
theorem dX7_makes_14 : decode cX7_makes 14 = .ok (.aload_n 0, 1) := by decide +kernel
theorem dX7_makes_15 : decode cX7_makes 15 = .ok (.getfield 79, 3) := by decide +kernel
theorem dX7_makes_18 : decode cX7_makes 18 = .ok (.iload_n 2, 1) := by decide +kernel
theorem dX7_makes_19 : decode cX7_makes 19 = .ok (.iastore, 1) := by decide +kernel
theorem dX7_makes_20 : decode cX7_makes 20 = .ok (.aload_n 0, 1) := by decide +kernel
theorem dX7_makes_21 : decode cX7_makes 21 = .ok (.getfield 33, 3) := by decide +kernel
theorem dX7_makes_24 : decode cX7_makes 24 = .ok (.aload_n 0, 1) := by decide +kernel
theorem dX7_makes_25 : decode cX7_makes 25 = .ok (.getfield 79, 3) := by decide +kernel
theorem dX7_makes_28 : decode cX7_makes 28 = .ok (.iload_n 3, 1) := by decide +kernel
theorem dX7_makes_29 : decode cX7_makes 29 = .ok (.iastore, 1) := by decide +kernel
theorem dX7_makes_30 : decode cX7_makes 30 = .ok (.aload_n 0, 1) := by decide +kernel
theorem dX7_makes_31 : decode cX7_makes 31 = .ok (.getfield 36, 3) := by decide +kernel
theorem dX7_makes_34 : decode cX7_makes 34 = .ok (.aload_n 0, 1) := by decide +kernel
theorem dX7_makes_35 : decode cX7_makes 35 = .ok (.getfield 79, 3) := by decide +kernel
theorem dX7_makes_38 : decode cX7_makes 38 = .ok (.iload 4, 2) := by decide +kernel
theorem dX7_makes_40 : decode cX7_makes 40 = .ok (.iastore, 1) := by decide +kernel
theorem dX7_makes_41 : decode cX7_makes 41 = .ok (.aload_n 0, 1) := by decide +kernel
theorem dX7_makes_42 : decode cX7_makes 42 = .ok (.getfield 39, 3) := by decide +kernel
theorem dX7_makes_45 : decode cX7_makes 45 = .ok (.aload_n 0, 1) := by decide +kernel
theorem dX7_makes_46 : decode cX7_makes 46 = .ok (.getfield 79, 3) := by decide +kernel
theorem dX7_makes_49 : decode cX7_makes 49 = .ok (.aload_n 0, 1) := by decide +kernel
theorem dX7_makes_50 : decode cX7_makes 50 = .ok (.getfield 120, 3) := by decide +kernel
theorem dX7_makes_53 : decode cX7_makes 53 = .ok (.iastore, 1) := by decide +kernel
theorem dX7_makes_54 : decode cX7_makes 54 = .ok (.aload_n 0, 1) := by decide +kernel
theorem dX7_makes_55 : decode cX7_makes 55 = .ok (.dup, 1) := by decide +kernel
theorem dX7_makes_56 : decode cX7_makes 56 = .ok (.getfield 79, 3) := by decide +kernel
theorem dX7_makes_59 : decode cX7_makes 59 = .ok (.iconst 1, 1) := by decide +kernel
theorem dX7_makes_60 : decode cX7_makes 60 = .ok (.iadd, 1) := by decide +kernel
theorem dX7_makes_61 : decode cX7_makes 61 = .ok (.putfield 79, 3) := by decide +kernel
theorem dX7_makes_64 : decode cX7_makes 64 = .ok (.aload_n 0, 1) := by decide +kernel
theorem dX7_makes_65 : decode cX7_makes 65 = .ok (.getfield 79, 3) := by decide +kernel
theorem dX7_makes_68 : decode cX7_makes 68 = .ok (.iconst 1, 1) := by decide +kernel
theorem dX7_makes_69 : decode cX7_makes 69 = .ok (.isub, 1) := by decide +kernel
theorem dX7_makes_70 : decode cX7_makes 70 = .ok (.ireturn, 1) := by decide +kernel
set_option maxRecDepth 20000 in
theorem ggX7_turn_X7_isPerson : GoodIn wsX7_turn wsX7_isPerson := goodIn_r _ [6, 7, 8, 5, 9] (by decide +kernel) (by decide +kernel)
set_option maxRecDepth 20000 in
theorem gX7_turn_X7_isPerson : GoodIn wsX7_turn (va_wsS RX7 123 yX7_isPerson wsX7_isPerson) := goodIn_app (goodIn_of _ (by decide +kernel)) ggX7_turn_X7_isPerson
set_option maxRecDepth 20000 in
theorem ggX7_turn_X7_isSwitch : GoodIn wsX7_turn wsX7_isSwitch := goodIn_r _ [12, 7, 8, 5, 9] (by decide +kernel) (by decide +kernel)
set_option maxRecDepth 20000 in
theorem gX7_turn_X7_isSwitch : GoodIn wsX7_turn (va_wsS RX7 89 yX7_isSwitch wsX7_isSwitch) := goodIn_app (goodIn_of _ (by decide +kernel)) ggX7_turn_X7_isSwitch
set_option maxRecDepth 20000 in
theorem ggX7_turn_X7_in : GoodIn wsX7_turn wsX7_in := goodIn_r _ [9] (by decide +kernel) (by decide +kernel)
set_option maxRecDepth 20000 in
theorem gX7_turn_X7_in : GoodIn wsX7_turn (va_wsS RX7 75 yX7_in wsX7_in) := goodIn_app (goodIn_of _ (by decide +kernel)) ggX7_turn_X7_in
set_option maxRecDepth 20000 in
theorem ggX7_turn_X7_rested : GoodIn wsX7_turn wsX7_rested := goodIn_r _ [16, 17, 18, 36, 37, 38, 39, 40, 41, 42, 43, 44, 45, 46, 47, 48, 49, 50, 51, 52, 53, 54, 55, 56, 57, 58, 59, 60, 61] (by decide +kernel) (by decide +kernel)
set_option maxRecDepth 20000 in
theorem gX7_turn_X7_rested : GoodIn wsX7_turn (wsV RX7 126 RX7 yX7_rested wsX7_rested) := goodIn_app (goodIn_of _ (by decide +kernel)) ggX7_turn_X7_rested
set_option maxRecDepth 20000 in
theorem ggX7_turn_X7_valueOf : GoodIn wsX7_turn wsX7_valueOf := goodIn_r _ [22, 23, 24, 25, 26, 5, 27, 2, 28, 29, 36, 37, 38, 39, 40, 41, 42, 43, 44, 45, 46, 47, 48, 49, 50, 51, 52, 53, 54, 55, 56, 57, 58, 59, 60, 61] (by decide +kernel) (by decide +kernel)
set_option maxRecDepth 20000 in
theorem gX7_turn_X7_valueOf : GoodIn wsX7_turn (wsV RX7 109 RX7 yX7_valueOf wsX7_valueOf) := goodIn_app (goodIn_of _ (by decide +kernel)) ggX7_turn_X7_valueOf
set_option maxRecDepth 20000 in
theorem ggX7_turn_X7_makes : GoodIn wsX7_turn wsX7_makes := goodIn_r _ [33, 34, 2, 28, 29, 23, 35, 18, 36, 37, 38, 39, 40, 41, 42, 43, 44, 45, 46, 47, 48, 49, 50, 51, 52, 53, 54, 55, 56, 57, 58, 59, 60, 61] (by decide +kernel) (by decide +kernel)
set_option maxRecDepth 20000 in
theorem gX7_turn_X7_makes : GoodIn wsX7_turn (wsV RX7 129 RX7 yX7_makes wsX7_makes) := goodIn_app (goodIn_of _ (by decide +kernel)) ggX7_turn_X7_makes
theorem dX7_turn_0 : decode cX7_turn 0 = .ok (.aload_n 0, 1) := by decide +kernel
theorem dX7_turn_1 : decode cX7_turn 1 = .ok (.iload_n 1, 1) := by decide +kernel
theorem dX7_turn_2 : decode cX7_turn 2 = .ok (.invokestatic 123, 3) := by decide +kernel
theorem dX7_turn_5 : decode cX7_turn 5 = .ok (.ifCond .eq 10, 3) := by decide +kernel
theorem dX7_turn_8 : decode cX7_turn 8 = .ok (.iload_n 2, 1) := by decide +kernel
theorem dX7_turn_9 : decode cX7_turn 9 = .ok (.invokestatic 89, 3) := by decide +kernel
theorem dX7_turn_12 : decode cX7_turn 12 = .ok (.ifCond .ne 7, 3) := by decide +kernel
theorem dX7_turn_15 : decode cX7_turn 15 = .ok (.iconst 1, 1) := by decide +kernel
theorem dX7_turn_16 : decode cX7_turn 16 = .ok (.goto 17, 3) := by decide +kernel
theorem dX7_turn_19 : decode cX7_turn 19 = .ok (.iload_n 3, 1) := by decide +kernel
theorem dX7_turn_20 : decode cX7_turn 20 = .ok (.iconst 0, 1) := by decide +kernel
theorem dX7_turn_21 : decode cX7_turn 21 = .ok (.iconst 4, 1) := by decide +kernel
theorem dX7_turn_22 : decode cX7_turn 22 = .ok (.invokestatic 75, 3) := by decide +kernel
theorem dX7_turn_25 : decode cX7_turn 25 = .ok (.ifCond .eq 7, 3) := by decide +kernel
theorem dX7_turn_28 : decode cX7_turn 28 = .ok (.iconst 0, 1) := by decide +kernel
theorem dX7_turn_29 : decode cX7_turn 29 = .ok (.goto 4, 3) := by decide +kernel
theorem dX7_turn_32 : decode cX7_turn 32 = .ok (.iconst 2, 1) := by decide +kernel
theorem dX7_turn_33 : decode cX7_turn 33 = .ok (.putfield 72, 3) := by decide +kernel
theorem dX7_turn_36 : decode cX7_turn 36 = .ok (.aload_n 0, 1) := by decide +kernel
theorem dX7_turn_37 : decode cX7_turn 37 = .ok (.getfield 72, 3) := by decide +kernel
theorem dX7_turn_40 : decode cX7_turn 40 = .ok (.ifCond .le 5, 3) := by decide +kernel
theorem dX7_turn_43 : decode cX7_turn 43 = .ok (.iconst 0, 1) := by decide +kernel
theorem dX7_turn_44 : decode cX7_turn 44 = .ok (.ireturn, 1) := by decide +kernel
theorem dX7_turn_45 : decode cX7_turn 45 = .ok (.aload_n 0, 1) := by decide +kernel
theorem dX7_turn_46 : decode cX7_turn 46 = .ok (.aload_n 0, 1) := by decide +kernel
theorem dX7_turn_47 : decode cX7_turn 47 = .ok (.iload_n 1, 1) := by decide +kernel
theorem dX7_turn_48 : decode cX7_turn 48 = .ok (.invokevirtual 126, 3) := by decide +kernel
theorem dX7_turn_51 : decode cX7_turn 51 = .ok (.ifCond .ne 24, 3) := by decide +kernel
theorem dX7_turn_54 : decode cX7_turn 54 = .ok (.aload_n 0, 1) := by decide +kernel
theorem dX7_turn_55 : decode cX7_turn 55 = .ok (.iconst 0, 1) := by decide +kernel
theorem dX7_turn_56 : decode cX7_turn 56 = .ok (.iload_n 2, 1) := by decide +kernel
theorem dX7_turn_57 : decode cX7_turn 57 = .ok (.iconst (-1), 1) := by decide +kernel
theorem dX7_turn_58 : decode cX7_turn 58 = .ok (.invokevirtual 109, 3) := by decide +kernel
theorem dX7_turn_61 : decode cX7_turn 61 = .ok (.iload_n 3, 1) := by decide +kernel
theorem dX7_turn_62 : decode cX7_turn 62 = .ok (.if_icmp .eq 13, 3) := by decide +kernel
theorem dX7_turn_65 : decode cX7_turn 65 = .ok (.aload_n 0, 1) := by decide +kernel
theorem dX7_turn_66 : decode cX7_turn 66 = .ok (.getfield 79, 3) := by decide +kernel
theorem dX7_turn_69 : decode cX7_turn 69 = .ok (.sipush 200, 3) := by decide +kernel
theorem dX7_turn_72 : decode cX7_turn 72 = .ok (.if_icmp .ne 7, 3) := by decide +kernel
theorem dX7_turn_75 : decode cX7_turn 75 = .ok (.iconst 3, 1) := by decide +kernel
theorem dX7_turn_76 : decode cX7_turn 76 = .ok (.goto 4, 3) := by decide +kernel
theorem dX7_turn_79 : decode cX7_turn 79 = .ok (.iconst 0, 1) := by decide +kernel
theorem dX7_turn_80 : decode cX7_turn 80 = .ok (.putfield 72, 3) := by decide +kernel
theorem dX7_turn_83 : decode cX7_turn 83 = .ok (.aload_n 0, 1) := by decide +kernel
theorem dX7_turn_84 : decode cX7_turn 84 = .ok (.getfield 72, 3) := by decide +kernel
theorem dX7_turn_87 : decode cX7_turn 87 = .ok (.ifCond .le 7, 3) := by decide +kernel
theorem dX7_turn_90 : decode cX7_turn 90 = .ok (.iconst 0, 1) := by decide +kernel
theorem dX7_turn_91 : decode cX7_turn 91 = .ok (.goto 11, 3) := by decide +kernel
theorem dX7_turn_94 : decode cX7_turn 94 = .ok (.aload_n 0, 1) := by decide +kernel
theorem dX7_turn_95 : decode cX7_turn 95 = .ok (.iload_n 1, 1) := by decide +kernel
theorem dX7_turn_96 : decode cX7_turn 96 = .ok (.iconst 0, 1) := by decide +kernel
theorem dX7_turn_97 : decode cX7_turn 97 = .ok (.iload_n 2, 1) := by decide +kernel
theorem dX7_turn_98 : decode cX7_turn 98 = .ok (.iload_n 3, 1) := by decide +kernel
theorem dX7_turn_99 : decode cX7_turn 99 = .ok (.invokevirtual 129, 3) := by decide +kernel
theorem dX7_turn_102 : decode cX7_turn 102 = .ok (.ireturn, 1) := by decide +kernel
theorem dX7_open_0 : decode cX7_open 0 = .ok (.iconst (-1), 1) := by decide +kernel
theorem dX7_open_1 : decode cX7_open 1 = .ok (.istore_n 2, 1) := by decide +kernel
theorem dX7_open_2 : decode cX7_open 2 = .ok (.iconst 0, 1) := by decide +kernel
theorem dX7_open_3 : decode cX7_open 3 = .ok (.istore_n 3, 1) := by decide +kernel
theorem dX7_open_4 : decode cX7_open 4 = .ok (.iload_n 3, 1) := by decide +kernel
theorem dX7_open_5 : decode cX7_open 5 = .ok (.aload_n 0, 1) := by decide +kernel
theorem dX7_open_6 : decode cX7_open 6 = .ok (.getfield 82, 3) := by decide +kernel
theorem dX7_open_9 : decode cX7_open 9 = .ok (.if_icmp .ge 35, 3) := by decide +kernel
theorem dX7_open_12 : decode cX7_open 12 = .ok (.aload_n 0, 1) := by decide +kernel
theorem dX7_open_13 : decode cX7_open 13 = .ok (.getfield 57, 3) := by decide +kernel
theorem dX7_open_16 : decode cX7_open 16 = .ok (.iload_n 3, 1) := by decide +kernel
theorem dX7_open_17 : decode cX7_open 17 = .ok (.iaload, 1) := by decide +kernel
theorem dX7_open_18 : decode cX7_open 18 = .ok (.iload_n 1, 1) := by decide +kernel
theorem dX7_open_19 : decode cX7_open 19 = .ok (.if_icmp .ne 17, 3) := by decide +kernel
theorem dX7_open_22 : decode cX7_open 22 = .ok (.aload_n 0, 1) := by decide +kernel
theorem dX7_open_23 : decode cX7_open 23 = .ok (.getfield 63, 3) := by decide +kernel
theorem dX7_open_26 : decode cX7_open 26 = .ok (.iload_n 3, 1) := by decide +kernel
theorem dX7_open_27 : decode cX7_open 27 = .ok (.iaload, 1) := by decide +kernel
theorem dX7_open_28 : decode cX7_open 28 = .ok (.iconst (-1), 1) := by decide +kernel
theorem dX7_open_29 : decode cX7_open 29 = .ok (.if_icmp .ne 7, 3) := by decide +kernel
theorem dX7_open_32 : decode cX7_open 32 = .ok (.iload_n 3, 1) := by decide +kernel
theorem dX7_open_33 : decode cX7_open 33 = .ok (.goto 4, 3) := by decide +kernel
theorem dX7_open_36 : decode cX7_open 36 = .ok (.iload_n 2, 1) := by decide +kernel
theorem dX7_open_37 : decode cX7_open 37 = .ok (.istore_n 2, 1) := by decide +kernel
theorem dX7_open_38 : decode cX7_open 38 = .ok (.iinc 3 1, 3) := by decide +kernel
theorem dX7_open_41 : decode cX7_open 41 = .ok (.goto (-37), 3) := by decide +kernel
theorem dX7_open_44 : decode cX7_open 44 = .ok (.iload_n 2, 1) := by decide +kernel
theorem dX7_open_45 : decode cX7_open 45 = .ok (.ireturn, 1) := by decide +kernel
set_option maxRecDepth 20000 in
theorem ggX7_isHeldBack_X7_latest : GoodIn wsX7_isHeldBack wsX7_latest := goodIn_r _ [7, 8, 9, 10, 23, 24, 25, 26, 27, 28, 29, 30, 31, 32, 33, 34, 35, 36, 37, 38, 39, 40, 41, 42, 43, 44, 45, 46, 47, 48] (by decide +kernel) (by decide +kernel)
set_option maxRecDepth 20000 in
theorem gX7_isHeldBack_X7_latest : GoodIn wsX7_isHeldBack (wsV RX7 105 RX7 yX7_latest wsX7_latest) := goodIn_app (goodIn_of _ (by decide +kernel)) ggX7_isHeldBack_X7_latest
set_option maxRecDepth 20000 in
theorem ggX7_isHeldBack_X7_valueOf : GoodIn wsX7_isHeldBack wsX7_valueOf := goodIn_r _ [14, 15, 3, 4, 5, 6, 7, 8, 9, 10, 23, 24, 25, 26, 27, 28, 29, 30, 31, 32, 33, 34, 35, 36, 37, 38, 39, 40, 41, 42, 43, 44, 45, 46, 47, 48] (by decide +kernel) (by decide +kernel)
set_option maxRecDepth 20000 in
theorem gX7_isHeldBack_X7_valueOf : GoodIn wsX7_isHeldBack (wsV RX7 109 RX7 yX7_valueOf wsX7_valueOf) := goodIn_app (goodIn_of _ (by decide +kernel)) ggX7_isHeldBack_X7_valueOf
set_option maxRecDepth 20000 in
theorem ggX7_isHeldBack_X7_open : GoodIn wsX7_isHeldBack wsX7_open := goodIn_r _ [19, 20, 21, 22, 23, 24, 25, 26, 27, 28, 29, 30, 31, 32, 33, 34, 35, 36, 37, 38, 39, 40, 41, 42, 43, 44, 45, 46, 47, 48] (by decide +kernel) (by decide +kernel)
set_option maxRecDepth 20000 in
theorem gX7_isHeldBack_X7_open : GoodIn wsX7_isHeldBack (wsV RX7 133 RX7 yX7_open wsX7_open) := goodIn_app (goodIn_of _ (by decide +kernel)) ggX7_isHeldBack_X7_open
theorem dX7_isHeldBack_0 : decode cX7_isHeldBack 0 = .ok (.iconst 0, 1) := by decide +kernel
theorem dX7_isHeldBack_1 : decode cX7_isHeldBack 1 = .ok (.istore_n 3, 1) := by decide +kernel
theorem dX7_isHeldBack_2 : decode cX7_isHeldBack 2 = .ok (.iload_n 1, 1) := by decide +kernel
theorem dX7_isHeldBack_3 : decode cX7_isHeldBack 3 = .ok (.ifCond .le 63, 3) := by decide +kernel
theorem dX7_isHeldBack_6 : decode cX7_isHeldBack 6 = .ok (.aload_n 0, 1) := by decide +kernel
theorem dX7_isHeldBack_7 : decode cX7_isHeldBack 7 = .ok (.iconst 1, 1) := by decide +kernel
theorem dX7_isHeldBack_8 : decode cX7_isHeldBack 8 = .ok (.iload_n 1, 1) := by decide +kernel
theorem dX7_isHeldBack_9 : decode cX7_isHeldBack 9 = .ok (.iconst 1, 1) := by decide +kernel
theorem dX7_isHeldBack_10 : decode cX7_isHeldBack 10 = .ok (.isub, 1) := by decide +kernel
theorem dX7_isHeldBack_11 : decode cX7_isHeldBack 11 = .ok (.iconst (-1), 1) := by decide +kernel
theorem dX7_isHeldBack_12 : decode cX7_isHeldBack 12 = .ok (.invokevirtual 105, 3) := by decide +kernel
theorem dX7_isHeldBack_15 : decode cX7_isHeldBack 15 = .ok (.istore 4, 2) := by decide +kernel
theorem dX7_isHeldBack_17 : decode cX7_isHeldBack 17 = .ok (.iload 4, 2) := by decide +kernel
theorem dX7_isHeldBack_19 : decode cX7_isHeldBack 19 = .ok (.iconst (-1), 1) := by decide +kernel
theorem dX7_isHeldBack_20 : decode cX7_isHeldBack 20 = .ok (.if_icmp .ne 7, 3) := by decide +kernel
theorem dX7_isHeldBack_23 : decode cX7_isHeldBack 23 = .ok (.iconst 0, 1) := by decide +kernel
theorem dX7_isHeldBack_24 : decode cX7_isHeldBack 24 = .ok (.goto 10, 3) := by decide +kernel
theorem dX7_isHeldBack_27 : decode cX7_isHeldBack 27 = .ok (.aload_n 0, 1) := by decide +kernel
theorem dX7_isHeldBack_28 : decode cX7_isHeldBack 28 = .ok (.getfield 39, 3) := by decide +kernel
theorem dX7_isHeldBack_31 : decode cX7_isHeldBack 31 = .ok (.iload 4, 2) := by decide +kernel
theorem dX7_isHeldBack_33 : decode cX7_isHeldBack 33 = .ok (.iaload, 1) := by decide +kernel
theorem dX7_isHeldBack_34 : decode cX7_isHeldBack 34 = .ok (.istore 5, 2) := by decide +kernel
theorem dX7_isHeldBack_36 : decode cX7_isHeldBack 36 = .ok (.aload_n 0, 1) := by decide +kernel
theorem dX7_isHeldBack_37 : decode cX7_isHeldBack 37 = .ok (.iconst 1, 1) := by decide +kernel
theorem dX7_isHeldBack_38 : decode cX7_isHeldBack 38 = .ok (.iload_n 1, 1) := by decide +kernel
theorem dX7_isHeldBack_39 : decode cX7_isHeldBack 39 = .ok (.iconst 1, 1) := by decide +kernel
theorem dX7_isHeldBack_40 : decode cX7_isHeldBack 40 = .ok (.isub, 1) := by decide +kernel
theorem dX7_isHeldBack_41 : decode cX7_isHeldBack 41 = .ok (.iconst (-1), 1) := by decide +kernel
theorem dX7_isHeldBack_42 : decode cX7_isHeldBack 42 = .ok (.invokevirtual 109, 3) := by decide +kernel
theorem dX7_isHeldBack_45 : decode cX7_isHeldBack 45 = .ok (.iload_n 2, 1) := by decide +kernel
theorem dX7_isHeldBack_46 : decode cX7_isHeldBack 46 = .ok (.if_icmp .ne 14, 3) := by decide +kernel
theorem dX7_isHeldBack_49 : decode cX7_isHeldBack 49 = .ok (.aload_n 0, 1) := by decide +kernel
theorem dX7_isHeldBack_50 : decode cX7_isHeldBack 50 = .ok (.getfield 120, 3) := by decide +kernel
theorem dX7_isHeldBack_53 : decode cX7_isHeldBack 53 = .ok (.iload 5, 2) := by decide +kernel
theorem dX7_isHeldBack_55 : decode cX7_isHeldBack 55 = .ok (.isub, 1) := by decide +kernel
theorem dX7_isHeldBack_56 : decode cX7_isHeldBack 56 = .ok (.iconst 2, 1) := by decide +kernel
theorem dX7_isHeldBack_57 : decode cX7_isHeldBack 57 = .ok (.if_icmp .ge 7, 3) := by decide +kernel
theorem dX7_isHeldBack_60 : decode cX7_isHeldBack 60 = .ok (.iconst 1, 1) := by decide +kernel
theorem dX7_isHeldBack_61 : decode cX7_isHeldBack 61 = .ok (.goto 4, 3) := by decide +kernel
theorem dX7_isHeldBack_64 : decode cX7_isHeldBack 64 = .ok (.iconst 0, 1) := by decide +kernel
theorem dX7_isHeldBack_65 : decode cX7_isHeldBack 65 = .ok (.istore_n 3, 1) := by decide +kernel
theorem dX7_isHeldBack_66 : decode cX7_isHeldBack 66 = .ok (.iconst 0, 1) := by decide +kernel
theorem dX7_isHeldBack_67 : decode cX7_isHeldBack 67 = .ok (.istore 4, 2) := by decide +kernel
theorem dX7_isHeldBack_69 : decode cX7_isHeldBack 69 = .ok (.iload 4, 2) := by decide +kernel
theorem dX7_isHeldBack_71 : decode cX7_isHeldBack 71 = .ok (.iload_n 1, 1) := by decide +kernel
theorem dX7_isHeldBack_72 : decode cX7_isHeldBack 72 = .ok (.if_icmp .ge 29, 3) := by decide +kernel
theorem dX7_isHeldBack_75 : decode cX7_isHeldBack 75 = .ok (.iload_n 3, 1) := by decide +kernel
theorem dX7_isHeldBack_76 : decode cX7_isHeldBack 76 = .ok (.ifCond .ne 13, 3) := by decide +kernel
theorem dX7_isHeldBack_79 : decode cX7_isHeldBack 79 = .ok (.aload_n 0, 1) := by decide +kernel
theorem dX7_isHeldBack_80 : decode cX7_isHeldBack 80 = .ok (.iload 4, 2) := by decide +kernel
theorem dX7_isHeldBack_82 : decode cX7_isHeldBack 82 = .ok (.invokevirtual 133, 3) := by decide +kernel
theorem dX7_isHeldBack_85 : decode cX7_isHeldBack 85 = .ok (.iconst (-1), 1) := by decide +kernel
theorem dX7_isHeldBack_86 : decode cX7_isHeldBack 86 = .ok (.if_icmp .eq 7, 3) := by decide +kernel
theorem dX7_isHeldBack_89 : decode cX7_isHeldBack 89 = .ok (.iconst 1, 1) := by decide +kernel
theorem dX7_isHeldBack_90 : decode cX7_isHeldBack 90 = .ok (.goto 4, 3) := by decide +kernel
theorem dX7_isHeldBack_93 : decode cX7_isHeldBack 93 = .ok (.iconst 0, 1) := by decide +kernel
theorem dX7_isHeldBack_94 : decode cX7_isHeldBack 94 = .ok (.istore_n 3, 1) := by decide +kernel
theorem dX7_isHeldBack_95 : decode cX7_isHeldBack 95 = .ok (.iinc 4 1, 3) := by decide +kernel
theorem dX7_isHeldBack_98 : decode cX7_isHeldBack 98 = .ok (.goto (-29), 3) := by decide +kernel
theorem dX7_isHeldBack_101 : decode cX7_isHeldBack 101 = .ok (.iload_n 3, 1) := by decide +kernel
theorem dX7_isHeldBack_102 : decode cX7_isHeldBack 102 = .ok (.ireturn, 1) := by decide +kernel
set_option maxRecDepth 20000 in
theorem ggX7_roll_X7_isPerson : GoodIn wsX7_roll wsX7_isPerson := goodIn_r _ [6, 7, 8, 5, 9] (by decide +kernel) (by decide +kernel)
set_option maxRecDepth 20000 in
theorem gX7_roll_X7_isPerson : GoodIn wsX7_roll (va_wsS RX7 123 yX7_isPerson wsX7_isPerson) := goodIn_app (goodIn_of _ (by decide +kernel)) ggX7_roll_X7_isPerson
set_option maxRecDepth 20000 in
theorem ggX7_roll_X7_isRing : GoodIn wsX7_roll wsX7_isRing := goodIn_r _ [12, 7, 8, 5, 9] (by decide +kernel) (by decide +kernel)
set_option maxRecDepth 20000 in
theorem gX7_roll_X7_isRing : GoodIn wsX7_roll (va_wsS RX7 136 yX7_isRing wsX7_isRing) := goodIn_app (goodIn_of _ (by decide +kernel)) ggX7_roll_X7_isRing
set_option maxRecDepth 20000 in
theorem ggX7_roll_X7_isVersion : GoodIn wsX7_roll wsX7_isVersion := goodIn_r _ [16, 17, 7, 8, 5, 9, 52, 53, 54, 55, 56, 57, 58, 59, 60, 61, 62, 63, 64, 65, 66, 67, 68, 69, 70, 71, 72, 73, 74, 75, 76, 77] (by decide +kernel) (by decide +kernel)
set_option maxRecDepth 20000 in
theorem gX7_roll_X7_isVersion : GoodIn wsX7_roll (wsV RX7 85 RX7 yX7_isVersion wsX7_isVersion) := goodIn_app (goodIn_of _ (by decide +kernel)) ggX7_roll_X7_isVersion
set_option maxRecDepth 20000 in
theorem ggX7_roll_X7_rested : GoodIn wsX7_roll wsX7_rested := goodIn_r _ [21, 22, 23, 52, 53, 54, 55, 56, 57, 58, 59, 60, 61, 62, 63, 64, 65, 66, 67, 68, 69, 70, 71, 72, 73, 74, 75, 76, 77] (by decide +kernel) (by decide +kernel)
set_option maxRecDepth 20000 in
theorem gX7_roll_X7_rested : GoodIn wsX7_roll (wsV RX7 126 RX7 yX7_rested wsX7_rested) := goodIn_app (goodIn_of _ (by decide +kernel)) ggX7_roll_X7_rested
set_option maxRecDepth 20000 in
theorem ggX7_roll_X7_valueOf : GoodIn wsX7_roll wsX7_valueOf := goodIn_r _ [27, 28, 29, 30, 31, 5, 32, 2, 33, 34, 52, 53, 54, 55, 56, 57, 58, 59, 60, 61, 62, 63, 64, 65, 66, 67, 68, 69, 70, 71, 72, 73, 74, 75, 76, 77] (by decide +kernel) (by decide +kernel)
set_option maxRecDepth 20000 in
theorem gX7_roll_X7_valueOf : GoodIn wsX7_roll (wsV RX7 109 RX7 yX7_valueOf wsX7_valueOf) := goodIn_app (goodIn_of _ (by decide +kernel)) ggX7_roll_X7_valueOf
set_option maxRecDepth 20000 in
theorem ggX7_roll_X7_isHeldBack : GoodIn wsX7_roll wsX7_isHeldBack := goodIn_r _ [38, 39, 23, 29, 30, 31, 5, 32, 2, 33, 34, 24, 25, 26, 27, 28, 40, 41, 42, 43, 44, 45, 46, 52, 53, 54, 55, 56, 57, 58, 59, 60, 61, 62, 63, 64, 65, 66, 67, 68, 69, 70, 71, 72, 73, 74, 75, 76, 77] (by decide +kernel) (by decide +kernel)
set_option maxRecDepth 20000 in
theorem gX7_roll_X7_isHeldBack : GoodIn wsX7_roll (wsV RX7 139 RX7 yX7_isHeldBack wsX7_isHeldBack) := goodIn_app (goodIn_of _ (by decide +kernel)) ggX7_roll_X7_isHeldBack
set_option maxRecDepth 20000 in
theorem ggX7_roll_X7_makes : GoodIn wsX7_roll wsX7_makes := goodIn_r _ [50, 51, 2, 33, 34, 28, 39, 23, 52, 53, 54, 55, 56, 57, 58, 59, 60, 61, 62, 63, 64, 65, 66, 67, 68, 69, 70, 71, 72, 73, 74, 75, 76, 77] (by decide +kernel) (by decide +kernel)
set_option maxRecDepth 20000 in
theorem gX7_roll_X7_makes : GoodIn wsX7_roll (wsV RX7 129 RX7 yX7_makes wsX7_makes) := goodIn_app (goodIn_of _ (by decide +kernel)) ggX7_roll_X7_makes
theorem dX7_roll_0 : decode cX7_roll 0 = .ok (.aload_n 0, 1) := by decide +kernel
theorem dX7_roll_1 : decode cX7_roll 1 = .ok (.iload_n 1, 1) := by decide +kernel
theorem dX7_roll_2 : decode cX7_roll 2 = .ok (.invokestatic 123, 3) := by decide +kernel
theorem dX7_roll_5 : decode cX7_roll 5 = .ok (.ifCond .eq 18, 3) := by decide +kernel
theorem dX7_roll_8 : decode cX7_roll 8 = .ok (.iload_n 2, 1) := by decide +kernel
theorem dX7_roll_9 : decode cX7_roll 9 = .ok (.invokestatic 136, 3) := by decide +kernel
theorem dX7_roll_12 : decode cX7_roll 12 = .ok (.ifCond .eq 11, 3) := by decide +kernel
theorem dX7_roll_15 : decode cX7_roll 15 = .ok (.aload_n 0, 1) := by decide +kernel
theorem dX7_roll_16 : decode cX7_roll 16 = .ok (.iload_n 3, 1) := by decide +kernel
theorem dX7_roll_17 : decode cX7_roll 17 = .ok (.invokevirtual 85, 3) := by decide +kernel
theorem dX7_roll_20 : decode cX7_roll 20 = .ok (.ifCond .ne 7, 3) := by decide +kernel
theorem dX7_roll_23 : decode cX7_roll 23 = .ok (.iconst 1, 1) := by decide +kernel
theorem dX7_roll_24 : decode cX7_roll 24 = .ok (.goto 4, 3) := by decide +kernel
theorem dX7_roll_27 : decode cX7_roll 27 = .ok (.iconst 0, 1) := by decide +kernel
theorem dX7_roll_28 : decode cX7_roll 28 = .ok (.putfield 72, 3) := by decide +kernel
theorem dX7_roll_31 : decode cX7_roll 31 = .ok (.aload_n 0, 1) := by decide +kernel
theorem dX7_roll_32 : decode cX7_roll 32 = .ok (.getfield 72, 3) := by decide +kernel
theorem dX7_roll_35 : decode cX7_roll 35 = .ok (.ifCond .le 5, 3) := by decide +kernel
theorem dX7_roll_38 : decode cX7_roll 38 = .ok (.iconst 0, 1) := by decide +kernel
theorem dX7_roll_39 : decode cX7_roll 39 = .ok (.ireturn, 1) := by decide +kernel
theorem dX7_roll_40 : decode cX7_roll 40 = .ok (.aload_n 0, 1) := by decide +kernel
theorem dX7_roll_41 : decode cX7_roll 41 = .ok (.iload_n 1, 1) := by decide +kernel
theorem dX7_roll_42 : decode cX7_roll 42 = .ok (.invokevirtual 126, 3) := by decide +kernel
theorem dX7_roll_45 : decode cX7_roll 45 = .ok (.ifCond .ne 33, 3) := by decide +kernel
theorem dX7_roll_48 : decode cX7_roll 48 = .ok (.aload_n 0, 1) := by decide +kernel
theorem dX7_roll_49 : decode cX7_roll 49 = .ok (.iconst 1, 1) := by decide +kernel
theorem dX7_roll_50 : decode cX7_roll 50 = .ok (.iload_n 2, 1) := by decide +kernel
theorem dX7_roll_51 : decode cX7_roll 51 = .ok (.iconst (-1), 1) := by decide +kernel
theorem dX7_roll_52 : decode cX7_roll 52 = .ok (.invokevirtual 109, 3) := by decide +kernel
theorem dX7_roll_55 : decode cX7_roll 55 = .ok (.iload_n 3, 1) := by decide +kernel
theorem dX7_roll_56 : decode cX7_roll 56 = .ok (.if_icmp .eq 22, 3) := by decide +kernel
theorem dX7_roll_59 : decode cX7_roll 59 = .ok (.aload_n 0, 1) := by decide +kernel
theorem dX7_roll_60 : decode cX7_roll 60 = .ok (.getfield 79, 3) := by decide +kernel
theorem dX7_roll_63 : decode cX7_roll 63 = .ok (.sipush 200, 3) := by decide +kernel
theorem dX7_roll_66 : decode cX7_roll 66 = .ok (.if_icmp .eq 12, 3) := by decide +kernel
theorem dX7_roll_69 : decode cX7_roll 69 = .ok (.aload_n 0, 1) := by decide +kernel
theorem dX7_roll_70 : decode cX7_roll 70 = .ok (.iload_n 2, 1) := by decide +kernel
theorem dX7_roll_71 : decode cX7_roll 71 = .ok (.iload_n 3, 1) := by decide +kernel
theorem dX7_roll_72 : decode cX7_roll 72 = .ok (.invokevirtual 139, 3) := by decide +kernel
theorem dX7_roll_75 : decode cX7_roll 75 = .ok (.ifCond .eq 7, 3) := by decide +kernel
theorem dX7_roll_78 : decode cX7_roll 78 = .ok (.iconst 1, 1) := by decide +kernel
theorem dX7_roll_79 : decode cX7_roll 79 = .ok (.goto 4, 3) := by decide +kernel
theorem dX7_roll_82 : decode cX7_roll 82 = .ok (.iconst 0, 1) := by decide +kernel
theorem dX7_roll_83 : decode cX7_roll 83 = .ok (.istore 4, 2) := by decide +kernel
theorem dX7_roll_85 : decode cX7_roll 85 = .ok (.aload_n 0, 1) := by decide +kernel
theorem dX7_roll_86 : decode cX7_roll 86 = .ok (.iload 4, 2) := by decide +kernel
theorem dX7_roll_88 : decode cX7_roll 88 = .ok (.ifCond .eq 7, 3) := by decide +kernel
theorem dX7_roll_91 : decode cX7_roll 91 = .ok (.iconst 2, 1) := by decide +kernel
theorem dX7_roll_92 : decode cX7_roll 92 = .ok (.goto 4, 3) := by decide +kernel
theorem dX7_roll_95 : decode cX7_roll 95 = .ok (.iconst 0, 1) := by decide +kernel
theorem dX7_roll_96 : decode cX7_roll 96 = .ok (.putfield 72, 3) := by decide +kernel
theorem dX7_roll_99 : decode cX7_roll 99 = .ok (.aload_n 0, 1) := by decide +kernel
theorem dX7_roll_100 : decode cX7_roll 100 = .ok (.getfield 72, 3) := by decide +kernel
theorem dX7_roll_103 : decode cX7_roll 103 = .ok (.ifCond .le 7, 3) := by decide +kernel
theorem dX7_roll_106 : decode cX7_roll 106 = .ok (.iconst 0, 1) := by decide +kernel
theorem dX7_roll_107 : decode cX7_roll 107 = .ok (.goto 11, 3) := by decide +kernel
theorem dX7_roll_110 : decode cX7_roll 110 = .ok (.aload_n 0, 1) := by decide +kernel
theorem dX7_roll_111 : decode cX7_roll 111 = .ok (.iload_n 1, 1) := by decide +kernel
theorem dX7_roll_112 : decode cX7_roll 112 = .ok (.iconst 1, 1) := by decide +kernel
theorem dX7_roll_113 : decode cX7_roll 113 = .ok (.iload_n 2, 1) := by decide +kernel
theorem dX7_roll_114 : decode cX7_roll 114 = .ok (.iload_n 3, 1) := by decide +kernel
theorem dX7_roll_115 : decode cX7_roll 115 = .ok (.invokevirtual 129, 3) := by decide +kernel
theorem dX7_roll_118 : decode cX7_roll 118 = .ok (.ireturn, 1) := by decide +kernel
set_option maxRecDepth 20000 in
theorem ggX7_revert_X7_isPerson : GoodIn wsX7_revert wsX7_isPerson := goodIn_r _ [8, 9, 10, 7, 11] (by decide +kernel) (by decide +kernel)
set_option maxRecDepth 20000 in
theorem gX7_revert_X7_isPerson : GoodIn wsX7_revert (va_wsS RX7 123 yX7_isPerson wsX7_isPerson) := goodIn_app (goodIn_of _ (by decide +kernel)) ggX7_revert_X7_isPerson
set_option maxRecDepth 20000 in
theorem ggX7_revert_X7_isChange : GoodIn wsX7_revert wsX7_isChange := goodIn_r _ [15, 4, 9, 10, 7, 11, 37, 38, 39, 40, 41, 42, 43, 44, 45, 46, 47, 48, 49, 50, 51, 52, 53, 54, 55, 56, 57, 58, 59, 60, 61, 62] (by decide +kernel) (by decide +kernel)
set_option maxRecDepth 20000 in
theorem gX7_revert_X7_isChange : GoodIn wsX7_revert (wsV RX7 142 RX7 yX7_isChange wsX7_isChange) := goodIn_app (goodIn_of _ (by decide +kernel)) ggX7_revert_X7_isChange
set_option maxRecDepth 20000 in
theorem ggX7_revert_X7_rested : GoodIn wsX7_revert wsX7_rested := goodIn_r _ [19, 20, 21, 37, 38, 39, 40, 41, 42, 43, 44, 45, 46, 47, 48, 49, 50, 51, 52, 53, 54, 55, 56, 57, 58, 59, 60, 61, 62] (by decide +kernel) (by decide +kernel)
set_option maxRecDepth 20000 in
theorem gX7_revert_X7_rested : GoodIn wsX7_revert (wsV RX7 126 RX7 yX7_rested wsX7_rested) := goodIn_app (goodIn_of _ (by decide +kernel)) ggX7_revert_X7_rested
set_option maxRecDepth 20000 in
theorem ggX7_revert_X7_latest : GoodIn wsX7_revert wsX7_latest := goodIn_r _ [25, 4, 2, 3, 37, 38, 39, 40, 41, 42, 43, 44, 45, 46, 47, 48, 49, 50, 51, 52, 53, 54, 55, 56, 57, 58, 59, 60, 61, 62] (by decide +kernel) (by decide +kernel)
set_option maxRecDepth 20000 in
theorem gX7_revert_X7_latest : GoodIn wsX7_revert (wsV RX7 105 RX7 yX7_latest wsX7_latest) := goodIn_app (goodIn_of _ (by decide +kernel)) ggX7_revert_X7_latest
set_option maxRecDepth 20000 in
theorem ggX7_revert_X7_valueOf : GoodIn wsX7_revert wsX7_valueOf := goodIn_r _ [29, 30, 22, 23, 24, 7, 25, 4, 2, 3, 37, 38, 39, 40, 41, 42, 43, 44, 45, 46, 47, 48, 49, 50, 51, 52, 53, 54, 55, 56, 57, 58, 59, 60, 61, 62] (by decide +kernel) (by decide +kernel)
set_option maxRecDepth 20000 in
theorem gX7_revert_X7_valueOf : GoodIn wsX7_revert (wsV RX7 109 RX7 yX7_valueOf wsX7_valueOf) := goodIn_app (goodIn_of _ (by decide +kernel)) ggX7_revert_X7_valueOf
set_option maxRecDepth 20000 in
theorem ggX7_revert_X7_makes : GoodIn wsX7_revert wsX7_makes := goodIn_r _ [34, 35, 4, 2, 3, 30, 36, 21, 37, 38, 39, 40, 41, 42, 43, 44, 45, 46, 47, 48, 49, 50, 51, 52, 53, 54, 55, 56, 57, 58, 59, 60, 61, 62] (by decide +kernel) (by decide +kernel)
set_option maxRecDepth 20000 in
theorem gX7_revert_X7_makes : GoodIn wsX7_revert (wsV RX7 129 RX7 yX7_makes wsX7_makes) := goodIn_app (goodIn_of _ (by decide +kernel)) ggX7_revert_X7_makes
theorem dX7_revert_0 : decode cX7_revert 0 = .ok (.aload_n 0, 1) := by decide +kernel
theorem dX7_revert_1 : decode cX7_revert 1 = .ok (.iload_n 1, 1) := by decide +kernel
theorem dX7_revert_2 : decode cX7_revert 2 = .ok (.invokestatic 123, 3) := by decide +kernel
theorem dX7_revert_5 : decode cX7_revert 5 = .ok (.ifCond .eq 15, 3) := by decide +kernel
theorem dX7_revert_8 : decode cX7_revert 8 = .ok (.aload_n 0, 1) := by decide +kernel
theorem dX7_revert_9 : decode cX7_revert 9 = .ok (.iload_n 2, 1) := by decide +kernel
theorem dX7_revert_10 : decode cX7_revert 10 = .ok (.invokevirtual 142, 3) := by decide +kernel
theorem dX7_revert_13 : decode cX7_revert 13 = .ok (.ifCond .eq 7, 3) := by decide +kernel
theorem dX7_revert_16 : decode cX7_revert 16 = .ok (.iconst 0, 1) := by decide +kernel
theorem dX7_revert_17 : decode cX7_revert 17 = .ok (.goto 4, 3) := by decide +kernel
theorem dX7_revert_20 : decode cX7_revert 20 = .ok (.iconst 1, 1) := by decide +kernel
theorem dX7_revert_21 : decode cX7_revert 21 = .ok (.putfield 72, 3) := by decide +kernel
theorem dX7_revert_24 : decode cX7_revert 24 = .ok (.aload_n 0, 1) := by decide +kernel
theorem dX7_revert_25 : decode cX7_revert 25 = .ok (.getfield 72, 3) := by decide +kernel
theorem dX7_revert_28 : decode cX7_revert 28 = .ok (.ifCond .le 5, 3) := by decide +kernel
theorem dX7_revert_31 : decode cX7_revert 31 = .ok (.iconst 0, 1) := by decide +kernel
theorem dX7_revert_32 : decode cX7_revert 32 = .ok (.ireturn, 1) := by decide +kernel
theorem dX7_revert_33 : decode cX7_revert 33 = .ok (.aload_n 0, 1) := by decide +kernel
theorem dX7_revert_34 : decode cX7_revert 34 = .ok (.iload_n 1, 1) := by decide +kernel
theorem dX7_revert_35 : decode cX7_revert 35 = .ok (.invokevirtual 126, 3) := by decide +kernel
theorem dX7_revert_38 : decode cX7_revert 38 = .ok (.ifCond .ne 34, 3) := by decide +kernel
theorem dX7_revert_41 : decode cX7_revert 41 = .ok (.aload_n 0, 1) := by decide +kernel
theorem dX7_revert_42 : decode cX7_revert 42 = .ok (.aload_n 0, 1) := by decide +kernel
theorem dX7_revert_43 : decode cX7_revert 43 = .ok (.getfield 30, 3) := by decide +kernel
theorem dX7_revert_46 : decode cX7_revert 46 = .ok (.iload_n 2, 1) := by decide +kernel
theorem dX7_revert_47 : decode cX7_revert 47 = .ok (.iaload, 1) := by decide +kernel
theorem dX7_revert_48 : decode cX7_revert 48 = .ok (.aload_n 0, 1) := by decide +kernel
theorem dX7_revert_49 : decode cX7_revert 49 = .ok (.getfield 33, 3) := by decide +kernel
theorem dX7_revert_52 : decode cX7_revert 52 = .ok (.iload_n 2, 1) := by decide +kernel
theorem dX7_revert_53 : decode cX7_revert 53 = .ok (.iaload, 1) := by decide +kernel
theorem dX7_revert_54 : decode cX7_revert 54 = .ok (.iconst (-1), 1) := by decide +kernel
theorem dX7_revert_55 : decode cX7_revert 55 = .ok (.invokevirtual 105, 3) := by decide +kernel
theorem dX7_revert_58 : decode cX7_revert 58 = .ok (.iload_n 2, 1) := by decide +kernel
theorem dX7_revert_59 : decode cX7_revert 59 = .ok (.if_icmp .ne 13, 3) := by decide +kernel
theorem dX7_revert_62 : decode cX7_revert 62 = .ok (.aload_n 0, 1) := by decide +kernel
theorem dX7_revert_63 : decode cX7_revert 63 = .ok (.getfield 79, 3) := by decide +kernel
theorem dX7_revert_66 : decode cX7_revert 66 = .ok (.sipush 200, 3) := by decide +kernel
theorem dX7_revert_69 : decode cX7_revert 69 = .ok (.if_icmp .ne 7, 3) := by decide +kernel
theorem dX7_revert_72 : decode cX7_revert 72 = .ok (.iconst 1, 1) := by decide +kernel
theorem dX7_revert_73 : decode cX7_revert 73 = .ok (.goto 4, 3) := by decide +kernel
theorem dX7_revert_76 : decode cX7_revert 76 = .ok (.iconst 0, 1) := by decide +kernel
theorem dX7_revert_77 : decode cX7_revert 77 = .ok (.istore_n 3, 1) := by decide +kernel
theorem dX7_revert_78 : decode cX7_revert 78 = .ok (.aload_n 0, 1) := by decide +kernel
theorem dX7_revert_79 : decode cX7_revert 79 = .ok (.iload_n 3, 1) := by decide +kernel
theorem dX7_revert_80 : decode cX7_revert 80 = .ok (.ifCond .eq 7, 3) := by decide +kernel
theorem dX7_revert_83 : decode cX7_revert 83 = .ok (.iconst 2, 1) := by decide +kernel
theorem dX7_revert_84 : decode cX7_revert 84 = .ok (.goto 4, 3) := by decide +kernel
theorem dX7_revert_87 : decode cX7_revert 87 = .ok (.iconst 0, 1) := by decide +kernel
theorem dX7_revert_88 : decode cX7_revert 88 = .ok (.putfield 72, 3) := by decide +kernel
theorem dX7_revert_91 : decode cX7_revert 91 = .ok (.aload_n 0, 1) := by decide +kernel
theorem dX7_revert_92 : decode cX7_revert 92 = .ok (.getfield 72, 3) := by decide +kernel
theorem dX7_revert_95 : decode cX7_revert 95 = .ok (.ifCond .le 7, 3) := by decide +kernel
theorem dX7_revert_98 : decode cX7_revert 98 = .ok (.iconst 0, 1) := by decide +kernel
theorem dX7_revert_99 : decode cX7_revert 99 = .ok (.goto 37, 3) := by decide +kernel
theorem dX7_revert_102 : decode cX7_revert 102 = .ok (.aload_n 0, 1) := by decide +kernel
theorem dX7_revert_103 : decode cX7_revert 103 = .ok (.iload_n 1, 1) := by decide +kernel
theorem dX7_revert_104 : decode cX7_revert 104 = .ok (.aload_n 0, 1) := by decide +kernel
theorem dX7_revert_105 : decode cX7_revert 105 = .ok (.getfield 30, 3) := by decide +kernel
theorem dX7_revert_108 : decode cX7_revert 108 = .ok (.iload_n 2, 1) := by decide +kernel
theorem dX7_revert_109 : decode cX7_revert 109 = .ok (.iaload, 1) := by decide +kernel
theorem dX7_revert_110 : decode cX7_revert 110 = .ok (.aload_n 0, 1) := by decide +kernel
theorem dX7_revert_111 : decode cX7_revert 111 = .ok (.getfield 33, 3) := by decide +kernel
theorem dX7_revert_114 : decode cX7_revert 114 = .ok (.iload_n 2, 1) := by decide +kernel
theorem dX7_revert_115 : decode cX7_revert 115 = .ok (.iaload, 1) := by decide +kernel
theorem dX7_revert_116 : decode cX7_revert 116 = .ok (.aload_n 0, 1) := by decide +kernel
theorem dX7_revert_117 : decode cX7_revert 117 = .ok (.aload_n 0, 1) := by decide +kernel
theorem dX7_revert_118 : decode cX7_revert 118 = .ok (.getfield 30, 3) := by decide +kernel
theorem dX7_revert_121 : decode cX7_revert 121 = .ok (.iload_n 2, 1) := by decide +kernel
theorem dX7_revert_122 : decode cX7_revert 122 = .ok (.iaload, 1) := by decide +kernel
theorem dX7_revert_123 : decode cX7_revert 123 = .ok (.aload_n 0, 1) := by decide +kernel
theorem dX7_revert_124 : decode cX7_revert 124 = .ok (.getfield 33, 3) := by decide +kernel
theorem dX7_revert_127 : decode cX7_revert 127 = .ok (.iload_n 2, 1) := by decide +kernel
theorem dX7_revert_128 : decode cX7_revert 128 = .ok (.iaload, 1) := by decide +kernel
theorem dX7_revert_129 : decode cX7_revert 129 = .ok (.iload_n 2, 1) := by decide +kernel
theorem dX7_revert_130 : decode cX7_revert 130 = .ok (.invokevirtual 109, 3) := by decide +kernel
theorem dX7_revert_133 : decode cX7_revert 133 = .ok (.invokevirtual 129, 3) := by decide +kernel
theorem dX7_revert_136 : decode cX7_revert 136 = .ok (.ireturn, 1) := by decide +kernel
theorem dX7_nearOf_0 : decode cX7_nearOf 0 = .ok (.iconst (-1), 1) := by decide +kernel
theorem dX7_nearOf_1 : decode cX7_nearOf 1 = .ok (.istore_n 3, 1) := by decide +kernel
theorem dX7_nearOf_2 : decode cX7_nearOf 2 = .ok (.iconst 0, 1) := by decide +kernel
theorem dX7_nearOf_3 : decode cX7_nearOf 3 = .ok (.istore 4, 2) := by decide +kernel
theorem dX7_nearOf_5 : decode cX7_nearOf 5 = .ok (.iload 4, 2) := by decide +kernel
theorem dX7_nearOf_7 : decode cX7_nearOf 7 = .ok (.iload_n 2, 1) := by decide +kernel
theorem dX7_nearOf_8 : decode cX7_nearOf 8 = .ok (.if_icmp .ge 27, 3) := by decide +kernel
theorem dX7_nearOf_11 : decode cX7_nearOf 11 = .ok (.aload_n 0, 1) := by decide +kernel
theorem dX7_nearOf_12 : decode cX7_nearOf 12 = .ok (.getfield 42, 3) := by decide +kernel
theorem dX7_nearOf_15 : decode cX7_nearOf 15 = .ok (.iload 4, 2) := by decide +kernel
theorem dX7_nearOf_17 : decode cX7_nearOf 17 = .ok (.iaload, 1) := by decide +kernel
theorem dX7_nearOf_18 : decode cX7_nearOf 18 = .ok (.iload_n 1, 1) := by decide +kernel
theorem dX7_nearOf_19 : decode cX7_nearOf 19 = .ok (.if_icmp .ne 8, 3) := by decide +kernel
theorem dX7_nearOf_22 : decode cX7_nearOf 22 = .ok (.iload 4, 2) := by decide +kernel
theorem dX7_nearOf_24 : decode cX7_nearOf 24 = .ok (.goto 4, 3) := by decide +kernel
theorem dX7_nearOf_27 : decode cX7_nearOf 27 = .ok (.iload_n 3, 1) := by decide +kernel
theorem dX7_nearOf_28 : decode cX7_nearOf 28 = .ok (.istore_n 3, 1) := by decide +kernel
theorem dX7_nearOf_29 : decode cX7_nearOf 29 = .ok (.iinc 4 1, 3) := by decide +kernel
theorem dX7_nearOf_32 : decode cX7_nearOf 32 = .ok (.goto (-27), 3) := by decide +kernel
theorem dX7_nearOf_35 : decode cX7_nearOf 35 = .ok (.iload_n 3, 1) := by decide +kernel
theorem dX7_nearOf_36 : decode cX7_nearOf 36 = .ok (.iconst (-1), 1) := by decide +kernel
theorem dX7_nearOf_37 : decode cX7_nearOf 37 = .ok (.if_icmp .ne 9, 3) := by decide +kernel
theorem dX7_nearOf_40 : decode cX7_nearOf 40 = .ok (.iload_n 2, 1) := by decide +kernel
theorem dX7_nearOf_41 : decode cX7_nearOf 41 = .ok (.iconst 1, 1) := by decide +kernel
theorem dX7_nearOf_42 : decode cX7_nearOf 42 = .ok (.iadd, 1) := by decide +kernel
theorem dX7_nearOf_43 : decode cX7_nearOf 43 = .ok (.goto 6, 3) := by decide +kernel
theorem dX7_nearOf_46 : decode cX7_nearOf 46 = .ok (.iload_n 2, 1) := by decide +kernel
theorem dX7_nearOf_47 : decode cX7_nearOf 47 = .ok (.iload_n 3, 1) := by decide +kernel
theorem dX7_nearOf_48 : decode cX7_nearOf 48 = .ok (.isub, 1) := by decide +kernel
theorem dX7_nearOf_49 : decode cX7_nearOf 49 = .ok (.aload_n 0, 1) := by decide +kernel
theorem dX7_nearOf_50 : decode cX7_nearOf 50 = .ok (.getfield 45, 3) := by decide +kernel
theorem dX7_nearOf_53 : decode cX7_nearOf 53 = .ok (.iload_n 1, 1) := by decide +kernel
theorem dX7_nearOf_54 : decode cX7_nearOf 54 = .ok (.iaload, 1) := by decide +kernel
theorem dX7_nearOf_55 : decode cX7_nearOf 55 = .ok (.iadd, 1) := by decide +kernel
theorem dX7_nearOf_56 : decode cX7_nearOf 56 = .ok (.ireturn, 1) := by decide +kernel
set_option maxRecDepth 20000 in
theorem ggX7_begins_X7_nearOf : GoodIn wsX7_begins wsX7_nearOf := goodIn_r _ [7, 2, 1, 8, 9, 10, 11, 12, 13, 14, 15, 16, 17, 18, 19, 20, 21, 22, 23, 24, 25, 26, 27, 28, 29, 30, 31, 32, 33] (by decide +kernel) (by decide +kernel)
set_option maxRecDepth 20000 in
theorem gX7_begins_X7_nearOf : GoodIn wsX7_begins (wsV RX7 145 RX7 yX7_nearOf wsX7_nearOf) := goodIn_app (goodIn_of _ (by decide +kernel)) ggX7_begins_X7_nearOf
theorem dX7_begins_0 : decode cX7_begins 0 = .ok (.aload_n 0, 1) := by decide +kernel
theorem dX7_begins_1 : decode cX7_begins 1 = .ok (.getfield 45, 3) := by decide +kernel
theorem dX7_begins_4 : decode cX7_begins 4 = .ok (.aload_n 0, 1) := by decide +kernel
theorem dX7_begins_5 : decode cX7_begins 5 = .ok (.getfield 42, 3) := by decide +kernel
theorem dX7_begins_8 : decode cX7_begins 8 = .ok (.iload_n 1, 1) := by decide +kernel
theorem dX7_begins_9 : decode cX7_begins 9 = .ok (.iaload, 1) := by decide +kernel
theorem dX7_begins_10 : decode cX7_begins 10 = .ok (.iconst 0, 1) := by decide +kernel
theorem dX7_begins_11 : decode cX7_begins 11 = .ok (.iastore, 1) := by decide +kernel
theorem dX7_begins_12 : decode cX7_begins 12 = .ok (.iconst (-1), 1) := by decide +kernel
theorem dX7_begins_13 : decode cX7_begins 13 = .ok (.istore_n 2, 1) := by decide +kernel
theorem dX7_begins_14 : decode cX7_begins 14 = .ok (.iconst 5, 1) := by decide +kernel
theorem dX7_begins_15 : decode cX7_begins 15 = .ok (.istore_n 3, 1) := by decide +kernel
theorem dX7_begins_16 : decode cX7_begins 16 = .ok (.iload_n 3, 1) := by decide +kernel
theorem dX7_begins_17 : decode cX7_begins 17 = .ok (.ifCond .lt 61, 3) := by decide +kernel
theorem dX7_begins_20 : decode cX7_begins 20 = .ok (.iload_n 3, 1) := by decide +kernel
theorem dX7_begins_21 : decode cX7_begins 21 = .ok (.aload_n 0, 1) := by decide +kernel
theorem dX7_begins_22 : decode cX7_begins 22 = .ok (.getfield 42, 3) := by decide +kernel
theorem dX7_begins_25 : decode cX7_begins 25 = .ok (.iload_n 1, 1) := by decide +kernel
theorem dX7_begins_26 : decode cX7_begins 26 = .ok (.iaload, 1) := by decide +kernel
theorem dX7_begins_27 : decode cX7_begins 27 = .ok (.if_icmp .eq 31, 3) := by decide +kernel
theorem dX7_begins_30 : decode cX7_begins 30 = .ok (.iload_n 2, 1) := by decide +kernel
theorem dX7_begins_31 : decode cX7_begins 31 = .ok (.iconst (-1), 1) := by decide +kernel
theorem dX7_begins_32 : decode cX7_begins 32 = .ok (.if_icmp .eq 22, 3) := by decide +kernel
theorem dX7_begins_35 : decode cX7_begins 35 = .ok (.aload_n 0, 1) := by decide +kernel
theorem dX7_begins_36 : decode cX7_begins 36 = .ok (.iload_n 3, 1) := by decide +kernel
theorem dX7_begins_37 : decode cX7_begins 37 = .ok (.iload_n 1, 1) := by decide +kernel
theorem dX7_begins_38 : decode cX7_begins 38 = .ok (.iconst 1, 1) := by decide +kernel
theorem dX7_begins_39 : decode cX7_begins 39 = .ok (.iadd, 1) := by decide +kernel
theorem dX7_begins_40 : decode cX7_begins 40 = .ok (.invokevirtual 145, 3) := by decide +kernel
theorem dX7_begins_43 : decode cX7_begins 43 = .ok (.aload_n 0, 1) := by decide +kernel
theorem dX7_begins_44 : decode cX7_begins 44 = .ok (.iload_n 2, 1) := by decide +kernel
theorem dX7_begins_45 : decode cX7_begins 45 = .ok (.iload_n 1, 1) := by decide +kernel
theorem dX7_begins_46 : decode cX7_begins 46 = .ok (.iconst 1, 1) := by decide +kernel
theorem dX7_begins_47 : decode cX7_begins 47 = .ok (.iadd, 1) := by decide +kernel
theorem dX7_begins_48 : decode cX7_begins 48 = .ok (.invokevirtual 145, 3) := by decide +kernel
theorem dX7_begins_51 : decode cX7_begins 51 = .ok (.if_icmp .lt 7, 3) := by decide +kernel
theorem dX7_begins_54 : decode cX7_begins 54 = .ok (.iconst 1, 1) := by decide +kernel
theorem dX7_begins_55 : decode cX7_begins 55 = .ok (.goto 4, 3) := by decide +kernel
theorem dX7_begins_58 : decode cX7_begins 58 = .ok (.iconst 0, 1) := by decide +kernel
theorem dX7_begins_59 : decode cX7_begins 59 = .ok (.istore 4, 2) := by decide +kernel
theorem dX7_begins_61 : decode cX7_begins 61 = .ok (.iload 4, 2) := by decide +kernel
theorem dX7_begins_63 : decode cX7_begins 63 = .ok (.ifCond .eq 7, 3) := by decide +kernel
theorem dX7_begins_66 : decode cX7_begins 66 = .ok (.iload_n 3, 1) := by decide +kernel
theorem dX7_begins_67 : decode cX7_begins 67 = .ok (.goto 4, 3) := by decide +kernel
theorem dX7_begins_70 : decode cX7_begins 70 = .ok (.iload_n 2, 1) := by decide +kernel
theorem dX7_begins_71 : decode cX7_begins 71 = .ok (.istore_n 2, 1) := by decide +kernel
theorem dX7_begins_72 : decode cX7_begins 72 = .ok (.iinc 3 (-1), 3) := by decide +kernel
theorem dX7_begins_75 : decode cX7_begins 75 = .ok (.goto (-59), 3) := by decide +kernel
theorem dX7_begins_78 : decode cX7_begins 78 = .ok (.aload_n 0, 1) := by decide +kernel
theorem dX7_begins_79 : decode cX7_begins 79 = .ok (.getfield 42, 3) := by decide +kernel
theorem dX7_begins_82 : decode cX7_begins 82 = .ok (.iload_n 1, 1) := by decide +kernel
theorem dX7_begins_83 : decode cX7_begins 83 = .ok (.iconst 1, 1) := by decide +kernel
theorem dX7_begins_84 : decode cX7_begins 84 = .ok (.iadd, 1) := by decide +kernel
theorem dX7_begins_85 : decode cX7_begins 85 = .ok (.iload_n 2, 1) := by decide +kernel
theorem dX7_begins_86 : decode cX7_begins 86 = .ok (.iastore, 1) := by decide +kernel
theorem dX7_begins_87 : decode cX7_begins 87 = .ok (.return_, 1) := by decide +kernel
set_option maxRecDepth 20000 in
theorem ggX7_takeOver_X7_isPerson : GoodIn wsX7_takeOver wsX7_isPerson := goodIn_r _ [7, 8, 9, 6, 10] (by decide +kernel) (by decide +kernel)
set_option maxRecDepth 20000 in
theorem gX7_takeOver_X7_isPerson : GoodIn wsX7_takeOver (va_wsS RX7 123 yX7_isPerson wsX7_isPerson) := goodIn_app (goodIn_of _ (by decide +kernel)) ggX7_takeOver_X7_isPerson
set_option maxRecDepth 20000 in
theorem ggX7_takeOver_X7_fails : GoodIn wsX7_takeOver wsX7_fails := goodIn_r _ [14, 3, 15, 16, 17, 18, 19, 20, 21, 22, 23, 24, 25, 26, 27, 28, 29, 30, 31, 32, 33, 34, 35, 36, 37, 38, 39, 40] (by decide +kernel) (by decide +kernel)
set_option maxRecDepth 20000 in
theorem gX7_takeOver_X7_fails : GoodIn wsX7_takeOver (wsV RX7 99 RX7 yX7_fails wsX7_fails) := goodIn_app (goodIn_of _ (by decide +kernel)) ggX7_takeOver_X7_fails
theorem dX7_takeOver_0 : decode cX7_takeOver 0 = .ok (.iload_n 1, 1) := by decide +kernel
theorem dX7_takeOver_1 : decode cX7_takeOver 1 = .ok (.invokestatic 123, 3) := by decide +kernel
theorem dX7_takeOver_4 : decode cX7_takeOver 4 = .ok (.ifCond .ne 9, 3) := by decide +kernel
theorem dX7_takeOver_7 : decode cX7_takeOver 7 = .ok (.aload_n 0, 1) := by decide +kernel
theorem dX7_takeOver_8 : decode cX7_takeOver 8 = .ok (.iconst 1, 1) := by decide +kernel
theorem dX7_takeOver_9 : decode cX7_takeOver 9 = .ok (.invokevirtual 99, 3) := by decide +kernel
theorem dX7_takeOver_12 : decode cX7_takeOver 12 = .ok (.ireturn, 1) := by decide +kernel
theorem dX7_takeOver_13 : decode cX7_takeOver 13 = .ok (.aload_n 0, 1) := by decide +kernel
theorem dX7_takeOver_14 : decode cX7_takeOver 14 = .ok (.getfield 120, 3) := by decide +kernel
theorem dX7_takeOver_17 : decode cX7_takeOver 17 = .ok (.bipush 14, 2) := by decide +kernel
theorem dX7_takeOver_19 : decode cX7_takeOver 19 = .ok (.idiv, 1) := by decide +kernel
theorem dX7_takeOver_20 : decode cX7_takeOver 20 = .ok (.istore_n 2, 1) := by decide +kernel
theorem dX7_takeOver_21 : decode cX7_takeOver 21 = .ok (.aload_n 0, 1) := by decide +kernel
theorem dX7_takeOver_22 : decode cX7_takeOver 22 = .ok (.aload_n 0, 1) := by decide +kernel
theorem dX7_takeOver_23 : decode cX7_takeOver 23 = .ok (.getfield 42, 3) := by decide +kernel
theorem dX7_takeOver_26 : decode cX7_takeOver 26 = .ok (.iload_n 2, 1) := by decide +kernel
theorem dX7_takeOver_27 : decode cX7_takeOver 27 = .ok (.iaload, 1) := by decide +kernel
theorem dX7_takeOver_28 : decode cX7_takeOver 28 = .ok (.iload_n 1, 1) := by decide +kernel
theorem dX7_takeOver_29 : decode cX7_takeOver 29 = .ok (.if_icmp .eq 15, 3) := by decide +kernel
theorem dX7_takeOver_32 : decode cX7_takeOver 32 = .ok (.aload_n 0, 1) := by decide +kernel
theorem dX7_takeOver_33 : decode cX7_takeOver 33 = .ok (.getfield 42, 3) := by decide +kernel
theorem dX7_takeOver_36 : decode cX7_takeOver 36 = .ok (.iload_n 2, 1) := by decide +kernel
theorem dX7_takeOver_37 : decode cX7_takeOver 37 = .ok (.iconst 1, 1) := by decide +kernel
theorem dX7_takeOver_38 : decode cX7_takeOver 38 = .ok (.iadd, 1) := by decide +kernel
theorem dX7_takeOver_39 : decode cX7_takeOver 39 = .ok (.iaload, 1) := by decide +kernel
theorem dX7_takeOver_40 : decode cX7_takeOver 40 = .ok (.iload_n 1, 1) := by decide +kernel
theorem dX7_takeOver_41 : decode cX7_takeOver 41 = .ok (.if_icmp .ne 7, 3) := by decide +kernel
theorem dX7_takeOver_44 : decode cX7_takeOver 44 = .ok (.iconst 2, 1) := by decide +kernel
theorem dX7_takeOver_45 : decode cX7_takeOver 45 = .ok (.goto 4, 3) := by decide +kernel
theorem dX7_takeOver_48 : decode cX7_takeOver 48 = .ok (.iconst 0, 1) := by decide +kernel
theorem dX7_takeOver_49 : decode cX7_takeOver 49 = .ok (.putfield 72, 3) := by decide +kernel
theorem dX7_takeOver_52 : decode cX7_takeOver 52 = .ok (.aload_n 0, 1) := by decide +kernel
theorem dX7_takeOver_53 : decode cX7_takeOver 53 = .ok (.getfield 72, 3) := by decide +kernel
theorem dX7_takeOver_56 : decode cX7_takeOver 56 = .ok (.ifCond .le 5, 3) := by decide +kernel
theorem dX7_takeOver_59 : decode cX7_takeOver 59 = .ok (.iconst 0, 1) := by decide +kernel
theorem dX7_takeOver_60 : decode cX7_takeOver 60 = .ok (.ireturn, 1) := by decide +kernel
theorem dX7_takeOver_61 : decode cX7_takeOver 61 = .ok (.aload_n 0, 1) := by decide +kernel
theorem dX7_takeOver_62 : decode cX7_takeOver 62 = .ok (.getfield 42, 3) := by decide +kernel
theorem dX7_takeOver_65 : decode cX7_takeOver 65 = .ok (.iload_n 2, 1) := by decide +kernel
theorem dX7_takeOver_66 : decode cX7_takeOver 66 = .ok (.iconst 1, 1) := by decide +kernel
theorem dX7_takeOver_67 : decode cX7_takeOver 67 = .ok (.iadd, 1) := by decide +kernel
theorem dX7_takeOver_68 : decode cX7_takeOver 68 = .ok (.iaload, 1) := by decide +kernel
theorem dX7_takeOver_69 : decode cX7_takeOver 69 = .ok (.istore_n 3, 1) := by decide +kernel
theorem dX7_takeOver_70 : decode cX7_takeOver 70 = .ok (.aload_n 0, 1) := by decide +kernel
theorem dX7_takeOver_71 : decode cX7_takeOver 71 = .ok (.getfield 42, 3) := by decide +kernel
theorem dX7_takeOver_74 : decode cX7_takeOver 74 = .ok (.iload_n 2, 1) := by decide +kernel
theorem dX7_takeOver_75 : decode cX7_takeOver 75 = .ok (.iconst 1, 1) := by decide +kernel
theorem dX7_takeOver_76 : decode cX7_takeOver 76 = .ok (.iadd, 1) := by decide +kernel
theorem dX7_takeOver_77 : decode cX7_takeOver 77 = .ok (.iload_n 1, 1) := by decide +kernel
theorem dX7_takeOver_78 : decode cX7_takeOver 78 = .ok (.iastore, 1) := by decide +kernel
theorem dX7_takeOver_79 : decode cX7_takeOver 79 = .ok (.iload_n 3, 1) := by decide +kernel
theorem dX7_takeOver_80 : decode cX7_takeOver 80 = .ok (.ireturn, 1) := by decide +kernel
set_option maxRecDepth 20000 in
theorem ggX7_called_X7_rested : GoodIn wsX7_called wsX7_rested := goodIn_r _ [8, 9, 2, 10, 11, 12, 13, 14, 15, 16, 17, 18, 19, 20, 21, 22, 23, 24, 25, 26, 27, 28, 29, 30, 31, 32, 33, 34, 35] (by decide +kernel) (by decide +kernel)
set_option maxRecDepth 20000 in
theorem gX7_called_X7_rested : GoodIn wsX7_called (wsV RX7 126 RX7 yX7_rested wsX7_rested) := goodIn_app (goodIn_of _ (by decide +kernel)) ggX7_called_X7_rested
theorem dX7_called_0 : decode cX7_called 0 = .ok (.aload_n 0, 1) := by decide +kernel
theorem dX7_called_1 : decode cX7_called 1 = .ok (.getfield 42, 3) := by decide +kernel
theorem dX7_called_4 : decode cX7_called 4 = .ok (.aload_n 0, 1) := by decide +kernel
theorem dX7_called_5 : decode cX7_called 5 = .ok (.getfield 120, 3) := by decide +kernel
theorem dX7_called_8 : decode cX7_called 8 = .ok (.bipush 14, 2) := by decide +kernel
theorem dX7_called_10 : decode cX7_called 10 = .ok (.idiv, 1) := by decide +kernel
theorem dX7_called_11 : decode cX7_called 11 = .ok (.iaload, 1) := by decide +kernel
theorem dX7_called_12 : decode cX7_called 12 = .ok (.istore_n 1, 1) := by decide +kernel
theorem dX7_called_13 : decode cX7_called 13 = .ok (.aload_n 0, 1) := by decide +kernel
theorem dX7_called_14 : decode cX7_called 14 = .ok (.iload_n 1, 1) := by decide +kernel
theorem dX7_called_15 : decode cX7_called 15 = .ok (.invokevirtual 126, 3) := by decide +kernel
theorem dX7_called_18 : decode cX7_called 18 = .ok (.ifCond .ne 5, 3) := by decide +kernel
theorem dX7_called_21 : decode cX7_called 21 = .ok (.iload_n 1, 1) := by decide +kernel
theorem dX7_called_22 : decode cX7_called 22 = .ok (.ireturn, 1) := by decide +kernel
theorem dX7_called_23 : decode cX7_called 23 = .ok (.iconst (-1), 1) := by decide +kernel
theorem dX7_called_24 : decode cX7_called 24 = .ok (.istore_n 1, 1) := by decide +kernel
theorem dX7_called_25 : decode cX7_called 25 = .ok (.iconst 0, 1) := by decide +kernel
theorem dX7_called_26 : decode cX7_called 26 = .ok (.istore_n 2, 1) := by decide +kernel
theorem dX7_called_27 : decode cX7_called 27 = .ok (.iload_n 2, 1) := by decide +kernel
theorem dX7_called_28 : decode cX7_called 28 = .ok (.bipush 6, 2) := by decide +kernel
theorem dX7_called_30 : decode cX7_called 30 = .ok (.if_icmp .ge 43, 3) := by decide +kernel
theorem dX7_called_33 : decode cX7_called 33 = .ok (.aload_n 0, 1) := by decide +kernel
theorem dX7_called_34 : decode cX7_called 34 = .ok (.iload_n 2, 1) := by decide +kernel
theorem dX7_called_35 : decode cX7_called 35 = .ok (.invokevirtual 126, 3) := by decide +kernel
theorem dX7_called_38 : decode cX7_called 38 = .ok (.ifCond .ne 27, 3) := by decide +kernel
theorem dX7_called_41 : decode cX7_called 41 = .ok (.iload_n 1, 1) := by decide +kernel
theorem dX7_called_42 : decode cX7_called 42 = .ok (.iconst (-1), 1) := by decide +kernel
theorem dX7_called_43 : decode cX7_called 43 = .ok (.if_icmp .eq 18, 3) := by decide +kernel
theorem dX7_called_46 : decode cX7_called 46 = .ok (.aload_n 0, 1) := by decide +kernel
theorem dX7_called_47 : decode cX7_called 47 = .ok (.getfield 45, 3) := by decide +kernel
theorem dX7_called_50 : decode cX7_called 50 = .ok (.iload_n 2, 1) := by decide +kernel
theorem dX7_called_51 : decode cX7_called 51 = .ok (.iaload, 1) := by decide +kernel
theorem dX7_called_52 : decode cX7_called 52 = .ok (.aload_n 0, 1) := by decide +kernel
theorem dX7_called_53 : decode cX7_called 53 = .ok (.getfield 45, 3) := by decide +kernel
theorem dX7_called_56 : decode cX7_called 56 = .ok (.iload_n 1, 1) := by decide +kernel
theorem dX7_called_57 : decode cX7_called 57 = .ok (.iaload, 1) := by decide +kernel
theorem dX7_called_58 : decode cX7_called 58 = .ok (.if_icmp .le 7, 3) := by decide +kernel
theorem dX7_called_61 : decode cX7_called 61 = .ok (.iload_n 2, 1) := by decide +kernel
theorem dX7_called_62 : decode cX7_called 62 = .ok (.goto 4, 3) := by decide +kernel
theorem dX7_called_65 : decode cX7_called 65 = .ok (.iload_n 1, 1) := by decide +kernel
theorem dX7_called_66 : decode cX7_called 66 = .ok (.istore_n 1, 1) := by decide +kernel
theorem dX7_called_67 : decode cX7_called 67 = .ok (.iinc 2 1, 3) := by decide +kernel
theorem dX7_called_70 : decode cX7_called 70 = .ok (.goto (-43), 3) := by decide +kernel
theorem dX7_called_73 : decode cX7_called 73 = .ok (.iload_n 1, 1) := by decide +kernel
theorem dX7_called_74 : decode cX7_called 74 = .ok (.ireturn, 1) := by decide +kernel
set_option maxRecDepth 20000 in
theorem ggX7_opens_X7_traceOf : GoodIn wsX7_opens wsX7_traceOf := goodIn_r _ [14, 15, 16, 17, 18, 13, 19, 20, 21, 22, 23, 24, 25, 26, 27, 28, 29, 30, 31, 32, 33, 34, 35, 36, 37, 38, 39, 40, 41, 42, 43, 44, 45, 46, 47, 48, 49, 50, 51, 52, 53, 54, 55, 56, 57, 58, 59, 60, 61, 62, 63, 64, 65] (by decide +kernel) (by decide +kernel)
set_option maxRecDepth 20000 in
theorem gX7_opens_X7_traceOf : GoodIn wsX7_opens (wsV RX7 148 RX7 yX7_traceOf wsX7_traceOf) := goodIn_app (goodIn_of _ (by decide +kernel)) ggX7_opens_X7_traceOf
theorem dX7_opens_0 : decode cX7_opens 0 = .ok (.aload_n 0, 1) := by decide +kernel
theorem dX7_opens_1 : decode cX7_opens 1 = .ok (.iload_n 1, 1) := by decide +kernel
theorem dX7_opens_2 : decode cX7_opens 2 = .ok (.invokevirtual 148, 3) := by decide +kernel
theorem dX7_opens_5 : decode cX7_opens 5 = .ok (.istore_n 2, 1) := by decide +kernel
theorem dX7_opens_6 : decode cX7_opens 6 = .ok (.aload_n 0, 1) := by decide +kernel
theorem dX7_opens_7 : decode cX7_opens 7 = .ok (.getfield 57, 3) := by decide +kernel
theorem dX7_opens_10 : decode cX7_opens 10 = .ok (.aload_n 0, 1) := by decide +kernel
theorem dX7_opens_11 : decode cX7_opens 11 = .ok (.getfield 82, 3) := by decide +kernel
theorem dX7_opens_14 : decode cX7_opens 14 = .ok (.iload_n 1, 1) := by decide +kernel
theorem dX7_opens_15 : decode cX7_opens 15 = .ok (.iastore, 1) := by decide +kernel
theorem dX7_opens_16 : decode cX7_opens 16 = .ok (.aload_n 0, 1) := by decide +kernel
theorem dX7_opens_17 : decode cX7_opens 17 = .ok (.getfield 60, 3) := by decide +kernel
theorem dX7_opens_20 : decode cX7_opens 20 = .ok (.aload_n 0, 1) := by decide +kernel
theorem dX7_opens_21 : decode cX7_opens 21 = .ok (.getfield 82, 3) := by decide +kernel
theorem dX7_opens_24 : decode cX7_opens 24 = .ok (.aload_n 0, 1) := by decide +kernel
theorem dX7_opens_25 : decode cX7_opens 25 = .ok (.getfield 120, 3) := by decide +kernel
theorem dX7_opens_28 : decode cX7_opens 28 = .ok (.iastore, 1) := by decide +kernel
theorem dX7_opens_29 : decode cX7_opens 29 = .ok (.aload_n 0, 1) := by decide +kernel
theorem dX7_opens_30 : decode cX7_opens 30 = .ok (.getfield 63, 3) := by decide +kernel
theorem dX7_opens_33 : decode cX7_opens 33 = .ok (.aload_n 0, 1) := by decide +kernel
theorem dX7_opens_34 : decode cX7_opens 34 = .ok (.getfield 82, 3) := by decide +kernel
theorem dX7_opens_37 : decode cX7_opens 37 = .ok (.iconst (-1), 1) := by decide +kernel
theorem dX7_opens_38 : decode cX7_opens 38 = .ok (.iastore, 1) := by decide +kernel
theorem dX7_opens_39 : decode cX7_opens 39 = .ok (.aload_n 0, 1) := by decide +kernel
theorem dX7_opens_40 : decode cX7_opens 40 = .ok (.getfield 66, 3) := by decide +kernel
theorem dX7_opens_43 : decode cX7_opens 43 = .ok (.aload_n 0, 1) := by decide +kernel
theorem dX7_opens_44 : decode cX7_opens 44 = .ok (.getfield 82, 3) := by decide +kernel
theorem dX7_opens_47 : decode cX7_opens 47 = .ok (.iload_n 2, 1) := by decide +kernel
theorem dX7_opens_48 : decode cX7_opens 48 = .ok (.iastore, 1) := by decide +kernel
theorem dX7_opens_49 : decode cX7_opens 49 = .ok (.aload_n 0, 1) := by decide +kernel
theorem dX7_opens_50 : decode cX7_opens 50 = .ok (.getfield 69, 3) := by decide +kernel
theorem dX7_opens_53 : decode cX7_opens 53 = .ok (.aload_n 0, 1) := by decide +kernel
theorem dX7_opens_54 : decode cX7_opens 54 = .ok (.getfield 82, 3) := by decide +kernel
theorem dX7_opens_57 : decode cX7_opens 57 = .ok (.iconst (-1), 1) := by decide +kernel
theorem dX7_opens_58 : decode cX7_opens 58 = .ok (.iastore, 1) := by decide +kernel
theorem dX7_opens_59 : decode cX7_opens 59 = .ok (.aload_n 0, 1) := by decide +kernel
theorem dX7_opens_60 : decode cX7_opens 60 = .ok (.dup, 1) := by decide +kernel
theorem dX7_opens_61 : decode cX7_opens 61 = .ok (.getfield 82, 3) := by decide +kernel
theorem dX7_opens_64 : decode cX7_opens 64 = .ok (.iconst 1, 1) := by decide +kernel
theorem dX7_opens_65 : decode cX7_opens 65 = .ok (.iadd, 1) := by decide +kernel
theorem dX7_opens_66 : decode cX7_opens 66 = .ok (.putfield 82, 3) := by decide +kernel
theorem dX7_opens_69 : decode cX7_opens 69 = .ok (.iload_n 2, 1) := by decide +kernel
theorem dX7_opens_70 : decode cX7_opens 70 = .ok (.iconst (-1), 1) := by decide +kernel
theorem dX7_opens_71 : decode cX7_opens 71 = .ok (.if_icmp .eq 18, 3) := by decide +kernel
theorem dX7_opens_74 : decode cX7_opens 74 = .ok (.aload_n 0, 1) := by decide +kernel
theorem dX7_opens_75 : decode cX7_opens 75 = .ok (.getfield 45, 3) := by decide +kernel
theorem dX7_opens_78 : decode cX7_opens 78 = .ok (.aload_n 0, 1) := by decide +kernel
theorem dX7_opens_79 : decode cX7_opens 79 = .ok (.getfield 27, 3) := by decide +kernel
theorem dX7_opens_82 : decode cX7_opens 82 = .ok (.iload_n 2, 1) := by decide +kernel
theorem dX7_opens_83 : decode cX7_opens 83 = .ok (.iaload, 1) := by decide +kernel
theorem dX7_opens_84 : decode cX7_opens 84 = .ok (.dup2, 1) := by decide +kernel
theorem dX7_opens_85 : decode cX7_opens 85 = .ok (.iaload, 1) := by decide +kernel
theorem dX7_opens_86 : decode cX7_opens 86 = .ok (.iconst 1, 1) := by decide +kernel
theorem dX7_opens_87 : decode cX7_opens 87 = .ok (.iadd, 1) := by decide +kernel
theorem dX7_opens_88 : decode cX7_opens 88 = .ok (.iastore, 1) := by decide +kernel
theorem dX7_opens_89 : decode cX7_opens 89 = .ok (.return_, 1) := by decide +kernel
set_option maxRecDepth 20000 in
theorem ggX7_rings_X7_called : GoodIn wsX7_rings wsX7_called := goodIn_r _ [12, 13, 4, 14, 15, 16, 17, 11, 18, 7, 19, 20, 21, 22, 23, 24, 25, 26, 27, 28, 29, 30, 31, 32, 33, 34, 35, 36, 37, 38, 39, 40, 41, 42, 43, 44] (by decide +kernel) (by decide +kernel)
set_option maxRecDepth 20000 in
theorem gX7_rings_X7_called : GoodIn wsX7_rings (wsV RX7 151 RX7 yX7_called wsX7_called) := goodIn_app (goodIn_of _ (by decide +kernel)) ggX7_rings_X7_called
theorem dX7_rings_0 : decode cX7_rings 0 = .ok (.aload_n 0, 1) := by decide +kernel
theorem dX7_rings_1 : decode cX7_rings 1 = .ok (.invokevirtual 151, 3) := by decide +kernel
theorem dX7_rings_4 : decode cX7_rings 4 = .ok (.istore_n 2, 1) := by decide +kernel
theorem dX7_rings_5 : decode cX7_rings 5 = .ok (.iload_n 1, 1) := by decide +kernel
theorem dX7_rings_6 : decode cX7_rings 6 = .ok (.istore_n 3, 1) := by decide +kernel
theorem dX7_rings_7 : decode cX7_rings 7 = .ok (.iload_n 3, 1) := by decide +kernel
theorem dX7_rings_8 : decode cX7_rings 8 = .ok (.aload_n 0, 1) := by decide +kernel
theorem dX7_rings_9 : decode cX7_rings 9 = .ok (.getfield 82, 3) := by decide +kernel
theorem dX7_rings_12 : decode cX7_rings 12 = .ok (.if_icmp .ge 16, 3) := by decide +kernel
theorem dX7_rings_15 : decode cX7_rings 15 = .ok (.aload_n 0, 1) := by decide +kernel
theorem dX7_rings_16 : decode cX7_rings 16 = .ok (.getfield 69, 3) := by decide +kernel
theorem dX7_rings_19 : decode cX7_rings 19 = .ok (.iload_n 3, 1) := by decide +kernel
theorem dX7_rings_20 : decode cX7_rings 20 = .ok (.iload_n 2, 1) := by decide +kernel
theorem dX7_rings_21 : decode cX7_rings 21 = .ok (.iastore, 1) := by decide +kernel
theorem dX7_rings_22 : decode cX7_rings 22 = .ok (.iinc 3 1, 3) := by decide +kernel
theorem dX7_rings_25 : decode cX7_rings 25 = .ok (.goto (-18), 3) := by decide +kernel
theorem dX7_rings_28 : decode cX7_rings 28 = .ok (.iload_n 2, 1) := by decide +kernel
theorem dX7_rings_29 : decode cX7_rings 29 = .ok (.iconst (-1), 1) := by decide +kernel
theorem dX7_rings_30 : decode cX7_rings 30 = .ok (.if_icmp .ne 16, 3) := by decide +kernel
theorem dX7_rings_33 : decode cX7_rings 33 = .ok (.aload_n 0, 1) := by decide +kernel
theorem dX7_rings_34 : decode cX7_rings 34 = .ok (.dup, 1) := by decide +kernel
theorem dX7_rings_35 : decode cX7_rings 35 = .ok (.getfield 155, 3) := by decide +kernel
theorem dX7_rings_38 : decode cX7_rings 38 = .ok (.iconst 1, 1) := by decide +kernel
theorem dX7_rings_39 : decode cX7_rings 39 = .ok (.iadd, 1) := by decide +kernel
theorem dX7_rings_40 : decode cX7_rings 40 = .ok (.putfield 155, 3) := by decide +kernel
theorem dX7_rings_43 : decode cX7_rings 43 = .ok (.goto 45, 3) := by decide +kernel
theorem dX7_rings_46 : decode cX7_rings 46 = .ok (.aload_n 0, 1) := by decide +kernel
theorem dX7_rings_47 : decode cX7_rings 47 = .ok (.getfield 120, 3) := by decide +kernel
theorem dX7_rings_50 : decode cX7_rings 50 = .ok (.iconst 2, 1) := by decide +kernel
theorem dX7_rings_51 : decode cX7_rings 51 = .ok (.irem, 1) := by decide +kernel
theorem dX7_rings_52 : decode cX7_rings 52 = .ok (.ifCond .ne 16, 3) := by decide +kernel
theorem dX7_rings_55 : decode cX7_rings 55 = .ok (.aload_n 0, 1) := by decide +kernel
theorem dX7_rings_56 : decode cX7_rings 56 = .ok (.getfield 51, 3) := by decide +kernel
theorem dX7_rings_59 : decode cX7_rings 59 = .ok (.iload_n 2, 1) := by decide +kernel
theorem dX7_rings_60 : decode cX7_rings 60 = .ok (.dup2, 1) := by decide +kernel
theorem dX7_rings_61 : decode cX7_rings 61 = .ok (.iaload, 1) := by decide +kernel
theorem dX7_rings_62 : decode cX7_rings 62 = .ok (.iconst 1, 1) := by decide +kernel
theorem dX7_rings_63 : decode cX7_rings 63 = .ok (.iadd, 1) := by decide +kernel
theorem dX7_rings_64 : decode cX7_rings 64 = .ok (.iastore, 1) := by decide +kernel
theorem dX7_rings_65 : decode cX7_rings 65 = .ok (.goto 23, 3) := by decide +kernel
theorem dX7_rings_68 : decode cX7_rings 68 = .ok (.aload_n 0, 1) := by decide +kernel
theorem dX7_rings_69 : decode cX7_rings 69 = .ok (.getfield 54, 3) := by decide +kernel
theorem dX7_rings_72 : decode cX7_rings 72 = .ok (.iload_n 2, 1) := by decide +kernel
theorem dX7_rings_73 : decode cX7_rings 73 = .ok (.dup2, 1) := by decide +kernel
theorem dX7_rings_74 : decode cX7_rings 74 = .ok (.iaload, 1) := by decide +kernel
theorem dX7_rings_75 : decode cX7_rings 75 = .ok (.iconst 1, 1) := by decide +kernel
theorem dX7_rings_76 : decode cX7_rings 76 = .ok (.iadd, 1) := by decide +kernel
theorem dX7_rings_77 : decode cX7_rings 77 = .ok (.iastore, 1) := by decide +kernel
theorem dX7_rings_78 : decode cX7_rings 78 = .ok (.aload_n 0, 1) := by decide +kernel
theorem dX7_rings_79 : decode cX7_rings 79 = .ok (.getfield 48, 3) := by decide +kernel
theorem dX7_rings_82 : decode cX7_rings 82 = .ok (.iload_n 2, 1) := by decide +kernel
theorem dX7_rings_83 : decode cX7_rings 83 = .ok (.aload_n 0, 1) := by decide +kernel
theorem dX7_rings_84 : decode cX7_rings 84 = .ok (.getfield 120, 3) := by decide +kernel
theorem dX7_rings_87 : decode cX7_rings 87 = .ok (.iastore, 1) := by decide +kernel
theorem dX7_rings_88 : decode cX7_rings 88 = .ok (.return_, 1) := by decide +kernel
set_option maxRecDepth 20000 in
theorem ggX7_half_X7_begins : GoodIn wsX7_half wsX7_begins := goodIn_r _ [8, 9, 10, 11, 12, 13, 7, 14, 73, 74, 75, 76, 77, 78, 79, 80, 81, 82, 83, 84, 85, 86, 87, 88, 89, 90, 91, 92, 93, 94, 95, 96, 97, 98] (by decide +kernel) (by decide +kernel)
set_option maxRecDepth 20000 in
theorem gX7_half_X7_begins : GoodIn wsX7_half (wsV RX7 158 RX7 yX7_begins wsX7_begins) := goodIn_app (goodIn_of _ (by decide +kernel)) ggX7_half_X7_begins
set_option maxRecDepth 20000 in
theorem ggX7_half_X7_open : GoodIn wsX7_half wsX7_open := goodIn_r _ [18, 2, 19, 3, 73, 74, 75, 76, 77, 78, 79, 80, 81, 82, 83, 84, 85, 86, 87, 88, 89, 90, 91, 92, 93, 94, 95, 96, 97, 98] (by decide +kernel) (by decide +kernel)
set_option maxRecDepth 20000 in
theorem gX7_half_X7_open : GoodIn wsX7_half (wsV RX7 133 RX7 yX7_open wsX7_open) := goodIn_app (goodIn_of _ (by decide +kernel)) ggX7_half_X7_open
set_option maxRecDepth 20000 in
theorem ggX7_half_X7_isBad : GoodIn wsX7_half wsX7_isBad := goodIn_r _ [23, 24, 25, 26, 27, 28, 29, 30, 7, 31, 32, 33, 34, 35, 36, 37, 38, 39, 40, 41, 42, 43, 44, 73, 74, 75, 76, 77, 78, 79, 80, 81, 82, 83, 84, 85, 86, 87, 88, 89, 90, 91, 92, 93, 94, 95, 96, 97, 98] (by decide +kernel) (by decide +kernel)
set_option maxRecDepth 20000 in
theorem gX7_half_X7_isBad : GoodIn wsX7_half (wsV RX7 116 RX7 yX7_isBad wsX7_isBad) := goodIn_app (goodIn_of _ (by decide +kernel)) ggX7_half_X7_isBad
set_option maxRecDepth 20000 in
theorem ggX7_half_X7_opens : GoodIn wsX7_half wsX7_opens := goodIn_r _ [48, 19, 2, 49, 1, 3, 50, 51, 9, 52, 53, 54, 55, 7, 56, 37, 20, 21, 22, 23, 24, 25, 26, 27, 28, 29, 30, 31, 32, 33, 34, 35, 36, 38, 39, 40, 41, 42, 43, 44, 73, 74, 75, 76, 77, 78, 79, 80, 81, 82, 83, 84, 85, 86, 87, 88, 89, 90, 91, 92, 93, 94, 95, 96, 97, 98] (by decide +kernel) (by decide +kernel)
set_option maxRecDepth 20000 in
theorem gX7_half_X7_opens : GoodIn wsX7_half (wsV RX7 162 RX7 yX7_opens wsX7_opens) := goodIn_app (goodIn_of _ (by decide +kernel)) ggX7_half_X7_opens
set_option maxRecDepth 20000 in
theorem ggX7_half_X7_rings : GoodIn wsX7_half wsX7_rings := goodIn_r _ [60, 2, 51, 61, 1, 62, 63, 64, 65, 66, 67, 7, 68, 10, 9, 69, 70, 71, 72, 73, 74, 75, 76, 77, 78, 79, 80, 81, 82, 83, 84, 85, 86, 87, 88, 89, 90, 91, 92, 93, 94, 95, 96, 97, 98] (by decide +kernel) (by decide +kernel)
set_option maxRecDepth 20000 in
theorem gX7_half_X7_rings : GoodIn wsX7_half (wsV RX7 165 RX7 yX7_rings wsX7_rings) := goodIn_app (goodIn_of _ (by decide +kernel)) ggX7_half_X7_rings
theorem dX7_half_0 : decode cX7_half 0 = .ok (.aload_n 0, 1) := by decide +kernel
theorem dX7_half_1 : decode cX7_half 1 = .ok (.dup, 1) := by decide +kernel
theorem dX7_half_2 : decode cX7_half 2 = .ok (.getfield 120, 3) := by decide +kernel
theorem dX7_half_5 : decode cX7_half 5 = .ok (.iconst 1, 1) := by decide +kernel
theorem dX7_half_6 : decode cX7_half 6 = .ok (.iadd, 1) := by decide +kernel
theorem dX7_half_7 : decode cX7_half 7 = .ok (.putfield 120, 3) := by decide +kernel
theorem dX7_half_10 : decode cX7_half 10 = .ok (.aload_n 0, 1) := by decide +kernel
theorem dX7_half_11 : decode cX7_half 11 = .ok (.getfield 120, 3) := by decide +kernel
theorem dX7_half_14 : decode cX7_half 14 = .ok (.bipush 14, 2) := by decide +kernel
theorem dX7_half_16 : decode cX7_half 16 = .ok (.irem, 1) := by decide +kernel
theorem dX7_half_17 : decode cX7_half 17 = .ok (.ifCond .ne 14, 3) := by decide +kernel
theorem dX7_half_20 : decode cX7_half 20 = .ok (.aload_n 0, 1) := by decide +kernel
theorem dX7_half_21 : decode cX7_half 21 = .ok (.aload_n 0, 1) := by decide +kernel
theorem dX7_half_22 : decode cX7_half 22 = .ok (.getfield 120, 3) := by decide +kernel
theorem dX7_half_25 : decode cX7_half 25 = .ok (.bipush 14, 2) := by decide +kernel
theorem dX7_half_27 : decode cX7_half 27 = .ok (.idiv, 1) := by decide +kernel
theorem dX7_half_28 : decode cX7_half 28 = .ok (.invokevirtual 158, 3) := by decide +kernel
theorem dX7_half_31 : decode cX7_half 31 = .ok (.aload_n 0, 1) := by decide +kernel
theorem dX7_half_32 : decode cX7_half 32 = .ok (.getfield 82, 3) := by decide +kernel
theorem dX7_half_35 : decode cX7_half 35 = .ok (.istore_n 1, 1) := by decide +kernel
theorem dX7_half_36 : decode cX7_half 36 = .ok (.iconst 0, 1) := by decide +kernel
theorem dX7_half_37 : decode cX7_half 37 = .ok (.istore_n 2, 1) := by decide +kernel
theorem dX7_half_38 : decode cX7_half 38 = .ok (.iconst 0, 1) := by decide +kernel
theorem dX7_half_39 : decode cX7_half 39 = .ok (.istore_n 3, 1) := by decide +kernel
theorem dX7_half_40 : decode cX7_half 40 = .ok (.iload_n 3, 1) := by decide +kernel
theorem dX7_half_41 : decode cX7_half 41 = .ok (.iconst 4, 1) := by decide +kernel
theorem dX7_half_42 : decode cX7_half 42 = .ok (.if_icmp .ge 91, 3) := by decide +kernel
theorem dX7_half_45 : decode cX7_half 45 = .ok (.aload_n 0, 1) := by decide +kernel
theorem dX7_half_46 : decode cX7_half 46 = .ok (.iload_n 3, 1) := by decide +kernel
theorem dX7_half_47 : decode cX7_half 47 = .ok (.invokevirtual 133, 3) := by decide +kernel
theorem dX7_half_50 : decode cX7_half 50 = .ok (.istore 4, 2) := by decide +kernel
theorem dX7_half_52 : decode cX7_half 52 = .ok (.aload_n 0, 1) := by decide +kernel
theorem dX7_half_53 : decode cX7_half 53 = .ok (.iload_n 3, 1) := by decide +kernel
theorem dX7_half_54 : decode cX7_half 54 = .ok (.iconst (-1), 1) := by decide +kernel
theorem dX7_half_55 : decode cX7_half 55 = .ok (.invokevirtual 116, 3) := by decide +kernel
theorem dX7_half_58 : decode cX7_half 58 = .ok (.istore 5, 2) := by decide +kernel
theorem dX7_half_60 : decode cX7_half 60 = .ok (.iload 4, 2) := by decide +kernel
theorem dX7_half_62 : decode cX7_half 62 = .ok (.iconst (-1), 1) := by decide +kernel
theorem dX7_half_63 : decode cX7_half 63 = .ok (.if_icmp .eq 19, 3) := by decide +kernel
theorem dX7_half_66 : decode cX7_half 66 = .ok (.iload 5, 2) := by decide +kernel
theorem dX7_half_68 : decode cX7_half 68 = .ok (.ifCond .ne 14, 3) := by decide +kernel
theorem dX7_half_71 : decode cX7_half 71 = .ok (.aload_n 0, 1) := by decide +kernel
theorem dX7_half_72 : decode cX7_half 72 = .ok (.getfield 63, 3) := by decide +kernel
theorem dX7_half_75 : decode cX7_half 75 = .ok (.iload 4, 2) := by decide +kernel
theorem dX7_half_77 : decode cX7_half 77 = .ok (.aload_n 0, 1) := by decide +kernel
theorem dX7_half_78 : decode cX7_half 78 = .ok (.getfield 120, 3) := by decide +kernel
theorem dX7_half_81 : decode cX7_half 81 = .ok (.iastore, 1) := by decide +kernel
theorem dX7_half_82 : decode cX7_half 82 = .ok (.iload 4, 2) := by decide +kernel
theorem dX7_half_84 : decode cX7_half 84 = .ok (.iconst (-1), 1) := by decide +kernel
theorem dX7_half_85 : decode cX7_half 85 = .ok (.if_icmp .ne 23, 3) := by decide +kernel
theorem dX7_half_88 : decode cX7_half 88 = .ok (.iload 5, 2) := by decide +kernel
theorem dX7_half_90 : decode cX7_half 90 = .ok (.ifCond .eq 18, 3) := by decide +kernel
theorem dX7_half_93 : decode cX7_half 93 = .ok (.aload_n 0, 1) := by decide +kernel
theorem dX7_half_94 : decode cX7_half 94 = .ok (.getfield 82, 3) := by decide +kernel
theorem dX7_half_97 : decode cX7_half 97 = .ok (.sipush 200, 3) := by decide +kernel
theorem dX7_half_100 : decode cX7_half 100 = .ok (.if_icmp .ge 8, 3) := by decide +kernel
theorem dX7_half_103 : decode cX7_half 103 = .ok (.aload_n 0, 1) := by decide +kernel
theorem dX7_half_104 : decode cX7_half 104 = .ok (.iload_n 3, 1) := by decide +kernel
theorem dX7_half_105 : decode cX7_half 105 = .ok (.invokevirtual 162, 3) := by decide +kernel
theorem dX7_half_108 : decode cX7_half 108 = .ok (.iload_n 2, 1) := by decide +kernel
theorem dX7_half_109 : decode cX7_half 109 = .ok (.ifCond .ne 12, 3) := by decide +kernel
theorem dX7_half_112 : decode cX7_half 112 = .ok (.aload_n 0, 1) := by decide +kernel
theorem dX7_half_113 : decode cX7_half 113 = .ok (.iload_n 3, 1) := by decide +kernel
theorem dX7_half_114 : decode cX7_half 114 = .ok (.invokevirtual 133, 3) := by decide +kernel
theorem dX7_half_117 : decode cX7_half 117 = .ok (.iconst (-1), 1) := by decide +kernel
theorem dX7_half_118 : decode cX7_half 118 = .ok (.if_icmp .eq 7, 3) := by decide +kernel
theorem dX7_half_121 : decode cX7_half 121 = .ok (.iconst 1, 1) := by decide +kernel
theorem dX7_half_122 : decode cX7_half 122 = .ok (.goto 4, 3) := by decide +kernel
theorem dX7_half_125 : decode cX7_half 125 = .ok (.iconst 0, 1) := by decide +kernel
theorem dX7_half_126 : decode cX7_half 126 = .ok (.istore_n 2, 1) := by decide +kernel
theorem dX7_half_127 : decode cX7_half 127 = .ok (.iinc 3 1, 3) := by decide +kernel
theorem dX7_half_130 : decode cX7_half 130 = .ok (.goto (-90), 3) := by decide +kernel
theorem dX7_half_133 : decode cX7_half 133 = .ok (.iload_n 2, 1) := by decide +kernel
theorem dX7_half_134 : decode cX7_half 134 = .ok (.ifCond .eq 8, 3) := by decide +kernel
theorem dX7_half_137 : decode cX7_half 137 = .ok (.aload_n 0, 1) := by decide +kernel
theorem dX7_half_138 : decode cX7_half 138 = .ok (.iload_n 1, 1) := by decide +kernel
theorem dX7_half_139 : decode cX7_half 139 = .ok (.invokevirtual 165, 3) := by decide +kernel
theorem dX7_half_142 : decode cX7_half 142 = .ok (.return_, 1) := by decide +kernel
set_option maxRecDepth 20000 in
theorem ggX7_pass_X7_in : GoodIn wsX7_pass wsX7_in := goodIn_r _ [7] (by decide +kernel) (by decide +kernel)
set_option maxRecDepth 20000 in
theorem gX7_pass_X7_in : GoodIn wsX7_pass (va_wsS RX7 75 yX7_in wsX7_in) := goodIn_app (goodIn_of _ (by decide +kernel)) ggX7_pass_X7_in
set_option maxRecDepth 20000 in
theorem ggX7_pass_X7_half : GoodIn wsX7_pass wsX7_half := goodIn_r _ [11, 1, 3, 12, 13, 14, 15, 6, 16, 17, 18, 19, 20, 21, 22, 23, 24, 25, 26, 27, 28, 29, 30, 31, 32, 33, 34, 35, 36, 37, 38, 39, 40, 41, 42, 43, 44, 45, 46, 47, 48, 49, 50, 51, 52, 53, 54, 55, 56, 57, 58, 59, 60, 61, 62, 63, 64, 65, 66, 67, 68, 69, 70, 71, 72, 73, 74, 75, 76, 77, 78, 79, 80, 81, 82, 83, 84, 85, 86, 87, 88, 89, 90, 91, 92, 93, 94, 95, 96, 97, 98, 99, 100, 101, 102, 103, 104, 105, 106] (by decide +kernel) (by decide +kernel)
set_option maxRecDepth 20000 in
theorem gX7_pass_X7_half : GoodIn wsX7_pass (wsV RX7 167 RX7 yX7_half wsX7_half) := goodIn_app (goodIn_of _ (by decide +kernel)) ggX7_pass_X7_half
theorem dX7_pass_0 : decode cX7_pass 0 = .ok (.aload_n 0, 1) := by decide +kernel
theorem dX7_pass_1 : decode cX7_pass 1 = .ok (.iload_n 1, 1) := by decide +kernel
theorem dX7_pass_2 : decode cX7_pass 2 = .ok (.iconst 1, 1) := by decide +kernel
theorem dX7_pass_3 : decode cX7_pass 3 = .ok (.bipush 28, 2) := by decide +kernel
theorem dX7_pass_5 : decode cX7_pass 5 = .ok (.invokestatic 75, 3) := by decide +kernel
theorem dX7_pass_8 : decode cX7_pass 8 = .ok (.ifCond .ne 7, 3) := by decide +kernel
theorem dX7_pass_11 : decode cX7_pass 11 = .ok (.iconst 1, 1) := by decide +kernel
theorem dX7_pass_12 : decode cX7_pass 12 = .ok (.goto 20, 3) := by decide +kernel
theorem dX7_pass_15 : decode cX7_pass 15 = .ok (.aload_n 0, 1) := by decide +kernel
theorem dX7_pass_16 : decode cX7_pass 16 = .ok (.getfield 120, 3) := by decide +kernel
theorem dX7_pass_19 : decode cX7_pass 19 = .ok (.iload_n 1, 1) := by decide +kernel
theorem dX7_pass_20 : decode cX7_pass 20 = .ok (.iadd, 1) := by decide +kernel
theorem dX7_pass_21 : decode cX7_pass 21 = .ok (.sipush 560, 3) := by decide +kernel
theorem dX7_pass_24 : decode cX7_pass 24 = .ok (.if_icmp .le 7, 3) := by decide +kernel
theorem dX7_pass_27 : decode cX7_pass 27 = .ok (.iconst 2, 1) := by decide +kernel
theorem dX7_pass_28 : decode cX7_pass 28 = .ok (.goto 4, 3) := by decide +kernel
theorem dX7_pass_31 : decode cX7_pass 31 = .ok (.iconst 0, 1) := by decide +kernel
theorem dX7_pass_32 : decode cX7_pass 32 = .ok (.putfield 72, 3) := by decide +kernel
theorem dX7_pass_35 : decode cX7_pass 35 = .ok (.aload_n 0, 1) := by decide +kernel
theorem dX7_pass_36 : decode cX7_pass 36 = .ok (.getfield 72, 3) := by decide +kernel
theorem dX7_pass_39 : decode cX7_pass 39 = .ok (.ifCond .le 5, 3) := by decide +kernel
theorem dX7_pass_42 : decode cX7_pass 42 = .ok (.iconst 0, 1) := by decide +kernel
theorem dX7_pass_43 : decode cX7_pass 43 = .ok (.ireturn, 1) := by decide +kernel
theorem dX7_pass_44 : decode cX7_pass 44 = .ok (.aload_n 0, 1) := by decide +kernel
theorem dX7_pass_45 : decode cX7_pass 45 = .ok (.getfield 82, 3) := by decide +kernel
theorem dX7_pass_48 : decode cX7_pass 48 = .ok (.istore_n 2, 1) := by decide +kernel
theorem dX7_pass_49 : decode cX7_pass 49 = .ok (.iconst 0, 1) := by decide +kernel
theorem dX7_pass_50 : decode cX7_pass 50 = .ok (.istore_n 3, 1) := by decide +kernel
theorem dX7_pass_51 : decode cX7_pass 51 = .ok (.iload_n 3, 1) := by decide +kernel
theorem dX7_pass_52 : decode cX7_pass 52 = .ok (.iload_n 1, 1) := by decide +kernel
theorem dX7_pass_53 : decode cX7_pass 53 = .ok (.if_icmp .ge 13, 3) := by decide +kernel
theorem dX7_pass_56 : decode cX7_pass 56 = .ok (.aload_n 0, 1) := by decide +kernel
theorem dX7_pass_57 : decode cX7_pass 57 = .ok (.invokevirtual 167, 3) := by decide +kernel
theorem dX7_pass_60 : decode cX7_pass 60 = .ok (.iinc 3 1, 3) := by decide +kernel
theorem dX7_pass_63 : decode cX7_pass 63 = .ok (.goto (-12), 3) := by decide +kernel
theorem dX7_pass_66 : decode cX7_pass 66 = .ok (.aload_n 0, 1) := by decide +kernel
theorem dX7_pass_67 : decode cX7_pass 67 = .ok (.getfield 82, 3) := by decide +kernel
theorem dX7_pass_70 : decode cX7_pass 70 = .ok (.iload_n 2, 1) := by decide +kernel
theorem dX7_pass_71 : decode cX7_pass 71 = .ok (.isub, 1) := by decide +kernel
theorem dX7_pass_72 : decode cX7_pass 72 = .ok (.ireturn, 1) := by decide +kernel
theorem dX7_time_0 : decode cX7_time 0 = .ok (.aload_n 0, 1) := by decide +kernel
theorem dX7_time_1 : decode cX7_time 1 = .ok (.iconst 0, 1) := by decide +kernel
theorem dX7_time_2 : decode cX7_time 2 = .ok (.putfield 72, 3) := by decide +kernel
theorem dX7_time_5 : decode cX7_time 5 = .ok (.aload_n 0, 1) := by decide +kernel
theorem dX7_time_6 : decode cX7_time 6 = .ok (.getfield 120, 3) := by decide +kernel
theorem dX7_time_9 : decode cX7_time 9 = .ok (.ireturn, 1) := by decide +kernel
set_option maxRecDepth 20000 in
theorem ggX7_holder_X7_in : GoodIn wsX7_holder wsX7_in := goodIn_r _ [7] (by decide +kernel) (by decide +kernel)
set_option maxRecDepth 20000 in
theorem gX7_holder_X7_in : GoodIn wsX7_holder (va_wsS RX7 75 yX7_in wsX7_in) := goodIn_app (goodIn_of _ (by decide +kernel)) ggX7_holder_X7_in
set_option maxRecDepth 20000 in
theorem ggX7_holder_X7_fails : GoodIn wsX7_holder wsX7_fails := goodIn_r _ [11, 1, 12, 13, 14, 15, 16, 17, 18, 19, 20, 21, 22, 23, 24, 25, 26, 27, 28, 29, 30, 31, 32, 33, 34, 35, 36, 37] (by decide +kernel) (by decide +kernel)
set_option maxRecDepth 20000 in
theorem gX7_holder_X7_fails : GoodIn wsX7_holder (wsV RX7 99 RX7 yX7_fails wsX7_fails) := goodIn_app (goodIn_of _ (by decide +kernel)) ggX7_holder_X7_fails
theorem dX7_holder_0 : decode cX7_holder 0 = .ok (.aload_n 0, 1) := by decide +kernel
theorem dX7_holder_1 : decode cX7_holder 1 = .ok (.iconst 0, 1) := by decide +kernel
theorem dX7_holder_2 : decode cX7_holder 2 = .ok (.putfield 72, 3) := by decide +kernel
theorem dX7_holder_5 : decode cX7_holder 5 = .ok (.iload_n 1, 1) := by decide +kernel
theorem dX7_holder_6 : decode cX7_holder 6 = .ok (.iconst 0, 1) := by decide +kernel
theorem dX7_holder_7 : decode cX7_holder 7 = .ok (.aload_n 0, 1) := by decide +kernel
theorem dX7_holder_8 : decode cX7_holder 8 = .ok (.getfield 120, 3) := by decide +kernel
theorem dX7_holder_11 : decode cX7_holder 11 = .ok (.bipush 14, 2) := by decide +kernel
theorem dX7_holder_13 : decode cX7_holder 13 = .ok (.idiv, 1) := by decide +kernel
theorem dX7_holder_14 : decode cX7_holder 14 = .ok (.iconst 1, 1) := by decide +kernel
theorem dX7_holder_15 : decode cX7_holder 15 = .ok (.iadd, 1) := by decide +kernel
theorem dX7_holder_16 : decode cX7_holder 16 = .ok (.invokestatic 75, 3) := by decide +kernel
theorem dX7_holder_19 : decode cX7_holder 19 = .ok (.ifCond .eq 12, 3) := by decide +kernel
theorem dX7_holder_22 : decode cX7_holder 22 = .ok (.aload_n 0, 1) := by decide +kernel
theorem dX7_holder_23 : decode cX7_holder 23 = .ok (.getfield 42, 3) := by decide +kernel
theorem dX7_holder_26 : decode cX7_holder 26 = .ok (.iload_n 1, 1) := by decide +kernel
theorem dX7_holder_27 : decode cX7_holder 27 = .ok (.iaload, 1) := by decide +kernel
theorem dX7_holder_28 : decode cX7_holder 28 = .ok (.goto 8, 3) := by decide +kernel
theorem dX7_holder_31 : decode cX7_holder 31 = .ok (.aload_n 0, 1) := by decide +kernel
theorem dX7_holder_32 : decode cX7_holder 32 = .ok (.iconst 1, 1) := by decide +kernel
theorem dX7_holder_33 : decode cX7_holder 33 = .ok (.invokevirtual 99, 3) := by decide +kernel
theorem dX7_holder_36 : decode cX7_holder 36 = .ok (.ireturn, 1) := by decide +kernel
set_option maxRecDepth 20000 in
theorem ggX7_near_X7_isPerson : GoodIn wsX7_near wsX7_isPerson := goodIn_r _ [6, 7, 8, 5, 9] (by decide +kernel) (by decide +kernel)
set_option maxRecDepth 20000 in
theorem gX7_near_X7_isPerson : GoodIn wsX7_near (va_wsS RX7 123 yX7_isPerson wsX7_isPerson) := goodIn_app (goodIn_of _ (by decide +kernel)) ggX7_near_X7_isPerson
set_option maxRecDepth 20000 in
theorem ggX7_near_X7_nearOf : GoodIn wsX7_near wsX7_nearOf := goodIn_r _ [13, 14, 15, 20, 21, 22, 23, 24, 25, 26, 27, 28, 29, 30, 31, 32, 33, 34, 35, 36, 37, 38, 39, 40, 41, 42, 43, 44, 45] (by decide +kernel) (by decide +kernel)
set_option maxRecDepth 20000 in
theorem gX7_near_X7_nearOf : GoodIn wsX7_near (wsV RX7 145 RX7 yX7_nearOf wsX7_nearOf) := goodIn_app (goodIn_of _ (by decide +kernel)) ggX7_near_X7_nearOf
set_option maxRecDepth 20000 in
theorem ggX7_near_X7_fails : GoodIn wsX7_near wsX7_fails := goodIn_r _ [19, 1, 20, 21, 22, 23, 24, 25, 26, 27, 28, 29, 30, 31, 32, 33, 34, 35, 36, 37, 38, 39, 40, 41, 42, 43, 44, 45] (by decide +kernel) (by decide +kernel)
set_option maxRecDepth 20000 in
theorem gX7_near_X7_fails : GoodIn wsX7_near (wsV RX7 99 RX7 yX7_fails wsX7_fails) := goodIn_app (goodIn_of _ (by decide +kernel)) ggX7_near_X7_fails
theorem dX7_near_0 : decode cX7_near 0 = .ok (.aload_n 0, 1) := by decide +kernel
theorem dX7_near_1 : decode cX7_near 1 = .ok (.iconst 0, 1) := by decide +kernel
theorem dX7_near_2 : decode cX7_near 2 = .ok (.putfield 72, 3) := by decide +kernel
theorem dX7_near_5 : decode cX7_near 5 = .ok (.iload_n 1, 1) := by decide +kernel
theorem dX7_near_6 : decode cX7_near 6 = .ok (.invokestatic 123, 3) := by decide +kernel
theorem dX7_near_9 : decode cX7_near 9 = .ok (.ifCond .eq 20, 3) := by decide +kernel
theorem dX7_near_12 : decode cX7_near 12 = .ok (.aload_n 0, 1) := by decide +kernel
theorem dX7_near_13 : decode cX7_near 13 = .ok (.iload_n 1, 1) := by decide +kernel
theorem dX7_near_14 : decode cX7_near 14 = .ok (.aload_n 0, 1) := by decide +kernel
theorem dX7_near_15 : decode cX7_near 15 = .ok (.getfield 120, 3) := by decide +kernel
theorem dX7_near_18 : decode cX7_near 18 = .ok (.bipush 14, 2) := by decide +kernel
theorem dX7_near_20 : decode cX7_near 20 = .ok (.idiv, 1) := by decide +kernel
theorem dX7_near_21 : decode cX7_near 21 = .ok (.iconst 2, 1) := by decide +kernel
theorem dX7_near_22 : decode cX7_near 22 = .ok (.iadd, 1) := by decide +kernel
theorem dX7_near_23 : decode cX7_near 23 = .ok (.invokevirtual 145, 3) := by decide +kernel
theorem dX7_near_26 : decode cX7_near 26 = .ok (.goto 8, 3) := by decide +kernel
theorem dX7_near_29 : decode cX7_near 29 = .ok (.aload_n 0, 1) := by decide +kernel
theorem dX7_near_30 : decode cX7_near 30 = .ok (.iconst 1, 1) := by decide +kernel
theorem dX7_near_31 : decode cX7_near 31 = .ok (.invokevirtual 99, 3) := by decide +kernel
theorem dX7_near_34 : decode cX7_near 34 = .ok (.ireturn, 1) := by decide +kernel
set_option maxRecDepth 20000 in
theorem ggX7_blots_X7_isPerson : GoodIn wsX7_blots wsX7_isPerson := goodIn_r _ [6, 7, 8, 5, 9] (by decide +kernel) (by decide +kernel)
set_option maxRecDepth 20000 in
theorem gX7_blots_X7_isPerson : GoodIn wsX7_blots (va_wsS RX7 123 yX7_isPerson wsX7_isPerson) := goodIn_app (goodIn_of _ (by decide +kernel)) ggX7_blots_X7_isPerson
set_option maxRecDepth 20000 in
theorem ggX7_blots_X7_fails : GoodIn wsX7_blots wsX7_fails := goodIn_r _ [13, 1, 14, 15, 16, 17, 18, 19, 20, 21, 22, 23, 24, 25, 26, 27, 28, 29, 30, 31, 32, 33, 34, 35, 36, 37, 38, 39] (by decide +kernel) (by decide +kernel)
set_option maxRecDepth 20000 in
theorem gX7_blots_X7_fails : GoodIn wsX7_blots (wsV RX7 99 RX7 yX7_fails wsX7_fails) := goodIn_app (goodIn_of _ (by decide +kernel)) ggX7_blots_X7_fails
theorem dX7_blots_0 : decode cX7_blots 0 = .ok (.aload_n 0, 1) := by decide +kernel
theorem dX7_blots_1 : decode cX7_blots 1 = .ok (.iconst 0, 1) := by decide +kernel
theorem dX7_blots_2 : decode cX7_blots 2 = .ok (.putfield 72, 3) := by decide +kernel
theorem dX7_blots_5 : decode cX7_blots 5 = .ok (.iload_n 1, 1) := by decide +kernel
theorem dX7_blots_6 : decode cX7_blots 6 = .ok (.invokestatic 123, 3) := by decide +kernel
theorem dX7_blots_9 : decode cX7_blots 9 = .ok (.ifCond .eq 12, 3) := by decide +kernel
theorem dX7_blots_12 : decode cX7_blots 12 = .ok (.aload_n 0, 1) := by decide +kernel
theorem dX7_blots_13 : decode cX7_blots 13 = .ok (.getfield 45, 3) := by decide +kernel
theorem dX7_blots_16 : decode cX7_blots 16 = .ok (.iload_n 1, 1) := by decide +kernel
theorem dX7_blots_17 : decode cX7_blots 17 = .ok (.iaload, 1) := by decide +kernel
theorem dX7_blots_18 : decode cX7_blots 18 = .ok (.goto 8, 3) := by decide +kernel
theorem dX7_blots_21 : decode cX7_blots 21 = .ok (.aload_n 0, 1) := by decide +kernel
theorem dX7_blots_22 : decode cX7_blots 22 = .ok (.iconst 1, 1) := by decide +kernel
theorem dX7_blots_23 : decode cX7_blots 23 = .ok (.invokevirtual 99, 3) := by decide +kernel
theorem dX7_blots_26 : decode cX7_blots 26 = .ok (.ireturn, 1) := by decide +kernel
set_option maxRecDepth 20000 in
theorem ggX7_rests_X7_isPerson : GoodIn wsX7_rests wsX7_isPerson := goodIn_r _ [5, 6, 7, 4, 8] (by decide +kernel) (by decide +kernel)
set_option maxRecDepth 20000 in
theorem gX7_rests_X7_isPerson : GoodIn wsX7_rests (va_wsS RX7 123 yX7_isPerson wsX7_isPerson) := goodIn_app (goodIn_of _ (by decide +kernel)) ggX7_rests_X7_isPerson
set_option maxRecDepth 20000 in
theorem ggX7_rests_X7_rested : GoodIn wsX7_rests wsX7_rested := goodIn_r _ [12, 13, 14, 15, 16, 17, 18, 19, 20, 21, 22, 23, 24, 25, 26, 27, 28, 29, 30, 31, 32, 33, 34, 35, 36, 37, 38, 39, 40] (by decide +kernel) (by decide +kernel)
set_option maxRecDepth 20000 in
theorem gX7_rests_X7_rested : GoodIn wsX7_rests (wsV RX7 126 RX7 yX7_rested wsX7_rested) := goodIn_app (goodIn_of _ (by decide +kernel)) ggX7_rests_X7_rested
theorem dX7_rests_0 : decode cX7_rests 0 = .ok (.aload_n 0, 1) := by decide +kernel
theorem dX7_rests_1 : decode cX7_rests 1 = .ok (.iload_n 1, 1) := by decide +kernel
theorem dX7_rests_2 : decode cX7_rests 2 = .ok (.invokestatic 123, 3) := by decide +kernel
theorem dX7_rests_5 : decode cX7_rests 5 = .ok (.ifCond .eq 7, 3) := by decide +kernel
theorem dX7_rests_8 : decode cX7_rests 8 = .ok (.iconst 0, 1) := by decide +kernel
theorem dX7_rests_9 : decode cX7_rests 9 = .ok (.goto 4, 3) := by decide +kernel
theorem dX7_rests_12 : decode cX7_rests 12 = .ok (.iconst 1, 1) := by decide +kernel
theorem dX7_rests_13 : decode cX7_rests 13 = .ok (.putfield 72, 3) := by decide +kernel
theorem dX7_rests_16 : decode cX7_rests 16 = .ok (.aload_n 0, 1) := by decide +kernel
theorem dX7_rests_17 : decode cX7_rests 17 = .ok (.getfield 72, 3) := by decide +kernel
theorem dX7_rests_20 : decode cX7_rests 20 = .ok (.ifCond .ne 15, 3) := by decide +kernel
theorem dX7_rests_23 : decode cX7_rests 23 = .ok (.aload_n 0, 1) := by decide +kernel
theorem dX7_rests_24 : decode cX7_rests 24 = .ok (.iload_n 1, 1) := by decide +kernel
theorem dX7_rests_25 : decode cX7_rests 25 = .ok (.invokevirtual 126, 3) := by decide +kernel
theorem dX7_rests_28 : decode cX7_rests 28 = .ok (.ifCond .eq 7, 3) := by decide +kernel
theorem dX7_rests_31 : decode cX7_rests 31 = .ok (.iconst 1, 1) := by decide +kernel
theorem dX7_rests_32 : decode cX7_rests 32 = .ok (.goto 4, 3) := by decide +kernel
theorem dX7_rests_35 : decode cX7_rests 35 = .ok (.iconst 0, 1) := by decide +kernel
theorem dX7_rests_36 : decode cX7_rests 36 = .ok (.ireturn, 1) := by decide +kernel
set_option maxRecDepth 20000 in
theorem ggX7_onCall_X7_called : GoodIn wsX7_onCall wsX7_called := goodIn_r _ [6, 7, 8, 9, 10, 11, 12, 5, 13, 14, 15, 16, 17, 18, 19, 20, 21, 22, 23, 24, 25, 26, 27, 28, 29, 30, 31, 32, 33, 34, 35, 36, 37, 38, 39, 40] (by decide +kernel) (by decide +kernel)
set_option maxRecDepth 20000 in
theorem gX7_onCall_X7_called : GoodIn wsX7_onCall (wsV RX7 151 RX7 yX7_called wsX7_called) := goodIn_app (goodIn_of _ (by decide +kernel)) ggX7_onCall_X7_called
theorem dX7_onCall_0 : decode cX7_onCall 0 = .ok (.aload_n 0, 1) := by decide +kernel
theorem dX7_onCall_1 : decode cX7_onCall 1 = .ok (.iconst 0, 1) := by decide +kernel
theorem dX7_onCall_2 : decode cX7_onCall 2 = .ok (.putfield 72, 3) := by decide +kernel
theorem dX7_onCall_5 : decode cX7_onCall 5 = .ok (.aload_n 0, 1) := by decide +kernel
theorem dX7_onCall_6 : decode cX7_onCall 6 = .ok (.invokevirtual 151, 3) := by decide +kernel
theorem dX7_onCall_9 : decode cX7_onCall 9 = .ok (.ireturn, 1) := by decide +kernel
set_option maxRecDepth 20000 in
theorem ggX7_calls_X7_isPerson : GoodIn wsX7_calls wsX7_isPerson := goodIn_r _ [7, 8, 9, 6, 10] (by decide +kernel) (by decide +kernel)
set_option maxRecDepth 20000 in
theorem gX7_calls_X7_isPerson : GoodIn wsX7_calls (va_wsS RX7 123 yX7_isPerson wsX7_isPerson) := goodIn_app (goodIn_of _ (by decide +kernel)) ggX7_calls_X7_isPerson
set_option maxRecDepth 20000 in
theorem ggX7_calls_X7_fails : GoodIn wsX7_calls wsX7_fails := goodIn_r _ [14, 1, 15, 16, 17, 18, 19, 20, 21, 22, 23, 24, 25, 26, 27, 28, 29, 30, 31, 32, 33, 34, 35, 36, 37, 38, 39, 40] (by decide +kernel) (by decide +kernel)
set_option maxRecDepth 20000 in
theorem gX7_calls_X7_fails : GoodIn wsX7_calls (wsV RX7 99 RX7 yX7_fails wsX7_fails) := goodIn_app (goodIn_of _ (by decide +kernel)) ggX7_calls_X7_fails
theorem dX7_calls_0 : decode cX7_calls 0 = .ok (.aload_n 0, 1) := by decide +kernel
theorem dX7_calls_1 : decode cX7_calls 1 = .ok (.iconst 0, 1) := by decide +kernel
theorem dX7_calls_2 : decode cX7_calls 2 = .ok (.putfield 72, 3) := by decide +kernel
theorem dX7_calls_5 : decode cX7_calls 5 = .ok (.iload_n 1, 1) := by decide +kernel
theorem dX7_calls_6 : decode cX7_calls 6 = .ok (.invokestatic 123, 3) := by decide +kernel
theorem dX7_calls_9 : decode cX7_calls 9 = .ok (.ifCond .ne 11, 3) := by decide +kernel
theorem dX7_calls_12 : decode cX7_calls 12 = .ok (.aload_n 0, 1) := by decide +kernel
theorem dX7_calls_13 : decode cX7_calls 13 = .ok (.iconst 1, 1) := by decide +kernel
theorem dX7_calls_14 : decode cX7_calls 14 = .ok (.invokevirtual 99, 3) := by decide +kernel
theorem dX7_calls_17 : decode cX7_calls 17 = .ok (.goto 22, 3) := by decide +kernel
theorem dX7_calls_20 : decode cX7_calls 20 = .ok (.iload_n 2, 1) := by decide +kernel
theorem dX7_calls_21 : decode cX7_calls 21 = .ok (.ifCond .eq 12, 3) := by decide +kernel
theorem dX7_calls_24 : decode cX7_calls 24 = .ok (.aload_n 0, 1) := by decide +kernel
theorem dX7_calls_25 : decode cX7_calls 25 = .ok (.getfield 54, 3) := by decide +kernel
theorem dX7_calls_28 : decode cX7_calls 28 = .ok (.iload_n 1, 1) := by decide +kernel
theorem dX7_calls_29 : decode cX7_calls 29 = .ok (.iaload, 1) := by decide +kernel
theorem dX7_calls_30 : decode cX7_calls 30 = .ok (.goto 9, 3) := by decide +kernel
theorem dX7_calls_33 : decode cX7_calls 33 = .ok (.aload_n 0, 1) := by decide +kernel
theorem dX7_calls_34 : decode cX7_calls 34 = .ok (.getfield 51, 3) := by decide +kernel
theorem dX7_calls_37 : decode cX7_calls 37 = .ok (.iload_n 1, 1) := by decide +kernel
theorem dX7_calls_38 : decode cX7_calls 38 = .ok (.iaload, 1) := by decide +kernel
theorem dX7_calls_39 : decode cX7_calls 39 = .ok (.ireturn, 1) := by decide +kernel
theorem dX7_missed_0 : decode cX7_missed 0 = .ok (.aload_n 0, 1) := by decide +kernel
theorem dX7_missed_1 : decode cX7_missed 1 = .ok (.iconst 0, 1) := by decide +kernel
theorem dX7_missed_2 : decode cX7_missed 2 = .ok (.putfield 72, 3) := by decide +kernel
theorem dX7_missed_5 : decode cX7_missed 5 = .ok (.aload_n 0, 1) := by decide +kernel
theorem dX7_missed_6 : decode cX7_missed 6 = .ok (.getfield 155, 3) := by decide +kernel
theorem dX7_missed_9 : decode cX7_missed 9 = .ok (.ireturn, 1) := by decide +kernel
theorem dX7_versions_0 : decode cX7_versions 0 = .ok (.aload_n 0, 1) := by decide +kernel
theorem dX7_versions_1 : decode cX7_versions 1 = .ok (.iconst 0, 1) := by decide +kernel
theorem dX7_versions_2 : decode cX7_versions 2 = .ok (.putfield 72, 3) := by decide +kernel
theorem dX7_versions_5 : decode cX7_versions 5 = .ok (.aload_n 0, 1) := by decide +kernel
theorem dX7_versions_6 : decode cX7_versions 6 = .ok (.getfield 7, 3) := by decide +kernel
theorem dX7_versions_9 : decode cX7_versions 9 = .ok (.ireturn, 1) := by decide +kernel
set_option maxRecDepth 20000 in
theorem ggX7_version_X7_isRing : GoodIn wsX7_version wsX7_isRing := goodIn_r _ [5, 6, 7, 4, 8] (by decide +kernel) (by decide +kernel)
set_option maxRecDepth 20000 in
theorem gX7_version_X7_isRing : GoodIn wsX7_version (va_wsS RX7 136 yX7_isRing wsX7_isRing) := goodIn_app (goodIn_of _ (by decide +kernel)) ggX7_version_X7_isRing
set_option maxRecDepth 20000 in
theorem ggX7_version_X7_valueOf : GoodIn wsX7_version wsX7_valueOf := goodIn_r _ [12, 13, 14, 15, 16, 4, 17, 18, 19, 20, 25, 26, 27, 28, 29, 30, 31, 32, 33, 34, 35, 36, 37, 38, 39, 40, 41, 42, 43, 44, 45, 46, 47, 48, 49, 50] (by decide +kernel) (by decide +kernel)
set_option maxRecDepth 20000 in
theorem gX7_version_X7_valueOf : GoodIn wsX7_version (wsV RX7 109 RX7 yX7_valueOf wsX7_valueOf) := goodIn_app (goodIn_of _ (by decide +kernel)) ggX7_version_X7_valueOf
set_option maxRecDepth 20000 in
theorem ggX7_version_X7_fails : GoodIn wsX7_version wsX7_fails := goodIn_r _ [24, 1, 25, 26, 27, 28, 29, 30, 31, 32, 33, 34, 35, 36, 37, 38, 39, 40, 41, 42, 43, 44, 45, 46, 47, 48, 49, 50] (by decide +kernel) (by decide +kernel)
set_option maxRecDepth 20000 in
theorem gX7_version_X7_fails : GoodIn wsX7_version (wsV RX7 99 RX7 yX7_fails wsX7_fails) := goodIn_app (goodIn_of _ (by decide +kernel)) ggX7_version_X7_fails
theorem dX7_version_0 : decode cX7_version 0 = .ok (.aload_n 0, 1) := by decide +kernel
theorem dX7_version_1 : decode cX7_version 1 = .ok (.iconst 0, 1) := by decide +kernel
theorem dX7_version_2 : decode cX7_version 2 = .ok (.putfield 72, 3) := by decide +kernel
theorem dX7_version_5 : decode cX7_version 5 = .ok (.iload_n 1, 1) := by decide +kernel
theorem dX7_version_6 : decode cX7_version 6 = .ok (.invokestatic 136, 3) := by decide +kernel
theorem dX7_version_9 : decode cX7_version 9 = .ok (.ifCond .eq 13, 3) := by decide +kernel
theorem dX7_version_12 : decode cX7_version 12 = .ok (.aload_n 0, 1) := by decide +kernel
theorem dX7_version_13 : decode cX7_version 13 = .ok (.iconst 1, 1) := by decide +kernel
theorem dX7_version_14 : decode cX7_version 14 = .ok (.iload_n 1, 1) := by decide +kernel
theorem dX7_version_15 : decode cX7_version 15 = .ok (.iconst (-1), 1) := by decide +kernel
theorem dX7_version_16 : decode cX7_version 16 = .ok (.invokevirtual 109, 3) := by decide +kernel
theorem dX7_version_19 : decode cX7_version 19 = .ok (.goto 8, 3) := by decide +kernel
theorem dX7_version_22 : decode cX7_version 22 = .ok (.aload_n 0, 1) := by decide +kernel
theorem dX7_version_23 : decode cX7_version 23 = .ok (.iconst 1, 1) := by decide +kernel
theorem dX7_version_24 : decode cX7_version 24 = .ok (.invokevirtual 99, 3) := by decide +kernel
theorem dX7_version_27 : decode cX7_version 27 = .ok (.ireturn, 1) := by decide +kernel
set_option maxRecDepth 20000 in
theorem ggX7_level_X7_isSwitch : GoodIn wsX7_level wsX7_isSwitch := goodIn_r _ [5, 6, 7, 4, 8] (by decide +kernel) (by decide +kernel)
set_option maxRecDepth 20000 in
theorem gX7_level_X7_isSwitch : GoodIn wsX7_level (va_wsS RX7 89 yX7_isSwitch wsX7_isSwitch) := goodIn_app (goodIn_of _ (by decide +kernel)) ggX7_level_X7_isSwitch
set_option maxRecDepth 20000 in
theorem ggX7_level_X7_valueOf : GoodIn wsX7_level wsX7_valueOf := goodIn_r _ [12, 13, 14, 15, 16, 4, 17, 18, 19, 20, 25, 26, 27, 28, 29, 30, 31, 32, 33, 34, 35, 36, 37, 38, 39, 40, 41, 42, 43, 44, 45, 46, 47, 48, 49, 50] (by decide +kernel) (by decide +kernel)
set_option maxRecDepth 20000 in
theorem gX7_level_X7_valueOf : GoodIn wsX7_level (wsV RX7 109 RX7 yX7_valueOf wsX7_valueOf) := goodIn_app (goodIn_of _ (by decide +kernel)) ggX7_level_X7_valueOf
set_option maxRecDepth 20000 in
theorem ggX7_level_X7_fails : GoodIn wsX7_level wsX7_fails := goodIn_r _ [24, 1, 25, 26, 27, 28, 29, 30, 31, 32, 33, 34, 35, 36, 37, 38, 39, 40, 41, 42, 43, 44, 45, 46, 47, 48, 49, 50] (by decide +kernel) (by decide +kernel)
set_option maxRecDepth 20000 in
theorem gX7_level_X7_fails : GoodIn wsX7_level (wsV RX7 99 RX7 yX7_fails wsX7_fails) := goodIn_app (goodIn_of _ (by decide +kernel)) ggX7_level_X7_fails
theorem dX7_level_0 : decode cX7_level 0 = .ok (.aload_n 0, 1) := by decide +kernel
theorem dX7_level_1 : decode cX7_level 1 = .ok (.iconst 0, 1) := by decide +kernel
theorem dX7_level_2 : decode cX7_level 2 = .ok (.putfield 72, 3) := by decide +kernel
theorem dX7_level_5 : decode cX7_level 5 = .ok (.iload_n 1, 1) := by decide +kernel
theorem dX7_level_6 : decode cX7_level 6 = .ok (.invokestatic 89, 3) := by decide +kernel
theorem dX7_level_9 : decode cX7_level 9 = .ok (.ifCond .eq 13, 3) := by decide +kernel
theorem dX7_level_12 : decode cX7_level 12 = .ok (.aload_n 0, 1) := by decide +kernel
theorem dX7_level_13 : decode cX7_level 13 = .ok (.iconst 0, 1) := by decide +kernel
theorem dX7_level_14 : decode cX7_level 14 = .ok (.iload_n 1, 1) := by decide +kernel
theorem dX7_level_15 : decode cX7_level 15 = .ok (.iconst (-1), 1) := by decide +kernel
theorem dX7_level_16 : decode cX7_level 16 = .ok (.invokevirtual 109, 3) := by decide +kernel
theorem dX7_level_19 : decode cX7_level 19 = .ok (.goto 8, 3) := by decide +kernel
theorem dX7_level_22 : decode cX7_level 22 = .ok (.aload_n 0, 1) := by decide +kernel
theorem dX7_level_23 : decode cX7_level 23 = .ok (.iconst 1, 1) := by decide +kernel
theorem dX7_level_24 : decode cX7_level 24 = .ok (.invokevirtual 99, 3) := by decide +kernel
theorem dX7_level_27 : decode cX7_level 27 = .ok (.ireturn, 1) := by decide +kernel
set_option maxRecDepth 20000 in
theorem ggX7_isOn_X7_isSwitch : GoodIn wsX7_isOn wsX7_isSwitch := goodIn_r _ [5, 6, 7, 4, 8] (by decide +kernel) (by decide +kernel)
set_option maxRecDepth 20000 in
theorem gX7_isOn_X7_isSwitch : GoodIn wsX7_isOn (va_wsS RX7 89 yX7_isSwitch wsX7_isSwitch) := goodIn_app (goodIn_of _ (by decide +kernel)) ggX7_isOn_X7_isSwitch
set_option maxRecDepth 20000 in
theorem ggX7_isOn_X7_isRing : GoodIn wsX7_isOn wsX7_isRing := goodIn_r _ [11, 6, 7, 4, 8] (by decide +kernel) (by decide +kernel)
set_option maxRecDepth 20000 in
theorem gX7_isOn_X7_isRing : GoodIn wsX7_isOn (va_wsS RX7 136 yX7_isRing wsX7_isRing) := goodIn_app (goodIn_of _ (by decide +kernel)) ggX7_isOn_X7_isRing
set_option maxRecDepth 20000 in
theorem ggX7_isOn_X7_ons : GoodIn wsX7_isOn wsX7_ons := goodIn_r _ [15, 16, 17, 18, 19, 4, 20, 21, 22, 23, 24, 25, 26, 27, 28, 29, 30, 31, 32, 33, 34, 35, 36, 37, 38, 39, 40, 41, 42, 43, 44, 45, 46, 47, 48, 49, 50, 51, 52, 53, 54] (by decide +kernel) (by decide +kernel)
set_option maxRecDepth 20000 in
theorem gX7_isOn_X7_ons : GoodIn wsX7_isOn (wsV RX7 112 RX7 yX7_ons wsX7_ons) := goodIn_app (goodIn_of _ (by decide +kernel)) ggX7_isOn_X7_ons
theorem dX7_isOn_0 : decode cX7_isOn 0 = .ok (.aload_n 0, 1) := by decide +kernel
theorem dX7_isOn_1 : decode cX7_isOn 1 = .ok (.iload_n 1, 1) := by decide +kernel
theorem dX7_isOn_2 : decode cX7_isOn 2 = .ok (.invokestatic 89, 3) := by decide +kernel
theorem dX7_isOn_5 : decode cX7_isOn 5 = .ok (.ifCond .eq 14, 3) := by decide +kernel
theorem dX7_isOn_8 : decode cX7_isOn 8 = .ok (.iload_n 2, 1) := by decide +kernel
theorem dX7_isOn_9 : decode cX7_isOn 9 = .ok (.invokestatic 136, 3) := by decide +kernel
theorem dX7_isOn_12 : decode cX7_isOn 12 = .ok (.ifCond .eq 7, 3) := by decide +kernel
theorem dX7_isOn_15 : decode cX7_isOn 15 = .ok (.iconst 0, 1) := by decide +kernel
theorem dX7_isOn_16 : decode cX7_isOn 16 = .ok (.goto 4, 3) := by decide +kernel
theorem dX7_isOn_19 : decode cX7_isOn 19 = .ok (.iconst 1, 1) := by decide +kernel
theorem dX7_isOn_20 : decode cX7_isOn 20 = .ok (.putfield 72, 3) := by decide +kernel
theorem dX7_isOn_23 : decode cX7_isOn 23 = .ok (.aload_n 0, 1) := by decide +kernel
theorem dX7_isOn_24 : decode cX7_isOn 24 = .ok (.getfield 72, 3) := by decide +kernel
theorem dX7_isOn_27 : decode cX7_isOn 27 = .ok (.ifCond .ne 21, 3) := by decide +kernel
theorem dX7_isOn_30 : decode cX7_isOn 30 = .ok (.aload_n 0, 1) := by decide +kernel
theorem dX7_isOn_31 : decode cX7_isOn 31 = .ok (.iload_n 2, 1) := by decide +kernel
theorem dX7_isOn_32 : decode cX7_isOn 32 = .ok (.iconst (-1), 1) := by decide +kernel
theorem dX7_isOn_33 : decode cX7_isOn 33 = .ok (.invokevirtual 112, 3) := by decide +kernel
theorem dX7_isOn_36 : decode cX7_isOn 36 = .ok (.iload_n 1, 1) := by decide +kernel
theorem dX7_isOn_37 : decode cX7_isOn 37 = .ok (.ishr, 1) := by decide +kernel
theorem dX7_isOn_38 : decode cX7_isOn 38 = .ok (.iconst 1, 1) := by decide +kernel
theorem dX7_isOn_39 : decode cX7_isOn 39 = .ok (.iand, 1) := by decide +kernel
theorem dX7_isOn_40 : decode cX7_isOn 40 = .ok (.iconst 1, 1) := by decide +kernel
theorem dX7_isOn_41 : decode cX7_isOn 41 = .ok (.if_icmp .ne 7, 3) := by decide +kernel
theorem dX7_isOn_44 : decode cX7_isOn 44 = .ok (.iconst 1, 1) := by decide +kernel
theorem dX7_isOn_45 : decode cX7_isOn 45 = .ok (.goto 4, 3) := by decide +kernel
theorem dX7_isOn_48 : decode cX7_isOn 48 = .ok (.iconst 0, 1) := by decide +kernel
theorem dX7_isOn_49 : decode cX7_isOn 49 = .ok (.ireturn, 1) := by decide +kernel
set_option maxRecDepth 20000 in
theorem ggX7_isFaulty_X7_isRing : GoodIn wsX7_isFaulty wsX7_isRing := goodIn_r _ [5, 6, 7, 4, 8] (by decide +kernel) (by decide +kernel)
set_option maxRecDepth 20000 in
theorem gX7_isFaulty_X7_isRing : GoodIn wsX7_isFaulty (va_wsS RX7 136 yX7_isRing wsX7_isRing) := goodIn_app (goodIn_of _ (by decide +kernel)) ggX7_isFaulty_X7_isRing
set_option maxRecDepth 20000 in
theorem ggX7_isFaulty_X7_isBad : GoodIn wsX7_isFaulty wsX7_isBad := goodIn_r _ [12, 13, 14, 15, 16, 17, 18, 19, 4, 20, 21, 22, 23, 24, 25, 26, 27, 28, 29, 30, 31, 32, 33, 34, 35, 36, 37, 38, 39, 40, 41, 42, 43, 44, 45, 46, 47, 48, 49, 50, 51, 52, 53, 54, 55, 56, 57, 58, 59] (by decide +kernel) (by decide +kernel)
set_option maxRecDepth 20000 in
theorem gX7_isFaulty_X7_isBad : GoodIn wsX7_isFaulty (wsV RX7 116 RX7 yX7_isBad wsX7_isBad) := goodIn_app (goodIn_of _ (by decide +kernel)) ggX7_isFaulty_X7_isBad
theorem dX7_isFaulty_0 : decode cX7_isFaulty 0 = .ok (.aload_n 0, 1) := by decide +kernel
theorem dX7_isFaulty_1 : decode cX7_isFaulty 1 = .ok (.iload_n 1, 1) := by decide +kernel
theorem dX7_isFaulty_2 : decode cX7_isFaulty 2 = .ok (.invokestatic 136, 3) := by decide +kernel
theorem dX7_isFaulty_5 : decode cX7_isFaulty 5 = .ok (.ifCond .eq 7, 3) := by decide +kernel
theorem dX7_isFaulty_8 : decode cX7_isFaulty 8 = .ok (.iconst 0, 1) := by decide +kernel
theorem dX7_isFaulty_9 : decode cX7_isFaulty 9 = .ok (.goto 4, 3) := by decide +kernel
theorem dX7_isFaulty_12 : decode cX7_isFaulty 12 = .ok (.iconst 1, 1) := by decide +kernel
theorem dX7_isFaulty_13 : decode cX7_isFaulty 13 = .ok (.putfield 72, 3) := by decide +kernel
theorem dX7_isFaulty_16 : decode cX7_isFaulty 16 = .ok (.aload_n 0, 1) := by decide +kernel
theorem dX7_isFaulty_17 : decode cX7_isFaulty 17 = .ok (.getfield 72, 3) := by decide +kernel
theorem dX7_isFaulty_20 : decode cX7_isFaulty 20 = .ok (.ifCond .ne 16, 3) := by decide +kernel
theorem dX7_isFaulty_23 : decode cX7_isFaulty 23 = .ok (.aload_n 0, 1) := by decide +kernel
theorem dX7_isFaulty_24 : decode cX7_isFaulty 24 = .ok (.iload_n 1, 1) := by decide +kernel
theorem dX7_isFaulty_25 : decode cX7_isFaulty 25 = .ok (.iconst (-1), 1) := by decide +kernel
theorem dX7_isFaulty_26 : decode cX7_isFaulty 26 = .ok (.invokevirtual 116, 3) := by decide +kernel
theorem dX7_isFaulty_29 : decode cX7_isFaulty 29 = .ok (.ifCond .eq 7, 3) := by decide +kernel
theorem dX7_isFaulty_32 : decode cX7_isFaulty 32 = .ok (.iconst 1, 1) := by decide +kernel
theorem dX7_isFaulty_33 : decode cX7_isFaulty 33 = .ok (.goto 4, 3) := by decide +kernel
theorem dX7_isFaulty_36 : decode cX7_isFaulty 36 = .ok (.iconst 0, 1) := by decide +kernel
theorem dX7_isFaulty_37 : decode cX7_isFaulty 37 = .ok (.ireturn, 1) := by decide +kernel
set_option maxRecDepth 20000 in
theorem ggX7_rollable_X7_isRing : GoodIn wsX7_rollable wsX7_isRing := goodIn_r _ [6, 7, 8, 5, 9] (by decide +kernel) (by decide +kernel)
set_option maxRecDepth 20000 in
theorem gX7_rollable_X7_isRing : GoodIn wsX7_rollable (va_wsS RX7 136 yX7_isRing wsX7_isRing) := goodIn_app (goodIn_of _ (by decide +kernel)) ggX7_rollable_X7_isRing
set_option maxRecDepth 20000 in
theorem ggX7_rollable_X7_valueOf : GoodIn wsX7_rollable wsX7_valueOf := goodIn_r _ [13, 14, 15, 16, 17, 5, 18, 19, 20, 21, 35, 36, 37, 38, 39, 40, 41, 42, 43, 44, 45, 46, 47, 48, 49, 50, 51, 52, 53, 54, 55, 56, 57, 58, 59, 60] (by decide +kernel) (by decide +kernel)
set_option maxRecDepth 20000 in
theorem gX7_rollable_X7_valueOf : GoodIn wsX7_rollable (wsV RX7 109 RX7 yX7_valueOf wsX7_valueOf) := goodIn_app (goodIn_of _ (by decide +kernel)) ggX7_rollable_X7_valueOf
set_option maxRecDepth 20000 in
theorem ggX7_rollable_X7_isHeldBack : GoodIn wsX7_rollable wsX7_isHeldBack := goodIn_r _ [25, 26, 27, 15, 16, 17, 5, 18, 19, 20, 21, 10, 11, 12, 13, 14, 28, 29, 30, 31, 32, 33, 34, 35, 36, 37, 38, 39, 40, 41, 42, 43, 44, 45, 46, 47, 48, 49, 50, 51, 52, 53, 54, 55, 56, 57, 58, 59, 60] (by decide +kernel) (by decide +kernel)
set_option maxRecDepth 20000 in
theorem gX7_rollable_X7_isHeldBack : GoodIn wsX7_rollable (wsV RX7 139 RX7 yX7_isHeldBack wsX7_isHeldBack) := goodIn_app (goodIn_of _ (by decide +kernel)) ggX7_rollable_X7_isHeldBack
theorem dX7_rollable_0 : decode cX7_rollable 0 = .ok (.aload_n 0, 1) := by decide +kernel
theorem dX7_rollable_1 : decode cX7_rollable 1 = .ok (.iload_n 1, 1) := by decide +kernel
theorem dX7_rollable_2 : decode cX7_rollable 2 = .ok (.invokestatic 136, 3) := by decide +kernel
theorem dX7_rollable_5 : decode cX7_rollable 5 = .ok (.ifCond .eq 7, 3) := by decide +kernel
theorem dX7_rollable_8 : decode cX7_rollable 8 = .ok (.iconst 0, 1) := by decide +kernel
theorem dX7_rollable_9 : decode cX7_rollable 9 = .ok (.goto 4, 3) := by decide +kernel
theorem dX7_rollable_12 : decode cX7_rollable 12 = .ok (.iconst 1, 1) := by decide +kernel
theorem dX7_rollable_13 : decode cX7_rollable 13 = .ok (.putfield 72, 3) := by decide +kernel
theorem dX7_rollable_16 : decode cX7_rollable 16 = .ok (.aload_n 0, 1) := by decide +kernel
theorem dX7_rollable_17 : decode cX7_rollable 17 = .ok (.getfield 72, 3) := by decide +kernel
theorem dX7_rollable_20 : decode cX7_rollable 20 = .ok (.ifCond .le 5, 3) := by decide +kernel
theorem dX7_rollable_23 : decode cX7_rollable 23 = .ok (.iconst 0, 1) := by decide +kernel
theorem dX7_rollable_24 : decode cX7_rollable 24 = .ok (.ireturn, 1) := by decide +kernel
theorem dX7_rollable_25 : decode cX7_rollable 25 = .ok (.iload_n 1, 1) := by decide +kernel
theorem dX7_rollable_26 : decode cX7_rollable 26 = .ok (.ifCond .ne 12, 3) := by decide +kernel
theorem dX7_rollable_29 : decode cX7_rollable 29 = .ok (.aload_n 0, 1) := by decide +kernel
theorem dX7_rollable_30 : decode cX7_rollable 30 = .ok (.getfield 7, 3) := by decide +kernel
theorem dX7_rollable_33 : decode cX7_rollable 33 = .ok (.iconst 1, 1) := by decide +kernel
theorem dX7_rollable_34 : decode cX7_rollable 34 = .ok (.isub, 1) := by decide +kernel
theorem dX7_rollable_35 : decode cX7_rollable 35 = .ok (.goto 12, 3) := by decide +kernel
theorem dX7_rollable_38 : decode cX7_rollable 38 = .ok (.aload_n 0, 1) := by decide +kernel
theorem dX7_rollable_39 : decode cX7_rollable 39 = .ok (.iconst 1, 1) := by decide +kernel
theorem dX7_rollable_40 : decode cX7_rollable 40 = .ok (.iload_n 1, 1) := by decide +kernel
theorem dX7_rollable_41 : decode cX7_rollable 41 = .ok (.iconst 1, 1) := by decide +kernel
theorem dX7_rollable_42 : decode cX7_rollable 42 = .ok (.isub, 1) := by decide +kernel
theorem dX7_rollable_43 : decode cX7_rollable 43 = .ok (.iconst (-1), 1) := by decide +kernel
theorem dX7_rollable_44 : decode cX7_rollable 44 = .ok (.invokevirtual 109, 3) := by decide +kernel
theorem dX7_rollable_47 : decode cX7_rollable 47 = .ok (.istore_n 2, 1) := by decide +kernel
theorem dX7_rollable_48 : decode cX7_rollable 48 = .ok (.aload_n 0, 1) := by decide +kernel
theorem dX7_rollable_49 : decode cX7_rollable 49 = .ok (.iconst 1, 1) := by decide +kernel
theorem dX7_rollable_50 : decode cX7_rollable 50 = .ok (.iload_n 1, 1) := by decide +kernel
theorem dX7_rollable_51 : decode cX7_rollable 51 = .ok (.iconst (-1), 1) := by decide +kernel
theorem dX7_rollable_52 : decode cX7_rollable 52 = .ok (.invokevirtual 109, 3) := by decide +kernel
theorem dX7_rollable_55 : decode cX7_rollable 55 = .ok (.iload_n 2, 1) := by decide +kernel
theorem dX7_rollable_56 : decode cX7_rollable 56 = .ok (.if_icmp .eq 12, 3) := by decide +kernel
theorem dX7_rollable_59 : decode cX7_rollable 59 = .ok (.aload_n 0, 1) := by decide +kernel
theorem dX7_rollable_60 : decode cX7_rollable 60 = .ok (.iload_n 1, 1) := by decide +kernel
theorem dX7_rollable_61 : decode cX7_rollable 61 = .ok (.iload_n 2, 1) := by decide +kernel
theorem dX7_rollable_62 : decode cX7_rollable 62 = .ok (.invokevirtual 139, 3) := by decide +kernel
theorem dX7_rollable_65 : decode cX7_rollable 65 = .ok (.ifCond .eq 7, 3) := by decide +kernel
theorem dX7_rollable_68 : decode cX7_rollable 68 = .ok (.iconst (-1), 1) := by decide +kernel
theorem dX7_rollable_69 : decode cX7_rollable 69 = .ok (.goto 4, 3) := by decide +kernel
theorem dX7_rollable_72 : decode cX7_rollable 72 = .ok (.iload_n 2, 1) := by decide +kernel
theorem dX7_rollable_73 : decode cX7_rollable 73 = .ok (.ireturn, 1) := by decide +kernel
theorem dX7_changes_0 : decode cX7_changes 0 = .ok (.aload_n 0, 1) := by decide +kernel
theorem dX7_changes_1 : decode cX7_changes 1 = .ok (.iconst 0, 1) := by decide +kernel
theorem dX7_changes_2 : decode cX7_changes 2 = .ok (.putfield 72, 3) := by decide +kernel
theorem dX7_changes_5 : decode cX7_changes 5 = .ok (.aload_n 0, 1) := by decide +kernel
theorem dX7_changes_6 : decode cX7_changes 6 = .ok (.getfield 79, 3) := by decide +kernel
theorem dX7_changes_9 : decode cX7_changes 9 = .ok (.ireturn, 1) := by decide +kernel
set_option maxRecDepth 20000 in
theorem ggX7_change_X7_isChange : GoodIn wsX7_change wsX7_isChange := goodIn_r _ [10, 11, 12, 13, 9, 14, 19, 20, 21, 22, 23, 24, 25, 26, 27, 28, 29, 30, 31, 32, 33, 34, 35, 36, 37, 38, 39, 40, 41, 42, 43, 44] (by decide +kernel) (by decide +kernel)
set_option maxRecDepth 20000 in
theorem gX7_change_X7_isChange : GoodIn wsX7_change (wsV RX7 142 RX7 yX7_isChange wsX7_isChange) := goodIn_app (goodIn_of _ (by decide +kernel)) ggX7_change_X7_isChange
set_option maxRecDepth 20000 in
theorem ggX7_change_X7_fails : GoodIn wsX7_change wsX7_fails := goodIn_r _ [18, 1, 19, 20, 21, 22, 23, 24, 25, 26, 27, 28, 29, 30, 31, 32, 33, 34, 35, 36, 37, 38, 39, 40, 41, 42, 43, 44] (by decide +kernel) (by decide +kernel)
set_option maxRecDepth 20000 in
theorem gX7_change_X7_fails : GoodIn wsX7_change (wsV RX7 99 RX7 yX7_fails wsX7_fails) := goodIn_app (goodIn_of _ (by decide +kernel)) ggX7_change_X7_fails
theorem dX7_change_0 : decode cX7_change 0 = .ok (.aload_n 0, 1) := by decide +kernel
theorem dX7_change_1 : decode cX7_change 1 = .ok (.iconst 0, 1) := by decide +kernel
theorem dX7_change_2 : decode cX7_change 2 = .ok (.putfield 72, 3) := by decide +kernel
theorem dX7_change_5 : decode cX7_change 5 = .ok (.aload_n 0, 1) := by decide +kernel
theorem dX7_change_6 : decode cX7_change 6 = .ok (.iload_n 1, 1) := by decide +kernel
theorem dX7_change_7 : decode cX7_change 7 = .ok (.invokevirtual 142, 3) := by decide +kernel
theorem dX7_change_10 : decode cX7_change 10 = .ok (.ifCond .eq 44, 3) := by decide +kernel
theorem dX7_change_13 : decode cX7_change 13 = .ok (.sipush 10000, 3) := by decide +kernel
theorem dX7_change_16 : decode cX7_change 16 = .ok (.aload_n 0, 1) := by decide +kernel
theorem dX7_change_17 : decode cX7_change 17 = .ok (.getfield 27, 3) := by decide +kernel
theorem dX7_change_20 : decode cX7_change 20 = .ok (.iload_n 1, 1) := by decide +kernel
theorem dX7_change_21 : decode cX7_change 21 = .ok (.iaload, 1) := by decide +kernel
theorem dX7_change_22 : decode cX7_change 22 = .ok (.imul, 1) := by decide +kernel
theorem dX7_change_23 : decode cX7_change 23 = .ok (.sipush 1000, 3) := by decide +kernel
theorem dX7_change_26 : decode cX7_change 26 = .ok (.aload_n 0, 1) := by decide +kernel
theorem dX7_change_27 : decode cX7_change 27 = .ok (.getfield 30, 3) := by decide +kernel
theorem dX7_change_30 : decode cX7_change 30 = .ok (.iload_n 1, 1) := by decide +kernel
theorem dX7_change_31 : decode cX7_change 31 = .ok (.iaload, 1) := by decide +kernel
theorem dX7_change_32 : decode cX7_change 32 = .ok (.imul, 1) := by decide +kernel
theorem dX7_change_33 : decode cX7_change 33 = .ok (.iadd, 1) := by decide +kernel
theorem dX7_change_34 : decode cX7_change 34 = .ok (.bipush 100, 2) := by decide +kernel
theorem dX7_change_36 : decode cX7_change 36 = .ok (.aload_n 0, 1) := by decide +kernel
theorem dX7_change_37 : decode cX7_change 37 = .ok (.getfield 33, 3) := by decide +kernel
theorem dX7_change_40 : decode cX7_change 40 = .ok (.iload_n 1, 1) := by decide +kernel
theorem dX7_change_41 : decode cX7_change 41 = .ok (.iaload, 1) := by decide +kernel
theorem dX7_change_42 : decode cX7_change 42 = .ok (.imul, 1) := by decide +kernel
theorem dX7_change_43 : decode cX7_change 43 = .ok (.iadd, 1) := by decide +kernel
theorem dX7_change_44 : decode cX7_change 44 = .ok (.aload_n 0, 1) := by decide +kernel
theorem dX7_change_45 : decode cX7_change 45 = .ok (.getfield 36, 3) := by decide +kernel
theorem dX7_change_48 : decode cX7_change 48 = .ok (.iload_n 1, 1) := by decide +kernel
theorem dX7_change_49 : decode cX7_change 49 = .ok (.iaload, 1) := by decide +kernel
theorem dX7_change_50 : decode cX7_change 50 = .ok (.iadd, 1) := by decide +kernel
theorem dX7_change_51 : decode cX7_change 51 = .ok (.goto 8, 3) := by decide +kernel
theorem dX7_change_54 : decode cX7_change 54 = .ok (.aload_n 0, 1) := by decide +kernel
theorem dX7_change_55 : decode cX7_change 55 = .ok (.iconst 1, 1) := by decide +kernel
theorem dX7_change_56 : decode cX7_change 56 = .ok (.invokevirtual 99, 3) := by decide +kernel
theorem dX7_change_59 : decode cX7_change 59 = .ok (.ireturn, 1) := by decide +kernel
set_option maxRecDepth 20000 in
theorem ggX7_madeAt_X7_isChange : GoodIn wsX7_madeAt wsX7_isChange := goodIn_r _ [7, 8, 9, 10, 6, 11, 16, 17, 18, 19, 20, 21, 22, 23, 24, 25, 26, 27, 28, 29, 30, 31, 32, 33, 34, 35, 36, 37, 38, 39, 40, 41] (by decide +kernel) (by decide +kernel)
set_option maxRecDepth 20000 in
theorem gX7_madeAt_X7_isChange : GoodIn wsX7_madeAt (wsV RX7 142 RX7 yX7_isChange wsX7_isChange) := goodIn_app (goodIn_of _ (by decide +kernel)) ggX7_madeAt_X7_isChange
set_option maxRecDepth 20000 in
theorem ggX7_madeAt_X7_fails : GoodIn wsX7_madeAt wsX7_fails := goodIn_r _ [15, 1, 16, 17, 18, 19, 20, 21, 22, 23, 24, 25, 26, 27, 28, 29, 30, 31, 32, 33, 34, 35, 36, 37, 38, 39, 40, 41] (by decide +kernel) (by decide +kernel)
set_option maxRecDepth 20000 in
theorem gX7_madeAt_X7_fails : GoodIn wsX7_madeAt (wsV RX7 99 RX7 yX7_fails wsX7_fails) := goodIn_app (goodIn_of _ (by decide +kernel)) ggX7_madeAt_X7_fails
theorem dX7_madeAt_0 : decode cX7_madeAt 0 = .ok (.aload_n 0, 1) := by decide +kernel
theorem dX7_madeAt_1 : decode cX7_madeAt 1 = .ok (.iconst 0, 1) := by decide +kernel
theorem dX7_madeAt_2 : decode cX7_madeAt 2 = .ok (.putfield 72, 3) := by decide +kernel
theorem dX7_madeAt_5 : decode cX7_madeAt 5 = .ok (.aload_n 0, 1) := by decide +kernel
theorem dX7_madeAt_6 : decode cX7_madeAt 6 = .ok (.iload_n 1, 1) := by decide +kernel
theorem dX7_madeAt_7 : decode cX7_madeAt 7 = .ok (.invokevirtual 142, 3) := by decide +kernel
theorem dX7_madeAt_10 : decode cX7_madeAt 10 = .ok (.ifCond .eq 12, 3) := by decide +kernel
theorem dX7_madeAt_13 : decode cX7_madeAt 13 = .ok (.aload_n 0, 1) := by decide +kernel
theorem dX7_madeAt_14 : decode cX7_madeAt 14 = .ok (.getfield 39, 3) := by decide +kernel
theorem dX7_madeAt_17 : decode cX7_madeAt 17 = .ok (.iload_n 1, 1) := by decide +kernel
theorem dX7_madeAt_18 : decode cX7_madeAt 18 = .ok (.iaload, 1) := by decide +kernel
theorem dX7_madeAt_19 : decode cX7_madeAt 19 = .ok (.goto 8, 3) := by decide +kernel
theorem dX7_madeAt_22 : decode cX7_madeAt 22 = .ok (.aload_n 0, 1) := by decide +kernel
theorem dX7_madeAt_23 : decode cX7_madeAt 23 = .ok (.iconst 1, 1) := by decide +kernel
theorem dX7_madeAt_24 : decode cX7_madeAt 24 = .ok (.invokevirtual 99, 3) := by decide +kernel
theorem dX7_madeAt_27 : decode cX7_madeAt 27 = .ok (.ireturn, 1) := by decide +kernel
set_option maxRecDepth 20000 in
theorem ggX7_heals_X7_isChange : GoodIn wsX7_heals wsX7_isChange := goodIn_r _ [6, 7, 8, 9, 5, 10, 38, 39, 40, 41, 42, 43, 44, 45, 46, 47, 48, 49, 50, 51, 52, 53, 54, 55, 56, 57, 58, 59, 60, 61, 62, 63] (by decide +kernel) (by decide +kernel)
set_option maxRecDepth 20000 in
theorem gX7_heals_X7_isChange : GoodIn wsX7_heals (wsV RX7 142 RX7 yX7_isChange wsX7_isChange) := goodIn_app (goodIn_of _ (by decide +kernel)) ggX7_heals_X7_isChange
set_option maxRecDepth 20000 in
theorem ggX7_heals_X7_isRing : GoodIn wsX7_heals wsX7_isRing := goodIn_r _ [13, 8, 9, 5, 10] (by decide +kernel) (by decide +kernel)
set_option maxRecDepth 20000 in
theorem gX7_heals_X7_isRing : GoodIn wsX7_heals (va_wsS RX7 136 yX7_isRing wsX7_isRing) := goodIn_app (goodIn_of _ (by decide +kernel)) ggX7_heals_X7_isRing
set_option maxRecDepth 20000 in
theorem ggX7_heals_X7_isBad : GoodIn wsX7_heals wsX7_isBad := goodIn_r _ [17, 18, 19, 20, 21, 22, 23, 24, 5, 25, 26, 27, 28, 29, 30, 7, 31, 32, 33, 34, 35, 36, 37, 38, 39, 40, 41, 42, 43, 44, 45, 46, 47, 48, 49, 50, 51, 52, 53, 54, 55, 56, 57, 58, 59, 60, 61, 62, 63] (by decide +kernel) (by decide +kernel)
set_option maxRecDepth 20000 in
theorem gX7_heals_X7_isBad : GoodIn wsX7_heals (wsV RX7 116 RX7 yX7_isBad wsX7_isBad) := goodIn_app (goodIn_of _ (by decide +kernel)) ggX7_heals_X7_isBad
theorem dX7_heals_0 : decode cX7_heals 0 = .ok (.aload_n 0, 1) := by decide +kernel
theorem dX7_heals_1 : decode cX7_heals 1 = .ok (.aload_n 0, 1) := by decide +kernel
theorem dX7_heals_2 : decode cX7_heals 2 = .ok (.iload_n 1, 1) := by decide +kernel
theorem dX7_heals_3 : decode cX7_heals 3 = .ok (.invokevirtual 142, 3) := by decide +kernel
theorem dX7_heals_6 : decode cX7_heals 6 = .ok (.ifCond .eq 14, 3) := by decide +kernel
theorem dX7_heals_9 : decode cX7_heals 9 = .ok (.iload_n 2, 1) := by decide +kernel
theorem dX7_heals_10 : decode cX7_heals 10 = .ok (.invokestatic 136, 3) := by decide +kernel
theorem dX7_heals_13 : decode cX7_heals 13 = .ok (.ifCond .eq 7, 3) := by decide +kernel
theorem dX7_heals_16 : decode cX7_heals 16 = .ok (.iconst 0, 1) := by decide +kernel
theorem dX7_heals_17 : decode cX7_heals 17 = .ok (.goto 4, 3) := by decide +kernel
theorem dX7_heals_20 : decode cX7_heals 20 = .ok (.iconst 1, 1) := by decide +kernel
theorem dX7_heals_21 : decode cX7_heals 21 = .ok (.putfield 72, 3) := by decide +kernel
theorem dX7_heals_24 : decode cX7_heals 24 = .ok (.aload_n 0, 1) := by decide +kernel
theorem dX7_heals_25 : decode cX7_heals 25 = .ok (.getfield 72, 3) := by decide +kernel
theorem dX7_heals_28 : decode cX7_heals 28 = .ok (.ifCond .ne 25, 3) := by decide +kernel
theorem dX7_heals_31 : decode cX7_heals 31 = .ok (.aload_n 0, 1) := by decide +kernel
theorem dX7_heals_32 : decode cX7_heals 32 = .ok (.iload_n 2, 1) := by decide +kernel
theorem dX7_heals_33 : decode cX7_heals 33 = .ok (.iconst (-1), 1) := by decide +kernel
theorem dX7_heals_34 : decode cX7_heals 34 = .ok (.invokevirtual 116, 3) := by decide +kernel
theorem dX7_heals_37 : decode cX7_heals 37 = .ok (.ifCond .eq 16, 3) := by decide +kernel
theorem dX7_heals_40 : decode cX7_heals 40 = .ok (.aload_n 0, 1) := by decide +kernel
theorem dX7_heals_41 : decode cX7_heals 41 = .ok (.iload_n 2, 1) := by decide +kernel
theorem dX7_heals_42 : decode cX7_heals 42 = .ok (.iload_n 1, 1) := by decide +kernel
theorem dX7_heals_43 : decode cX7_heals 43 = .ok (.invokevirtual 116, 3) := by decide +kernel
theorem dX7_heals_46 : decode cX7_heals 46 = .ok (.ifCond .ne 7, 3) := by decide +kernel
theorem dX7_heals_49 : decode cX7_heals 49 = .ok (.iconst 1, 1) := by decide +kernel
theorem dX7_heals_50 : decode cX7_heals 50 = .ok (.goto 4, 3) := by decide +kernel
theorem dX7_heals_53 : decode cX7_heals 53 = .ok (.iconst 0, 1) := by decide +kernel
theorem dX7_heals_54 : decode cX7_heals 54 = .ok (.ireturn, 1) := by decide +kernel
set_option maxRecDepth 20000 in
theorem ggX7_trace_X7_isRing : GoodIn wsX7_trace wsX7_isRing := goodIn_r _ [5, 6, 7, 4, 8] (by decide +kernel) (by decide +kernel)
set_option maxRecDepth 20000 in
theorem gX7_trace_X7_isRing : GoodIn wsX7_trace (va_wsS RX7 136 yX7_isRing wsX7_isRing) := goodIn_app (goodIn_of _ (by decide +kernel)) ggX7_trace_X7_isRing
set_option maxRecDepth 20000 in
theorem ggX7_trace_X7_traceOf : GoodIn wsX7_trace wsX7_traceOf := goodIn_r _ [12, 13, 14, 15, 16, 4, 17, 18, 19, 20, 21, 22, 23, 24, 25, 26, 27, 28, 29, 30, 31, 32, 33, 34, 35, 36, 37, 42, 43, 44, 45, 46, 47, 48, 49, 50, 51, 52, 53, 54, 55, 56, 57, 58, 59, 60, 61, 62, 63, 64, 65, 66, 67] (by decide +kernel) (by decide +kernel)
set_option maxRecDepth 20000 in
theorem gX7_trace_X7_traceOf : GoodIn wsX7_trace (wsV RX7 148 RX7 yX7_traceOf wsX7_traceOf) := goodIn_app (goodIn_of _ (by decide +kernel)) ggX7_trace_X7_traceOf
set_option maxRecDepth 20000 in
theorem ggX7_trace_X7_fails : GoodIn wsX7_trace wsX7_fails := goodIn_r _ [41, 1, 42, 43, 44, 45, 46, 47, 48, 49, 50, 51, 52, 53, 54, 55, 56, 57, 58, 59, 60, 61, 62, 63, 64, 65, 66, 67] (by decide +kernel) (by decide +kernel)
set_option maxRecDepth 20000 in
theorem gX7_trace_X7_fails : GoodIn wsX7_trace (wsV RX7 99 RX7 yX7_fails wsX7_fails) := goodIn_app (goodIn_of _ (by decide +kernel)) ggX7_trace_X7_fails
theorem dX7_trace_0 : decode cX7_trace 0 = .ok (.aload_n 0, 1) := by decide +kernel
theorem dX7_trace_1 : decode cX7_trace 1 = .ok (.iconst 0, 1) := by decide +kernel
theorem dX7_trace_2 : decode cX7_trace 2 = .ok (.putfield 72, 3) := by decide +kernel
theorem dX7_trace_5 : decode cX7_trace 5 = .ok (.iload_n 1, 1) := by decide +kernel
theorem dX7_trace_6 : decode cX7_trace 6 = .ok (.invokestatic 136, 3) := by decide +kernel
theorem dX7_trace_9 : decode cX7_trace 9 = .ok (.ifCond .eq 11, 3) := by decide +kernel
theorem dX7_trace_12 : decode cX7_trace 12 = .ok (.aload_n 0, 1) := by decide +kernel
theorem dX7_trace_13 : decode cX7_trace 13 = .ok (.iload_n 1, 1) := by decide +kernel
theorem dX7_trace_14 : decode cX7_trace 14 = .ok (.invokevirtual 148, 3) := by decide +kernel
theorem dX7_trace_17 : decode cX7_trace 17 = .ok (.goto 8, 3) := by decide +kernel
theorem dX7_trace_20 : decode cX7_trace 20 = .ok (.aload_n 0, 1) := by decide +kernel
theorem dX7_trace_21 : decode cX7_trace 21 = .ok (.iconst 1, 1) := by decide +kernel
theorem dX7_trace_22 : decode cX7_trace 22 = .ok (.invokevirtual 99, 3) := by decide +kernel
theorem dX7_trace_25 : decode cX7_trace 25 = .ok (.ireturn, 1) := by decide +kernel
set_option maxRecDepth 20000 in
theorem ggX7_traceByTrying_X7_trace : GoodIn wsX7_traceByTrying wsX7_trace := goodIn_r _ [5, 6, 7, 8, 4, 9, 10, 11, 12, 13, 14, 15, 16, 17, 18, 19, 20, 21, 22, 23, 24, 25, 26, 27, 28, 29, 30, 31, 32, 33, 34, 35, 36, 37, 38, 39, 40, 41, 42, 43, 44, 45, 46, 47, 48, 49, 50, 51, 52, 53, 54, 55, 56, 57, 58, 59, 60, 61, 62, 63, 64, 65, 66, 67, 68, 69, 70, 71] (by decide +kernel) (by decide +kernel)
set_option maxRecDepth 20000 in
theorem gX7_traceByTrying_X7_trace : GoodIn wsX7_traceByTrying (wsV RX7 170 RX7 yX7_trace wsX7_trace) := goodIn_app (goodIn_of _ (by decide +kernel)) ggX7_traceByTrying_X7_trace
theorem dX7_traceByTrying_0 : decode cX7_traceByTrying 0 = .ok (.aload_n 0, 1) := by decide +kernel
theorem dX7_traceByTrying_1 : decode cX7_traceByTrying 1 = .ok (.iload_n 1, 1) := by decide +kernel
theorem dX7_traceByTrying_2 : decode cX7_traceByTrying 2 = .ok (.invokevirtual 170, 3) := by decide +kernel
theorem dX7_traceByTrying_5 : decode cX7_traceByTrying 5 = .ok (.ireturn, 1) := by decide +kernel
theorem dX7_incidents_0 : decode cX7_incidents 0 = .ok (.aload_n 0, 1) := by decide +kernel
theorem dX7_incidents_1 : decode cX7_incidents 1 = .ok (.iconst 0, 1) := by decide +kernel
theorem dX7_incidents_2 : decode cX7_incidents 2 = .ok (.putfield 72, 3) := by decide +kernel
theorem dX7_incidents_5 : decode cX7_incidents 5 = .ok (.aload_n 0, 1) := by decide +kernel
theorem dX7_incidents_6 : decode cX7_incidents 6 = .ok (.getfield 82, 3) := by decide +kernel
theorem dX7_incidents_9 : decode cX7_incidents 9 = .ok (.ireturn, 1) := by decide +kernel
set_option maxRecDepth 20000 in
theorem ggX7_openIn_X7_isRing : GoodIn wsX7_openIn wsX7_isRing := goodIn_r _ [5, 6, 7, 4, 8] (by decide +kernel) (by decide +kernel)
set_option maxRecDepth 20000 in
theorem gX7_openIn_X7_isRing : GoodIn wsX7_openIn (va_wsS RX7 136 yX7_isRing wsX7_isRing) := goodIn_app (goodIn_of _ (by decide +kernel)) ggX7_openIn_X7_isRing
set_option maxRecDepth 20000 in
theorem ggX7_openIn_X7_open : GoodIn wsX7_openIn wsX7_open := goodIn_r _ [12, 13, 14, 15, 20, 21, 22, 23, 24, 25, 26, 27, 28, 29, 30, 31, 32, 33, 34, 35, 36, 37, 38, 39, 40, 41, 42, 43, 44, 45] (by decide +kernel) (by decide +kernel)
set_option maxRecDepth 20000 in
theorem gX7_openIn_X7_open : GoodIn wsX7_openIn (wsV RX7 133 RX7 yX7_open wsX7_open) := goodIn_app (goodIn_of _ (by decide +kernel)) ggX7_openIn_X7_open
set_option maxRecDepth 20000 in
theorem ggX7_openIn_X7_fails : GoodIn wsX7_openIn wsX7_fails := goodIn_r _ [19, 1, 20, 21, 22, 23, 24, 25, 26, 27, 28, 29, 30, 31, 32, 33, 34, 35, 36, 37, 38, 39, 40, 41, 42, 43, 44, 45] (by decide +kernel) (by decide +kernel)
set_option maxRecDepth 20000 in
theorem gX7_openIn_X7_fails : GoodIn wsX7_openIn (wsV RX7 99 RX7 yX7_fails wsX7_fails) := goodIn_app (goodIn_of _ (by decide +kernel)) ggX7_openIn_X7_fails
theorem dX7_openIn_0 : decode cX7_openIn 0 = .ok (.aload_n 0, 1) := by decide +kernel
theorem dX7_openIn_1 : decode cX7_openIn 1 = .ok (.iconst 0, 1) := by decide +kernel
theorem dX7_openIn_2 : decode cX7_openIn 2 = .ok (.putfield 72, 3) := by decide +kernel
theorem dX7_openIn_5 : decode cX7_openIn 5 = .ok (.iload_n 1, 1) := by decide +kernel
theorem dX7_openIn_6 : decode cX7_openIn 6 = .ok (.invokestatic 136, 3) := by decide +kernel
theorem dX7_openIn_9 : decode cX7_openIn 9 = .ok (.ifCond .eq 11, 3) := by decide +kernel
theorem dX7_openIn_12 : decode cX7_openIn 12 = .ok (.aload_n 0, 1) := by decide +kernel
theorem dX7_openIn_13 : decode cX7_openIn 13 = .ok (.iload_n 1, 1) := by decide +kernel
theorem dX7_openIn_14 : decode cX7_openIn 14 = .ok (.invokevirtual 133, 3) := by decide +kernel
theorem dX7_openIn_17 : decode cX7_openIn 17 = .ok (.goto 8, 3) := by decide +kernel
theorem dX7_openIn_20 : decode cX7_openIn 20 = .ok (.aload_n 0, 1) := by decide +kernel
theorem dX7_openIn_21 : decode cX7_openIn 21 = .ok (.iconst 1, 1) := by decide +kernel
theorem dX7_openIn_22 : decode cX7_openIn 22 = .ok (.invokevirtual 99, 3) := by decide +kernel
theorem dX7_openIn_25 : decode cX7_openIn 25 = .ok (.ireturn, 1) := by decide +kernel
set_option maxRecDepth 20000 in
theorem ggX7_openedAt_X7_isIncident : GoodIn wsX7_openedAt wsX7_isIncident := goodIn_r _ [8, 9, 10, 11, 7, 12, 17, 18, 19, 20, 21, 22, 23, 24, 25, 26, 27, 28, 29, 30, 31, 32, 33, 34, 35, 36, 37, 38, 39, 40, 41, 42] (by decide +kernel) (by decide +kernel)
set_option maxRecDepth 20000 in
theorem gX7_openedAt_X7_isIncident : GoodIn wsX7_openedAt (wsV RX7 173 RX7 yX7_isIncident wsX7_isIncident) := goodIn_app (goodIn_of _ (by decide +kernel)) ggX7_openedAt_X7_isIncident
set_option maxRecDepth 20000 in
theorem ggX7_openedAt_X7_fails : GoodIn wsX7_openedAt wsX7_fails := goodIn_r _ [16, 1, 17, 18, 19, 20, 21, 22, 23, 24, 25, 26, 27, 28, 29, 30, 31, 32, 33, 34, 35, 36, 37, 38, 39, 40, 41, 42] (by decide +kernel) (by decide +kernel)
set_option maxRecDepth 20000 in
theorem gX7_openedAt_X7_fails : GoodIn wsX7_openedAt (wsV RX7 99 RX7 yX7_fails wsX7_fails) := goodIn_app (goodIn_of _ (by decide +kernel)) ggX7_openedAt_X7_fails
theorem dX7_openedAt_0 : decode cX7_openedAt 0 = .ok (.aload_n 0, 1) := by decide +kernel
theorem dX7_openedAt_1 : decode cX7_openedAt 1 = .ok (.iconst 0, 1) := by decide +kernel
theorem dX7_openedAt_2 : decode cX7_openedAt 2 = .ok (.putfield 72, 3) := by decide +kernel
theorem dX7_openedAt_5 : decode cX7_openedAt 5 = .ok (.aload_n 0, 1) := by decide +kernel
theorem dX7_openedAt_6 : decode cX7_openedAt 6 = .ok (.iload_n 1, 1) := by decide +kernel
theorem dX7_openedAt_7 : decode cX7_openedAt 7 = .ok (.invokevirtual 173, 3) := by decide +kernel
theorem dX7_openedAt_10 : decode cX7_openedAt 10 = .ok (.ifCond .eq 22, 3) := by decide +kernel
theorem dX7_openedAt_13 : decode cX7_openedAt 13 = .ok (.bipush 10, 2) := by decide +kernel
theorem dX7_openedAt_15 : decode cX7_openedAt 15 = .ok (.aload_n 0, 1) := by decide +kernel
theorem dX7_openedAt_16 : decode cX7_openedAt 16 = .ok (.getfield 60, 3) := by decide +kernel
theorem dX7_openedAt_19 : decode cX7_openedAt 19 = .ok (.iload_n 1, 1) := by decide +kernel
theorem dX7_openedAt_20 : decode cX7_openedAt 20 = .ok (.iaload, 1) := by decide +kernel
theorem dX7_openedAt_21 : decode cX7_openedAt 21 = .ok (.imul, 1) := by decide +kernel
theorem dX7_openedAt_22 : decode cX7_openedAt 22 = .ok (.aload_n 0, 1) := by decide +kernel
theorem dX7_openedAt_23 : decode cX7_openedAt 23 = .ok (.getfield 57, 3) := by decide +kernel
theorem dX7_openedAt_26 : decode cX7_openedAt 26 = .ok (.iload_n 1, 1) := by decide +kernel
theorem dX7_openedAt_27 : decode cX7_openedAt 27 = .ok (.iaload, 1) := by decide +kernel
theorem dX7_openedAt_28 : decode cX7_openedAt 28 = .ok (.iadd, 1) := by decide +kernel
theorem dX7_openedAt_29 : decode cX7_openedAt 29 = .ok (.goto 8, 3) := by decide +kernel
theorem dX7_openedAt_32 : decode cX7_openedAt 32 = .ok (.aload_n 0, 1) := by decide +kernel
theorem dX7_openedAt_33 : decode cX7_openedAt 33 = .ok (.iconst 1, 1) := by decide +kernel
theorem dX7_openedAt_34 : decode cX7_openedAt 34 = .ok (.invokevirtual 99, 3) := by decide +kernel
theorem dX7_openedAt_37 : decode cX7_openedAt 37 = .ok (.ireturn, 1) := by decide +kernel
set_option maxRecDepth 20000 in
theorem ggX7_closedAt_X7_isIncident : GoodIn wsX7_closedAt wsX7_isIncident := goodIn_r _ [7, 8, 9, 10, 6, 11, 16, 17, 18, 19, 20, 21, 22, 23, 24, 25, 26, 27, 28, 29, 30, 31, 32, 33, 34, 35, 36, 37, 38, 39, 40, 41] (by decide +kernel) (by decide +kernel)
set_option maxRecDepth 20000 in
theorem gX7_closedAt_X7_isIncident : GoodIn wsX7_closedAt (wsV RX7 173 RX7 yX7_isIncident wsX7_isIncident) := goodIn_app (goodIn_of _ (by decide +kernel)) ggX7_closedAt_X7_isIncident
set_option maxRecDepth 20000 in
theorem ggX7_closedAt_X7_fails : GoodIn wsX7_closedAt wsX7_fails := goodIn_r _ [15, 1, 16, 17, 18, 19, 20, 21, 22, 23, 24, 25, 26, 27, 28, 29, 30, 31, 32, 33, 34, 35, 36, 37, 38, 39, 40, 41] (by decide +kernel) (by decide +kernel)
set_option maxRecDepth 20000 in
theorem gX7_closedAt_X7_fails : GoodIn wsX7_closedAt (wsV RX7 99 RX7 yX7_fails wsX7_fails) := goodIn_app (goodIn_of _ (by decide +kernel)) ggX7_closedAt_X7_fails
theorem dX7_closedAt_0 : decode cX7_closedAt 0 = .ok (.aload_n 0, 1) := by decide +kernel
theorem dX7_closedAt_1 : decode cX7_closedAt 1 = .ok (.iconst 0, 1) := by decide +kernel
theorem dX7_closedAt_2 : decode cX7_closedAt 2 = .ok (.putfield 72, 3) := by decide +kernel
theorem dX7_closedAt_5 : decode cX7_closedAt 5 = .ok (.aload_n 0, 1) := by decide +kernel
theorem dX7_closedAt_6 : decode cX7_closedAt 6 = .ok (.iload_n 1, 1) := by decide +kernel
theorem dX7_closedAt_7 : decode cX7_closedAt 7 = .ok (.invokevirtual 173, 3) := by decide +kernel
theorem dX7_closedAt_10 : decode cX7_closedAt 10 = .ok (.ifCond .eq 12, 3) := by decide +kernel
theorem dX7_closedAt_13 : decode cX7_closedAt 13 = .ok (.aload_n 0, 1) := by decide +kernel
theorem dX7_closedAt_14 : decode cX7_closedAt 14 = .ok (.getfield 63, 3) := by decide +kernel
theorem dX7_closedAt_17 : decode cX7_closedAt 17 = .ok (.iload_n 1, 1) := by decide +kernel
theorem dX7_closedAt_18 : decode cX7_closedAt 18 = .ok (.iaload, 1) := by decide +kernel
theorem dX7_closedAt_19 : decode cX7_closedAt 19 = .ok (.goto 8, 3) := by decide +kernel
theorem dX7_closedAt_22 : decode cX7_closedAt 22 = .ok (.aload_n 0, 1) := by decide +kernel
theorem dX7_closedAt_23 : decode cX7_closedAt 23 = .ok (.iconst 1, 1) := by decide +kernel
theorem dX7_closedAt_24 : decode cX7_closedAt 24 = .ok (.invokevirtual 99, 3) := by decide +kernel
theorem dX7_closedAt_27 : decode cX7_closedAt 27 = .ok (.ireturn, 1) := by decide +kernel
set_option maxRecDepth 20000 in
theorem ggX7_tracedTo_X7_isIncident : GoodIn wsX7_tracedTo wsX7_isIncident := goodIn_r _ [7, 8, 9, 10, 6, 11, 16, 17, 18, 19, 20, 21, 22, 23, 24, 25, 26, 27, 28, 29, 30, 31, 32, 33, 34, 35, 36, 37, 38, 39, 40, 41] (by decide +kernel) (by decide +kernel)
set_option maxRecDepth 20000 in
theorem gX7_tracedTo_X7_isIncident : GoodIn wsX7_tracedTo (wsV RX7 173 RX7 yX7_isIncident wsX7_isIncident) := goodIn_app (goodIn_of _ (by decide +kernel)) ggX7_tracedTo_X7_isIncident
set_option maxRecDepth 20000 in
theorem ggX7_tracedTo_X7_fails : GoodIn wsX7_tracedTo wsX7_fails := goodIn_r _ [15, 1, 16, 17, 18, 19, 20, 21, 22, 23, 24, 25, 26, 27, 28, 29, 30, 31, 32, 33, 34, 35, 36, 37, 38, 39, 40, 41] (by decide +kernel) (by decide +kernel)
set_option maxRecDepth 20000 in
theorem gX7_tracedTo_X7_fails : GoodIn wsX7_tracedTo (wsV RX7 99 RX7 yX7_fails wsX7_fails) := goodIn_app (goodIn_of _ (by decide +kernel)) ggX7_tracedTo_X7_fails
theorem dX7_tracedTo_0 : decode cX7_tracedTo 0 = .ok (.aload_n 0, 1) := by decide +kernel
theorem dX7_tracedTo_1 : decode cX7_tracedTo 1 = .ok (.iconst 0, 1) := by decide +kernel
theorem dX7_tracedTo_2 : decode cX7_tracedTo 2 = .ok (.putfield 72, 3) := by decide +kernel
theorem dX7_tracedTo_5 : decode cX7_tracedTo 5 = .ok (.aload_n 0, 1) := by decide +kernel
theorem dX7_tracedTo_6 : decode cX7_tracedTo 6 = .ok (.iload_n 1, 1) := by decide +kernel
theorem dX7_tracedTo_7 : decode cX7_tracedTo 7 = .ok (.invokevirtual 173, 3) := by decide +kernel
theorem dX7_tracedTo_10 : decode cX7_tracedTo 10 = .ok (.ifCond .eq 12, 3) := by decide +kernel
theorem dX7_tracedTo_13 : decode cX7_tracedTo 13 = .ok (.aload_n 0, 1) := by decide +kernel
theorem dX7_tracedTo_14 : decode cX7_tracedTo 14 = .ok (.getfield 66, 3) := by decide +kernel
theorem dX7_tracedTo_17 : decode cX7_tracedTo 17 = .ok (.iload_n 1, 1) := by decide +kernel
theorem dX7_tracedTo_18 : decode cX7_tracedTo 18 = .ok (.iaload, 1) := by decide +kernel
theorem dX7_tracedTo_19 : decode cX7_tracedTo 19 = .ok (.goto 8, 3) := by decide +kernel
theorem dX7_tracedTo_22 : decode cX7_tracedTo 22 = .ok (.aload_n 0, 1) := by decide +kernel
theorem dX7_tracedTo_23 : decode cX7_tracedTo 23 = .ok (.iconst 1, 1) := by decide +kernel
theorem dX7_tracedTo_24 : decode cX7_tracedTo 24 = .ok (.invokevirtual 99, 3) := by decide +kernel
theorem dX7_tracedTo_27 : decode cX7_tracedTo 27 = .ok (.ireturn, 1) := by decide +kernel
set_option maxRecDepth 20000 in
theorem ggX7_firstCalled_X7_isIncident : GoodIn wsX7_firstCalled wsX7_isIncident := goodIn_r _ [7, 8, 9, 10, 6, 11, 16, 17, 18, 19, 20, 21, 22, 23, 24, 25, 26, 27, 28, 29, 30, 31, 32, 33, 34, 35, 36, 37, 38, 39, 40, 41] (by decide +kernel) (by decide +kernel)
set_option maxRecDepth 20000 in
theorem gX7_firstCalled_X7_isIncident : GoodIn wsX7_firstCalled (wsV RX7 173 RX7 yX7_isIncident wsX7_isIncident) := goodIn_app (goodIn_of _ (by decide +kernel)) ggX7_firstCalled_X7_isIncident
set_option maxRecDepth 20000 in
theorem ggX7_firstCalled_X7_fails : GoodIn wsX7_firstCalled wsX7_fails := goodIn_r _ [15, 1, 16, 17, 18, 19, 20, 21, 22, 23, 24, 25, 26, 27, 28, 29, 30, 31, 32, 33, 34, 35, 36, 37, 38, 39, 40, 41] (by decide +kernel) (by decide +kernel)
set_option maxRecDepth 20000 in
theorem gX7_firstCalled_X7_fails : GoodIn wsX7_firstCalled (wsV RX7 99 RX7 yX7_fails wsX7_fails) := goodIn_app (goodIn_of _ (by decide +kernel)) ggX7_firstCalled_X7_fails
theorem dX7_firstCalled_0 : decode cX7_firstCalled 0 = .ok (.aload_n 0, 1) := by decide +kernel
theorem dX7_firstCalled_1 : decode cX7_firstCalled 1 = .ok (.iconst 0, 1) := by decide +kernel
theorem dX7_firstCalled_2 : decode cX7_firstCalled 2 = .ok (.putfield 72, 3) := by decide +kernel
theorem dX7_firstCalled_5 : decode cX7_firstCalled 5 = .ok (.aload_n 0, 1) := by decide +kernel
theorem dX7_firstCalled_6 : decode cX7_firstCalled 6 = .ok (.iload_n 1, 1) := by decide +kernel
theorem dX7_firstCalled_7 : decode cX7_firstCalled 7 = .ok (.invokevirtual 173, 3) := by decide +kernel
theorem dX7_firstCalled_10 : decode cX7_firstCalled 10 = .ok (.ifCond .eq 12, 3) := by decide +kernel
theorem dX7_firstCalled_13 : decode cX7_firstCalled 13 = .ok (.aload_n 0, 1) := by decide +kernel
theorem dX7_firstCalled_14 : decode cX7_firstCalled 14 = .ok (.getfield 69, 3) := by decide +kernel
theorem dX7_firstCalled_17 : decode cX7_firstCalled 17 = .ok (.iload_n 1, 1) := by decide +kernel
theorem dX7_firstCalled_18 : decode cX7_firstCalled 18 = .ok (.iaload, 1) := by decide +kernel
theorem dX7_firstCalled_19 : decode cX7_firstCalled 19 = .ok (.goto 8, 3) := by decide +kernel
theorem dX7_firstCalled_22 : decode cX7_firstCalled 22 = .ok (.aload_n 0, 1) := by decide +kernel
theorem dX7_firstCalled_23 : decode cX7_firstCalled 23 = .ok (.iconst 1, 1) := by decide +kernel
theorem dX7_firstCalled_24 : decode cX7_firstCalled 24 = .ok (.invokevirtual 99, 3) := by decide +kernel
theorem dX7_firstCalled_27 : decode cX7_firstCalled 27 = .ok (.ireturn, 1) := by decide +kernel
