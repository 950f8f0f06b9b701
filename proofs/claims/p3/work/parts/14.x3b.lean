theorem dX3_planNow_78 : decode cX3_planNow 78 = .ok (.invokestatic 161, 3) := by decide +kernel
theorem dX3_planNow_81 : decode cX3_planNow 81 = .ok (.iload 4, 2) := by decide +kernel
theorem dX3_planNow_83 : decode cX3_planNow 83 = .ok (.invokestatic 161, 3) := by decide +kernel
theorem dX3_planNow_86 : decode cX3_planNow 86 = .ok (.if_icmp .gt 25, 3) := by decide +kernel
theorem dX3_planNow_89 : decode cX3_planNow 89 = .ok (.iload 6, 2) := by decide +kernel
theorem dX3_planNow_91 : decode cX3_planNow 91 = .ok (.invokestatic 161, 3) := by decide +kernel
theorem dX3_planNow_94 : decode cX3_planNow 94 = .ok (.iload 4, 2) := by decide +kernel
theorem dX3_planNow_96 : decode cX3_planNow 96 = .ok (.invokestatic 161, 3) := by decide +kernel
theorem dX3_planNow_99 : decode cX3_planNow 99 = .ok (.if_icmp .ne 16, 3) := by decide +kernel
theorem dX3_planNow_102 : decode cX3_planNow 102 = .ok (.aload_n 0, 1) := by decide +kernel
theorem dX3_planNow_103 : decode cX3_planNow 103 = .ok (.getfield 152, 3) := by decide +kernel
theorem dX3_planNow_106 : decode cX3_planNow 106 = .ok (.iload 5, 2) := by decide +kernel
theorem dX3_planNow_108 : decode cX3_planNow 108 = .ok (.if_icmp .ge 7, 3) := by decide +kernel
theorem dX3_planNow_111 : decode cX3_planNow 111 = .ok (.iconst 1, 1) := by decide +kernel
theorem dX3_planNow_112 : decode cX3_planNow 112 = .ok (.goto 4, 3) := by decide +kernel
theorem dX3_planNow_115 : decode cX3_planNow 115 = .ok (.iconst 0, 1) := by decide +kernel
theorem dX3_planNow_116 : decode cX3_planNow 116 = .ok (.istore 8, 2) := by decide +kernel
theorem dX3_planNow_118 : decode cX3_planNow 118 = .ok (.iload 7, 2) := by decide +kernel
theorem dX3_planNow_120 : decode cX3_planNow 120 = .ok (.ifCond .eq 18, 3) := by decide +kernel
theorem dX3_planNow_123 : decode cX3_planNow 123 = .ok (.iload 8, 2) := by decide +kernel
theorem dX3_planNow_125 : decode cX3_planNow 125 = .ok (.ifCond .eq 13, 3) := by decide +kernel
theorem dX3_planNow_128 : decode cX3_planNow 128 = .ok (.iload 6, 2) := by decide +kernel
theorem dX3_planNow_130 : decode cX3_planNow 130 = .ok (.istore 4, 2) := by decide +kernel
theorem dX3_planNow_132 : decode cX3_planNow 132 = .ok (.aload_n 0, 1) := by decide +kernel
theorem dX3_planNow_133 : decode cX3_planNow 133 = .ok (.getfield 152, 3) := by decide +kernel
theorem dX3_planNow_136 : decode cX3_planNow 136 = .ok (.istore 5, 2) := by decide +kernel
theorem dX3_planNow_138 : decode cX3_planNow 138 = .ok (.iinc 6 1, 3) := by decide +kernel
theorem dX3_planNow_141 : decode cX3_planNow 141 = .ok (.goto (-100), 3) := by decide +kernel
theorem dX3_planNow_144 : decode cX3_planNow 144 = .ok (.aload_n 0, 1) := by decide +kernel
theorem dX3_planNow_145 : decode cX3_planNow 145 = .ok (.iload 4, 2) := by decide +kernel
theorem dX3_planNow_147 : decode cX3_planNow 147 = .ok (.invokevirtual 158, 3) := by decide +kernel
theorem dX3_planNow_150 : decode cX3_planNow 150 = .ok (.pop, 1) := by decide +kernel
theorem dX3_planNow_151 : decode cX3_planNow 151 = .ok (.iload_n 3, 1) := by decide +kernel
theorem dX3_planNow_152 : decode cX3_planNow 152 = .ok (.ifCond .ne 11, 3) := by decide +kernel
theorem dX3_planNow_155 : decode cX3_planNow 155 = .ok (.iload 4, 2) := by decide +kernel
theorem dX3_planNow_157 : decode cX3_planNow 157 = .ok (.invokestatic 161, 3) := by decide +kernel
theorem dX3_planNow_160 : decode cX3_planNow 160 = .ok (.goto 29, 3) := by decide +kernel
theorem dX3_planNow_163 : decode cX3_planNow 163 = .ok (.iload_n 3, 1) := by decide +kernel
theorem dX3_planNow_164 : decode cX3_planNow 164 = .ok (.iconst 1, 1) := by decide +kernel
theorem dX3_planNow_165 : decode cX3_planNow 165 = .ok (.if_icmp .ne 8, 3) := by decide +kernel
theorem dX3_planNow_168 : decode cX3_planNow 168 = .ok (.iload 4, 2) := by decide +kernel
theorem dX3_planNow_170 : decode cX3_planNow 170 = .ok (.goto 19, 3) := by decide +kernel
theorem dX3_planNow_173 : decode cX3_planNow 173 = .ok (.iload_n 3, 1) := by decide +kernel
theorem dX3_planNow_174 : decode cX3_planNow 174 = .ok (.iconst 2, 1) := by decide +kernel
theorem dX3_planNow_175 : decode cX3_planNow 175 = .ok (.if_icmp .ne 10, 3) := by decide +kernel
theorem dX3_planNow_178 : decode cX3_planNow 178 = .ok (.aload_n 0, 1) := by decide +kernel
theorem dX3_planNow_179 : decode cX3_planNow 179 = .ok (.getfield 149, 3) := by decide +kernel
theorem dX3_planNow_182 : decode cX3_planNow 182 = .ok (.goto 7, 3) := by decide +kernel
theorem dX3_planNow_185 : decode cX3_planNow 185 = .ok (.aload_n 0, 1) := by decide +kernel
theorem dX3_planNow_186 : decode cX3_planNow 186 = .ok (.getfield 152, 3) := by decide +kernel
theorem dX3_planNow_189 : decode cX3_planNow 189 = .ok (.ireturn, 1) := by decide +kernel
set_option maxRecDepth 20000 in
theorem ggX3_plan_X3_within : GoodIn wsX3_plan wsX3_within := goodIn_r _ [5] (by decide +kernel) (by decide +kernel)
set_option maxRecDepth 20000 in
theorem gX3_plan_X3_within : GoodIn wsX3_plan (va_wsS RX3 68 yX3_within wsX3_within) := goodIn_app (goodIn_of _ (by decide +kernel)) ggX3_plan_X3_within
set_option maxRecDepth 20000 in
theorem ggX3_plan_X3_planNow : GoodIn wsX3_plan wsX3_planNow := goodIn_r _ [9, 1, 10, 11, 12, 13, 14, 15, 4, 16, 17, 18, 19, 20, 21, 22, 23, 24, 25, 26, 27, 28, 29, 30, 31, 32, 33, 34, 35, 36, 37, 38, 39, 40, 41, 42, 43, 44, 45, 46, 47, 48, 49, 50, 51, 52, 53, 54, 55, 56, 57, 58, 59, 60, 61, 62, 63, 64, 65, 66, 67, 68, 69, 70, 71, 72, 73, 74, 75, 76, 77, 78, 79, 80, 81, 82, 83, 84, 85, 86, 87, 88, 89] (by decide +kernel) (by decide +kernel)
set_option maxRecDepth 20000 in
theorem gX3_plan_X3_planNow : GoodIn wsX3_plan (wsV RX3 164 RX3 yX3_planNow wsX3_planNow) := goodIn_app (goodIn_of _ (by decide +kernel)) ggX3_plan_X3_planNow
theorem dX3_plan_0 : decode cX3_plan 0 = .ok (.iload_n 1, 1) := by decide +kernel
theorem dX3_plan_1 : decode cX3_plan 1 = .ok (.iconst 0, 1) := by decide +kernel
theorem dX3_plan_2 : decode cX3_plan 2 = .ok (.bipush 60, 2) := by decide +kernel
theorem dX3_plan_4 : decode cX3_plan 4 = .ok (.invokestatic 68, 3) := by decide +kernel
theorem dX3_plan_7 : decode cX3_plan 7 = .ok (.ifCond .eq 22, 3) := by decide +kernel
theorem dX3_plan_10 : decode cX3_plan 10 = .ok (.iload_n 2, 1) := by decide +kernel
theorem dX3_plan_11 : decode cX3_plan 11 = .ok (.iconst 0, 1) := by decide +kernel
theorem dX3_plan_12 : decode cX3_plan 12 = .ok (.bipush 9, 2) := by decide +kernel
theorem dX3_plan_14 : decode cX3_plan 14 = .ok (.invokestatic 68, 3) := by decide +kernel
theorem dX3_plan_17 : decode cX3_plan 17 = .ok (.ifCond .eq 12, 3) := by decide +kernel
theorem dX3_plan_20 : decode cX3_plan 20 = .ok (.iload_n 3, 1) := by decide +kernel
theorem dX3_plan_21 : decode cX3_plan 21 = .ok (.iconst 0, 1) := by decide +kernel
theorem dX3_plan_22 : decode cX3_plan 22 = .ok (.iconst 3, 1) := by decide +kernel
theorem dX3_plan_23 : decode cX3_plan 23 = .ok (.invokestatic 68, 3) := by decide +kernel
theorem dX3_plan_26 : decode cX3_plan 26 = .ok (.ifCond .ne 6, 3) := by decide +kernel
theorem dX3_plan_29 : decode cX3_plan 29 = .ok (.bipush (-102), 2) := by decide +kernel
theorem dX3_plan_31 : decode cX3_plan 31 = .ok (.ireturn, 1) := by decide +kernel
theorem dX3_plan_32 : decode cX3_plan 32 = .ok (.aload_n 0, 1) := by decide +kernel
theorem dX3_plan_33 : decode cX3_plan 33 = .ok (.getfield 94, 3) := by decide +kernel
theorem dX3_plan_36 : decode cX3_plan 36 = .ok (.ifCond .ne 8, 3) := by decide +kernel
theorem dX3_plan_39 : decode cX3_plan 39 = .ok (.bipush (-103), 2) := by decide +kernel
theorem dX3_plan_41 : decode cX3_plan 41 = .ok (.goto 10, 3) := by decide +kernel
theorem dX3_plan_44 : decode cX3_plan 44 = .ok (.aload_n 0, 1) := by decide +kernel
theorem dX3_plan_45 : decode cX3_plan 45 = .ok (.iload_n 1, 1) := by decide +kernel
theorem dX3_plan_46 : decode cX3_plan 46 = .ok (.iload_n 2, 1) := by decide +kernel
theorem dX3_plan_47 : decode cX3_plan 47 = .ok (.iload_n 3, 1) := by decide +kernel
theorem dX3_plan_48 : decode cX3_plan 48 = .ok (.invokevirtual 164, 3) := by decide +kernel
theorem dX3_plan_51 : decode cX3_plan 51 = .ok (.ireturn, 1) := by decide +kernel
set_option maxRecDepth 20000 in
theorem ggX3_keptBy_X3_atMost : GoodIn wsX3_keptBy wsX3_atMost := goodIn_r _ [8] (by decide +kernel) (by decide +kernel)
set_option maxRecDepth 20000 in
theorem gX3_keptBy_X3_atMost : GoodIn wsX3_keptBy (va_wsS RX3 133 yX3_atMost wsX3_atMost) := goodIn_app (goodIn_of _ (by decide +kernel)) ggX3_keptBy_X3_atMost
set_option maxRecDepth 20000 in
theorem ggX3_keptBy_X3_isKept : GoodIn wsX3_keptBy wsX3_isKept := goodIn_r _ [12, 13, 14, 15, 16, 17, 18, 19, 20, 21, 22, 23, 24, 25, 26, 27, 28, 29, 30, 31, 32, 33, 34, 35, 36, 37, 38, 39, 40, 41, 42, 43, 44, 45, 46, 47, 48, 49, 50, 51, 52, 53] (by decide +kernel) (by decide +kernel)
set_option maxRecDepth 20000 in
theorem gX3_keptBy_X3_isKept : GoodIn wsX3_keptBy (wsV RX3 122 RX3 yX3_isKept wsX3_isKept) := goodIn_app (goodIn_of _ (by decide +kernel)) ggX3_keptBy_X3_isKept
theorem dX3_keptBy_0 : decode cX3_keptBy 0 = .ok (.iconst 0, 1) := by decide +kernel
theorem dX3_keptBy_1 : decode cX3_keptBy 1 = .ok (.istore_n 3, 1) := by decide +kernel
theorem dX3_keptBy_2 : decode cX3_keptBy 2 = .ok (.iconst 0, 1) := by decide +kernel
theorem dX3_keptBy_3 : decode cX3_keptBy 3 = .ok (.istore 4, 2) := by decide +kernel
theorem dX3_keptBy_5 : decode cX3_keptBy 5 = .ok (.iload 4, 2) := by decide +kernel
theorem dX3_keptBy_7 : decode cX3_keptBy 7 = .ok (.aload_n 0, 1) := by decide +kernel
theorem dX3_keptBy_8 : decode cX3_keptBy 8 = .ok (.getfield 94, 3) := by decide +kernel
theorem dX3_keptBy_11 : decode cX3_keptBy 11 = .ok (.if_icmp .ge 87, 3) := by decide +kernel
theorem dX3_keptBy_14 : decode cX3_keptBy 14 = .ok (.iload 4, 2) := by decide +kernel
theorem dX3_keptBy_16 : decode cX3_keptBy 16 = .ok (.iload_n 1, 1) := by decide +kernel
theorem dX3_keptBy_17 : decode cX3_keptBy 17 = .ok (.if_icmp .ne 22, 3) := by decide +kernel
theorem dX3_keptBy_20 : decode cX3_keptBy 20 = .ok (.aload_n 0, 1) := by decide +kernel
theorem dX3_keptBy_21 : decode cX3_keptBy 21 = .ok (.getfield 19, 3) := by decide +kernel
theorem dX3_keptBy_24 : decode cX3_keptBy 24 = .ok (.iload_n 1, 1) := by decide +kernel
theorem dX3_keptBy_25 : decode cX3_keptBy 25 = .ok (.iaload, 1) := by decide +kernel
theorem dX3_keptBy_26 : decode cX3_keptBy 26 = .ok (.aload_n 0, 1) := by decide +kernel
theorem dX3_keptBy_27 : decode cX3_keptBy 27 = .ok (.getfield 22, 3) := by decide +kernel
theorem dX3_keptBy_30 : decode cX3_keptBy 30 = .ok (.iload_n 2, 1) := by decide +kernel
theorem dX3_keptBy_31 : decode cX3_keptBy 31 = .ok (.iaload, 1) := by decide +kernel
theorem dX3_keptBy_32 : decode cX3_keptBy 32 = .ok (.iadd, 1) := by decide +kernel
theorem dX3_keptBy_33 : decode cX3_keptBy 33 = .ok (.invokestatic 133, 3) := by decide +kernel
theorem dX3_keptBy_36 : decode cX3_keptBy 36 = .ok (.goto 35, 3) := by decide +kernel
theorem dX3_keptBy_39 : decode cX3_keptBy 39 = .ok (.iload 4, 2) := by decide +kernel
theorem dX3_keptBy_41 : decode cX3_keptBy 41 = .ok (.iload_n 2, 1) := by decide +kernel
theorem dX3_keptBy_42 : decode cX3_keptBy 42 = .ok (.if_icmp .ne 22, 3) := by decide +kernel
theorem dX3_keptBy_45 : decode cX3_keptBy 45 = .ok (.aload_n 0, 1) := by decide +kernel
theorem dX3_keptBy_46 : decode cX3_keptBy 46 = .ok (.getfield 19, 3) := by decide +kernel
theorem dX3_keptBy_49 : decode cX3_keptBy 49 = .ok (.iload_n 2, 1) := by decide +kernel
theorem dX3_keptBy_50 : decode cX3_keptBy 50 = .ok (.iaload, 1) := by decide +kernel
theorem dX3_keptBy_51 : decode cX3_keptBy 51 = .ok (.aload_n 0, 1) := by decide +kernel
theorem dX3_keptBy_52 : decode cX3_keptBy 52 = .ok (.getfield 22, 3) := by decide +kernel
theorem dX3_keptBy_55 : decode cX3_keptBy 55 = .ok (.iload_n 1, 1) := by decide +kernel
theorem dX3_keptBy_56 : decode cX3_keptBy 56 = .ok (.iaload, 1) := by decide +kernel
theorem dX3_keptBy_57 : decode cX3_keptBy 57 = .ok (.iadd, 1) := by decide +kernel
theorem dX3_keptBy_58 : decode cX3_keptBy 58 = .ok (.invokestatic 133, 3) := by decide +kernel
theorem dX3_keptBy_61 : decode cX3_keptBy 61 = .ok (.goto 10, 3) := by decide +kernel
theorem dX3_keptBy_64 : decode cX3_keptBy 64 = .ok (.aload_n 0, 1) := by decide +kernel
theorem dX3_keptBy_65 : decode cX3_keptBy 65 = .ok (.getfield 16, 3) := by decide +kernel
theorem dX3_keptBy_68 : decode cX3_keptBy 68 = .ok (.iload 4, 2) := by decide +kernel
theorem dX3_keptBy_70 : decode cX3_keptBy 70 = .ok (.iaload, 1) := by decide +kernel
theorem dX3_keptBy_71 : decode cX3_keptBy 71 = .ok (.istore 5, 2) := by decide +kernel
theorem dX3_keptBy_73 : decode cX3_keptBy 73 = .ok (.iload_n 3, 1) := by decide +kernel
theorem dX3_keptBy_74 : decode cX3_keptBy 74 = .ok (.aload_n 0, 1) := by decide +kernel
theorem dX3_keptBy_75 : decode cX3_keptBy 75 = .ok (.iload 4, 2) := by decide +kernel
theorem dX3_keptBy_77 : decode cX3_keptBy 77 = .ok (.iload 5, 2) := by decide +kernel
theorem dX3_keptBy_79 : decode cX3_keptBy 79 = .ok (.invokevirtual 122, 3) := by decide +kernel
theorem dX3_keptBy_82 : decode cX3_keptBy 82 = .ok (.ifCond .eq 7, 3) := by decide +kernel
theorem dX3_keptBy_85 : decode cX3_keptBy 85 = .ok (.iconst 1, 1) := by decide +kernel
theorem dX3_keptBy_86 : decode cX3_keptBy 86 = .ok (.goto 4, 3) := by decide +kernel
theorem dX3_keptBy_89 : decode cX3_keptBy 89 = .ok (.iconst 0, 1) := by decide +kernel
theorem dX3_keptBy_90 : decode cX3_keptBy 90 = .ok (.iadd, 1) := by decide +kernel
theorem dX3_keptBy_91 : decode cX3_keptBy 91 = .ok (.istore_n 3, 1) := by decide +kernel
theorem dX3_keptBy_92 : decode cX3_keptBy 92 = .ok (.iinc 4 1, 3) := by decide +kernel
theorem dX3_keptBy_95 : decode cX3_keptBy 95 = .ok (.goto (-90), 3) := by decide +kernel
theorem dX3_keptBy_98 : decode cX3_keptBy 98 = .ok (.iload_n 3, 1) := by decide +kernel
theorem dX3_keptBy_99 : decode cX3_keptBy 99 = .ok (.ireturn, 1) := by decide +kernel
set_option maxRecDepth 20000 in
theorem ggX3_errorNow_X3_keptNow : GoodIn wsX3_errorNow wsX3_keptNow := goodIn_r _ [6, 1, 7, 8, 9, 10, 5, 11, 12, 22, 23, 24, 25, 26, 27, 28, 29, 30, 31, 32, 33, 34, 35, 36, 37, 38, 39, 40, 41, 42, 43, 44, 45, 46, 47, 48, 49, 50, 51, 52, 53, 54, 55, 56, 57, 58, 59, 60, 61] (by decide +kernel) (by decide +kernel)
set_option maxRecDepth 20000 in
theorem gX3_errorNow_X3_keptNow : GoodIn wsX3_errorNow (wsV RX3 140 RX3 yX3_keptNow wsX3_keptNow) := goodIn_app (goodIn_of _ (by decide +kernel)) ggX3_errorNow_X3_keptNow
set_option maxRecDepth 20000 in
theorem ggX3_errorNow_X3_keptBy : GoodIn wsX3_errorNow wsX3_keptBy := goodIn_r _ [16, 1, 17, 18, 7, 19, 20, 5, 21, 8, 9, 10, 11, 12, 22, 23, 24, 25, 26, 27, 28, 29, 30, 31, 32, 33, 34, 35, 36, 37, 38, 39, 40, 41, 42, 43, 44, 45, 46, 47, 48, 49, 50, 51, 52, 53, 54, 55, 56, 57, 58, 59, 60, 61] (by decide +kernel) (by decide +kernel)
set_option maxRecDepth 20000 in
theorem gX3_errorNow_X3_keptBy : GoodIn wsX3_errorNow (wsV RX3 168 RX3 yX3_keptBy wsX3_keptBy) := goodIn_app (goodIn_of _ (by decide +kernel)) ggX3_errorNow_X3_keptBy
theorem dX3_errorNow_0 : decode cX3_errorNow 0 = .ok (.iconst (-1), 1) := by decide +kernel
theorem dX3_errorNow_1 : decode cX3_errorNow 1 = .ok (.istore_n 2, 1) := by decide +kernel
theorem dX3_errorNow_2 : decode cX3_errorNow 2 = .ok (.aload_n 0, 1) := by decide +kernel
theorem dX3_errorNow_3 : decode cX3_errorNow 3 = .ok (.invokevirtual 140, 3) := by decide +kernel
theorem dX3_errorNow_6 : decode cX3_errorNow 6 = .ok (.istore_n 3, 1) := by decide +kernel
theorem dX3_errorNow_7 : decode cX3_errorNow 7 = .ok (.iconst 0, 1) := by decide +kernel
theorem dX3_errorNow_8 : decode cX3_errorNow 8 = .ok (.istore 4, 2) := by decide +kernel
theorem dX3_errorNow_10 : decode cX3_errorNow 10 = .ok (.iload 4, 2) := by decide +kernel
theorem dX3_errorNow_12 : decode cX3_errorNow 12 = .ok (.aload_n 0, 1) := by decide +kernel
theorem dX3_errorNow_13 : decode cX3_errorNow 13 = .ok (.getfield 94, 3) := by decide +kernel
theorem dX3_errorNow_16 : decode cX3_errorNow 16 = .ok (.if_icmp .ge 72, 3) := by decide +kernel
theorem dX3_errorNow_19 : decode cX3_errorNow 19 = .ok (.iload 4, 2) := by decide +kernel
theorem dX3_errorNow_21 : decode cX3_errorNow 21 = .ok (.iconst 1, 1) := by decide +kernel
theorem dX3_errorNow_22 : decode cX3_errorNow 22 = .ok (.iadd, 1) := by decide +kernel
theorem dX3_errorNow_23 : decode cX3_errorNow 23 = .ok (.istore 5, 2) := by decide +kernel
theorem dX3_errorNow_25 : decode cX3_errorNow 25 = .ok (.iload 5, 2) := by decide +kernel
theorem dX3_errorNow_27 : decode cX3_errorNow 27 = .ok (.aload_n 0, 1) := by decide +kernel
theorem dX3_errorNow_28 : decode cX3_errorNow 28 = .ok (.getfield 94, 3) := by decide +kernel
theorem dX3_errorNow_31 : decode cX3_errorNow 31 = .ok (.if_icmp .ge 51, 3) := by decide +kernel
theorem dX3_errorNow_34 : decode cX3_errorNow 34 = .ok (.aload_n 0, 1) := by decide +kernel
theorem dX3_errorNow_35 : decode cX3_errorNow 35 = .ok (.iload 4, 2) := by decide +kernel
theorem dX3_errorNow_37 : decode cX3_errorNow 37 = .ok (.iload 5, 2) := by decide +kernel
theorem dX3_errorNow_39 : decode cX3_errorNow 39 = .ok (.invokevirtual 168, 3) := by decide +kernel
theorem dX3_errorNow_42 : decode cX3_errorNow 42 = .ok (.istore 6, 2) := by decide +kernel
theorem dX3_errorNow_44 : decode cX3_errorNow 44 = .ok (.iload 6, 2) := by decide +kernel
theorem dX3_errorNow_46 : decode cX3_errorNow 46 = .ok (.iload_n 3, 1) := by decide +kernel
theorem dX3_errorNow_47 : decode cX3_errorNow 47 = .ok (.if_icmp .le 14, 3) := by decide +kernel
theorem dX3_errorNow_50 : decode cX3_errorNow 50 = .ok (.bipush 10, 2) := by decide +kernel
theorem dX3_errorNow_52 : decode cX3_errorNow 52 = .ok (.iload 4, 2) := by decide +kernel
theorem dX3_errorNow_54 : decode cX3_errorNow 54 = .ok (.imul, 1) := by decide +kernel
theorem dX3_errorNow_55 : decode cX3_errorNow 55 = .ok (.iload 5, 2) := by decide +kernel
theorem dX3_errorNow_57 : decode cX3_errorNow 57 = .ok (.iadd, 1) := by decide +kernel
theorem dX3_errorNow_58 : decode cX3_errorNow 58 = .ok (.goto 4, 3) := by decide +kernel
theorem dX3_errorNow_61 : decode cX3_errorNow 61 = .ok (.iload_n 2, 1) := by decide +kernel
theorem dX3_errorNow_62 : decode cX3_errorNow 62 = .ok (.istore_n 2, 1) := by decide +kernel
theorem dX3_errorNow_63 : decode cX3_errorNow 63 = .ok (.iload 6, 2) := by decide +kernel
theorem dX3_errorNow_65 : decode cX3_errorNow 65 = .ok (.iload_n 3, 1) := by decide +kernel
theorem dX3_errorNow_66 : decode cX3_errorNow 66 = .ok (.if_icmp .le 8, 3) := by decide +kernel
theorem dX3_errorNow_69 : decode cX3_errorNow 69 = .ok (.iload 6, 2) := by decide +kernel
theorem dX3_errorNow_71 : decode cX3_errorNow 71 = .ok (.goto 4, 3) := by decide +kernel
theorem dX3_errorNow_74 : decode cX3_errorNow 74 = .ok (.iload_n 3, 1) := by decide +kernel
theorem dX3_errorNow_75 : decode cX3_errorNow 75 = .ok (.istore_n 3, 1) := by decide +kernel
theorem dX3_errorNow_76 : decode cX3_errorNow 76 = .ok (.iinc 5 1, 3) := by decide +kernel
theorem dX3_errorNow_79 : decode cX3_errorNow 79 = .ok (.goto (-54), 3) := by decide +kernel
theorem dX3_errorNow_82 : decode cX3_errorNow 82 = .ok (.iinc 4 1, 3) := by decide +kernel
theorem dX3_errorNow_85 : decode cX3_errorNow 85 = .ok (.goto (-75), 3) := by decide +kernel
theorem dX3_errorNow_88 : decode cX3_errorNow 88 = .ok (.iload_n 2, 1) := by decide +kernel
theorem dX3_errorNow_89 : decode cX3_errorNow 89 = .ok (.iconst (-1), 1) := by decide +kernel
theorem dX3_errorNow_90 : decode cX3_errorNow 90 = .ok (.if_icmp .eq 7, 3) := by decide +kernel
theorem dX3_errorNow_93 : decode cX3_errorNow 93 = .ok (.iload_n 1, 1) := by decide +kernel
theorem dX3_errorNow_94 : decode cX3_errorNow 94 = .ok (.ifCond .ne 7, 3) := by decide +kernel
theorem dX3_errorNow_97 : decode cX3_errorNow 97 = .ok (.iload_n 2, 1) := by decide +kernel
theorem dX3_errorNow_98 : decode cX3_errorNow 98 = .ok (.goto 4, 3) := by decide +kernel
theorem dX3_errorNow_101 : decode cX3_errorNow 101 = .ok (.iload_n 3, 1) := by decide +kernel
theorem dX3_errorNow_102 : decode cX3_errorNow 102 = .ok (.ireturn, 1) := by decide +kernel
set_option maxRecDepth 20000 in
theorem ggX3_error_X3_within : GoodIn wsX3_error wsX3_within := goodIn_r _ [5] (by decide +kernel) (by decide +kernel)
set_option maxRecDepth 20000 in
theorem gX3_error_X3_within : GoodIn wsX3_error (va_wsS RX3 68 yX3_within wsX3_within) := goodIn_app (goodIn_of _ (by decide +kernel)) ggX3_error_X3_within
set_option maxRecDepth 20000 in
theorem ggX3_error_X3_errorNow : GoodIn wsX3_error wsX3_errorNow := goodIn_r _ [9, 1, 10, 11, 12, 4, 13, 14, 15, 16, 17, 18, 19, 20, 21, 22, 23, 24, 25, 26, 27, 28, 29, 30, 31, 32, 33, 34, 35, 36, 37, 38, 39, 40, 41, 42, 43, 44, 45, 46, 47, 48, 49, 50, 51, 52, 53, 54, 55, 56, 57, 58, 59, 60, 61, 62, 63, 64, 65, 66, 67, 68] (by decide +kernel) (by decide +kernel)
set_option maxRecDepth 20000 in
theorem gX3_error_X3_errorNow : GoodIn wsX3_error (wsV RX3 171 RX3 yX3_errorNow wsX3_errorNow) := goodIn_app (goodIn_of _ (by decide +kernel)) ggX3_error_X3_errorNow
theorem dX3_error_0 : decode cX3_error 0 = .ok (.iload_n 1, 1) := by decide +kernel
theorem dX3_error_1 : decode cX3_error 1 = .ok (.iconst 0, 1) := by decide +kernel
theorem dX3_error_2 : decode cX3_error 2 = .ok (.iconst 1, 1) := by decide +kernel
theorem dX3_error_3 : decode cX3_error 3 = .ok (.invokestatic 68, 3) := by decide +kernel
theorem dX3_error_6 : decode cX3_error 6 = .ok (.ifCond .ne 6, 3) := by decide +kernel
theorem dX3_error_9 : decode cX3_error 9 = .ok (.bipush (-102), 2) := by decide +kernel
theorem dX3_error_11 : decode cX3_error 11 = .ok (.ireturn, 1) := by decide +kernel
theorem dX3_error_12 : decode cX3_error 12 = .ok (.aload_n 0, 1) := by decide +kernel
theorem dX3_error_13 : decode cX3_error 13 = .ok (.getfield 94, 3) := by decide +kernel
theorem dX3_error_16 : decode cX3_error 16 = .ok (.ifCond .ne 8, 3) := by decide +kernel
theorem dX3_error_19 : decode cX3_error 19 = .ok (.bipush (-103), 2) := by decide +kernel
theorem dX3_error_21 : decode cX3_error 21 = .ok (.goto 8, 3) := by decide +kernel
theorem dX3_error_24 : decode cX3_error 24 = .ok (.aload_n 0, 1) := by decide +kernel
theorem dX3_error_25 : decode cX3_error 25 = .ok (.iload_n 1, 1) := by decide +kernel
theorem dX3_error_26 : decode cX3_error 26 = .ok (.invokevirtual 171, 3) := by decide +kernel
theorem dX3_error_29 : decode cX3_error 29 = .ok (.ireturn, 1) := by decide +kernel
set_option maxRecDepth 20000 in
theorem ggX3_found_X3_isSite : GoodIn wsX3_found wsX3_isSite := goodIn_r _ [9, 10, 11, 12, 8, 13, 14, 15, 16, 17, 18, 19, 20, 21, 22, 23, 24, 25, 26, 27, 28, 29, 30, 31, 32, 33, 34, 35, 36, 37, 38, 39, 40, 41, 42, 43, 44, 45, 46, 47, 48, 49, 50, 51, 52, 53] (by decide +kernel) (by decide +kernel)
set_option maxRecDepth 20000 in
theorem gX3_found_X3_isSite : GoodIn wsX3_found (wsV RX3 126 RX3 yX3_isSite wsX3_isSite) := goodIn_app (goodIn_of _ (by decide +kernel)) ggX3_found_X3_isSite
set_option maxRecDepth 20000 in
theorem ggX3_found_X3_within : GoodIn wsX3_found wsX3_within := goodIn_r _ [13] (by decide +kernel) (by decide +kernel)
set_option maxRecDepth 20000 in
theorem gX3_found_X3_within : GoodIn wsX3_found (va_wsS RX3 68 yX3_within wsX3_within) := goodIn_app (goodIn_of _ (by decide +kernel)) ggX3_found_X3_within
theorem dX3_found_0 : decode cX3_found 0 = .ok (.aload_n 0, 1) := by decide +kernel
theorem dX3_found_1 : decode cX3_found 1 = .ok (.iload_n 1, 1) := by decide +kernel
theorem dX3_found_2 : decode cX3_found 2 = .ok (.invokevirtual 126, 3) := by decide +kernel
theorem dX3_found_5 : decode cX3_found 5 = .ok (.ifCond .ne 6, 3) := by decide +kernel
theorem dX3_found_8 : decode cX3_found 8 = .ok (.bipush (-101), 2) := by decide +kernel
theorem dX3_found_10 : decode cX3_found 10 = .ok (.ireturn, 1) := by decide +kernel
theorem dX3_found_11 : decode cX3_found 11 = .ok (.iload_n 2, 1) := by decide +kernel
theorem dX3_found_12 : decode cX3_found 12 = .ok (.iconst 0, 1) := by decide +kernel
theorem dX3_found_13 : decode cX3_found 13 = .ok (.bipush 30, 2) := by decide +kernel
theorem dX3_found_15 : decode cX3_found 15 = .ok (.invokestatic 68, 3) := by decide +kernel
theorem dX3_found_18 : decode cX3_found 18 = .ok (.ifCond .eq 13, 3) := by decide +kernel
theorem dX3_found_21 : decode cX3_found 21 = .ok (.iload_n 3, 1) := by decide +kernel
theorem dX3_found_22 : decode cX3_found 22 = .ok (.iconst 0, 1) := by decide +kernel
theorem dX3_found_23 : decode cX3_found 23 = .ok (.bipush 30, 2) := by decide +kernel
theorem dX3_found_25 : decode cX3_found 25 = .ok (.invokestatic 68, 3) := by decide +kernel
theorem dX3_found_28 : decode cX3_found 28 = .ok (.ifCond .ne 6, 3) := by decide +kernel
theorem dX3_found_31 : decode cX3_found 31 = .ok (.bipush (-102), 2) := by decide +kernel
theorem dX3_found_33 : decode cX3_found 33 = .ok (.ireturn, 1) := by decide +kernel
theorem dX3_found_34 : decode cX3_found 34 = .ok (.aload_n 0, 1) := by decide +kernel
theorem dX3_found_35 : decode cX3_found 35 = .ok (.getfield 112, 3) := by decide +kernel
theorem dX3_found_38 : decode cX3_found 38 = .ok (.bipush 6, 2) := by decide +kernel
theorem dX3_found_40 : decode cX3_found 40 = .ok (.if_icmp .ne 6, 3) := by decide +kernel
theorem dX3_found_43 : decode cX3_found 43 = .ok (.bipush (-104), 2) := by decide +kernel
theorem dX3_found_45 : decode cX3_found 45 = .ok (.ireturn, 1) := by decide +kernel
theorem dX3_found_46 : decode cX3_found 46 = .ok (.aload_n 0, 1) := by decide +kernel
theorem dX3_found_47 : decode cX3_found 47 = .ok (.getfield 28, 3) := by decide +kernel
theorem dX3_found_50 : decode cX3_found 50 = .ok (.aload_n 0, 1) := by decide +kernel
theorem dX3_found_51 : decode cX3_found 51 = .ok (.getfield 112, 3) := by decide +kernel
theorem dX3_found_54 : decode cX3_found 54 = .ok (.iload_n 1, 1) := by decide +kernel
theorem dX3_found_55 : decode cX3_found 55 = .ok (.iastore, 1) := by decide +kernel
theorem dX3_found_56 : decode cX3_found 56 = .ok (.aload_n 0, 1) := by decide +kernel
theorem dX3_found_57 : decode cX3_found 57 = .ok (.getfield 31, 3) := by decide +kernel
theorem dX3_found_60 : decode cX3_found 60 = .ok (.aload_n 0, 1) := by decide +kernel
theorem dX3_found_61 : decode cX3_found 61 = .ok (.getfield 112, 3) := by decide +kernel
theorem dX3_found_64 : decode cX3_found 64 = .ok (.iload_n 2, 1) := by decide +kernel
theorem dX3_found_65 : decode cX3_found 65 = .ok (.iastore, 1) := by decide +kernel
theorem dX3_found_66 : decode cX3_found 66 = .ok (.aload_n 0, 1) := by decide +kernel
theorem dX3_found_67 : decode cX3_found 67 = .ok (.getfield 34, 3) := by decide +kernel
theorem dX3_found_70 : decode cX3_found 70 = .ok (.aload_n 0, 1) := by decide +kernel
theorem dX3_found_71 : decode cX3_found 71 = .ok (.getfield 112, 3) := by decide +kernel
theorem dX3_found_74 : decode cX3_found 74 = .ok (.iload_n 3, 1) := by decide +kernel
theorem dX3_found_75 : decode cX3_found 75 = .ok (.iastore, 1) := by decide +kernel
theorem dX3_found_76 : decode cX3_found 76 = .ok (.aload_n 0, 1) := by decide +kernel
theorem dX3_found_77 : decode cX3_found 77 = .ok (.dup, 1) := by decide +kernel
theorem dX3_found_78 : decode cX3_found 78 = .ok (.getfield 112, 3) := by decide +kernel
theorem dX3_found_81 : decode cX3_found 81 = .ok (.iconst 1, 1) := by decide +kernel
theorem dX3_found_82 : decode cX3_found 82 = .ok (.iadd, 1) := by decide +kernel
theorem dX3_found_83 : decode cX3_found 83 = .ok (.putfield 112, 3) := by decide +kernel
theorem dX3_found_86 : decode cX3_found 86 = .ok (.aload_n 0, 1) := by decide +kernel
theorem dX3_found_87 : decode cX3_found 87 = .ok (.getfield 112, 3) := by decide +kernel
theorem dX3_found_90 : decode cX3_found 90 = .ok (.ireturn, 1) := by decide +kernel
theorem dX3_forget_0 : decode cX3_forget 0 = .ok (.aload_n 0, 1) := by decide +kernel
theorem dX3_forget_1 : decode cX3_forget 1 = .ok (.getfield 112, 3) := by decide +kernel
theorem dX3_forget_4 : decode cX3_forget 4 = .ok (.istore_n 1, 1) := by decide +kernel
theorem dX3_forget_5 : decode cX3_forget 5 = .ok (.aload_n 0, 1) := by decide +kernel
theorem dX3_forget_6 : decode cX3_forget 6 = .ok (.iconst 0, 1) := by decide +kernel
theorem dX3_forget_7 : decode cX3_forget 7 = .ok (.putfield 112, 3) := by decide +kernel
theorem dX3_forget_10 : decode cX3_forget 10 = .ok (.iload_n 1, 1) := by decide +kernel
theorem dX3_forget_11 : decode cX3_forget 11 = .ok (.ireturn, 1) := by decide +kernel
set_option maxRecDepth 20000 in
theorem ggX3_leftOf_X3_meltsBy : GoodIn wsX3_leftOf wsX3_meltsBy := goodIn_r _ [5, 6, 7, 8, 9, 4, 10, 11, 12, 13, 14, 15, 16, 17, 18, 19, 20, 21, 22, 23, 24, 25, 26, 27, 28, 29, 30, 31, 32, 33, 34, 35, 36, 37, 38, 39, 40, 41, 42, 43, 44, 45, 46, 47, 48, 49, 50] (by decide +kernel) (by decide +kernel)
set_option maxRecDepth 20000 in
theorem gX3_leftOf_X3_meltsBy : GoodIn wsX3_leftOf (wsV RX3 118 RX3 yX3_meltsBy wsX3_meltsBy) := goodIn_app (goodIn_of _ (by decide +kernel)) ggX3_leftOf_X3_meltsBy
set_option maxRecDepth 20000 in
theorem ggX3_leftOf_X3_notBelow : GoodIn wsX3_leftOf wsX3_notBelow := goodIn_r _ [10] (by decide +kernel) (by decide +kernel)
set_option maxRecDepth 20000 in
theorem gX3_leftOf_X3_notBelow : GoodIn wsX3_leftOf (va_wsS RX3 115 yX3_notBelow wsX3_notBelow) := goodIn_app (goodIn_of _ (by decide +kernel)) ggX3_leftOf_X3_notBelow
theorem dX3_leftOf_0 : decode cX3_leftOf 0 = .ok (.iload_n 2, 1) := by decide +kernel
theorem dX3_leftOf_1 : decode cX3_leftOf 1 = .ok (.aload_n 0, 1) := by decide +kernel
theorem dX3_leftOf_2 : decode cX3_leftOf 2 = .ok (.iload_n 1, 1) := by decide +kernel
theorem dX3_leftOf_3 : decode cX3_leftOf 3 = .ok (.iload_n 3, 1) := by decide +kernel
theorem dX3_leftOf_4 : decode cX3_leftOf 4 = .ok (.invokevirtual 118, 3) := by decide +kernel
theorem dX3_leftOf_7 : decode cX3_leftOf 7 = .ok (.isub, 1) := by decide +kernel
theorem dX3_leftOf_8 : decode cX3_leftOf 8 = .ok (.invokestatic 115, 3) := by decide +kernel
theorem dX3_leftOf_11 : decode cX3_leftOf 11 = .ok (.ireturn, 1) := by decide +kernel
set_option maxRecDepth 20000 in
theorem ggX3_sunsNow_X3_leftOf : GoodIn wsX3_sunsNow wsX3_leftOf := goodIn_r _ [9, 10, 11, 12, 8, 13, 14, 15, 16, 17, 18, 19, 20, 21, 22, 23, 24, 25, 26, 27, 28, 29, 30, 31, 32, 33, 34, 35, 36, 37, 38, 39, 40, 41, 42, 43, 44, 45, 46, 47, 48, 49, 50, 51, 52, 53, 54, 55, 56, 57, 58] (by decide +kernel) (by decide +kernel)
set_option maxRecDepth 20000 in
theorem gX3_sunsNow_X3_leftOf : GoodIn wsX3_sunsNow (wsV RX3 174 RX3 yX3_leftOf wsX3_leftOf) := goodIn_app (goodIn_of _ (by decide +kernel)) ggX3_sunsNow_X3_leftOf
theorem dX3_sunsNow_0 : decode cX3_sunsNow 0 = .ok (.iconst 0, 1) := by decide +kernel
theorem dX3_sunsNow_1 : decode cX3_sunsNow 1 = .ok (.istore_n 1, 1) := by decide +kernel
theorem dX3_sunsNow_2 : decode cX3_sunsNow 2 = .ok (.iconst 0, 1) := by decide +kernel
theorem dX3_sunsNow_3 : decode cX3_sunsNow 3 = .ok (.istore_n 2, 1) := by decide +kernel
theorem dX3_sunsNow_4 : decode cX3_sunsNow 4 = .ok (.iload_n 2, 1) := by decide +kernel
theorem dX3_sunsNow_5 : decode cX3_sunsNow 5 = .ok (.bipush 9, 2) := by decide +kernel
theorem dX3_sunsNow_7 : decode cX3_sunsNow 7 = .ok (.if_icmp .gt 82, 3) := by decide +kernel
theorem dX3_sunsNow_10 : decode cX3_sunsNow 10 = .ok (.iconst 1, 1) := by decide +kernel
theorem dX3_sunsNow_11 : decode cX3_sunsNow 11 = .ok (.istore_n 3, 1) := by decide +kernel
theorem dX3_sunsNow_12 : decode cX3_sunsNow 12 = .ok (.iconst 0, 1) := by decide +kernel
theorem dX3_sunsNow_13 : decode cX3_sunsNow 13 = .ok (.istore 4, 2) := by decide +kernel
theorem dX3_sunsNow_15 : decode cX3_sunsNow 15 = .ok (.iload 4, 2) := by decide +kernel
theorem dX3_sunsNow_17 : decode cX3_sunsNow 17 = .ok (.aload_n 0, 1) := by decide +kernel
theorem dX3_sunsNow_18 : decode cX3_sunsNow 18 = .ok (.getfield 112, 3) := by decide +kernel
theorem dX3_sunsNow_21 : decode cX3_sunsNow 21 = .ok (.if_icmp .ge 48, 3) := by decide +kernel
theorem dX3_sunsNow_24 : decode cX3_sunsNow 24 = .ok (.iload_n 3, 1) := by decide +kernel
theorem dX3_sunsNow_25 : decode cX3_sunsNow 25 = .ok (.ifCond .eq 36, 3) := by decide +kernel
theorem dX3_sunsNow_28 : decode cX3_sunsNow 28 = .ok (.aload_n 0, 1) := by decide +kernel
theorem dX3_sunsNow_29 : decode cX3_sunsNow 29 = .ok (.aload_n 0, 1) := by decide +kernel
theorem dX3_sunsNow_30 : decode cX3_sunsNow 30 = .ok (.getfield 28, 3) := by decide +kernel
theorem dX3_sunsNow_33 : decode cX3_sunsNow 33 = .ok (.iload 4, 2) := by decide +kernel
theorem dX3_sunsNow_35 : decode cX3_sunsNow 35 = .ok (.iaload, 1) := by decide +kernel
theorem dX3_sunsNow_36 : decode cX3_sunsNow 36 = .ok (.aload_n 0, 1) := by decide +kernel
theorem dX3_sunsNow_37 : decode cX3_sunsNow 37 = .ok (.getfield 31, 3) := by decide +kernel
theorem dX3_sunsNow_40 : decode cX3_sunsNow 40 = .ok (.iload 4, 2) := by decide +kernel
theorem dX3_sunsNow_42 : decode cX3_sunsNow 42 = .ok (.iaload, 1) := by decide +kernel
theorem dX3_sunsNow_43 : decode cX3_sunsNow 43 = .ok (.iload_n 2, 1) := by decide +kernel
theorem dX3_sunsNow_44 : decode cX3_sunsNow 44 = .ok (.invokevirtual 174, 3) := by decide +kernel
theorem dX3_sunsNow_47 : decode cX3_sunsNow 47 = .ok (.aload_n 0, 1) := by decide +kernel
theorem dX3_sunsNow_48 : decode cX3_sunsNow 48 = .ok (.getfield 34, 3) := by decide +kernel
theorem dX3_sunsNow_51 : decode cX3_sunsNow 51 = .ok (.iload 4, 2) := by decide +kernel
theorem dX3_sunsNow_53 : decode cX3_sunsNow 53 = .ok (.iaload, 1) := by decide +kernel
theorem dX3_sunsNow_54 : decode cX3_sunsNow 54 = .ok (.if_icmp .ne 7, 3) := by decide +kernel
theorem dX3_sunsNow_57 : decode cX3_sunsNow 57 = .ok (.iconst 1, 1) := by decide +kernel
theorem dX3_sunsNow_58 : decode cX3_sunsNow 58 = .ok (.goto 4, 3) := by decide +kernel
theorem dX3_sunsNow_61 : decode cX3_sunsNow 61 = .ok (.iconst 0, 1) := by decide +kernel
theorem dX3_sunsNow_62 : decode cX3_sunsNow 62 = .ok (.istore_n 3, 1) := by decide +kernel
theorem dX3_sunsNow_63 : decode cX3_sunsNow 63 = .ok (.iinc 4 1, 3) := by decide +kernel
theorem dX3_sunsNow_66 : decode cX3_sunsNow 66 = .ok (.goto (-51), 3) := by decide +kernel
theorem dX3_sunsNow_69 : decode cX3_sunsNow 69 = .ok (.iload_n 1, 1) := by decide +kernel
theorem dX3_sunsNow_70 : decode cX3_sunsNow 70 = .ok (.iload_n 3, 1) := by decide +kernel
theorem dX3_sunsNow_71 : decode cX3_sunsNow 71 = .ok (.ifCond .eq 9, 3) := by decide +kernel
theorem dX3_sunsNow_74 : decode cX3_sunsNow 74 = .ok (.iconst 1, 1) := by decide +kernel
theorem dX3_sunsNow_75 : decode cX3_sunsNow 75 = .ok (.iload_n 2, 1) := by decide +kernel
theorem dX3_sunsNow_76 : decode cX3_sunsNow 76 = .ok (.ishl, 1) := by decide +kernel
theorem dX3_sunsNow_77 : decode cX3_sunsNow 77 = .ok (.goto 4, 3) := by decide +kernel
theorem dX3_sunsNow_80 : decode cX3_sunsNow 80 = .ok (.iconst 0, 1) := by decide +kernel
theorem dX3_sunsNow_81 : decode cX3_sunsNow 81 = .ok (.ior, 1) := by decide +kernel
theorem dX3_sunsNow_82 : decode cX3_sunsNow 82 = .ok (.istore_n 1, 1) := by decide +kernel
theorem dX3_sunsNow_83 : decode cX3_sunsNow 83 = .ok (.iinc 2 1, 3) := by decide +kernel
theorem dX3_sunsNow_86 : decode cX3_sunsNow 86 = .ok (.goto (-82), 3) := by decide +kernel
theorem dX3_sunsNow_89 : decode cX3_sunsNow 89 = .ok (.iload_n 1, 1) := by decide +kernel
theorem dX3_sunsNow_90 : decode cX3_sunsNow 90 = .ok (.ireturn, 1) := by decide +kernel
set_option maxRecDepth 20000 in
theorem ggX3_suns_X3_sunsNow : GoodIn wsX3_suns wsX3_sunsNow := goodIn_r _ [6, 7, 8, 9, 10, 11, 12, 13, 5, 14, 15, 16, 17, 18, 19, 20, 21, 22, 23, 24, 25, 26, 27, 28, 29, 30, 31, 32, 33, 34, 35, 36, 37, 38, 39, 40, 41, 42, 43, 44, 45, 46, 47, 48, 49, 50, 51, 52, 53, 54, 55, 56, 57, 58, 59, 60, 61, 62, 63] (by decide +kernel) (by decide +kernel)
set_option maxRecDepth 20000 in
theorem gX3_suns_X3_sunsNow : GoodIn wsX3_suns (wsV RX3 177 RX3 yX3_sunsNow wsX3_sunsNow) := goodIn_app (goodIn_of _ (by decide +kernel)) ggX3_suns_X3_sunsNow
theorem dX3_suns_0 : decode cX3_suns 0 = .ok (.aload_n 0, 1) := by decide +kernel
theorem dX3_suns_1 : decode cX3_suns 1 = .ok (.getfield 94, 3) := by decide +kernel
theorem dX3_suns_4 : decode cX3_suns 4 = .ok (.ifCond .ne 8, 3) := by decide +kernel
theorem dX3_suns_7 : decode cX3_suns 7 = .ok (.bipush (-103), 2) := by decide +kernel
theorem dX3_suns_9 : decode cX3_suns 9 = .ok (.goto 7, 3) := by decide +kernel
theorem dX3_suns_12 : decode cX3_suns 12 = .ok (.aload_n 0, 1) := by decide +kernel
theorem dX3_suns_13 : decode cX3_suns 13 = .ok (.invokevirtual 177, 3) := by decide +kernel
theorem dX3_suns_16 : decode cX3_suns 16 = .ok (.ireturn, 1) := by decide +kernel
set_option maxRecDepth 20000 in
theorem ggX3_worstAt_X3_isIn : GoodIn wsX3_worstAt wsX3_isIn := goodIn_r _ [4] (by decide +kernel) (by decide +kernel)
set_option maxRecDepth 20000 in
theorem gX3_worstAt_X3_isIn : GoodIn wsX3_worstAt (va_wsS RX3 155 yX3_isIn wsX3_isIn) := goodIn_app (goodIn_of _ (by decide +kernel)) ggX3_worstAt_X3_isIn
set_option maxRecDepth 20000 in
theorem ggX3_worstAt_X3_leftOf : GoodIn wsX3_worstAt wsX3_leftOf := goodIn_r _ [8, 9, 10, 11, 3, 12, 13, 14, 15, 16, 17, 18, 19, 20, 21, 22, 23, 24, 25, 26, 27, 28, 29, 30, 31, 32, 33, 34, 35, 36, 37, 38, 39, 40, 41, 42, 43, 44, 45, 46, 47, 48, 49, 50, 51, 52, 53, 54, 55, 56, 57] (by decide +kernel) (by decide +kernel)
set_option maxRecDepth 20000 in
theorem gX3_worstAt_X3_leftOf : GoodIn wsX3_worstAt (wsV RX3 174 RX3 yX3_leftOf wsX3_leftOf) := goodIn_app (goodIn_of _ (by decide +kernel)) ggX3_worstAt_X3_leftOf
theorem dX3_worstAt_0 : decode cX3_worstAt 0 = .ok (.iconst 0, 1) := by decide +kernel
theorem dX3_worstAt_1 : decode cX3_worstAt 1 = .ok (.istore_n 3, 1) := by decide +kernel
theorem dX3_worstAt_2 : decode cX3_worstAt 2 = .ok (.iconst 0, 1) := by decide +kernel
theorem dX3_worstAt_3 : decode cX3_worstAt 3 = .ok (.istore 4, 2) := by decide +kernel
theorem dX3_worstAt_5 : decode cX3_worstAt 5 = .ok (.iload 4, 2) := by decide +kernel
theorem dX3_worstAt_7 : decode cX3_worstAt 7 = .ok (.bipush 9, 2) := by decide +kernel
theorem dX3_worstAt_9 : decode cX3_worstAt 9 = .ok (.if_icmp .gt 90, 3) := by decide +kernel
theorem dX3_worstAt_12 : decode cX3_worstAt 12 = .ok (.iconst 0, 1) := by decide +kernel
theorem dX3_worstAt_13 : decode cX3_worstAt 13 = .ok (.istore 5, 2) := by decide +kernel
theorem dX3_worstAt_15 : decode cX3_worstAt 15 = .ok (.iconst 0, 1) := by decide +kernel
theorem dX3_worstAt_16 : decode cX3_worstAt 16 = .ok (.istore 6, 2) := by decide +kernel
theorem dX3_worstAt_18 : decode cX3_worstAt 18 = .ok (.iload 6, 2) := by decide +kernel
theorem dX3_worstAt_20 : decode cX3_worstAt 20 = .ok (.bipush 9, 2) := by decide +kernel
theorem dX3_worstAt_22 : decode cX3_worstAt 22 = .ok (.if_icmp .gt 58, 3) := by decide +kernel
theorem dX3_worstAt_25 : decode cX3_worstAt 25 = .ok (.iload 5, 2) := by decide +kernel
theorem dX3_worstAt_27 : decode cX3_worstAt 27 = .ok (.iload_n 1, 1) := by decide +kernel
theorem dX3_worstAt_28 : decode cX3_worstAt 28 = .ok (.iload 4, 2) := by decide +kernel
theorem dX3_worstAt_30 : decode cX3_worstAt 30 = .ok (.invokestatic 155, 3) := by decide +kernel
theorem dX3_worstAt_33 : decode cX3_worstAt 33 = .ok (.ifCond .eq 37, 3) := by decide +kernel
theorem dX3_worstAt_36 : decode cX3_worstAt 36 = .ok (.iload_n 1, 1) := by decide +kernel
theorem dX3_worstAt_37 : decode cX3_worstAt 37 = .ok (.iload 6, 2) := by decide +kernel
theorem dX3_worstAt_39 : decode cX3_worstAt 39 = .ok (.invokestatic 155, 3) := by decide +kernel
theorem dX3_worstAt_42 : decode cX3_worstAt 42 = .ok (.ifCond .eq 28, 3) := by decide +kernel
theorem dX3_worstAt_45 : decode cX3_worstAt 45 = .ok (.aload_n 0, 1) := by decide +kernel
theorem dX3_worstAt_46 : decode cX3_worstAt 46 = .ok (.iload_n 2, 1) := by decide +kernel
theorem dX3_worstAt_47 : decode cX3_worstAt 47 = .ok (.bipush 30, 2) := by decide +kernel
theorem dX3_worstAt_49 : decode cX3_worstAt 49 = .ok (.iload 4, 2) := by decide +kernel
theorem dX3_worstAt_51 : decode cX3_worstAt 51 = .ok (.invokevirtual 174, 3) := by decide +kernel
theorem dX3_worstAt_54 : decode cX3_worstAt 54 = .ok (.aload_n 0, 1) := by decide +kernel
theorem dX3_worstAt_55 : decode cX3_worstAt 55 = .ok (.iload_n 2, 1) := by decide +kernel
theorem dX3_worstAt_56 : decode cX3_worstAt 56 = .ok (.bipush 30, 2) := by decide +kernel
theorem dX3_worstAt_58 : decode cX3_worstAt 58 = .ok (.iload 6, 2) := by decide +kernel
theorem dX3_worstAt_60 : decode cX3_worstAt 60 = .ok (.invokevirtual 174, 3) := by decide +kernel
theorem dX3_worstAt_63 : decode cX3_worstAt 63 = .ok (.if_icmp .ne 7, 3) := by decide +kernel
theorem dX3_worstAt_66 : decode cX3_worstAt 66 = .ok (.iconst 1, 1) := by decide +kernel
theorem dX3_worstAt_67 : decode cX3_worstAt 67 = .ok (.goto 4, 3) := by decide +kernel
theorem dX3_worstAt_70 : decode cX3_worstAt 70 = .ok (.iconst 0, 1) := by decide +kernel
theorem dX3_worstAt_71 : decode cX3_worstAt 71 = .ok (.iadd, 1) := by decide +kernel
theorem dX3_worstAt_72 : decode cX3_worstAt 72 = .ok (.istore 5, 2) := by decide +kernel
theorem dX3_worstAt_74 : decode cX3_worstAt 74 = .ok (.iinc 6 1, 3) := by decide +kernel
theorem dX3_worstAt_77 : decode cX3_worstAt 77 = .ok (.goto (-59), 3) := by decide +kernel
theorem dX3_worstAt_80 : decode cX3_worstAt 80 = .ok (.iload 5, 2) := by decide +kernel
theorem dX3_worstAt_82 : decode cX3_worstAt 82 = .ok (.iload_n 3, 1) := by decide +kernel
theorem dX3_worstAt_83 : decode cX3_worstAt 83 = .ok (.if_icmp .le 8, 3) := by decide +kernel
theorem dX3_worstAt_86 : decode cX3_worstAt 86 = .ok (.iload 5, 2) := by decide +kernel
theorem dX3_worstAt_88 : decode cX3_worstAt 88 = .ok (.goto 4, 3) := by decide +kernel
theorem dX3_worstAt_91 : decode cX3_worstAt 91 = .ok (.iload_n 3, 1) := by decide +kernel
theorem dX3_worstAt_92 : decode cX3_worstAt 92 = .ok (.istore_n 3, 1) := by decide +kernel
theorem dX3_worstAt_93 : decode cX3_worstAt 93 = .ok (.iinc 4 1, 3) := by decide +kernel
theorem dX3_worstAt_96 : decode cX3_worstAt 96 = .ok (.goto (-91), 3) := by decide +kernel
theorem dX3_worstAt_99 : decode cX3_worstAt 99 = .ok (.iload_n 3, 1) := by decide +kernel
theorem dX3_worstAt_100 : decode cX3_worstAt 100 = .ok (.ireturn, 1) := by decide +kernel
set_option maxRecDepth 20000 in
theorem ggX3_lookNow_X3_sunsNow : GoodIn wsX3_lookNow wsX3_sunsNow := goodIn_r _ [7, 8, 9, 10, 11, 12, 13, 14, 6, 15, 16, 17, 18, 19, 20, 21, 22, 23, 24, 32, 33, 34, 35, 36, 37, 38, 39, 40, 41, 42, 43, 44, 45, 46, 47, 48, 49, 50, 51, 52, 53, 54, 55, 56, 57, 58, 59, 60, 61, 62, 63, 64, 65, 66, 67, 68, 69, 70, 71] (by decide +kernel) (by decide +kernel)
set_option maxRecDepth 20000 in
theorem gX3_lookNow_X3_sunsNow : GoodIn wsX3_lookNow (wsV RX3 177 RX3 yX3_sunsNow wsX3_sunsNow) := goodIn_app (goodIn_of _ (by decide +kernel)) ggX3_lookNow_X3_sunsNow
set_option maxRecDepth 20000 in
theorem ggX3_lookNow_X3_worstAt : GoodIn wsX3_lookNow wsX3_worstAt := goodIn_r _ [28, 29, 30, 6, 31, 12, 13, 14, 15, 16, 17, 18, 19, 20, 21, 22, 23, 24, 32, 33, 34, 35, 36, 37, 38, 39, 40, 41, 42, 43, 44, 45, 46, 47, 48, 49, 50, 51, 52, 53, 54, 55, 56, 57, 58, 59, 60, 61, 62, 63, 64, 65, 66, 67, 68, 69, 70, 71] (by decide +kernel) (by decide +kernel)
set_option maxRecDepth 20000 in
theorem gX3_lookNow_X3_worstAt : GoodIn wsX3_lookNow (wsV RX3 181 RX3 yX3_worstAt wsX3_worstAt) := goodIn_app (goodIn_of _ (by decide +kernel)) ggX3_lookNow_X3_worstAt
theorem dX3_lookNow_0 : decode cX3_lookNow 0 = .ok (.aload_n 0, 1) := by decide +kernel
theorem dX3_lookNow_1 : decode cX3_lookNow 1 = .ok (.invokevirtual 177, 3) := by decide +kernel
theorem dX3_lookNow_4 : decode cX3_lookNow 4 = .ok (.istore_n 1, 1) := by decide +kernel
theorem dX3_lookNow_5 : decode cX3_lookNow 5 = .ok (.iconst (-1), 1) := by decide +kernel
theorem dX3_lookNow_6 : decode cX3_lookNow 6 = .ok (.istore_n 2, 1) := by decide +kernel
theorem dX3_lookNow_7 : decode cX3_lookNow 7 = .ok (.iload_n 1, 1) := by decide +kernel
theorem dX3_lookNow_8 : decode cX3_lookNow 8 = .ok (.ifCond .ne 7, 3) := by decide +kernel
theorem dX3_lookNow_11 : decode cX3_lookNow 11 = .ok (.iconst 0, 1) := by decide +kernel
theorem dX3_lookNow_12 : decode cX3_lookNow 12 = .ok (.goto 5, 3) := by decide +kernel
theorem dX3_lookNow_15 : decode cX3_lookNow 15 = .ok (.ldc 180, 2) := by decide +kernel
theorem dX3_lookNow_17 : decode cX3_lookNow 17 = .ok (.istore_n 3, 1) := by decide +kernel
theorem dX3_lookNow_18 : decode cX3_lookNow 18 = .ok (.iconst 0, 1) := by decide +kernel
theorem dX3_lookNow_19 : decode cX3_lookNow 19 = .ok (.istore 4, 2) := by decide +kernel
theorem dX3_lookNow_21 : decode cX3_lookNow 21 = .ok (.iload 4, 2) := by decide +kernel
theorem dX3_lookNow_23 : decode cX3_lookNow 23 = .ok (.aload_n 0, 1) := by decide +kernel
theorem dX3_lookNow_24 : decode cX3_lookNow 24 = .ok (.getfield 94, 3) := by decide +kernel
theorem dX3_lookNow_27 : decode cX3_lookNow 27 = .ok (.if_icmp .ge 44, 3) := by decide +kernel
theorem dX3_lookNow_30 : decode cX3_lookNow 30 = .ok (.aload_n 0, 1) := by decide +kernel
theorem dX3_lookNow_31 : decode cX3_lookNow 31 = .ok (.iload_n 1, 1) := by decide +kernel
theorem dX3_lookNow_32 : decode cX3_lookNow 32 = .ok (.iload 4, 2) := by decide +kernel
theorem dX3_lookNow_34 : decode cX3_lookNow 34 = .ok (.invokevirtual 181, 3) := by decide +kernel
theorem dX3_lookNow_37 : decode cX3_lookNow 37 = .ok (.istore 5, 2) := by decide +kernel
theorem dX3_lookNow_39 : decode cX3_lookNow 39 = .ok (.iload 5, 2) := by decide +kernel
theorem dX3_lookNow_41 : decode cX3_lookNow 41 = .ok (.iload_n 3, 1) := by decide +kernel
theorem dX3_lookNow_42 : decode cX3_lookNow 42 = .ok (.if_icmp .ge 8, 3) := by decide +kernel
theorem dX3_lookNow_45 : decode cX3_lookNow 45 = .ok (.iload 4, 2) := by decide +kernel
theorem dX3_lookNow_47 : decode cX3_lookNow 47 = .ok (.goto 4, 3) := by decide +kernel
theorem dX3_lookNow_50 : decode cX3_lookNow 50 = .ok (.iload_n 2, 1) := by decide +kernel
theorem dX3_lookNow_51 : decode cX3_lookNow 51 = .ok (.istore_n 2, 1) := by decide +kernel
theorem dX3_lookNow_52 : decode cX3_lookNow 52 = .ok (.iload 5, 2) := by decide +kernel
theorem dX3_lookNow_54 : decode cX3_lookNow 54 = .ok (.iload_n 3, 1) := by decide +kernel
theorem dX3_lookNow_55 : decode cX3_lookNow 55 = .ok (.if_icmp .ge 8, 3) := by decide +kernel
theorem dX3_lookNow_58 : decode cX3_lookNow 58 = .ok (.iload 5, 2) := by decide +kernel
theorem dX3_lookNow_60 : decode cX3_lookNow 60 = .ok (.goto 4, 3) := by decide +kernel
theorem dX3_lookNow_63 : decode cX3_lookNow 63 = .ok (.iload_n 3, 1) := by decide +kernel
theorem dX3_lookNow_64 : decode cX3_lookNow 64 = .ok (.istore_n 3, 1) := by decide +kernel
theorem dX3_lookNow_65 : decode cX3_lookNow 65 = .ok (.iinc 4 1, 3) := by decide +kernel
theorem dX3_lookNow_68 : decode cX3_lookNow 68 = .ok (.goto (-47), 3) := by decide +kernel
theorem dX3_lookNow_71 : decode cX3_lookNow 71 = .ok (.iload_n 2, 1) := by decide +kernel
theorem dX3_lookNow_72 : decode cX3_lookNow 72 = .ok (.ireturn, 1) := by decide +kernel
set_option maxRecDepth 20000 in
theorem ggX3_look_X3_lookNow : GoodIn wsX3_look wsX3_lookNow := goodIn_r _ [6, 7, 1, 8, 9, 10, 5, 11, 12, 13, 14, 15, 16, 17, 18, 19, 20, 21, 22, 23, 24, 25, 26, 27, 28, 29, 30, 31, 32, 33, 34, 35, 36, 37, 38, 39, 40, 41, 42, 43, 44, 45, 46, 47, 48, 49, 50, 51, 52, 53, 54, 55, 56, 57, 58, 59, 60, 61, 62, 63, 64, 65, 66, 67, 68, 69, 70, 71, 72, 73, 74, 75] (by decide +kernel) (by decide +kernel)
set_option maxRecDepth 20000 in
theorem gX3_look_X3_lookNow : GoodIn wsX3_look (wsV RX3 184 RX3 yX3_lookNow wsX3_lookNow) := goodIn_app (goodIn_of _ (by decide +kernel)) ggX3_look_X3_lookNow
theorem dX3_look_0 : decode cX3_look 0 = .ok (.aload_n 0, 1) := by decide +kernel
theorem dX3_look_1 : decode cX3_look 1 = .ok (.getfield 94, 3) := by decide +kernel
theorem dX3_look_4 : decode cX3_look 4 = .ok (.ifCond .ne 8, 3) := by decide +kernel
theorem dX3_look_7 : decode cX3_look 7 = .ok (.bipush (-103), 2) := by decide +kernel
theorem dX3_look_9 : decode cX3_look 9 = .ok (.goto 7, 3) := by decide +kernel
theorem dX3_look_12 : decode cX3_look 12 = .ok (.aload_n 0, 1) := by decide +kernel
theorem dX3_look_13 : decode cX3_look 13 = .ok (.invokevirtual 184, 3) := by decide +kernel
theorem dX3_look_16 : decode cX3_look 16 = .ok (.ireturn, 1) := by decide +kernel
theorem dX3_draw_0 : decode cX3_draw 0 = .ok (.aload_n 0, 1) := by decide +kernel
theorem dX3_draw_1 : decode cX3_draw 1 = .ok (.ldc2_w 187, 3) := by decide +kernel
theorem dX3_draw_4 : decode cX3_draw 4 = .ok (.aload_n 0, 1) := by decide +kernel
theorem dX3_draw_5 : decode cX3_draw 5 = .ok (.getfield 189, 3) := by decide +kernel
theorem dX3_draw_8 : decode cX3_draw 8 = .ok (.lmul, 1) := by decide +kernel
theorem dX3_draw_9 : decode cX3_draw 9 = .ok (.ldc2_w 193, 3) := by decide +kernel
theorem dX3_draw_12 : decode cX3_draw 12 = .ok (.ladd, 1) := by decide +kernel
theorem dX3_draw_13 : decode cX3_draw 13 = .ok (.ldc2_w 195, 3) := by decide +kernel
theorem dX3_draw_16 : decode cX3_draw 16 = .ok (.land, 1) := by decide +kernel
theorem dX3_draw_17 : decode cX3_draw 17 = .ok (.putfield 189, 3) := by decide +kernel
theorem dX3_draw_20 : decode cX3_draw 20 = .ok (.aload_n 0, 1) := by decide +kernel
theorem dX3_draw_21 : decode cX3_draw 21 = .ok (.getfield 189, 3) := by decide +kernel
theorem dX3_draw_24 : decode cX3_draw 24 = .ok (.ldc2_w 197, 3) := by decide +kernel
theorem dX3_draw_27 : decode cX3_draw 27 = .ok (.ldiv, 1) := by decide +kernel
theorem dX3_draw_28 : decode cX3_draw 28 = .ok (.iload_n 1, 1) := by decide +kernel
theorem dX3_draw_29 : decode cX3_draw 29 = .ok (.i2l, 1) := by decide +kernel
theorem dX3_draw_30 : decode cX3_draw 30 = .ok (.lrem, 1) := by decide +kernel
theorem dX3_draw_31 : decode cX3_draw 31 = .ok (.l2i, 1) := by decide +kernel
theorem dX3_draw_32 : decode cX3_draw 32 = .ok (.ireturn, 1) := by decide +kernel
theorem dX3_snowAll_0 : decode cX3_snowAll 0 = .ok (.iconst 0, 1) := by decide +kernel
theorem dX3_snowAll_1 : decode cX3_snowAll 1 = .ok (.istore_n 1, 1) := by decide +kernel
theorem dX3_snowAll_2 : decode cX3_snowAll 2 = .ok (.iconst 0, 1) := by decide +kernel
theorem dX3_snowAll_3 : decode cX3_snowAll 3 = .ok (.istore_n 2, 1) := by decide +kernel
theorem dX3_snowAll_4 : decode cX3_snowAll 4 = .ok (.iload_n 2, 1) := by decide +kernel
theorem dX3_snowAll_5 : decode cX3_snowAll 5 = .ok (.aload_n 0, 1) := by decide +kernel
theorem dX3_snowAll_6 : decode cX3_snowAll 6 = .ok (.getfield 94, 3) := by decide +kernel
theorem dX3_snowAll_9 : decode cX3_snowAll 9 = .ok (.if_icmp .ge 18, 3) := by decide +kernel
theorem dX3_snowAll_12 : decode cX3_snowAll 12 = .ok (.iload_n 1, 1) := by decide +kernel
theorem dX3_snowAll_13 : decode cX3_snowAll 13 = .ok (.aload_n 0, 1) := by decide +kernel
theorem dX3_snowAll_14 : decode cX3_snowAll 14 = .ok (.getfield 16, 3) := by decide +kernel
theorem dX3_snowAll_17 : decode cX3_snowAll 17 = .ok (.iload_n 2, 1) := by decide +kernel
theorem dX3_snowAll_18 : decode cX3_snowAll 18 = .ok (.iaload, 1) := by decide +kernel
theorem dX3_snowAll_19 : decode cX3_snowAll 19 = .ok (.iadd, 1) := by decide +kernel
theorem dX3_snowAll_20 : decode cX3_snowAll 20 = .ok (.istore_n 1, 1) := by decide +kernel
theorem dX3_snowAll_21 : decode cX3_snowAll 21 = .ok (.iinc 2 1, 3) := by decide +kernel
theorem dX3_snowAll_24 : decode cX3_snowAll 24 = .ok (.goto (-20), 3) := by decide +kernel
theorem dX3_snowAll_27 : decode cX3_snowAll 27 = .ok (.iload_n 1, 1) := by decide +kernel
theorem dX3_snowAll_28 : decode cX3_snowAll 28 = .ok (.ireturn, 1) := by decide +kernel
set_option maxRecDepth 20000 in
theorem ggX3_wintersNow_X3_draw : GoodIn wsX3_wintersNow wsX3_draw := goodIn_r _ [9, 10, 3, 11, 12, 13, 43, 44, 45, 46, 47, 48, 49, 50, 51, 52, 53, 54, 55, 56, 57, 58, 59, 60, 61, 62, 63, 64, 65, 66, 67, 68, 69, 70, 71, 72, 73, 74, 75, 76, 77, 78, 79, 80, 81, 82] (by decide +kernel) (by decide +kernel)
set_option maxRecDepth 20000 in
theorem gX3_wintersNow_X3_draw : GoodIn wsX3_wintersNow (wsV RX3 199 RX3 yX3_draw wsX3_draw) := goodIn_app (goodIn_of _ (by decide +kernel)) ggX3_wintersNow_X3_draw
set_option maxRecDepth 20000 in
theorem ggX3_wintersNow_X3_atMost : GoodIn wsX3_wintersNow wsX3_atMost := goodIn_r _ [16] (by decide +kernel) (by decide +kernel)
set_option maxRecDepth 20000 in
theorem gX3_wintersNow_X3_atMost : GoodIn wsX3_wintersNow (va_wsS RX3 133 yX3_atMost wsX3_atMost) := goodIn_app (goodIn_of _ (by decide +kernel)) ggX3_wintersNow_X3_atMost
set_option maxRecDepth 20000 in
theorem ggX3_wintersNow_X3_melt : GoodIn wsX3_wintersNow wsX3_melt := goodIn_r _ [20, 4, 2, 21, 22, 23, 8, 24, 25, 26, 27, 28, 29, 43, 44, 45, 46, 47, 48, 49, 50, 51, 52, 53, 54, 55, 56, 57, 58, 59, 60, 61, 62, 63, 64, 65, 66, 67, 68, 69, 70, 71, 72, 73, 74, 75, 76, 77, 78, 79, 80, 81, 82] (by decide +kernel) (by decide +kernel)
set_option maxRecDepth 20000 in
theorem gX3_wintersNow_X3_melt : GoodIn wsX3_wintersNow (wsV RX3 136 RX3 yX3_melt wsX3_melt) := goodIn_app (goodIn_of _ (by decide +kernel)) ggX3_wintersNow_X3_melt
set_option maxRecDepth 20000 in
theorem ggX3_wintersNow_X3_keptNow : GoodIn wsX3_wintersNow wsX3_keptNow := goodIn_r _ [33, 4, 2, 34, 35, 36, 8, 37, 38, 43, 44, 45, 46, 47, 48, 49, 50, 51, 52, 53, 54, 55, 56, 57, 58, 59, 60, 61, 62, 63, 64, 65, 66, 67, 68, 69, 70, 71, 72, 73, 74, 75, 76, 77, 78, 79, 80, 81, 82] (by decide +kernel) (by decide +kernel)
set_option maxRecDepth 20000 in
theorem gX3_wintersNow_X3_keptNow : GoodIn wsX3_wintersNow (wsV RX3 140 RX3 yX3_keptNow wsX3_keptNow) := goodIn_app (goodIn_of _ (by decide +kernel)) ggX3_wintersNow_X3_keptNow
set_option maxRecDepth 20000 in
theorem ggX3_wintersNow_X3_snowAll : GoodIn wsX3_wintersNow wsX3_snowAll := goodIn_r _ [42, 4, 2, 43, 44, 45, 46, 47, 48, 49, 50, 51, 52, 53, 54, 55, 56, 57, 58, 59, 60, 61, 62, 63, 64, 65, 66, 67, 68, 69, 70, 71, 72, 73, 74, 75, 76, 77, 78, 79, 80, 81, 82] (by decide +kernel) (by decide +kernel)
set_option maxRecDepth 20000 in
theorem gX3_wintersNow_X3_snowAll : GoodIn wsX3_wintersNow (wsV RX3 202 RX3 yX3_snowAll wsX3_snowAll) := goodIn_app (goodIn_of _ (by decide +kernel)) ggX3_wintersNow_X3_snowAll
theorem dX3_wintersNow_0 : decode cX3_wintersNow 0 = .ok (.iconst 0, 1) := by decide +kernel
theorem dX3_wintersNow_1 : decode cX3_wintersNow 1 = .ok (.istore 4, 2) := by decide +kernel
theorem dX3_wintersNow_3 : decode cX3_wintersNow 3 = .ok (.iload 4, 2) := by decide +kernel
theorem dX3_wintersNow_5 : decode cX3_wintersNow 5 = .ok (.bipush 6, 2) := by decide +kernel
theorem dX3_wintersNow_7 : decode cX3_wintersNow 7 = .ok (.if_icmp .ge 23, 3) := by decide +kernel
theorem dX3_wintersNow_10 : decode cX3_wintersNow 10 = .ok (.aload_n 0, 1) := by decide +kernel
theorem dX3_wintersNow_11 : decode cX3_wintersNow 11 = .ok (.getfield 44, 3) := by decide +kernel
theorem dX3_wintersNow_14 : decode cX3_wintersNow 14 = .ok (.iload 4, 2) := by decide +kernel
theorem dX3_wintersNow_16 : decode cX3_wintersNow 16 = .ok (.aload_n 0, 1) := by decide +kernel
theorem dX3_wintersNow_17 : decode cX3_wintersNow 17 = .ok (.getfield 16, 3) := by decide +kernel
theorem dX3_wintersNow_20 : decode cX3_wintersNow 20 = .ok (.iload 4, 2) := by decide +kernel
theorem dX3_wintersNow_22 : decode cX3_wintersNow 22 = .ok (.iaload, 1) := by decide +kernel
theorem dX3_wintersNow_23 : decode cX3_wintersNow 23 = .ok (.iastore, 1) := by decide +kernel
theorem dX3_wintersNow_24 : decode cX3_wintersNow 24 = .ok (.iinc 4 1, 3) := by decide +kernel
theorem dX3_wintersNow_27 : decode cX3_wintersNow 27 = .ok (.goto (-24), 3) := by decide +kernel
theorem dX3_wintersNow_30 : decode cX3_wintersNow 30 = .ok (.aload_n 0, 1) := by decide +kernel
theorem dX3_wintersNow_31 : decode cX3_wintersNow 31 = .ok (.iload_n 2, 1) := by decide +kernel
theorem dX3_wintersNow_32 : decode cX3_wintersNow 32 = .ok (.i2l, 1) := by decide +kernel
theorem dX3_wintersNow_33 : decode cX3_wintersNow 33 = .ok (.putfield 189, 3) := by decide +kernel
theorem dX3_wintersNow_36 : decode cX3_wintersNow 36 = .ok (.iconst 0, 1) := by decide +kernel
theorem dX3_wintersNow_37 : decode cX3_wintersNow 37 = .ok (.istore 4, 2) := by decide +kernel
theorem dX3_wintersNow_39 : decode cX3_wintersNow 39 = .ok (.iconst 0, 1) := by decide +kernel
theorem dX3_wintersNow_40 : decode cX3_wintersNow 40 = .ok (.istore 5, 2) := by decide +kernel
theorem dX3_wintersNow_42 : decode cX3_wintersNow 42 = .ok (.iload 5, 2) := by decide +kernel
theorem dX3_wintersNow_44 : decode cX3_wintersNow 44 = .ok (.iload_n 1, 1) := by decide +kernel
theorem dX3_wintersNow_45 : decode cX3_wintersNow 45 = .ok (.if_icmp .ge 60, 3) := by decide +kernel
theorem dX3_wintersNow_48 : decode cX3_wintersNow 48 = .ok (.aload_n 0, 1) := by decide +kernel
theorem dX3_wintersNow_49 : decode cX3_wintersNow 49 = .ok (.iconst 5, 1) := by decide +kernel
theorem dX3_wintersNow_50 : decode cX3_wintersNow 50 = .ok (.invokevirtual 199, 3) := by decide +kernel
theorem dX3_wintersNow_53 : decode cX3_wintersNow 53 = .ok (.istore 6, 2) := by decide +kernel
theorem dX3_wintersNow_55 : decode cX3_wintersNow 55 = .ok (.aload_n 0, 1) := by decide +kernel
theorem dX3_wintersNow_56 : decode cX3_wintersNow 56 = .ok (.aload_n 0, 1) := by decide +kernel
theorem dX3_wintersNow_57 : decode cX3_wintersNow 57 = .ok (.getfield 94, 3) := by decide +kernel
theorem dX3_wintersNow_60 : decode cX3_wintersNow 60 = .ok (.invokevirtual 199, 3) := by decide +kernel
theorem dX3_wintersNow_63 : decode cX3_wintersNow 63 = .ok (.istore 7, 2) := by decide +kernel
theorem dX3_wintersNow_65 : decode cX3_wintersNow 65 = .ok (.aload_n 0, 1) := by decide +kernel
theorem dX3_wintersNow_66 : decode cX3_wintersNow 66 = .ok (.getfield 16, 3) := by decide +kernel
theorem dX3_wintersNow_69 : decode cX3_wintersNow 69 = .ok (.iload 7, 2) := by decide +kernel
theorem dX3_wintersNow_71 : decode cX3_wintersNow 71 = .ok (.aload_n 0, 1) := by decide +kernel
theorem dX3_wintersNow_72 : decode cX3_wintersNow 72 = .ok (.getfield 16, 3) := by decide +kernel
theorem dX3_wintersNow_75 : decode cX3_wintersNow 75 = .ok (.iload 7, 2) := by decide +kernel
theorem dX3_wintersNow_77 : decode cX3_wintersNow 77 = .ok (.iaload, 1) := by decide +kernel
theorem dX3_wintersNow_78 : decode cX3_wintersNow 78 = .ok (.iconst 1, 1) := by decide +kernel
theorem dX3_wintersNow_79 : decode cX3_wintersNow 79 = .ok (.iadd, 1) := by decide +kernel
theorem dX3_wintersNow_80 : decode cX3_wintersNow 80 = .ok (.invokestatic 133, 3) := by decide +kernel
theorem dX3_wintersNow_83 : decode cX3_wintersNow 83 = .ok (.iastore, 1) := by decide +kernel
theorem dX3_wintersNow_84 : decode cX3_wintersNow 84 = .ok (.aload_n 0, 1) := by decide +kernel
theorem dX3_wintersNow_85 : decode cX3_wintersNow 85 = .ok (.iload 6, 2) := by decide +kernel
theorem dX3_wintersNow_87 : decode cX3_wintersNow 87 = .ok (.invokevirtual 136, 3) := by decide +kernel
theorem dX3_wintersNow_90 : decode cX3_wintersNow 90 = .ok (.iload 4, 2) := by decide +kernel
theorem dX3_wintersNow_92 : decode cX3_wintersNow 92 = .ok (.aload_n 0, 1) := by decide +kernel
theorem dX3_wintersNow_93 : decode cX3_wintersNow 93 = .ok (.invokevirtual 140, 3) := by decide +kernel
theorem dX3_wintersNow_96 : decode cX3_wintersNow 96 = .ok (.iadd, 1) := by decide +kernel
theorem dX3_wintersNow_97 : decode cX3_wintersNow 97 = .ok (.istore 4, 2) := by decide +kernel
theorem dX3_wintersNow_99 : decode cX3_wintersNow 99 = .ok (.iinc 5 1, 3) := by decide +kernel
theorem dX3_wintersNow_102 : decode cX3_wintersNow 102 = .ok (.goto (-60), 3) := by decide +kernel
theorem dX3_wintersNow_105 : decode cX3_wintersNow 105 = .ok (.aload_n 0, 1) := by decide +kernel
theorem dX3_wintersNow_106 : decode cX3_wintersNow 106 = .ok (.invokevirtual 202, 3) := by decide +kernel
theorem dX3_wintersNow_109 : decode cX3_wintersNow 109 = .ok (.istore 5, 2) := by decide +kernel
theorem dX3_wintersNow_111 : decode cX3_wintersNow 111 = .ok (.iconst 0, 1) := by decide +kernel
theorem dX3_wintersNow_112 : decode cX3_wintersNow 112 = .ok (.istore 6, 2) := by decide +kernel
theorem dX3_wintersNow_114 : decode cX3_wintersNow 114 = .ok (.iload 6, 2) := by decide +kernel
theorem dX3_wintersNow_116 : decode cX3_wintersNow 116 = .ok (.bipush 6, 2) := by decide +kernel
theorem dX3_wintersNow_118 : decode cX3_wintersNow 118 = .ok (.if_icmp .ge 23, 3) := by decide +kernel
theorem dX3_wintersNow_121 : decode cX3_wintersNow 121 = .ok (.aload_n 0, 1) := by decide +kernel
theorem dX3_wintersNow_122 : decode cX3_wintersNow 122 = .ok (.getfield 16, 3) := by decide +kernel
theorem dX3_wintersNow_125 : decode cX3_wintersNow 125 = .ok (.iload 6, 2) := by decide +kernel
theorem dX3_wintersNow_127 : decode cX3_wintersNow 127 = .ok (.aload_n 0, 1) := by decide +kernel
theorem dX3_wintersNow_128 : decode cX3_wintersNow 128 = .ok (.getfield 44, 3) := by decide +kernel
theorem dX3_wintersNow_131 : decode cX3_wintersNow 131 = .ok (.iload 6, 2) := by decide +kernel
theorem dX3_wintersNow_133 : decode cX3_wintersNow 133 = .ok (.iaload, 1) := by decide +kernel
theorem dX3_wintersNow_134 : decode cX3_wintersNow 134 = .ok (.iastore, 1) := by decide +kernel
theorem dX3_wintersNow_135 : decode cX3_wintersNow 135 = .ok (.iinc 6 1, 3) := by decide +kernel
theorem dX3_wintersNow_138 : decode cX3_wintersNow 138 = .ok (.goto (-24), 3) := by decide +kernel
theorem dX3_wintersNow_141 : decode cX3_wintersNow 141 = .ok (.iload_n 3, 1) := by decide +kernel
theorem dX3_wintersNow_142 : decode cX3_wintersNow 142 = .ok (.ifCond .ne 8, 3) := by decide +kernel
theorem dX3_wintersNow_145 : decode cX3_wintersNow 145 = .ok (.iload 4, 2) := by decide +kernel
theorem dX3_wintersNow_147 : decode cX3_wintersNow 147 = .ok (.goto 18, 3) := by decide +kernel
theorem dX3_wintersNow_150 : decode cX3_wintersNow 150 = .ok (.iload_n 3, 1) := by decide +kernel
theorem dX3_wintersNow_151 : decode cX3_wintersNow 151 = .ok (.iconst 1, 1) := by decide +kernel
theorem dX3_wintersNow_152 : decode cX3_wintersNow 152 = .ok (.if_icmp .ne 8, 3) := by decide +kernel
theorem dX3_wintersNow_155 : decode cX3_wintersNow 155 = .ok (.iload 5, 2) := by decide +kernel
theorem dX3_wintersNow_157 : decode cX3_wintersNow 157 = .ok (.goto 8, 3) := by decide +kernel
theorem dX3_wintersNow_160 : decode cX3_wintersNow 160 = .ok (.aload_n 0, 1) := by decide +kernel
theorem dX3_wintersNow_161 : decode cX3_wintersNow 161 = .ok (.getfield 189, 3) := by decide +kernel
theorem dX3_wintersNow_164 : decode cX3_wintersNow 164 = .ok (.l2i, 1) := by decide +kernel
theorem dX3_wintersNow_165 : decode cX3_wintersNow 165 = .ok (.ireturn, 1) := by decide +kernel
set_option maxRecDepth 20000 in
theorem ggX3_winters_X3_within : GoodIn wsX3_winters wsX3_within := goodIn_r _ [5] (by decide +kernel) (by decide +kernel)
set_option maxRecDepth 20000 in
theorem gX3_winters_X3_within : GoodIn wsX3_winters (va_wsS RX3 68 yX3_within wsX3_within) := goodIn_app (goodIn_of _ (by decide +kernel)) ggX3_winters_X3_within
set_option maxRecDepth 20000 in
theorem ggX3_winters_X3_wintersNow : GoodIn wsX3_winters wsX3_wintersNow := goodIn_r _ [9, 10, 11, 12, 1, 13, 14, 15, 4, 16, 17, 18, 19, 20, 21, 22, 23, 24, 25, 26, 27, 28, 29, 30, 31, 32, 33, 34, 35, 36, 37, 38, 39, 40, 41, 42, 43, 44, 45, 46, 47, 48, 49, 50, 51, 52, 53, 54, 55, 56, 57, 58, 59, 60, 61, 62, 63, 64, 65, 66, 67, 68, 69, 70, 71, 72, 73, 74, 75, 76, 77, 78, 79, 80, 81, 82, 83, 84, 85, 86, 87, 88, 89] (by decide +kernel) (by decide +kernel)
set_option maxRecDepth 20000 in
theorem gX3_winters_X3_wintersNow : GoodIn wsX3_winters (wsV RX3 205 RX3 yX3_wintersNow wsX3_wintersNow) := goodIn_app (goodIn_of _ (by decide +kernel)) ggX3_winters_X3_wintersNow
theorem dX3_winters_0 : decode cX3_winters 0 = .ok (.iload_n 1, 1) := by decide +kernel
theorem dX3_winters_1 : decode cX3_winters 1 = .ok (.iconst 1, 1) := by decide +kernel
theorem dX3_winters_2 : decode cX3_winters 2 = .ok (.bipush 60, 2) := by decide +kernel
theorem dX3_winters_4 : decode cX3_winters 4 = .ok (.invokestatic 68, 3) := by decide +kernel
theorem dX3_winters_7 : decode cX3_winters 7 = .ok (.ifCond .eq 16, 3) := by decide +kernel
theorem dX3_winters_10 : decode cX3_winters 10 = .ok (.iload_n 2, 1) := by decide +kernel
theorem dX3_winters_11 : decode cX3_winters 11 = .ok (.ifCond .lt 12, 3) := by decide +kernel
theorem dX3_winters_14 : decode cX3_winters 14 = .ok (.iload_n 3, 1) := by decide +kernel
theorem dX3_winters_15 : decode cX3_winters 15 = .ok (.iconst 0, 1) := by decide +kernel
theorem dX3_winters_16 : decode cX3_winters 16 = .ok (.iconst 2, 1) := by decide +kernel
theorem dX3_winters_17 : decode cX3_winters 17 = .ok (.invokestatic 68, 3) := by decide +kernel
theorem dX3_winters_20 : decode cX3_winters 20 = .ok (.ifCond .ne 6, 3) := by decide +kernel
theorem dX3_winters_23 : decode cX3_winters 23 = .ok (.bipush (-102), 2) := by decide +kernel
theorem dX3_winters_25 : decode cX3_winters 25 = .ok (.ireturn, 1) := by decide +kernel
theorem dX3_winters_26 : decode cX3_winters 26 = .ok (.aload_n 0, 1) := by decide +kernel
theorem dX3_winters_27 : decode cX3_winters 27 = .ok (.getfield 94, 3) := by decide +kernel
theorem dX3_winters_30 : decode cX3_winters 30 = .ok (.ifCond .ne 8, 3) := by decide +kernel
theorem dX3_winters_33 : decode cX3_winters 33 = .ok (.bipush (-103), 2) := by decide +kernel
theorem dX3_winters_35 : decode cX3_winters 35 = .ok (.goto 10, 3) := by decide +kernel
theorem dX3_winters_38 : decode cX3_winters 38 = .ok (.aload_n 0, 1) := by decide +kernel
theorem dX3_winters_39 : decode cX3_winters 39 = .ok (.iload_n 1, 1) := by decide +kernel
theorem dX3_winters_40 : decode cX3_winters 40 = .ok (.iload_n 2, 1) := by decide +kernel
theorem dX3_winters_41 : decode cX3_winters 41 = .ok (.iload_n 3, 1) := by decide +kernel
theorem dX3_winters_42 : decode cX3_winters 42 = .ok (.invokevirtual 205, 3) := by decide +kernel
theorem dX3_winters_45 : decode cX3_winters 45 = .ok (.ireturn, 1) := by decide +kernel
theorem dX3_image_0 : decode cX3_image 0 = .ok (.aload_n 0, 1) := by decide +kernel
theorem dX3_image_1 : decode cX3_image 1 = .ok (.getfield 94, 3) := by decide +kernel
theorem dX3_image_4 : decode cX3_image 4 = .ok (.ifCond .ne 6, 3) := by decide +kernel
theorem dX3_image_7 : decode cX3_image 7 = .ok (.bipush (-103), 2) := by decide +kernel
theorem dX3_image_9 : decode cX3_image 9 = .ok (.ireturn, 1) := by decide +kernel
theorem dX3_image_10 : decode cX3_image 10 = .ok (.aload_n 0, 1) := by decide +kernel
theorem dX3_image_11 : decode cX3_image 11 = .ok (.iconst 1, 1) := by decide +kernel
theorem dX3_image_12 : decode cX3_image 12 = .ok (.putfield 208, 3) := by decide +kernel
theorem dX3_image_15 : decode cX3_image 15 = .ok (.aload_n 0, 1) := by decide +kernel
theorem dX3_image_16 : decode cX3_image 16 = .ok (.aload_n 0, 1) := by decide +kernel
theorem dX3_image_17 : decode cX3_image 17 = .ok (.getfield 100, 3) := by decide +kernel
theorem dX3_image_20 : decode cX3_image 20 = .ok (.putfield 211, 3) := by decide +kernel
theorem dX3_image_23 : decode cX3_image 23 = .ok (.aload_n 0, 1) := by decide +kernel
theorem dX3_image_24 : decode cX3_image 24 = .ok (.aload_n 0, 1) := by decide +kernel
theorem dX3_image_25 : decode cX3_image 25 = .ok (.getfield 97, 3) := by decide +kernel
theorem dX3_image_28 : decode cX3_image 28 = .ok (.putfield 214, 3) := by decide +kernel
theorem dX3_image_31 : decode cX3_image 31 = .ok (.aload_n 0, 1) := by decide +kernel
theorem dX3_image_32 : decode cX3_image 32 = .ok (.aload_n 0, 1) := by decide +kernel
theorem dX3_image_33 : decode cX3_image 33 = .ok (.getfield 103, 3) := by decide +kernel
theorem dX3_image_36 : decode cX3_image 36 = .ok (.putfield 217, 3) := by decide +kernel
theorem dX3_image_39 : decode cX3_image 39 = .ok (.aload_n 0, 1) := by decide +kernel
theorem dX3_image_40 : decode cX3_image 40 = .ok (.aload_n 0, 1) := by decide +kernel
theorem dX3_image_41 : decode cX3_image 41 = .ok (.getfield 106, 3) := by decide +kernel
theorem dX3_image_44 : decode cX3_image 44 = .ok (.putfield 220, 3) := by decide +kernel
theorem dX3_image_47 : decode cX3_image 47 = .ok (.aload_n 0, 1) := by decide +kernel
theorem dX3_image_48 : decode cX3_image 48 = .ok (.aload_n 0, 1) := by decide +kernel
theorem dX3_image_49 : decode cX3_image 49 = .ok (.getfield 109, 3) := by decide +kernel
theorem dX3_image_52 : decode cX3_image 52 = .ok (.putfield 223, 3) := by decide +kernel
theorem dX3_image_55 : decode cX3_image 55 = .ok (.aload_n 0, 1) := by decide +kernel
theorem dX3_image_56 : decode cX3_image 56 = .ok (.aload_n 0, 1) := by decide +kernel
theorem dX3_image_57 : decode cX3_image 57 = .ok (.getfield 112, 3) := by decide +kernel
theorem dX3_image_60 : decode cX3_image 60 = .ok (.putfield 226, 3) := by decide +kernel
theorem dX3_image_63 : decode cX3_image 63 = .ok (.iconst 0, 1) := by decide +kernel
theorem dX3_image_64 : decode cX3_image 64 = .ok (.istore_n 1, 1) := by decide +kernel
theorem dX3_image_65 : decode cX3_image 65 = .ok (.iload_n 1, 1) := by decide +kernel
theorem dX3_image_66 : decode cX3_image 66 = .ok (.bipush 6, 2) := by decide +kernel
theorem dX3_image_68 : decode cX3_image 68 = .ok (.if_icmp .ge 93, 3) := by decide +kernel
theorem dX3_image_71 : decode cX3_image 71 = .ok (.aload_n 0, 1) := by decide +kernel
theorem dX3_image_72 : decode cX3_image 72 = .ok (.getfield 47, 3) := by decide +kernel
theorem dX3_image_75 : decode cX3_image 75 = .ok (.iload_n 1, 1) := by decide +kernel
theorem dX3_image_76 : decode cX3_image 76 = .ok (.aload_n 0, 1) := by decide +kernel
theorem dX3_image_77 : decode cX3_image 77 = .ok (.getfield 16, 3) := by decide +kernel
theorem dX3_image_80 : decode cX3_image 80 = .ok (.iload_n 1, 1) := by decide +kernel
theorem dX3_image_81 : decode cX3_image 81 = .ok (.iaload, 1) := by decide +kernel
theorem dX3_image_82 : decode cX3_image 82 = .ok (.iastore, 1) := by decide +kernel
theorem dX3_image_83 : decode cX3_image 83 = .ok (.aload_n 0, 1) := by decide +kernel
theorem dX3_image_84 : decode cX3_image 84 = .ok (.getfield 50, 3) := by decide +kernel
theorem dX3_image_87 : decode cX3_image 87 = .ok (.iload_n 1, 1) := by decide +kernel
theorem dX3_image_88 : decode cX3_image 88 = .ok (.aload_n 0, 1) := by decide +kernel
theorem dX3_image_89 : decode cX3_image 89 = .ok (.getfield 19, 3) := by decide +kernel
theorem dX3_image_92 : decode cX3_image 92 = .ok (.iload_n 1, 1) := by decide +kernel
theorem dX3_image_93 : decode cX3_image 93 = .ok (.iaload, 1) := by decide +kernel
theorem dX3_image_94 : decode cX3_image 94 = .ok (.iastore, 1) := by decide +kernel
theorem dX3_image_95 : decode cX3_image 95 = .ok (.aload_n 0, 1) := by decide +kernel
theorem dX3_image_96 : decode cX3_image 96 = .ok (.getfield 53, 3) := by decide +kernel
theorem dX3_image_99 : decode cX3_image 99 = .ok (.iload_n 1, 1) := by decide +kernel
theorem dX3_image_100 : decode cX3_image 100 = .ok (.aload_n 0, 1) := by decide +kernel
theorem dX3_image_101 : decode cX3_image 101 = .ok (.getfield 22, 3) := by decide +kernel
theorem dX3_image_104 : decode cX3_image 104 = .ok (.iload_n 1, 1) := by decide +kernel
theorem dX3_image_105 : decode cX3_image 105 = .ok (.iaload, 1) := by decide +kernel
theorem dX3_image_106 : decode cX3_image 106 = .ok (.iastore, 1) := by decide +kernel
theorem dX3_image_107 : decode cX3_image 107 = .ok (.aload_n 0, 1) := by decide +kernel
theorem dX3_image_108 : decode cX3_image 108 = .ok (.getfield 56, 3) := by decide +kernel
theorem dX3_image_111 : decode cX3_image 111 = .ok (.iload_n 1, 1) := by decide +kernel
theorem dX3_image_112 : decode cX3_image 112 = .ok (.aload_n 0, 1) := by decide +kernel
theorem dX3_image_113 : decode cX3_image 113 = .ok (.getfield 25, 3) := by decide +kernel
theorem dX3_image_116 : decode cX3_image 116 = .ok (.iload_n 1, 1) := by decide +kernel
theorem dX3_image_117 : decode cX3_image 117 = .ok (.iaload, 1) := by decide +kernel
theorem dX3_image_118 : decode cX3_image 118 = .ok (.iastore, 1) := by decide +kernel
theorem dX3_image_119 : decode cX3_image 119 = .ok (.aload_n 0, 1) := by decide +kernel
theorem dX3_image_120 : decode cX3_image 120 = .ok (.getfield 59, 3) := by decide +kernel
theorem dX3_image_123 : decode cX3_image 123 = .ok (.iload_n 1, 1) := by decide +kernel
theorem dX3_image_124 : decode cX3_image 124 = .ok (.aload_n 0, 1) := by decide +kernel
theorem dX3_image_125 : decode cX3_image 125 = .ok (.getfield 28, 3) := by decide +kernel
theorem dX3_image_128 : decode cX3_image 128 = .ok (.iload_n 1, 1) := by decide +kernel
theorem dX3_image_129 : decode cX3_image 129 = .ok (.iaload, 1) := by decide +kernel
theorem dX3_image_130 : decode cX3_image 130 = .ok (.iastore, 1) := by decide +kernel
theorem dX3_image_131 : decode cX3_image 131 = .ok (.aload_n 0, 1) := by decide +kernel
theorem dX3_image_132 : decode cX3_image 132 = .ok (.getfield 62, 3) := by decide +kernel
theorem dX3_image_135 : decode cX3_image 135 = .ok (.iload_n 1, 1) := by decide +kernel
theorem dX3_image_136 : decode cX3_image 136 = .ok (.aload_n 0, 1) := by decide +kernel
theorem dX3_image_137 : decode cX3_image 137 = .ok (.getfield 31, 3) := by decide +kernel
theorem dX3_image_140 : decode cX3_image 140 = .ok (.iload_n 1, 1) := by decide +kernel
theorem dX3_image_141 : decode cX3_image 141 = .ok (.iaload, 1) := by decide +kernel
theorem dX3_image_142 : decode cX3_image 142 = .ok (.iastore, 1) := by decide +kernel
theorem dX3_image_143 : decode cX3_image 143 = .ok (.aload_n 0, 1) := by decide +kernel
theorem dX3_image_144 : decode cX3_image 144 = .ok (.getfield 65, 3) := by decide +kernel
theorem dX3_image_147 : decode cX3_image 147 = .ok (.iload_n 1, 1) := by decide +kernel
theorem dX3_image_148 : decode cX3_image 148 = .ok (.aload_n 0, 1) := by decide +kernel
theorem dX3_image_149 : decode cX3_image 149 = .ok (.getfield 34, 3) := by decide +kernel
theorem dX3_image_152 : decode cX3_image 152 = .ok (.iload_n 1, 1) := by decide +kernel
theorem dX3_image_153 : decode cX3_image 153 = .ok (.iaload, 1) := by decide +kernel
theorem dX3_image_154 : decode cX3_image 154 = .ok (.iastore, 1) := by decide +kernel
theorem dX3_image_155 : decode cX3_image 155 = .ok (.iinc 1 1, 3) := by decide +kernel
theorem dX3_image_158 : decode cX3_image 158 = .ok (.goto (-93), 3) := by decide +kernel
theorem dX3_image_161 : decode cX3_image 161 = .ok (.aload_n 0, 1) := by decide +kernel
theorem dX3_image_162 : decode cX3_image 162 = .ok (.getfield 103, 3) := by decide +kernel
theorem dX3_image_165 : decode cX3_image 165 = .ok (.ireturn, 1) := by decide +kernel
theorem dX3_restore_0 : decode cX3_restore 0 = .ok (.aload_n 0, 1) := by decide +kernel
theorem dX3_restore_1 : decode cX3_restore 1 = .ok (.getfield 208, 3) := by decide +kernel
theorem dX3_restore_4 : decode cX3_restore 4 = .ok (.ifCond .eq 14, 3) := by decide +kernel
theorem dX3_restore_7 : decode cX3_restore 7 = .ok (.aload_n 0, 1) := by decide +kernel
theorem dX3_restore_8 : decode cX3_restore 8 = .ok (.getfield 211, 3) := by decide +kernel
theorem dX3_restore_11 : decode cX3_restore 11 = .ok (.aload_n 0, 1) := by decide +kernel
theorem dX3_restore_12 : decode cX3_restore 12 = .ok (.getfield 100, 3) := by decide +kernel
theorem dX3_restore_15 : decode cX3_restore 15 = .ok (.if_icmp .eq 6, 3) := by decide +kernel
theorem dX3_restore_18 : decode cX3_restore 18 = .ok (.bipush (-103), 2) := by decide +kernel
theorem dX3_restore_20 : decode cX3_restore 20 = .ok (.ireturn, 1) := by decide +kernel
theorem dX3_restore_21 : decode cX3_restore 21 = .ok (.aload_n 0, 1) := by decide +kernel
theorem dX3_restore_22 : decode cX3_restore 22 = .ok (.aload_n 0, 1) := by decide +kernel
theorem dX3_restore_23 : decode cX3_restore 23 = .ok (.getfield 214, 3) := by decide +kernel
theorem dX3_restore_26 : decode cX3_restore 26 = .ok (.putfield 97, 3) := by decide +kernel
theorem dX3_restore_29 : decode cX3_restore 29 = .ok (.aload_n 0, 1) := by decide +kernel
theorem dX3_restore_30 : decode cX3_restore 30 = .ok (.aload_n 0, 1) := by decide +kernel
theorem dX3_restore_31 : decode cX3_restore 31 = .ok (.getfield 217, 3) := by decide +kernel
theorem dX3_restore_34 : decode cX3_restore 34 = .ok (.putfield 103, 3) := by decide +kernel
theorem dX3_restore_37 : decode cX3_restore 37 = .ok (.aload_n 0, 1) := by decide +kernel
theorem dX3_restore_38 : decode cX3_restore 38 = .ok (.aload_n 0, 1) := by decide +kernel
theorem dX3_restore_39 : decode cX3_restore 39 = .ok (.getfield 220, 3) := by decide +kernel
theorem dX3_restore_42 : decode cX3_restore 42 = .ok (.putfield 106, 3) := by decide +kernel
theorem dX3_restore_45 : decode cX3_restore 45 = .ok (.aload_n 0, 1) := by decide +kernel
theorem dX3_restore_46 : decode cX3_restore 46 = .ok (.aload_n 0, 1) := by decide +kernel
theorem dX3_restore_47 : decode cX3_restore 47 = .ok (.getfield 223, 3) := by decide +kernel
theorem dX3_restore_50 : decode cX3_restore 50 = .ok (.putfield 109, 3) := by decide +kernel
theorem dX3_restore_53 : decode cX3_restore 53 = .ok (.aload_n 0, 1) := by decide +kernel
theorem dX3_restore_54 : decode cX3_restore 54 = .ok (.aload_n 0, 1) := by decide +kernel
theorem dX3_restore_55 : decode cX3_restore 55 = .ok (.getfield 226, 3) := by decide +kernel
theorem dX3_restore_58 : decode cX3_restore 58 = .ok (.putfield 112, 3) := by decide +kernel
theorem dX3_restore_61 : decode cX3_restore 61 = .ok (.iconst 0, 1) := by decide +kernel
theorem dX3_restore_62 : decode cX3_restore 62 = .ok (.istore_n 1, 1) := by decide +kernel
theorem dX3_restore_63 : decode cX3_restore 63 = .ok (.iload_n 1, 1) := by decide +kernel
theorem dX3_restore_64 : decode cX3_restore 64 = .ok (.bipush 6, 2) := by decide +kernel
theorem dX3_restore_66 : decode cX3_restore 66 = .ok (.if_icmp .ge 93, 3) := by decide +kernel
theorem dX3_restore_69 : decode cX3_restore 69 = .ok (.aload_n 0, 1) := by decide +kernel
theorem dX3_restore_70 : decode cX3_restore 70 = .ok (.getfield 16, 3) := by decide +kernel
theorem dX3_restore_73 : decode cX3_restore 73 = .ok (.iload_n 1, 1) := by decide +kernel
theorem dX3_restore_74 : decode cX3_restore 74 = .ok (.aload_n 0, 1) := by decide +kernel
theorem dX3_restore_75 : decode cX3_restore 75 = .ok (.getfield 47, 3) := by decide +kernel
theorem dX3_restore_78 : decode cX3_restore 78 = .ok (.iload_n 1, 1) := by decide +kernel
theorem dX3_restore_79 : decode cX3_restore 79 = .ok (.iaload, 1) := by decide +kernel
theorem dX3_restore_80 : decode cX3_restore 80 = .ok (.iastore, 1) := by decide +kernel
theorem dX3_restore_81 : decode cX3_restore 81 = .ok (.aload_n 0, 1) := by decide +kernel
theorem dX3_restore_82 : decode cX3_restore 82 = .ok (.getfield 19, 3) := by decide +kernel
theorem dX3_restore_85 : decode cX3_restore 85 = .ok (.iload_n 1, 1) := by decide +kernel
theorem dX3_restore_86 : decode cX3_restore 86 = .ok (.aload_n 0, 1) := by decide +kernel
theorem dX3_restore_87 : decode cX3_restore 87 = .ok (.getfield 50, 3) := by decide +kernel
theorem dX3_restore_90 : decode cX3_restore 90 = .ok (.iload_n 1, 1) := by decide +kernel
theorem dX3_restore_91 : decode cX3_restore 91 = .ok (.iaload, 1) := by decide +kernel
theorem dX3_restore_92 : decode cX3_restore 92 = .ok (.iastore, 1) := by decide +kernel
theorem dX3_restore_93 : decode cX3_restore 93 = .ok (.aload_n 0, 1) := by decide +kernel
theorem dX3_restore_94 : decode cX3_restore 94 = .ok (.getfield 22, 3) := by decide +kernel
theorem dX3_restore_97 : decode cX3_restore 97 = .ok (.iload_n 1, 1) := by decide +kernel
theorem dX3_restore_98 : decode cX3_restore 98 = .ok (.aload_n 0, 1) := by decide +kernel
theorem dX3_restore_99 : decode cX3_restore 99 = .ok (.getfield 53, 3) := by decide +kernel
theorem dX3_restore_102 : decode cX3_restore 102 = .ok (.iload_n 1, 1) := by decide +kernel
theorem dX3_restore_103 : decode cX3_restore 103 = .ok (.iaload, 1) := by decide +kernel
theorem dX3_restore_104 : decode cX3_restore 104 = .ok (.iastore, 1) := by decide +kernel
theorem dX3_restore_105 : decode cX3_restore 105 = .ok (.aload_n 0, 1) := by decide +kernel
theorem dX3_restore_106 : decode cX3_restore 106 = .ok (.getfield 25, 3) := by decide +kernel
theorem dX3_restore_109 : decode cX3_restore 109 = .ok (.iload_n 1, 1) := by decide +kernel
theorem dX3_restore_110 : decode cX3_restore 110 = .ok (.aload_n 0, 1) := by decide +kernel
theorem dX3_restore_111 : decode cX3_restore 111 = .ok (.getfield 56, 3) := by decide +kernel
theorem dX3_restore_114 : decode cX3_restore 114 = .ok (.iload_n 1, 1) := by decide +kernel
theorem dX3_restore_115 : decode cX3_restore 115 = .ok (.iaload, 1) := by decide +kernel
theorem dX3_restore_116 : decode cX3_restore 116 = .ok (.iastore, 1) := by decide +kernel
theorem dX3_restore_117 : decode cX3_restore 117 = .ok (.aload_n 0, 1) := by decide +kernel
theorem dX3_restore_118 : decode cX3_restore 118 = .ok (.getfield 28, 3) := by decide +kernel
theorem dX3_restore_121 : decode cX3_restore 121 = .ok (.iload_n 1, 1) := by decide +kernel
theorem dX3_restore_122 : decode cX3_restore 122 = .ok (.aload_n 0, 1) := by decide +kernel
theorem dX3_restore_123 : decode cX3_restore 123 = .ok (.getfield 59, 3) := by decide +kernel
theorem dX3_restore_126 : decode cX3_restore 126 = .ok (.iload_n 1, 1) := by decide +kernel
theorem dX3_restore_127 : decode cX3_restore 127 = .ok (.iaload, 1) := by decide +kernel
theorem dX3_restore_128 : decode cX3_restore 128 = .ok (.iastore, 1) := by decide +kernel
theorem dX3_restore_129 : decode cX3_restore 129 = .ok (.aload_n 0, 1) := by decide +kernel
theorem dX3_restore_130 : decode cX3_restore 130 = .ok (.getfield 31, 3) := by decide +kernel
theorem dX3_restore_133 : decode cX3_restore 133 = .ok (.iload_n 1, 1) := by decide +kernel
theorem dX3_restore_134 : decode cX3_restore 134 = .ok (.aload_n 0, 1) := by decide +kernel
theorem dX3_restore_135 : decode cX3_restore 135 = .ok (.getfield 62, 3) := by decide +kernel
theorem dX3_restore_138 : decode cX3_restore 138 = .ok (.iload_n 1, 1) := by decide +kernel
theorem dX3_restore_139 : decode cX3_restore 139 = .ok (.iaload, 1) := by decide +kernel
theorem dX3_restore_140 : decode cX3_restore 140 = .ok (.iastore, 1) := by decide +kernel
theorem dX3_restore_141 : decode cX3_restore 141 = .ok (.aload_n 0, 1) := by decide +kernel
theorem dX3_restore_142 : decode cX3_restore 142 = .ok (.getfield 34, 3) := by decide +kernel
theorem dX3_restore_145 : decode cX3_restore 145 = .ok (.iload_n 1, 1) := by decide +kernel
theorem dX3_restore_146 : decode cX3_restore 146 = .ok (.aload_n 0, 1) := by decide +kernel
theorem dX3_restore_147 : decode cX3_restore 147 = .ok (.getfield 65, 3) := by decide +kernel
theorem dX3_restore_150 : decode cX3_restore 150 = .ok (.iload_n 1, 1) := by decide +kernel
theorem dX3_restore_151 : decode cX3_restore 151 = .ok (.iaload, 1) := by decide +kernel
theorem dX3_restore_152 : decode cX3_restore 152 = .ok (.iastore, 1) := by decide +kernel
theorem dX3_restore_153 : decode cX3_restore 153 = .ok (.iinc 1 1, 3) := by decide +kernel
theorem dX3_restore_156 : decode cX3_restore 156 = .ok (.goto (-93), 3) := by decide +kernel
theorem dX3_restore_159 : decode cX3_restore 159 = .ok (.aload_n 0, 1) := by decide +kernel
theorem dX3_restore_160 : decode cX3_restore 160 = .ok (.getfield 103, 3) := by decide +kernel
theorem dX3_restore_163 : decode cX3_restore 163 = .ok (.ireturn, 1) := by decide +kernel
set_option maxRecDepth 20000 in
theorem ggX3_howMany_X3_snowAll : GoodIn wsX3_howMany wsX3_snowAll := goodIn_r _ [13, 1, 14, 24, 25, 26, 27, 28, 29, 30, 31, 32, 33, 34, 35, 36, 37, 38, 39, 40, 41, 42, 43, 44, 45, 46, 47, 48, 49, 50, 51, 52, 53, 54, 55, 56, 57, 58, 59, 60, 61, 62, 63] (by decide +kernel) (by decide +kernel)
set_option maxRecDepth 20000 in
theorem gX3_howMany_X3_snowAll : GoodIn wsX3_howMany (wsV RX3 202 RX3 yX3_snowAll wsX3_snowAll) := goodIn_app (goodIn_of _ (by decide +kernel)) ggX3_howMany_X3_snowAll
set_option maxRecDepth 20000 in
theorem ggX3_howMany_X3_keptNow : GoodIn wsX3_howMany wsX3_keptNow := goodIn_r _ [18, 1, 14, 19, 20, 21, 12, 22, 23, 24, 25, 26, 27, 28, 29, 30, 31, 32, 33, 34, 35, 36, 37, 38, 39, 40, 41, 42, 43, 44, 45, 46, 47, 48, 49, 50, 51, 52, 53, 54, 55, 56, 57, 58, 59, 60, 61, 62, 63] (by decide +kernel) (by decide +kernel)
set_option maxRecDepth 20000 in
theorem gX3_howMany_X3_keptNow : GoodIn wsX3_howMany (wsV RX3 140 RX3 yX3_keptNow wsX3_keptNow) := goodIn_app (goodIn_of _ (by decide +kernel)) ggX3_howMany_X3_keptNow
theorem dX3_howMany_0 : decode cX3_howMany 0 = .ok (.iload_n 1, 1) := by decide +kernel
theorem dX3_howMany_1 : decode cX3_howMany 1 = .ok (.tableswitch 105 0 9 #[55, 60, 65, 70, 75, 80, 85, 90, 95, 100], 55) := by decide +kernel
theorem dX3_howMany_56 : decode cX3_howMany 56 = .ok (.aload_n 0, 1) := by decide +kernel
theorem dX3_howMany_57 : decode cX3_howMany 57 = .ok (.getfield 94, 3) := by decide +kernel
theorem dX3_howMany_60 : decode cX3_howMany 60 = .ok (.ireturn, 1) := by decide +kernel
theorem dX3_howMany_61 : decode cX3_howMany 61 = .ok (.aload_n 0, 1) := by decide +kernel
theorem dX3_howMany_62 : decode cX3_howMany 62 = .ok (.getfield 97, 3) := by decide +kernel
theorem dX3_howMany_65 : decode cX3_howMany 65 = .ok (.ireturn, 1) := by decide +kernel
theorem dX3_howMany_66 : decode cX3_howMany 66 = .ok (.aload_n 0, 1) := by decide +kernel
theorem dX3_howMany_67 : decode cX3_howMany 67 = .ok (.getfield 103, 3) := by decide +kernel
theorem dX3_howMany_70 : decode cX3_howMany 70 = .ok (.ireturn, 1) := by decide +kernel
theorem dX3_howMany_71 : decode cX3_howMany 71 = .ok (.aload_n 0, 1) := by decide +kernel
theorem dX3_howMany_72 : decode cX3_howMany 72 = .ok (.invokevirtual 202, 3) := by decide +kernel
theorem dX3_howMany_75 : decode cX3_howMany 75 = .ok (.ireturn, 1) := by decide +kernel
theorem dX3_howMany_76 : decode cX3_howMany 76 = .ok (.aload_n 0, 1) := by decide +kernel
theorem dX3_howMany_77 : decode cX3_howMany 77 = .ok (.invokevirtual 140, 3) := by decide +kernel
theorem dX3_howMany_80 : decode cX3_howMany 80 = .ok (.ireturn, 1) := by decide +kernel
theorem dX3_howMany_81 : decode cX3_howMany 81 = .ok (.aload_n 0, 1) := by decide +kernel
theorem dX3_howMany_82 : decode cX3_howMany 82 = .ok (.getfield 106, 3) := by decide +kernel
theorem dX3_howMany_85 : decode cX3_howMany 85 = .ok (.ireturn, 1) := by decide +kernel
theorem dX3_howMany_86 : decode cX3_howMany 86 = .ok (.aload_n 0, 1) := by decide +kernel
theorem dX3_howMany_87 : decode cX3_howMany 87 = .ok (.getfield 109, 3) := by decide +kernel
theorem dX3_howMany_90 : decode cX3_howMany 90 = .ok (.ireturn, 1) := by decide +kernel
theorem dX3_howMany_91 : decode cX3_howMany 91 = .ok (.aload_n 0, 1) := by decide +kernel
theorem dX3_howMany_92 : decode cX3_howMany 92 = .ok (.getfield 112, 3) := by decide +kernel
theorem dX3_howMany_95 : decode cX3_howMany 95 = .ok (.ireturn, 1) := by decide +kernel
theorem dX3_howMany_96 : decode cX3_howMany 96 = .ok (.aload_n 0, 1) := by decide +kernel
theorem dX3_howMany_97 : decode cX3_howMany 97 = .ok (.getfield 72, 3) := by decide +kernel
theorem dX3_howMany_100 : decode cX3_howMany 100 = .ok (.ireturn, 1) := by decide +kernel
theorem dX3_howMany_101 : decode cX3_howMany 101 = .ok (.aload_n 0, 1) := by decide +kernel
theorem dX3_howMany_102 : decode cX3_howMany 102 = .ok (.getfield 100, 3) := by decide +kernel
theorem dX3_howMany_105 : decode cX3_howMany 105 = .ok (.ireturn, 1) := by decide +kernel
theorem dX3_howMany_106 : decode cX3_howMany 106 = .ok (.bipush (-102), 2) := by decide +kernel
theorem dX3_howMany_108 : decode cX3_howMany 108 = .ok (.ireturn, 1) := by decide +kernel
set_option maxRecDepth 20000 in
theorem ggX3_count_X3_howMany : GoodIn wsX3_count wsX3_howMany := goodIn_r _ [5, 6, 7, 8, 9, 10, 11, 12, 13, 14, 15, 16, 4, 17, 18, 19, 20, 21, 22, 23, 24, 25, 26, 27, 28, 29, 30, 31, 32, 33, 34, 35, 36, 37, 38, 39, 40, 41, 42, 43, 44, 45, 46, 47, 48, 49, 50, 51, 52, 53, 54, 55, 56, 57, 58, 59, 60, 61, 62, 63, 64, 65, 66, 67] (by decide +kernel) (by decide +kernel)
set_option maxRecDepth 20000 in
theorem gX3_count_X3_howMany : GoodIn wsX3_count (wsV RX3 229 RX3 yX3_howMany wsX3_howMany) := goodIn_app (goodIn_of _ (by decide +kernel)) ggX3_count_X3_howMany
theorem dX3_count_0 : decode cX3_count 0 = .ok (.aload_n 0, 1) := by decide +kernel
theorem dX3_count_1 : decode cX3_count 1 = .ok (.iload_n 1, 1) := by decide +kernel
theorem dX3_count_2 : decode cX3_count 2 = .ok (.invokevirtual 229, 3) := by decide +kernel
theorem dX3_count_5 : decode cX3_count 5 = .ok (.ireturn, 1) := by decide +kernel
theorem dX3_mix_0 : decode cX3_mix 0 = .ok (.aload_n 0, 1) := by decide +kernel
theorem dX3_mix_1 : decode cX3_mix 1 = .ok (.ldc2_w 232, 3) := by decide +kernel
theorem dX3_mix_4 : decode cX3_mix 4 = .ok (.aload_n 0, 1) := by decide +kernel
theorem dX3_mix_5 : decode cX3_mix 5 = .ok (.getfield 234, 3) := by decide +kernel
theorem dX3_mix_8 : decode cX3_mix 8 = .ok (.lmul, 1) := by decide +kernel
theorem dX3_mix_9 : decode cX3_mix 9 = .ok (.lload_n 1, 1) := by decide +kernel
theorem dX3_mix_10 : decode cX3_mix 10 = .ok (.ladd, 1) := by decide +kernel
theorem dX3_mix_11 : decode cX3_mix 11 = .ok (.putfield 234, 3) := by decide +kernel
theorem dX3_mix_14 : decode cX3_mix 14 = .ok (.return_, 1) := by decide +kernel
set_option maxRecDepth 20000 in
theorem ggX3_digest_X3_siteNow : GoodIn wsX3_digest wsX3_siteNow := goodIn_r _ [10, 11, 12, 13, 14, 15, 16, 17, 18, 19, 9, 20, 21, 22, 23, 24, 25, 26, 27, 107, 108, 109, 110, 111, 112, 113, 114, 115, 116, 117, 118, 119, 120, 121, 122, 123, 124, 125, 126, 127, 128, 129, 130, 131, 132, 133, 134, 135, 136, 137, 138, 139, 140, 141, 142, 143, 144, 145, 146] (by decide +kernel) (by decide +kernel)
set_option maxRecDepth 20000 in
theorem gX3_digest_X3_siteNow : GoodIn wsX3_digest (wsV RX3 130 RX3 yX3_siteNow wsX3_siteNow) := goodIn_app (goodIn_of _ (by decide +kernel)) ggX3_digest_X3_siteNow
set_option maxRecDepth 20000 in
theorem ggX3_digest_X3_mix : GoodIn wsX3_digest wsX3_mix := goodIn_r _ [31, 32, 2, 107, 108, 109, 110, 111, 112, 113, 114, 115, 116, 117, 118, 119, 120, 121, 122, 123, 124, 125, 126, 127, 128, 129, 130, 131, 132, 133, 134, 135, 136, 137, 138, 139, 140, 141, 142, 143, 144, 145, 146] (by decide +kernel) (by decide +kernel)
set_option maxRecDepth 20000 in
theorem gX3_digest_X3_mix : GoodIn wsX3_digest (wsV RX3 239 RX3 yX3_mix wsX3_mix) := goodIn_app (goodIn_of _ (by decide +kernel)) ggX3_digest_X3_mix
set_option maxRecDepth 20000 in
theorem ggX3_digest_X3_needOf : GoodIn wsX3_digest wsX3_needOf := goodIn_r _ [36, 37, 38, 39, 9, 40, 13, 15, 41, 42, 43, 24, 25, 26, 27, 12, 17, 18, 19, 20, 14, 11, 21, 22, 23, 107, 108, 109, 110, 111, 112, 113, 114, 115, 116, 117, 118, 119, 120, 121, 122, 123, 124, 125, 126, 127, 128, 129, 130, 131, 132, 133, 134, 135, 136, 137, 138, 139, 140, 141, 142, 143, 144, 145, 146] (by decide +kernel) (by decide +kernel)
set_option maxRecDepth 20000 in
theorem gX3_digest_X3_needOf : GoodIn wsX3_digest (wsV RX3 146 RX3 yX3_needOf wsX3_needOf) := goodIn_app (goodIn_of _ (by decide +kernel)) ggX3_digest_X3_needOf
set_option maxRecDepth 20000 in
theorem ggX3_digest_X3_planNow : GoodIn wsX3_digest wsX3_planNow := goodIn_r _ [47, 3, 48, 49, 50, 33, 34, 35, 9, 36, 37, 38, 39, 40, 13, 15, 41, 42, 43, 24, 25, 26, 27, 12, 17, 18, 19, 20, 14, 11, 21, 22, 23, 51, 52, 53, 54, 55, 56, 57, 58, 59, 60, 107, 108, 109, 110, 111, 112, 113, 114, 115, 116, 117, 118, 119, 120, 121, 122, 123, 124, 125, 126, 127, 128, 129, 130, 131, 132, 133, 134, 135, 136, 137, 138, 139, 140, 141, 142, 143, 144, 145, 146] (by decide +kernel) (by decide +kernel)
set_option maxRecDepth 20000 in
theorem gX3_digest_X3_planNow : GoodIn wsX3_digest (wsV RX3 164 RX3 yX3_planNow wsX3_planNow) := goodIn_app (goodIn_of _ (by decide +kernel)) ggX3_digest_X3_planNow
set_option maxRecDepth 20000 in
theorem ggX3_digest_X3_errorNow : GoodIn wsX3_digest wsX3_errorNow := goodIn_r _ [64, 3, 65, 66, 67, 9, 68, 13, 24, 25, 26, 27, 12, 69, 70, 71, 72, 73, 16, 41, 42, 43, 107, 108, 109, 110, 111, 112, 113, 114, 115, 116, 117, 118, 119, 120, 121, 122, 123, 124, 125, 126, 127, 128, 129, 130, 131, 132, 133, 134, 135, 136, 137, 138, 139, 140, 141, 142, 143, 144, 145, 146] (by decide +kernel) (by decide +kernel)
set_option maxRecDepth 20000 in
theorem gX3_digest_X3_errorNow : GoodIn wsX3_digest (wsV RX3 171 RX3 yX3_errorNow wsX3_errorNow) := goodIn_app (goodIn_of _ (by decide +kernel)) ggX3_digest_X3_errorNow
set_option maxRecDepth 20000 in
theorem ggX3_digest_X3_sunsNow : GoodIn wsX3_digest wsX3_sunsNow := goodIn_r _ [77, 78, 79, 80, 81, 82, 83, 84, 9, 85, 17, 18, 19, 20, 14, 11, 21, 22, 23, 107, 108, 109, 110, 111, 112, 113, 114, 115, 116, 117, 118, 119, 120, 121, 122, 123, 124, 125, 126, 127, 128, 129, 130, 131, 132, 133, 134, 135, 136, 137, 138, 139, 140, 141, 142, 143, 144, 145, 146] (by decide +kernel) (by decide +kernel)
set_option maxRecDepth 20000 in
theorem gX3_digest_X3_sunsNow : GoodIn wsX3_digest (wsV RX3 177 RX3 yX3_sunsNow wsX3_sunsNow) := goodIn_app (goodIn_of _ (by decide +kernel)) ggX3_digest_X3_sunsNow
set_option maxRecDepth 20000 in
theorem ggX3_digest_X3_lookNow : GoodIn wsX3_digest wsX3_lookNow := goodIn_r _ [89, 90, 3, 74, 75, 76, 9, 77, 78, 79, 80, 81, 82, 83, 84, 85, 17, 18, 19, 20, 14, 11, 21, 22, 23, 91, 92, 93, 94, 55, 56, 57, 107, 108, 109, 110, 111, 112, 113, 114, 115, 116, 117, 118, 119, 120, 121, 122, 123, 124, 125, 126, 127, 128, 129, 130, 131, 132, 133, 134, 135, 136, 137, 138, 139, 140, 141, 142, 143, 144, 145, 146] (by decide +kernel) (by decide +kernel)
set_option maxRecDepth 20000 in
theorem gX3_digest_X3_lookNow : GoodIn wsX3_digest (wsV RX3 184 RX3 yX3_lookNow wsX3_lookNow) := goodIn_app (goodIn_of _ (by decide +kernel)) ggX3_digest_X3_lookNow
set_option maxRecDepth 20000 in
theorem ggX3_digest_X3_howMany : GoodIn wsX3_digest wsX3_howMany := goodIn_r _ [98, 3, 15, 99, 100, 101, 78, 4, 102, 103, 104, 105, 9, 106, 13, 65, 66, 67, 68, 24, 25, 26, 27, 12, 107, 108, 109, 110, 111, 112, 113, 114, 115, 116, 117, 118, 119, 120, 121, 122, 123, 124, 125, 126, 127, 128, 129, 130, 131, 132, 133, 134, 135, 136, 137, 138, 139, 140, 141, 142, 143, 144, 145, 146] (by decide +kernel) (by decide +kernel)
set_option maxRecDepth 20000 in
theorem gX3_digest_X3_howMany : GoodIn wsX3_digest (wsV RX3 229 RX3 yX3_howMany wsX3_howMany) := goodIn_app (goodIn_of _ (by decide +kernel)) ggX3_digest_X3_howMany
theorem dX3_digest_0 : decode cX3_digest 0 = .ok (.aload_n 0, 1) := by decide +kernel
theorem dX3_digest_1 : decode cX3_digest 1 = .ok (.ldc2_w 237, 3) := by decide +kernel
theorem dX3_digest_4 : decode cX3_digest 4 = .ok (.putfield 234, 3) := by decide +kernel
theorem dX3_digest_7 : decode cX3_digest 7 = .ok (.iconst 0, 1) := by decide +kernel
theorem dX3_digest_8 : decode cX3_digest 8 = .ok (.istore_n 1, 1) := by decide +kernel
theorem dX3_digest_9 : decode cX3_digest 9 = .ok (.iload_n 1, 1) := by decide +kernel
theorem dX3_digest_10 : decode cX3_digest 10 = .ok (.aload_n 0, 1) := by decide +kernel
theorem dX3_digest_11 : decode cX3_digest 11 = .ok (.getfield 94, 3) := by decide +kernel
theorem dX3_digest_14 : decode cX3_digest 14 = .ok (.if_icmp .ge 67, 3) := by decide +kernel
theorem dX3_digest_17 : decode cX3_digest 17 = .ok (.iconst 0, 1) := by decide +kernel
theorem dX3_digest_18 : decode cX3_digest 18 = .ok (.istore_n 2, 1) := by decide +kernel
theorem dX3_digest_19 : decode cX3_digest 19 = .ok (.iload_n 2, 1) := by decide +kernel
theorem dX3_digest_20 : decode cX3_digest 20 = .ok (.bipush 7, 2) := by decide +kernel
theorem dX3_digest_22 : decode cX3_digest 22 = .ok (.if_icmp .ge 20, 3) := by decide +kernel
theorem dX3_digest_25 : decode cX3_digest 25 = .ok (.aload_n 0, 1) := by decide +kernel
theorem dX3_digest_26 : decode cX3_digest 26 = .ok (.aload_n 0, 1) := by decide +kernel
theorem dX3_digest_27 : decode cX3_digest 27 = .ok (.iload_n 1, 1) := by decide +kernel
theorem dX3_digest_28 : decode cX3_digest 28 = .ok (.iload_n 2, 1) := by decide +kernel
theorem dX3_digest_29 : decode cX3_digest 29 = .ok (.invokevirtual 130, 3) := by decide +kernel
theorem dX3_digest_32 : decode cX3_digest 32 = .ok (.i2l, 1) := by decide +kernel
theorem dX3_digest_33 : decode cX3_digest 33 = .ok (.invokevirtual 239, 3) := by decide +kernel
theorem dX3_digest_36 : decode cX3_digest 36 = .ok (.iinc 2 1, 3) := by decide +kernel
theorem dX3_digest_39 : decode cX3_digest 39 = .ok (.goto (-20), 3) := by decide +kernel
theorem dX3_digest_42 : decode cX3_digest 42 = .ok (.aload_n 0, 1) := by decide +kernel
theorem dX3_digest_43 : decode cX3_digest 43 = .ok (.aload_n 0, 1) := by decide +kernel
theorem dX3_digest_44 : decode cX3_digest 44 = .ok (.iload_n 1, 1) := by decide +kernel
theorem dX3_digest_45 : decode cX3_digest 45 = .ok (.iconst 0, 1) := by decide +kernel
theorem dX3_digest_46 : decode cX3_digest 46 = .ok (.invokevirtual 146, 3) := by decide +kernel
theorem dX3_digest_49 : decode cX3_digest 49 = .ok (.i2l, 1) := by decide +kernel
theorem dX3_digest_50 : decode cX3_digest 50 = .ok (.invokevirtual 239, 3) := by decide +kernel
theorem dX3_digest_53 : decode cX3_digest 53 = .ok (.aload_n 0, 1) := by decide +kernel
theorem dX3_digest_54 : decode cX3_digest 54 = .ok (.aload_n 0, 1) := by decide +kernel
theorem dX3_digest_55 : decode cX3_digest 55 = .ok (.iload_n 1, 1) := by decide +kernel
theorem dX3_digest_56 : decode cX3_digest 56 = .ok (.iconst 1, 1) := by decide +kernel
theorem dX3_digest_57 : decode cX3_digest 57 = .ok (.invokevirtual 146, 3) := by decide +kernel
theorem dX3_digest_60 : decode cX3_digest 60 = .ok (.i2l, 1) := by decide +kernel
theorem dX3_digest_61 : decode cX3_digest 61 = .ok (.invokevirtual 239, 3) := by decide +kernel
theorem dX3_digest_64 : decode cX3_digest 64 = .ok (.aload_n 0, 1) := by decide +kernel
theorem dX3_digest_65 : decode cX3_digest 65 = .ok (.aload_n 0, 1) := by decide +kernel
theorem dX3_digest_66 : decode cX3_digest 66 = .ok (.iload_n 1, 1) := by decide +kernel
theorem dX3_digest_67 : decode cX3_digest 67 = .ok (.iconst 5, 1) := by decide +kernel
theorem dX3_digest_68 : decode cX3_digest 68 = .ok (.invokevirtual 146, 3) := by decide +kernel
theorem dX3_digest_71 : decode cX3_digest 71 = .ok (.i2l, 1) := by decide +kernel
theorem dX3_digest_72 : decode cX3_digest 72 = .ok (.invokevirtual 239, 3) := by decide +kernel
theorem dX3_digest_75 : decode cX3_digest 75 = .ok (.iinc 1 1, 3) := by decide +kernel
theorem dX3_digest_78 : decode cX3_digest 78 = .ok (.goto (-69), 3) := by decide +kernel
theorem dX3_digest_81 : decode cX3_digest 81 = .ok (.aload_n 0, 1) := by decide +kernel
theorem dX3_digest_82 : decode cX3_digest 82 = .ok (.getfield 94, 3) := by decide +kernel
theorem dX3_digest_85 : decode cX3_digest 85 = .ok (.ifCond .le 67, 3) := by decide +kernel
theorem dX3_digest_88 : decode cX3_digest 88 = .ok (.iconst 0, 1) := by decide +kernel
theorem dX3_digest_89 : decode cX3_digest 89 = .ok (.istore_n 1, 1) := by decide +kernel
theorem dX3_digest_90 : decode cX3_digest 90 = .ok (.iload_n 1, 1) := by decide +kernel
theorem dX3_digest_91 : decode cX3_digest 91 = .ok (.iconst 4, 1) := by decide +kernel
theorem dX3_digest_92 : decode cX3_digest 92 = .ok (.if_icmp .ge 22, 3) := by decide +kernel
theorem dX3_digest_95 : decode cX3_digest 95 = .ok (.aload_n 0, 1) := by decide +kernel
theorem dX3_digest_96 : decode cX3_digest 96 = .ok (.aload_n 0, 1) := by decide +kernel
theorem dX3_digest_97 : decode cX3_digest 97 = .ok (.bipush 20, 2) := by decide +kernel
theorem dX3_digest_99 : decode cX3_digest 99 = .ok (.iconst 2, 1) := by decide +kernel
theorem dX3_digest_100 : decode cX3_digest 100 = .ok (.iload_n 1, 1) := by decide +kernel
theorem dX3_digest_101 : decode cX3_digest 101 = .ok (.invokevirtual 164, 3) := by decide +kernel
theorem dX3_digest_104 : decode cX3_digest 104 = .ok (.i2l, 1) := by decide +kernel
theorem dX3_digest_105 : decode cX3_digest 105 = .ok (.invokevirtual 239, 3) := by decide +kernel
theorem dX3_digest_108 : decode cX3_digest 108 = .ok (.iinc 1 1, 3) := by decide +kernel
theorem dX3_digest_111 : decode cX3_digest 111 = .ok (.goto (-21), 3) := by decide +kernel
theorem dX3_digest_114 : decode cX3_digest 114 = .ok (.aload_n 0, 1) := by decide +kernel
theorem dX3_digest_115 : decode cX3_digest 115 = .ok (.aload_n 0, 1) := by decide +kernel
theorem dX3_digest_116 : decode cX3_digest 116 = .ok (.iconst 0, 1) := by decide +kernel
theorem dX3_digest_117 : decode cX3_digest 117 = .ok (.invokevirtual 171, 3) := by decide +kernel
theorem dX3_digest_120 : decode cX3_digest 120 = .ok (.i2l, 1) := by decide +kernel
theorem dX3_digest_121 : decode cX3_digest 121 = .ok (.invokevirtual 239, 3) := by decide +kernel
theorem dX3_digest_124 : decode cX3_digest 124 = .ok (.aload_n 0, 1) := by decide +kernel
theorem dX3_digest_125 : decode cX3_digest 125 = .ok (.aload_n 0, 1) := by decide +kernel
theorem dX3_digest_126 : decode cX3_digest 126 = .ok (.iconst 1, 1) := by decide +kernel
theorem dX3_digest_127 : decode cX3_digest 127 = .ok (.invokevirtual 171, 3) := by decide +kernel
theorem dX3_digest_130 : decode cX3_digest 130 = .ok (.i2l, 1) := by decide +kernel
theorem dX3_digest_131 : decode cX3_digest 131 = .ok (.invokevirtual 239, 3) := by decide +kernel
theorem dX3_digest_134 : decode cX3_digest 134 = .ok (.aload_n 0, 1) := by decide +kernel
theorem dX3_digest_135 : decode cX3_digest 135 = .ok (.aload_n 0, 1) := by decide +kernel
theorem dX3_digest_136 : decode cX3_digest 136 = .ok (.invokevirtual 177, 3) := by decide +kernel
theorem dX3_digest_139 : decode cX3_digest 139 = .ok (.i2l, 1) := by decide +kernel
theorem dX3_digest_140 : decode cX3_digest 140 = .ok (.invokevirtual 239, 3) := by decide +kernel
theorem dX3_digest_143 : decode cX3_digest 143 = .ok (.aload_n 0, 1) := by decide +kernel
theorem dX3_digest_144 : decode cX3_digest 144 = .ok (.aload_n 0, 1) := by decide +kernel
theorem dX3_digest_145 : decode cX3_digest 145 = .ok (.invokevirtual 184, 3) := by decide +kernel
theorem dX3_digest_148 : decode cX3_digest 148 = .ok (.i2l, 1) := by decide +kernel
theorem dX3_digest_149 : decode cX3_digest 149 = .ok (.invokevirtual 239, 3) := by decide +kernel
theorem dX3_digest_152 : decode cX3_digest 152 = .ok (.iconst 0, 1) := by decide +kernel
theorem dX3_digest_153 : decode cX3_digest 153 = .ok (.istore_n 1, 1) := by decide +kernel
theorem dX3_digest_154 : decode cX3_digest 154 = .ok (.iload_n 1, 1) := by decide +kernel
theorem dX3_digest_155 : decode cX3_digest 155 = .ok (.aload_n 0, 1) := by decide +kernel
theorem dX3_digest_156 : decode cX3_digest 156 = .ok (.getfield 72, 3) := by decide +kernel
theorem dX3_digest_159 : decode cX3_digest 159 = .ok (.if_icmp .ge 20, 3) := by decide +kernel
theorem dX3_digest_162 : decode cX3_digest 162 = .ok (.aload_n 0, 1) := by decide +kernel
theorem dX3_digest_163 : decode cX3_digest 163 = .ok (.aload_n 0, 1) := by decide +kernel
theorem dX3_digest_164 : decode cX3_digest 164 = .ok (.getfield 37, 3) := by decide +kernel
theorem dX3_digest_167 : decode cX3_digest 167 = .ok (.iload_n 1, 1) := by decide +kernel
theorem dX3_digest_168 : decode cX3_digest 168 = .ok (.baload, 1) := by decide +kernel
theorem dX3_digest_169 : decode cX3_digest 169 = .ok (.i2l, 1) := by decide +kernel
theorem dX3_digest_170 : decode cX3_digest 170 = .ok (.invokevirtual 239, 3) := by decide +kernel
theorem dX3_digest_173 : decode cX3_digest 173 = .ok (.iinc 1 1, 3) := by decide +kernel
theorem dX3_digest_176 : decode cX3_digest 176 = .ok (.goto (-22), 3) := by decide +kernel
theorem dX3_digest_179 : decode cX3_digest 179 = .ok (.iconst 0, 1) := by decide +kernel
theorem dX3_digest_180 : decode cX3_digest 180 = .ok (.istore_n 1, 1) := by decide +kernel
theorem dX3_digest_181 : decode cX3_digest 181 = .ok (.iload_n 1, 1) := by decide +kernel
theorem dX3_digest_182 : decode cX3_digest 182 = .ok (.bipush 10, 2) := by decide +kernel
theorem dX3_digest_184 : decode cX3_digest 184 = .ok (.if_icmp .ge 19, 3) := by decide +kernel
theorem dX3_digest_187 : decode cX3_digest 187 = .ok (.aload_n 0, 1) := by decide +kernel
theorem dX3_digest_188 : decode cX3_digest 188 = .ok (.aload_n 0, 1) := by decide +kernel
theorem dX3_digest_189 : decode cX3_digest 189 = .ok (.iload_n 1, 1) := by decide +kernel
theorem dX3_digest_190 : decode cX3_digest 190 = .ok (.invokevirtual 229, 3) := by decide +kernel
theorem dX3_digest_193 : decode cX3_digest 193 = .ok (.i2l, 1) := by decide +kernel
theorem dX3_digest_194 : decode cX3_digest 194 = .ok (.invokevirtual 239, 3) := by decide +kernel
theorem dX3_digest_197 : decode cX3_digest 197 = .ok (.iinc 1 1, 3) := by decide +kernel
theorem dX3_digest_200 : decode cX3_digest 200 = .ok (.goto (-19), 3) := by decide +kernel
theorem dX3_digest_203 : decode cX3_digest 203 = .ok (.aload_n 0, 1) := by decide +kernel
theorem dX3_digest_204 : decode cX3_digest 204 = .ok (.getfield 234, 3) := by decide +kernel
theorem dX3_digest_207 : decode cX3_digest 207 = .ok (.lreturn, 1) := by decide +kernel
