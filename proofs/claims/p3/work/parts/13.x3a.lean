theorem dX3_init_0 : decode cX3_init 0 = .ok (.aload_n 0, 1) := by decide +kernel
theorem dX3_init_1 : decode cX3_init 1 = .ok (.invokespecial 1, 3) := by decide +kernel
theorem dX3_init_4 : decode cX3_init 4 = .ok (.aload_n 0, 1) := by decide +kernel
theorem dX3_init_5 : decode cX3_init 5 = .ok (.bipush 6, 2) := by decide +kernel
theorem dX3_init_7 : decode cX3_init 7 = .ok (.newarray .int, 2) := by decide +kernel
theorem dX3_init_9 : decode cX3_init 9 = .ok (.putfield 7, 3) := by decide +kernel
theorem dX3_init_12 : decode cX3_init 12 = .ok (.aload_n 0, 1) := by decide +kernel
theorem dX3_init_13 : decode cX3_init 13 = .ok (.bipush 6, 2) := by decide +kernel
theorem dX3_init_15 : decode cX3_init 15 = .ok (.newarray .int, 2) := by decide +kernel
theorem dX3_init_17 : decode cX3_init 17 = .ok (.putfield 13, 3) := by decide +kernel
theorem dX3_init_20 : decode cX3_init 20 = .ok (.aload_n 0, 1) := by decide +kernel
theorem dX3_init_21 : decode cX3_init 21 = .ok (.bipush 6, 2) := by decide +kernel
theorem dX3_init_23 : decode cX3_init 23 = .ok (.newarray .int, 2) := by decide +kernel
theorem dX3_init_25 : decode cX3_init 25 = .ok (.putfield 16, 3) := by decide +kernel
theorem dX3_init_28 : decode cX3_init 28 = .ok (.aload_n 0, 1) := by decide +kernel
theorem dX3_init_29 : decode cX3_init 29 = .ok (.bipush 6, 2) := by decide +kernel
theorem dX3_init_31 : decode cX3_init 31 = .ok (.newarray .int, 2) := by decide +kernel
theorem dX3_init_33 : decode cX3_init 33 = .ok (.putfield 19, 3) := by decide +kernel
theorem dX3_init_36 : decode cX3_init 36 = .ok (.aload_n 0, 1) := by decide +kernel
theorem dX3_init_37 : decode cX3_init 37 = .ok (.bipush 6, 2) := by decide +kernel
theorem dX3_init_39 : decode cX3_init 39 = .ok (.newarray .int, 2) := by decide +kernel
theorem dX3_init_41 : decode cX3_init 41 = .ok (.putfield 22, 3) := by decide +kernel
theorem dX3_init_44 : decode cX3_init 44 = .ok (.aload_n 0, 1) := by decide +kernel
theorem dX3_init_45 : decode cX3_init 45 = .ok (.bipush 6, 2) := by decide +kernel
theorem dX3_init_47 : decode cX3_init 47 = .ok (.newarray .int, 2) := by decide +kernel
theorem dX3_init_49 : decode cX3_init 49 = .ok (.putfield 25, 3) := by decide +kernel
theorem dX3_init_52 : decode cX3_init 52 = .ok (.aload_n 0, 1) := by decide +kernel
theorem dX3_init_53 : decode cX3_init 53 = .ok (.bipush 6, 2) := by decide +kernel
theorem dX3_init_55 : decode cX3_init 55 = .ok (.newarray .int, 2) := by decide +kernel
theorem dX3_init_57 : decode cX3_init 57 = .ok (.putfield 28, 3) := by decide +kernel
theorem dX3_init_60 : decode cX3_init 60 = .ok (.aload_n 0, 1) := by decide +kernel
theorem dX3_init_61 : decode cX3_init 61 = .ok (.bipush 6, 2) := by decide +kernel
theorem dX3_init_63 : decode cX3_init 63 = .ok (.newarray .int, 2) := by decide +kernel
theorem dX3_init_65 : decode cX3_init 65 = .ok (.putfield 31, 3) := by decide +kernel
theorem dX3_init_68 : decode cX3_init 68 = .ok (.aload_n 0, 1) := by decide +kernel
theorem dX3_init_69 : decode cX3_init 69 = .ok (.bipush 6, 2) := by decide +kernel
theorem dX3_init_71 : decode cX3_init 71 = .ok (.newarray .int, 2) := by decide +kernel
theorem dX3_init_73 : decode cX3_init 73 = .ok (.putfield 34, 3) := by decide +kernel
theorem dX3_init_76 : decode cX3_init 76 = .ok (.aload_n 0, 1) := by decide +kernel
theorem dX3_init_77 : decode cX3_init 77 = .ok (.bipush 21, 2) := by decide +kernel
theorem dX3_init_79 : decode cX3_init 79 = .ok (.newarray .byte, 2) := by decide +kernel
theorem dX3_init_81 : decode cX3_init 81 = .ok (.putfield 37, 3) := by decide +kernel
theorem dX3_init_84 : decode cX3_init 84 = .ok (.aload_n 0, 1) := by decide +kernel
theorem dX3_init_85 : decode cX3_init 85 = .ok (.bipush 6, 2) := by decide +kernel
theorem dX3_init_87 : decode cX3_init 87 = .ok (.newarray .int, 2) := by decide +kernel
theorem dX3_init_89 : decode cX3_init 89 = .ok (.putfield 41, 3) := by decide +kernel
theorem dX3_init_92 : decode cX3_init 92 = .ok (.aload_n 0, 1) := by decide +kernel
theorem dX3_init_93 : decode cX3_init 93 = .ok (.bipush 6, 2) := by decide +kernel
theorem dX3_init_95 : decode cX3_init 95 = .ok (.newarray .int, 2) := by decide +kernel
theorem dX3_init_97 : decode cX3_init 97 = .ok (.putfield 44, 3) := by decide +kernel
theorem dX3_init_100 : decode cX3_init 100 = .ok (.aload_n 0, 1) := by decide +kernel
theorem dX3_init_101 : decode cX3_init 101 = .ok (.bipush 6, 2) := by decide +kernel
theorem dX3_init_103 : decode cX3_init 103 = .ok (.newarray .int, 2) := by decide +kernel
theorem dX3_init_105 : decode cX3_init 105 = .ok (.putfield 47, 3) := by decide +kernel
theorem dX3_init_108 : decode cX3_init 108 = .ok (.aload_n 0, 1) := by decide +kernel
theorem dX3_init_109 : decode cX3_init 109 = .ok (.bipush 6, 2) := by decide +kernel
theorem dX3_init_111 : decode cX3_init 111 = .ok (.newarray .int, 2) := by decide +kernel
theorem dX3_init_113 : decode cX3_init 113 = .ok (.putfield 50, 3) := by decide +kernel
theorem dX3_init_116 : decode cX3_init 116 = .ok (.aload_n 0, 1) := by decide +kernel
theorem dX3_init_117 : decode cX3_init 117 = .ok (.bipush 6, 2) := by decide +kernel
theorem dX3_init_119 : decode cX3_init 119 = .ok (.newarray .int, 2) := by decide +kernel
theorem dX3_init_121 : decode cX3_init 121 = .ok (.putfield 53, 3) := by decide +kernel
theorem dX3_init_124 : decode cX3_init 124 = .ok (.aload_n 0, 1) := by decide +kernel
theorem dX3_init_125 : decode cX3_init 125 = .ok (.bipush 6, 2) := by decide +kernel
theorem dX3_init_127 : decode cX3_init 127 = .ok (.newarray .int, 2) := by decide +kernel
theorem dX3_init_129 : decode cX3_init 129 = .ok (.putfield 56, 3) := by decide +kernel
theorem dX3_init_132 : decode cX3_init 132 = .ok (.aload_n 0, 1) := by decide +kernel
theorem dX3_init_133 : decode cX3_init 133 = .ok (.bipush 6, 2) := by decide +kernel
theorem dX3_init_135 : decode cX3_init 135 = .ok (.newarray .int, 2) := by decide +kernel
theorem dX3_init_137 : decode cX3_init 137 = .ok (.putfield 59, 3) := by decide +kernel
theorem dX3_init_140 : decode cX3_init 140 = .ok (.aload_n 0, 1) := by decide +kernel
theorem dX3_init_141 : decode cX3_init 141 = .ok (.bipush 6, 2) := by decide +kernel
theorem dX3_init_143 : decode cX3_init 143 = .ok (.newarray .int, 2) := by decide +kernel
theorem dX3_init_145 : decode cX3_init 145 = .ok (.putfield 62, 3) := by decide +kernel
theorem dX3_init_148 : decode cX3_init 148 = .ok (.aload_n 0, 1) := by decide +kernel
theorem dX3_init_149 : decode cX3_init 149 = .ok (.bipush 6, 2) := by decide +kernel
theorem dX3_init_151 : decode cX3_init 151 = .ok (.newarray .int, 2) := by decide +kernel
theorem dX3_init_153 : decode cX3_init 153 = .ok (.putfield 65, 3) := by decide +kernel
theorem dX3_init_156 : decode cX3_init 156 = .ok (.return_, 1) := by decide +kernel
theorem dX3_within_0 : decode cX3_within 0 = .ok (.iload_n 0, 1) := by decide +kernel
theorem dX3_within_1 : decode cX3_within 1 = .ok (.iload_n 1, 1) := by decide +kernel
theorem dX3_within_2 : decode cX3_within 2 = .ok (.if_icmp .lt 12, 3) := by decide +kernel
theorem dX3_within_5 : decode cX3_within 5 = .ok (.iload_n 0, 1) := by decide +kernel
theorem dX3_within_6 : decode cX3_within 6 = .ok (.iload_n 2, 1) := by decide +kernel
theorem dX3_within_7 : decode cX3_within 7 = .ok (.if_icmp .gt 7, 3) := by decide +kernel
theorem dX3_within_10 : decode cX3_within 10 = .ok (.iconst 1, 1) := by decide +kernel
theorem dX3_within_11 : decode cX3_within 11 = .ok (.goto 4, 3) := by decide +kernel
theorem dX3_within_14 : decode cX3_within 14 = .ok (.iconst 0, 1) := by decide +kernel
theorem dX3_within_15 : decode cX3_within 15 = .ok (.ireturn, 1) := by decide +kernel
theorem dX3_isIn_0 : decode cX3_isIn 0 = .ok (.iload_n 0, 1) := by decide +kernel
theorem dX3_isIn_1 : decode cX3_isIn 1 = .ok (.iload_n 1, 1) := by decide +kernel
theorem dX3_isIn_2 : decode cX3_isIn 2 = .ok (.ishr, 1) := by decide +kernel
theorem dX3_isIn_3 : decode cX3_isIn 3 = .ok (.iconst 1, 1) := by decide +kernel
theorem dX3_isIn_4 : decode cX3_isIn 4 = .ok (.iand, 1) := by decide +kernel
theorem dX3_isIn_5 : decode cX3_isIn 5 = .ok (.iconst 1, 1) := by decide +kernel
theorem dX3_isIn_6 : decode cX3_isIn 6 = .ok (.if_icmp .ne 7, 3) := by decide +kernel
theorem dX3_isIn_9 : decode cX3_isIn 9 = .ok (.iconst 1, 1) := by decide +kernel
theorem dX3_isIn_10 : decode cX3_isIn 10 = .ok (.goto 4, 3) := by decide +kernel
theorem dX3_isIn_13 : decode cX3_isIn 13 = .ok (.iconst 0, 1) := by decide +kernel
theorem dX3_isIn_14 : decode cX3_isIn 14 = .ok (.ireturn, 1) := by decide +kernel
theorem dX3_size_0 : decode cX3_size 0 = .ok (.iconst 0, 1) := by decide +kernel
theorem dX3_size_1 : decode cX3_size 1 = .ok (.istore_n 1, 1) := by decide +kernel
theorem dX3_size_2 : decode cX3_size 2 = .ok (.iconst 0, 1) := by decide +kernel
theorem dX3_size_3 : decode cX3_size 3 = .ok (.istore_n 2, 1) := by decide +kernel
theorem dX3_size_4 : decode cX3_size 4 = .ok (.iload_n 2, 1) := by decide +kernel
theorem dX3_size_5 : decode cX3_size 5 = .ok (.bipush 10, 2) := by decide +kernel
theorem dX3_size_7 : decode cX3_size 7 = .ok (.if_icmp .ge 17, 3) := by decide +kernel
theorem dX3_size_10 : decode cX3_size 10 = .ok (.iload_n 1, 1) := by decide +kernel
theorem dX3_size_11 : decode cX3_size 11 = .ok (.iload_n 0, 1) := by decide +kernel
theorem dX3_size_12 : decode cX3_size 12 = .ok (.iload_n 2, 1) := by decide +kernel
theorem dX3_size_13 : decode cX3_size 13 = .ok (.ishr, 1) := by decide +kernel
theorem dX3_size_14 : decode cX3_size 14 = .ok (.iconst 1, 1) := by decide +kernel
theorem dX3_size_15 : decode cX3_size 15 = .ok (.iand, 1) := by decide +kernel
theorem dX3_size_16 : decode cX3_size 16 = .ok (.iadd, 1) := by decide +kernel
theorem dX3_size_17 : decode cX3_size 17 = .ok (.istore_n 1, 1) := by decide +kernel
theorem dX3_size_18 : decode cX3_size 18 = .ok (.iinc 2 1, 3) := by decide +kernel
theorem dX3_size_21 : decode cX3_size 21 = .ok (.goto (-17), 3) := by decide +kernel
theorem dX3_size_24 : decode cX3_size 24 = .ok (.iload_n 1, 1) := by decide +kernel
theorem dX3_size_25 : decode cX3_size 25 = .ok (.ireturn, 1) := by decide +kernel
theorem dX3_atMost_0 : decode cX3_atMost 0 = .ok (.iload_n 0, 1) := by decide +kernel
theorem dX3_atMost_1 : decode cX3_atMost 1 = .ok (.bipush 30, 2) := by decide +kernel
theorem dX3_atMost_3 : decode cX3_atMost 3 = .ok (.if_icmp .le 8, 3) := by decide +kernel
theorem dX3_atMost_6 : decode cX3_atMost 6 = .ok (.bipush 30, 2) := by decide +kernel
theorem dX3_atMost_8 : decode cX3_atMost 8 = .ok (.goto 4, 3) := by decide +kernel
theorem dX3_atMost_11 : decode cX3_atMost 11 = .ok (.iload_n 0, 1) := by decide +kernel
theorem dX3_atMost_12 : decode cX3_atMost 12 = .ok (.ireturn, 1) := by decide +kernel
theorem dX3_notBelow_0 : decode cX3_notBelow 0 = .ok (.iload_n 0, 1) := by decide +kernel
theorem dX3_notBelow_1 : decode cX3_notBelow 1 = .ok (.ifCond .ge 7, 3) := by decide +kernel
theorem dX3_notBelow_4 : decode cX3_notBelow 4 = .ok (.iconst 0, 1) := by decide +kernel
theorem dX3_notBelow_5 : decode cX3_notBelow 5 = .ok (.goto 4, 3) := by decide +kernel
theorem dX3_notBelow_8 : decode cX3_notBelow 8 = .ok (.iload_n 0, 1) := by decide +kernel
theorem dX3_notBelow_9 : decode cX3_notBelow 9 = .ok (.ireturn, 1) := by decide +kernel
set_option maxRecDepth 20000 in
theorem ggX3_letter_X3_within : GoodIn wsX3_letter wsX3_within := goodIn_r _ [6] (by decide +kernel) (by decide +kernel)
set_option maxRecDepth 20000 in
theorem gX3_letter_X3_within : GoodIn wsX3_letter (va_wsS RX3 68 yX3_within wsX3_within) := goodIn_app (goodIn_of _ (by decide +kernel)) ggX3_letter_X3_within
theorem dX3_letter_0 : decode cX3_letter 0 = .ok (.iload_n 1, 1) := by decide +kernel
theorem dX3_letter_1 : decode cX3_letter 1 = .ok (.bipush 32, 2) := by decide +kernel
theorem dX3_letter_3 : decode cX3_letter 3 = .ok (.bipush 126, 2) := by decide +kernel
theorem dX3_letter_5 : decode cX3_letter 5 = .ok (.invokestatic 68, 3) := by decide +kernel
theorem dX3_letter_8 : decode cX3_letter 8 = .ok (.ifCond .ne 6, 3) := by decide +kernel
theorem dX3_letter_11 : decode cX3_letter 11 = .ok (.bipush (-102), 2) := by decide +kernel
theorem dX3_letter_13 : decode cX3_letter 13 = .ok (.ireturn, 1) := by decide +kernel
theorem dX3_letter_14 : decode cX3_letter 14 = .ok (.aload_n 0, 1) := by decide +kernel
theorem dX3_letter_15 : decode cX3_letter 15 = .ok (.getfield 72, 3) := by decide +kernel
theorem dX3_letter_18 : decode cX3_letter 18 = .ok (.bipush 21, 2) := by decide +kernel
theorem dX3_letter_20 : decode cX3_letter 20 = .ok (.if_icmp .ne 6, 3) := by decide +kernel
theorem dX3_letter_23 : decode cX3_letter 23 = .ok (.bipush (-104), 2) := by decide +kernel
theorem dX3_letter_25 : decode cX3_letter 25 = .ok (.ireturn, 1) := by decide +kernel
theorem dX3_letter_26 : decode cX3_letter 26 = .ok (.aload_n 0, 1) := by decide +kernel
theorem dX3_letter_27 : decode cX3_letter 27 = .ok (.getfield 37, 3) := by decide +kernel
theorem dX3_letter_30 : decode cX3_letter 30 = .ok (.aload_n 0, 1) := by decide +kernel
theorem dX3_letter_31 : decode cX3_letter 31 = .ok (.getfield 72, 3) := by decide +kernel
theorem dX3_letter_34 : decode cX3_letter 34 = .ok (.iload_n 1, 1) := by decide +kernel
theorem dX3_letter_35 : decode cX3_letter 35 = .ok (.i2b, 1) := by decide +kernel
theorem dX3_letter_36 : decode cX3_letter 36 = .ok (.bastore, 1) := by decide +kernel
theorem dX3_letter_37 : decode cX3_letter 37 = .ok (.aload_n 0, 1) := by decide +kernel
theorem dX3_letter_38 : decode cX3_letter 38 = .ok (.dup, 1) := by decide +kernel
theorem dX3_letter_39 : decode cX3_letter 39 = .ok (.getfield 72, 3) := by decide +kernel
theorem dX3_letter_42 : decode cX3_letter 42 = .ok (.iconst 1, 1) := by decide +kernel
theorem dX3_letter_43 : decode cX3_letter 43 = .ok (.iadd, 1) := by decide +kernel
theorem dX3_letter_44 : decode cX3_letter 44 = .ok (.putfield 72, 3) := by decide +kernel
theorem dX3_letter_47 : decode cX3_letter 47 = .ok (.aload_n 0, 1) := by decide +kernel
theorem dX3_letter_48 : decode cX3_letter 48 = .ok (.getfield 72, 3) := by decide +kernel
theorem dX3_letter_51 : decode cX3_letter 51 = .ok (.ireturn, 1) := by decide +kernel
theorem dX3_blank_0 : decode cX3_blank 0 = .ok (.aload_n 0, 1) := by decide +kernel
theorem dX3_blank_1 : decode cX3_blank 1 = .ok (.getfield 72, 3) := by decide +kernel
theorem dX3_blank_4 : decode cX3_blank 4 = .ok (.istore_n 1, 1) := by decide +kernel
theorem dX3_blank_5 : decode cX3_blank 5 = .ok (.aload_n 0, 1) := by decide +kernel
theorem dX3_blank_6 : decode cX3_blank 6 = .ok (.iconst 0, 1) := by decide +kernel
theorem dX3_blank_7 : decode cX3_blank 7 = .ok (.putfield 72, 3) := by decide +kernel
theorem dX3_blank_10 : decode cX3_blank 10 = .ok (.iload_n 1, 1) := by decide +kernel
theorem dX3_blank_11 : decode cX3_blank 11 = .ok (.ireturn, 1) := by decide +kernel
theorem dX3_kindBy_0 : decode cX3_kindBy 0 = .ok (.iload_n 0, 1) := by decide +kernel
theorem dX3_kindBy_1 : decode cX3_kindBy 1 = .ok (.lookupswitch 61 #[(98, 57), (103, 55), (115, 51), (116, 59), (121, 53)], 51) := by decide +kernel
theorem dX3_kindBy_52 : decode cX3_kindBy 52 = .ok (.iconst 0, 1) := by decide +kernel
theorem dX3_kindBy_53 : decode cX3_kindBy 53 = .ok (.ireturn, 1) := by decide +kernel
theorem dX3_kindBy_54 : decode cX3_kindBy 54 = .ok (.iconst 1, 1) := by decide +kernel
theorem dX3_kindBy_55 : decode cX3_kindBy 55 = .ok (.ireturn, 1) := by decide +kernel
theorem dX3_kindBy_56 : decode cX3_kindBy 56 = .ok (.iconst 2, 1) := by decide +kernel
theorem dX3_kindBy_57 : decode cX3_kindBy 57 = .ok (.ireturn, 1) := by decide +kernel
theorem dX3_kindBy_58 : decode cX3_kindBy 58 = .ok (.iconst 3, 1) := by decide +kernel
theorem dX3_kindBy_59 : decode cX3_kindBy 59 = .ok (.ireturn, 1) := by decide +kernel
theorem dX3_kindBy_60 : decode cX3_kindBy 60 = .ok (.iconst 4, 1) := by decide +kernel
theorem dX3_kindBy_61 : decode cX3_kindBy 61 = .ok (.ireturn, 1) := by decide +kernel
theorem dX3_kindBy_62 : decode cX3_kindBy 62 = .ok (.iconst (-1), 1) := by decide +kernel
theorem dX3_kindBy_63 : decode cX3_kindBy 63 = .ok (.ireturn, 1) := by decide +kernel
theorem dX3_figure_0 : decode cX3_figure 0 = .ok (.iload_n 1, 1) := by decide +kernel
theorem dX3_figure_1 : decode cX3_figure 1 = .ok (.aload_n 0, 1) := by decide +kernel
theorem dX3_figure_2 : decode cX3_figure 2 = .ok (.getfield 72, 3) := by decide +kernel
theorem dX3_figure_5 : decode cX3_figure 5 = .ok (.if_icmp .ge 15, 3) := by decide +kernel
theorem dX3_figure_8 : decode cX3_figure 8 = .ok (.aload_n 0, 1) := by decide +kernel
theorem dX3_figure_9 : decode cX3_figure 9 = .ok (.getfield 37, 3) := by decide +kernel
theorem dX3_figure_12 : decode cX3_figure 12 = .ok (.iload_n 1, 1) := by decide +kernel
theorem dX3_figure_13 : decode cX3_figure 13 = .ok (.baload, 1) := by decide +kernel
theorem dX3_figure_14 : decode cX3_figure 14 = .ok (.bipush 48, 2) := by decide +kernel
theorem dX3_figure_16 : decode cX3_figure 16 = .ok (.isub, 1) := by decide +kernel
theorem dX3_figure_17 : decode cX3_figure 17 = .ok (.goto 4, 3) := by decide +kernel
theorem dX3_figure_20 : decode cX3_figure 20 = .ok (.iconst (-1), 1) := by decide +kernel
theorem dX3_figure_21 : decode cX3_figure 21 = .ok (.ireturn, 1) := by decide +kernel
set_option maxRecDepth 20000 in
theorem ggX3_read_X3_kindBy : GoodIn wsX3_read wsX3_kindBy := goodIn_r _ [8] (by decide +kernel) (by decide +kernel)
set_option maxRecDepth 20000 in
theorem gX3_read_X3_kindBy : GoodIn wsX3_read (va_wsS RX3 83 yX3_kindBy wsX3_kindBy) := goodIn_app (goodIn_of _ (by decide +kernel)) ggX3_read_X3_kindBy
set_option maxRecDepth 20000 in
theorem ggX3_read_X3_figure : GoodIn wsX3_read wsX3_figure := goodIn_r _ [12, 3, 4, 16, 17, 18, 19, 20, 21, 22, 23, 24, 25, 26, 27, 28, 29, 30, 31, 32, 33, 34, 35, 36, 37, 38, 39, 40, 41, 42, 43, 44, 45, 46, 47, 48, 49, 50, 51, 52, 53, 54, 55] (by decide +kernel) (by decide +kernel)
set_option maxRecDepth 20000 in
theorem gX3_read_X3_figure : GoodIn wsX3_read (wsV RX3 87 RX3 yX3_figure wsX3_figure) := goodIn_app (goodIn_of _ (by decide +kernel)) ggX3_read_X3_figure
set_option maxRecDepth 20000 in
theorem ggX3_read_X3_within : GoodIn wsX3_read wsX3_within := goodIn_r _ [15] (by decide +kernel) (by decide +kernel)
set_option maxRecDepth 20000 in
theorem gX3_read_X3_within : GoodIn wsX3_read (va_wsS RX3 68 yX3_within wsX3_within) := goodIn_app (goodIn_of _ (by decide +kernel)) ggX3_read_X3_within
theorem dX3_read_0 : decode cX3_read 0 = .ok (.aload_n 0, 1) := by decide +kernel
theorem dX3_read_1 : decode cX3_read 1 = .ok (.iconst 0, 1) := by decide +kernel
theorem dX3_read_2 : decode cX3_read 2 = .ok (.putfield 76, 3) := by decide +kernel
theorem dX3_read_5 : decode cX3_read 5 = .ok (.aload_n 0, 1) := by decide +kernel
theorem dX3_read_6 : decode cX3_read 6 = .ok (.iconst 0, 1) := by decide +kernel
theorem dX3_read_7 : decode cX3_read 7 = .ok (.putfield 80, 3) := by decide +kernel
theorem dX3_read_10 : decode cX3_read 10 = .ok (.iconst 0, 1) := by decide +kernel
theorem dX3_read_11 : decode cX3_read 11 = .ok (.istore_n 1, 1) := by decide +kernel
theorem dX3_read_12 : decode cX3_read 12 = .ok (.aload_n 0, 1) := by decide +kernel
theorem dX3_read_13 : decode cX3_read 13 = .ok (.getfield 80, 3) := by decide +kernel
theorem dX3_read_16 : decode cX3_read 16 = .ok (.bipush 6, 2) := by decide +kernel
theorem dX3_read_18 : decode cX3_read 18 = .ok (.if_icmp .ge 183, 3) := by decide +kernel
theorem dX3_read_21 : decode cX3_read 21 = .ok (.iload_n 1, 1) := by decide +kernel
theorem dX3_read_22 : decode cX3_read 22 = .ok (.aload_n 0, 1) := by decide +kernel
theorem dX3_read_23 : decode cX3_read 23 = .ok (.getfield 72, 3) := by decide +kernel
theorem dX3_read_26 : decode cX3_read 26 = .ok (.if_icmp .eq 16, 3) := by decide +kernel
theorem dX3_read_29 : decode cX3_read 29 = .ok (.aload_n 0, 1) := by decide +kernel
theorem dX3_read_30 : decode cX3_read 30 = .ok (.getfield 37, 3) := by decide +kernel
theorem dX3_read_33 : decode cX3_read 33 = .ok (.iload_n 1, 1) := by decide +kernel
theorem dX3_read_34 : decode cX3_read 34 = .ok (.baload, 1) := by decide +kernel
theorem dX3_read_35 : decode cX3_read 35 = .ok (.invokestatic 83, 3) := by decide +kernel
theorem dX3_read_38 : decode cX3_read 38 = .ok (.iconst (-1), 1) := by decide +kernel
theorem dX3_read_39 : decode cX3_read 39 = .ok (.if_icmp .ne 5, 3) := by decide +kernel
theorem dX3_read_42 : decode cX3_read 42 = .ok (.iload_n 1, 1) := by decide +kernel
theorem dX3_read_43 : decode cX3_read 43 = .ok (.ireturn, 1) := by decide +kernel
theorem dX3_read_44 : decode cX3_read 44 = .ok (.aload_n 0, 1) := by decide +kernel
theorem dX3_read_45 : decode cX3_read 45 = .ok (.iload_n 1, 1) := by decide +kernel
theorem dX3_read_46 : decode cX3_read 46 = .ok (.iconst 1, 1) := by decide +kernel
theorem dX3_read_47 : decode cX3_read 47 = .ok (.iadd, 1) := by decide +kernel
theorem dX3_read_48 : decode cX3_read 48 = .ok (.invokevirtual 87, 3) := by decide +kernel
theorem dX3_read_51 : decode cX3_read 51 = .ok (.iconst 1, 1) := by decide +kernel
theorem dX3_read_52 : decode cX3_read 52 = .ok (.bipush 9, 2) := by decide +kernel
theorem dX3_read_54 : decode cX3_read 54 = .ok (.invokestatic 68, 3) := by decide +kernel
theorem dX3_read_57 : decode cX3_read 57 = .ok (.ifCond .ne 7, 3) := by decide +kernel
theorem dX3_read_60 : decode cX3_read 60 = .ok (.iload_n 1, 1) := by decide +kernel
theorem dX3_read_61 : decode cX3_read 61 = .ok (.iconst 1, 1) := by decide +kernel
theorem dX3_read_62 : decode cX3_read 62 = .ok (.iadd, 1) := by decide +kernel
theorem dX3_read_63 : decode cX3_read 63 = .ok (.ireturn, 1) := by decide +kernel
theorem dX3_read_64 : decode cX3_read 64 = .ok (.aload_n 0, 1) := by decide +kernel
theorem dX3_read_65 : decode cX3_read 65 = .ok (.dup, 1) := by decide +kernel
theorem dX3_read_66 : decode cX3_read 66 = .ok (.getfield 80, 3) := by decide +kernel
theorem dX3_read_69 : decode cX3_read 69 = .ok (.iconst 1, 1) := by decide +kernel
theorem dX3_read_70 : decode cX3_read 70 = .ok (.iadd, 1) := by decide +kernel
theorem dX3_read_71 : decode cX3_read 71 = .ok (.putfield 80, 3) := by decide +kernel
theorem dX3_read_74 : decode cX3_read 74 = .ok (.iinc 1 2, 3) := by decide +kernel
theorem dX3_read_77 : decode cX3_read 77 = .ok (.iload_n 1, 1) := by decide +kernel
theorem dX3_read_78 : decode cX3_read 78 = .ok (.aload_n 0, 1) := by decide +kernel
theorem dX3_read_79 : decode cX3_read 79 = .ok (.getfield 72, 3) := by decide +kernel
theorem dX3_read_82 : decode cX3_read 82 = .ok (.if_icmp .ge 83, 3) := by decide +kernel
theorem dX3_read_85 : decode cX3_read 85 = .ok (.aload_n 0, 1) := by decide +kernel
theorem dX3_read_86 : decode cX3_read 86 = .ok (.getfield 37, 3) := by decide +kernel
theorem dX3_read_89 : decode cX3_read 89 = .ok (.iload_n 1, 1) := by decide +kernel
theorem dX3_read_90 : decode cX3_read 90 = .ok (.baload, 1) := by decide +kernel
theorem dX3_read_91 : decode cX3_read 91 = .ok (.bipush 59, 2) := by decide +kernel
theorem dX3_read_93 : decode cX3_read 93 = .ok (.if_icmp .ne 72, 3) := by decide +kernel
theorem dX3_read_96 : decode cX3_read 96 = .ok (.aload_n 0, 1) := by decide +kernel
theorem dX3_read_97 : decode cX3_read 97 = .ok (.getfield 80, 3) := by decide +kernel
theorem dX3_read_100 : decode cX3_read 100 = .ok (.iconst 1, 1) := by decide +kernel
theorem dX3_read_101 : decode cX3_read 101 = .ok (.if_icmp .le 64, 3) := by decide +kernel
theorem dX3_read_104 : decode cX3_read 104 = .ok (.aload_n 0, 1) := by decide +kernel
theorem dX3_read_105 : decode cX3_read 105 = .ok (.aload_n 0, 1) := by decide +kernel
theorem dX3_read_106 : decode cX3_read 106 = .ok (.iload_n 1, 1) := by decide +kernel
theorem dX3_read_107 : decode cX3_read 107 = .ok (.iconst 1, 1) := by decide +kernel
theorem dX3_read_108 : decode cX3_read 108 = .ok (.iadd, 1) := by decide +kernel
theorem dX3_read_109 : decode cX3_read 109 = .ok (.invokevirtual 87, 3) := by decide +kernel
theorem dX3_read_112 : decode cX3_read 112 = .ok (.iconst 0, 1) := by decide +kernel
theorem dX3_read_113 : decode cX3_read 113 = .ok (.bipush 9, 2) := by decide +kernel
theorem dX3_read_115 : decode cX3_read 115 = .ok (.invokestatic 68, 3) := by decide +kernel
theorem dX3_read_118 : decode cX3_read 118 = .ok (.ifCond .eq 17, 3) := by decide +kernel
theorem dX3_read_121 : decode cX3_read 121 = .ok (.iload_n 1, 1) := by decide +kernel
theorem dX3_read_122 : decode cX3_read 122 = .ok (.iconst 2, 1) := by decide +kernel
theorem dX3_read_123 : decode cX3_read 123 = .ok (.iadd, 1) := by decide +kernel
theorem dX3_read_124 : decode cX3_read 124 = .ok (.aload_n 0, 1) := by decide +kernel
theorem dX3_read_125 : decode cX3_read 125 = .ok (.getfield 72, 3) := by decide +kernel
theorem dX3_read_128 : decode cX3_read 128 = .ok (.if_icmp .ne 7, 3) := by decide +kernel
theorem dX3_read_131 : decode cX3_read 131 = .ok (.iconst 1, 1) := by decide +kernel
theorem dX3_read_132 : decode cX3_read 132 = .ok (.goto 4, 3) := by decide +kernel
theorem dX3_read_135 : decode cX3_read 135 = .ok (.iconst 0, 1) := by decide +kernel
theorem dX3_read_136 : decode cX3_read 136 = .ok (.putfield 76, 3) := by decide +kernel
theorem dX3_read_139 : decode cX3_read 139 = .ok (.aload_n 0, 1) := by decide +kernel
theorem dX3_read_140 : decode cX3_read 140 = .ok (.iload_n 1, 1) := by decide +kernel
theorem dX3_read_141 : decode cX3_read 141 = .ok (.iconst 1, 1) := by decide +kernel
theorem dX3_read_142 : decode cX3_read 142 = .ok (.iadd, 1) := by decide +kernel
theorem dX3_read_143 : decode cX3_read 143 = .ok (.invokevirtual 87, 3) := by decide +kernel
theorem dX3_read_146 : decode cX3_read 146 = .ok (.iconst 0, 1) := by decide +kernel
theorem dX3_read_147 : decode cX3_read 147 = .ok (.bipush 9, 2) := by decide +kernel
theorem dX3_read_149 : decode cX3_read 149 = .ok (.invokestatic 68, 3) := by decide +kernel
theorem dX3_read_152 : decode cX3_read 152 = .ok (.ifCond .eq 9, 3) := by decide +kernel
theorem dX3_read_155 : decode cX3_read 155 = .ok (.iload_n 1, 1) := by decide +kernel
theorem dX3_read_156 : decode cX3_read 156 = .ok (.iconst 2, 1) := by decide +kernel
theorem dX3_read_157 : decode cX3_read 157 = .ok (.iadd, 1) := by decide +kernel
theorem dX3_read_158 : decode cX3_read 158 = .ok (.goto 6, 3) := by decide +kernel
theorem dX3_read_161 : decode cX3_read 161 = .ok (.iload_n 1, 1) := by decide +kernel
theorem dX3_read_162 : decode cX3_read 162 = .ok (.iconst 1, 1) := by decide +kernel
theorem dX3_read_163 : decode cX3_read 163 = .ok (.iadd, 1) := by decide +kernel
theorem dX3_read_164 : decode cX3_read 164 = .ok (.ireturn, 1) := by decide +kernel
theorem dX3_read_165 : decode cX3_read 165 = .ok (.iload_n 1, 1) := by decide +kernel
theorem dX3_read_166 : decode cX3_read 166 = .ok (.aload_n 0, 1) := by decide +kernel
theorem dX3_read_167 : decode cX3_read 167 = .ok (.getfield 72, 3) := by decide +kernel
theorem dX3_read_170 : decode cX3_read 170 = .ok (.if_icmp .eq 23, 3) := by decide +kernel
theorem dX3_read_173 : decode cX3_read 173 = .ok (.aload_n 0, 1) := by decide +kernel
theorem dX3_read_174 : decode cX3_read 174 = .ok (.getfield 80, 3) := by decide +kernel
theorem dX3_read_177 : decode cX3_read 177 = .ok (.bipush 6, 2) := by decide +kernel
theorem dX3_read_179 : decode cX3_read 179 = .ok (.if_icmp .eq 14, 3) := by decide +kernel
theorem dX3_read_182 : decode cX3_read 182 = .ok (.aload_n 0, 1) := by decide +kernel
theorem dX3_read_183 : decode cX3_read 183 = .ok (.getfield 37, 3) := by decide +kernel
theorem dX3_read_186 : decode cX3_read 186 = .ok (.iload_n 1, 1) := by decide +kernel
theorem dX3_read_187 : decode cX3_read 187 = .ok (.baload, 1) := by decide +kernel
theorem dX3_read_188 : decode cX3_read 188 = .ok (.bipush 44, 2) := by decide +kernel
theorem dX3_read_190 : decode cX3_read 190 = .ok (.if_icmp .eq 5, 3) := by decide +kernel
theorem dX3_read_193 : decode cX3_read 193 = .ok (.iload_n 1, 1) := by decide +kernel
theorem dX3_read_194 : decode cX3_read 194 = .ok (.ireturn, 1) := by decide +kernel
theorem dX3_read_195 : decode cX3_read 195 = .ok (.iinc 1 1, 3) := by decide +kernel
theorem dX3_read_198 : decode cX3_read 198 = .ok (.goto (-186), 3) := by decide +kernel
theorem dX3_read_201 : decode cX3_read 201 = .ok (.iload_n 1, 1) := by decide +kernel
theorem dX3_read_202 : decode cX3_read 202 = .ok (.ireturn, 1) := by decide +kernel
set_option maxRecDepth 20000 in
theorem ggX3_fault_X3_read : GoodIn wsX3_fault wsX3_read := goodIn_r _ [5, 6, 7, 8, 9, 10, 11, 4, 12, 13, 14, 15, 16, 17, 18, 19, 20, 21, 22, 23, 24, 25, 26, 27, 28, 29, 30, 31, 32, 33, 34, 35, 36, 37, 38, 39, 40, 41, 42, 43, 44, 45, 46, 47, 48, 49, 50, 51, 52, 53, 54, 55, 56, 57, 58, 59] (by decide +kernel) (by decide +kernel)
set_option maxRecDepth 20000 in
theorem gX3_fault_X3_read : GoodIn wsX3_fault (wsV RX3 90 RX3 yX3_read wsX3_read) := goodIn_app (goodIn_of _ (by decide +kernel)) ggX3_fault_X3_read
theorem dX3_fault_0 : decode cX3_fault 0 = .ok (.aload_n 0, 1) := by decide +kernel
theorem dX3_fault_1 : decode cX3_fault 1 = .ok (.invokevirtual 90, 3) := by decide +kernel
theorem dX3_fault_4 : decode cX3_fault 4 = .ok (.ireturn, 1) := by decide +kernel
set_option maxRecDepth 20000 in
theorem ggX3_city_X3_read : GoodIn wsX3_city wsX3_read := goodIn_r _ [22, 1, 2, 17, 5, 23, 24, 21, 25, 26, 27, 28, 29, 30, 31, 32, 33, 34, 35, 36, 37, 38, 39, 40, 41, 42, 43, 44, 45, 46, 47, 48, 49, 50, 51, 52, 53, 54, 55, 56, 57, 58, 59, 60, 61, 62, 63, 64, 65, 66, 67, 68, 69, 70, 71, 72] (by decide +kernel) (by decide +kernel)
set_option maxRecDepth 20000 in
theorem gX3_city_X3_read : GoodIn wsX3_city (wsV RX3 90 RX3 yX3_read wsX3_read) := goodIn_app (goodIn_of _ (by decide +kernel)) ggX3_city_X3_read
set_option maxRecDepth 20000 in
theorem ggX3_city_X3_kindBy : GoodIn wsX3_city wsX3_kindBy := goodIn_r _ [25] (by decide +kernel) (by decide +kernel)
set_option maxRecDepth 20000 in
theorem gX3_city_X3_kindBy : GoodIn wsX3_city (va_wsS RX3 83 yX3_kindBy wsX3_kindBy) := goodIn_app (goodIn_of _ (by decide +kernel)) ggX3_city_X3_kindBy
theorem dX3_city_0 : decode cX3_city 0 = .ok (.aload_n 0, 1) := by decide +kernel
theorem dX3_city_1 : decode cX3_city 1 = .ok (.invokevirtual 90, 3) := by decide +kernel
theorem dX3_city_4 : decode cX3_city 4 = .ok (.istore_n 1, 1) := by decide +kernel
theorem dX3_city_5 : decode cX3_city 5 = .ok (.aload_n 0, 1) := by decide +kernel
theorem dX3_city_6 : decode cX3_city 6 = .ok (.getfield 76, 3) := by decide +kernel
theorem dX3_city_9 : decode cX3_city 9 = .ok (.ifCond .ne 6, 3) := by decide +kernel
theorem dX3_city_12 : decode cX3_city 12 = .ok (.bipush (-103), 2) := by decide +kernel
theorem dX3_city_14 : decode cX3_city 14 = .ok (.ireturn, 1) := by decide +kernel
theorem dX3_city_15 : decode cX3_city 15 = .ok (.aload_n 0, 1) := by decide +kernel
theorem dX3_city_16 : decode cX3_city 16 = .ok (.aload_n 0, 1) := by decide +kernel
theorem dX3_city_17 : decode cX3_city 17 = .ok (.getfield 80, 3) := by decide +kernel
theorem dX3_city_20 : decode cX3_city 20 = .ok (.putfield 94, 3) := by decide +kernel
theorem dX3_city_23 : decode cX3_city 23 = .ok (.iconst 0, 1) := by decide +kernel
theorem dX3_city_24 : decode cX3_city 24 = .ok (.istore_n 2, 1) := by decide +kernel
theorem dX3_city_25 : decode cX3_city 25 = .ok (.iload_n 2, 1) := by decide +kernel
theorem dX3_city_26 : decode cX3_city 26 = .ok (.aload_n 0, 1) := by decide +kernel
theorem dX3_city_27 : decode cX3_city 27 = .ok (.getfield 94, 3) := by decide +kernel
theorem dX3_city_30 : decode cX3_city 30 = .ok (.if_icmp .ge 73, 3) := by decide +kernel
theorem dX3_city_33 : decode cX3_city 33 = .ok (.aload_n 0, 1) := by decide +kernel
theorem dX3_city_34 : decode cX3_city 34 = .ok (.getfield 7, 3) := by decide +kernel
theorem dX3_city_37 : decode cX3_city 37 = .ok (.iload_n 2, 1) := by decide +kernel
theorem dX3_city_38 : decode cX3_city 38 = .ok (.aload_n 0, 1) := by decide +kernel
theorem dX3_city_39 : decode cX3_city 39 = .ok (.getfield 37, 3) := by decide +kernel
theorem dX3_city_42 : decode cX3_city 42 = .ok (.iconst 3, 1) := by decide +kernel
theorem dX3_city_43 : decode cX3_city 43 = .ok (.iload_n 2, 1) := by decide +kernel
theorem dX3_city_44 : decode cX3_city 44 = .ok (.imul, 1) := by decide +kernel
theorem dX3_city_45 : decode cX3_city 45 = .ok (.baload, 1) := by decide +kernel
theorem dX3_city_46 : decode cX3_city 46 = .ok (.invokestatic 83, 3) := by decide +kernel
theorem dX3_city_49 : decode cX3_city 49 = .ok (.iastore, 1) := by decide +kernel
theorem dX3_city_50 : decode cX3_city 50 = .ok (.aload_n 0, 1) := by decide +kernel
theorem dX3_city_51 : decode cX3_city 51 = .ok (.getfield 13, 3) := by decide +kernel
theorem dX3_city_54 : decode cX3_city 54 = .ok (.iload_n 2, 1) := by decide +kernel
theorem dX3_city_55 : decode cX3_city 55 = .ok (.aload_n 0, 1) := by decide +kernel
theorem dX3_city_56 : decode cX3_city 56 = .ok (.getfield 37, 3) := by decide +kernel
theorem dX3_city_59 : decode cX3_city 59 = .ok (.iconst 3, 1) := by decide +kernel
theorem dX3_city_60 : decode cX3_city 60 = .ok (.iload_n 2, 1) := by decide +kernel
theorem dX3_city_61 : decode cX3_city 61 = .ok (.imul, 1) := by decide +kernel
theorem dX3_city_62 : decode cX3_city 62 = .ok (.iconst 1, 1) := by decide +kernel
theorem dX3_city_63 : decode cX3_city 63 = .ok (.iadd, 1) := by decide +kernel
theorem dX3_city_64 : decode cX3_city 64 = .ok (.baload, 1) := by decide +kernel
theorem dX3_city_65 : decode cX3_city 65 = .ok (.bipush 48, 2) := by decide +kernel
theorem dX3_city_67 : decode cX3_city 67 = .ok (.isub, 1) := by decide +kernel
theorem dX3_city_68 : decode cX3_city 68 = .ok (.iastore, 1) := by decide +kernel
theorem dX3_city_69 : decode cX3_city 69 = .ok (.aload_n 0, 1) := by decide +kernel
theorem dX3_city_70 : decode cX3_city 70 = .ok (.getfield 16, 3) := by decide +kernel
theorem dX3_city_73 : decode cX3_city 73 = .ok (.iload_n 2, 1) := by decide +kernel
theorem dX3_city_74 : decode cX3_city 74 = .ok (.iconst 0, 1) := by decide +kernel
theorem dX3_city_75 : decode cX3_city 75 = .ok (.iastore, 1) := by decide +kernel
theorem dX3_city_76 : decode cX3_city 76 = .ok (.aload_n 0, 1) := by decide +kernel
theorem dX3_city_77 : decode cX3_city 77 = .ok (.getfield 19, 3) := by decide +kernel
theorem dX3_city_80 : decode cX3_city 80 = .ok (.iload_n 2, 1) := by decide +kernel
theorem dX3_city_81 : decode cX3_city 81 = .ok (.iconst 0, 1) := by decide +kernel
theorem dX3_city_82 : decode cX3_city 82 = .ok (.iastore, 1) := by decide +kernel
theorem dX3_city_83 : decode cX3_city 83 = .ok (.aload_n 0, 1) := by decide +kernel
theorem dX3_city_84 : decode cX3_city 84 = .ok (.getfield 22, 3) := by decide +kernel
theorem dX3_city_87 : decode cX3_city 87 = .ok (.iload_n 2, 1) := by decide +kernel
theorem dX3_city_88 : decode cX3_city 88 = .ok (.iconst 0, 1) := by decide +kernel
theorem dX3_city_89 : decode cX3_city 89 = .ok (.iastore, 1) := by decide +kernel
theorem dX3_city_90 : decode cX3_city 90 = .ok (.aload_n 0, 1) := by decide +kernel
theorem dX3_city_91 : decode cX3_city 91 = .ok (.getfield 25, 3) := by decide +kernel
theorem dX3_city_94 : decode cX3_city 94 = .ok (.iload_n 2, 1) := by decide +kernel
theorem dX3_city_95 : decode cX3_city 95 = .ok (.iconst 0, 1) := by decide +kernel
theorem dX3_city_96 : decode cX3_city 96 = .ok (.iastore, 1) := by decide +kernel
theorem dX3_city_97 : decode cX3_city 97 = .ok (.iinc 2 1, 3) := by decide +kernel
theorem dX3_city_100 : decode cX3_city 100 = .ok (.goto (-75), 3) := by decide +kernel
theorem dX3_city_103 : decode cX3_city 103 = .ok (.aload_n 0, 1) := by decide +kernel
theorem dX3_city_104 : decode cX3_city 104 = .ok (.aload_n 0, 1) := by decide +kernel
theorem dX3_city_105 : decode cX3_city 105 = .ok (.getfield 37, 3) := by decide +kernel
theorem dX3_city_108 : decode cX3_city 108 = .ok (.iload_n 1, 1) := by decide +kernel
theorem dX3_city_109 : decode cX3_city 109 = .ok (.iconst 1, 1) := by decide +kernel
theorem dX3_city_110 : decode cX3_city 110 = .ok (.isub, 1) := by decide +kernel
theorem dX3_city_111 : decode cX3_city 111 = .ok (.baload, 1) := by decide +kernel
theorem dX3_city_112 : decode cX3_city 112 = .ok (.bipush 48, 2) := by decide +kernel
theorem dX3_city_114 : decode cX3_city 114 = .ok (.isub, 1) := by decide +kernel
theorem dX3_city_115 : decode cX3_city 115 = .ok (.putfield 97, 3) := by decide +kernel
theorem dX3_city_118 : decode cX3_city 118 = .ok (.aload_n 0, 1) := by decide +kernel
theorem dX3_city_119 : decode cX3_city 119 = .ok (.dup, 1) := by decide +kernel
theorem dX3_city_120 : decode cX3_city 120 = .ok (.getfield 100, 3) := by decide +kernel
theorem dX3_city_123 : decode cX3_city 123 = .ok (.iconst 1, 1) := by decide +kernel
theorem dX3_city_124 : decode cX3_city 124 = .ok (.iadd, 1) := by decide +kernel
theorem dX3_city_125 : decode cX3_city 125 = .ok (.putfield 100, 3) := by decide +kernel
theorem dX3_city_128 : decode cX3_city 128 = .ok (.aload_n 0, 1) := by decide +kernel
theorem dX3_city_129 : decode cX3_city 129 = .ok (.iconst 0, 1) := by decide +kernel
theorem dX3_city_130 : decode cX3_city 130 = .ok (.putfield 103, 3) := by decide +kernel
theorem dX3_city_133 : decode cX3_city 133 = .ok (.aload_n 0, 1) := by decide +kernel
theorem dX3_city_134 : decode cX3_city 134 = .ok (.iconst 0, 1) := by decide +kernel
theorem dX3_city_135 : decode cX3_city 135 = .ok (.putfield 106, 3) := by decide +kernel
theorem dX3_city_138 : decode cX3_city 138 = .ok (.aload_n 0, 1) := by decide +kernel
theorem dX3_city_139 : decode cX3_city 139 = .ok (.iconst 0, 1) := by decide +kernel
theorem dX3_city_140 : decode cX3_city 140 = .ok (.putfield 109, 3) := by decide +kernel
theorem dX3_city_143 : decode cX3_city 143 = .ok (.aload_n 0, 1) := by decide +kernel
theorem dX3_city_144 : decode cX3_city 144 = .ok (.iconst 0, 1) := by decide +kernel
theorem dX3_city_145 : decode cX3_city 145 = .ok (.putfield 112, 3) := by decide +kernel
theorem dX3_city_148 : decode cX3_city 148 = .ok (.aload_n 0, 1) := by decide +kernel
theorem dX3_city_149 : decode cX3_city 149 = .ok (.iconst 0, 1) := by decide +kernel
theorem dX3_city_150 : decode cX3_city 150 = .ok (.putfield 72, 3) := by decide +kernel
theorem dX3_city_153 : decode cX3_city 153 = .ok (.aload_n 0, 1) := by decide +kernel
theorem dX3_city_154 : decode cX3_city 154 = .ok (.getfield 94, 3) := by decide +kernel
theorem dX3_city_157 : decode cX3_city 157 = .ok (.ireturn, 1) := by decide +kernel
set_option maxRecDepth 20000 in
theorem ggX3_isSite_X3_within : GoodIn wsX3_isSite wsX3_within := goodIn_r _ [5] (by decide +kernel) (by decide +kernel)
set_option maxRecDepth 20000 in
theorem gX3_isSite_X3_within : GoodIn wsX3_isSite (va_wsS RX3 68 yX3_within wsX3_within) := goodIn_app (goodIn_of _ (by decide +kernel)) ggX3_isSite_X3_within
theorem dX3_isSite_0 : decode cX3_isSite 0 = .ok (.iload_n 1, 1) := by decide +kernel
theorem dX3_isSite_1 : decode cX3_isSite 1 = .ok (.iconst 0, 1) := by decide +kernel
theorem dX3_isSite_2 : decode cX3_isSite 2 = .ok (.aload_n 0, 1) := by decide +kernel
theorem dX3_isSite_3 : decode cX3_isSite 3 = .ok (.getfield 94, 3) := by decide +kernel
theorem dX3_isSite_6 : decode cX3_isSite 6 = .ok (.iconst 1, 1) := by decide +kernel
theorem dX3_isSite_7 : decode cX3_isSite 7 = .ok (.isub, 1) := by decide +kernel
theorem dX3_isSite_8 : decode cX3_isSite 8 = .ok (.invokestatic 68, 3) := by decide +kernel
theorem dX3_isSite_11 : decode cX3_isSite 11 = .ok (.ireturn, 1) := by decide +kernel
set_option maxRecDepth 20000 in
theorem ggX3_meltsBy_X3_notBelow : GoodIn wsX3_meltsBy wsX3_notBelow := goodIn_r _ [6] (by decide +kernel) (by decide +kernel)
set_option maxRecDepth 20000 in
theorem gX3_meltsBy_X3_notBelow : GoodIn wsX3_meltsBy (va_wsS RX3 115 yX3_notBelow wsX3_notBelow) := goodIn_app (goodIn_of _ (by decide +kernel)) ggX3_meltsBy_X3_notBelow
theorem dX3_meltsBy_0 : decode cX3_meltsBy 0 = .ok (.iload_n 2, 1) := by decide +kernel
theorem dX3_meltsBy_1 : decode cX3_meltsBy 1 = .ok (.aload_n 0, 1) := by decide +kernel
theorem dX3_meltsBy_2 : decode cX3_meltsBy 2 = .ok (.getfield 25, 3) := by decide +kernel
theorem dX3_meltsBy_5 : decode cX3_meltsBy 5 = .ok (.iload_n 1, 1) := by decide +kernel
theorem dX3_meltsBy_6 : decode cX3_meltsBy 6 = .ok (.iaload, 1) := by decide +kernel
theorem dX3_meltsBy_7 : decode cX3_meltsBy 7 = .ok (.iadd, 1) := by decide +kernel
theorem dX3_meltsBy_8 : decode cX3_meltsBy 8 = .ok (.istore_n 3, 1) := by decide +kernel
theorem dX3_meltsBy_9 : decode cX3_meltsBy 9 = .ok (.aload_n 0, 1) := by decide +kernel
theorem dX3_meltsBy_10 : decode cX3_meltsBy 10 = .ok (.getfield 7, 3) := by decide +kernel
theorem dX3_meltsBy_13 : decode cX3_meltsBy 13 = .ok (.iload_n 1, 1) := by decide +kernel
theorem dX3_meltsBy_14 : decode cX3_meltsBy 14 = .ok (.iaload, 1) := by decide +kernel
theorem dX3_meltsBy_15 : decode cX3_meltsBy 15 = .ok (.tableswitch 51 1 4 #[29, 36, 40, 42], 29) := by decide +kernel
theorem dX3_meltsBy_44 : decode cX3_meltsBy 44 = .ok (.iload_n 3, 1) := by decide +kernel
theorem dX3_meltsBy_45 : decode cX3_meltsBy 45 = .ok (.iconst 2, 1) := by decide +kernel
theorem dX3_meltsBy_46 : decode cX3_meltsBy 46 = .ok (.isub, 1) := by decide +kernel
theorem dX3_meltsBy_47 : decode cX3_meltsBy 47 = .ok (.invokestatic 115, 3) := by decide +kernel
theorem dX3_meltsBy_50 : decode cX3_meltsBy 50 = .ok (.ireturn, 1) := by decide +kernel
theorem dX3_meltsBy_51 : decode cX3_meltsBy 51 = .ok (.iload_n 3, 1) := by decide +kernel
theorem dX3_meltsBy_52 : decode cX3_meltsBy 52 = .ok (.iconst 2, 1) := by decide +kernel
theorem dX3_meltsBy_53 : decode cX3_meltsBy 53 = .ok (.idiv, 1) := by decide +kernel
theorem dX3_meltsBy_54 : decode cX3_meltsBy 54 = .ok (.ireturn, 1) := by decide +kernel
theorem dX3_meltsBy_55 : decode cX3_meltsBy 55 = .ok (.iload_n 2, 1) := by decide +kernel
theorem dX3_meltsBy_56 : decode cX3_meltsBy 56 = .ok (.ireturn, 1) := by decide +kernel
theorem dX3_meltsBy_57 : decode cX3_meltsBy 57 = .ok (.iload_n 3, 1) := by decide +kernel
theorem dX3_meltsBy_58 : decode cX3_meltsBy 58 = .ok (.iconst 2, 1) := by decide +kernel
theorem dX3_meltsBy_59 : decode cX3_meltsBy 59 = .ok (.idiv, 1) := by decide +kernel
theorem dX3_meltsBy_60 : decode cX3_meltsBy 60 = .ok (.iconst 1, 1) := by decide +kernel
theorem dX3_meltsBy_61 : decode cX3_meltsBy 61 = .ok (.isub, 1) := by decide +kernel
theorem dX3_meltsBy_62 : decode cX3_meltsBy 62 = .ok (.invokestatic 115, 3) := by decide +kernel
theorem dX3_meltsBy_65 : decode cX3_meltsBy 65 = .ok (.ireturn, 1) := by decide +kernel
theorem dX3_meltsBy_66 : decode cX3_meltsBy 66 = .ok (.iload_n 3, 1) := by decide +kernel
theorem dX3_meltsBy_67 : decode cX3_meltsBy 67 = .ok (.ireturn, 1) := by decide +kernel
theorem dX3_isKept_0 : decode cX3_isKept 0 = .ok (.iload_n 2, 1) := by decide +kernel
theorem dX3_isKept_1 : decode cX3_isKept 1 = .ok (.aload_n 0, 1) := by decide +kernel
theorem dX3_isKept_2 : decode cX3_isKept 2 = .ok (.getfield 13, 3) := by decide +kernel
theorem dX3_isKept_5 : decode cX3_isKept 5 = .ok (.iload_n 1, 1) := by decide +kernel
theorem dX3_isKept_6 : decode cX3_isKept 6 = .ok (.iaload, 1) := by decide +kernel
theorem dX3_isKept_7 : decode cX3_isKept 7 = .ok (.if_icmp .lt 7, 3) := by decide +kernel
theorem dX3_isKept_10 : decode cX3_isKept 10 = .ok (.iconst 1, 1) := by decide +kernel
theorem dX3_isKept_11 : decode cX3_isKept 11 = .ok (.goto 4, 3) := by decide +kernel
theorem dX3_isKept_14 : decode cX3_isKept 14 = .ok (.iconst 0, 1) := by decide +kernel
theorem dX3_isKept_15 : decode cX3_isKept 15 = .ok (.ireturn, 1) := by decide +kernel
set_option maxRecDepth 20000 in
theorem ggX3_siteNow_X3_meltsBy : GoodIn wsX3_siteNow wsX3_meltsBy := goodIn_r _ [11, 4, 1, 12, 13, 10, 14, 19, 20, 21, 22, 23, 24, 25, 26, 27, 28, 29, 30, 31, 32, 33, 34, 35, 36, 37, 38, 39, 40, 41, 42, 43, 44, 45, 46, 47, 48, 49, 50, 51, 52, 53, 54, 55, 56, 57, 58] (by decide +kernel) (by decide +kernel)
set_option maxRecDepth 20000 in
theorem gX3_siteNow_X3_meltsBy : GoodIn wsX3_siteNow (wsV RX3 118 RX3 yX3_meltsBy wsX3_meltsBy) := goodIn_app (goodIn_of _ (by decide +kernel)) ggX3_siteNow_X3_meltsBy
set_option maxRecDepth 20000 in
theorem ggX3_siteNow_X3_isKept : GoodIn wsX3_siteNow wsX3_isKept := goodIn_r _ [18, 2, 19, 20, 21, 22, 23, 24, 25, 26, 27, 28, 29, 30, 31, 32, 33, 34, 35, 36, 37, 38, 39, 40, 41, 42, 43, 44, 45, 46, 47, 48, 49, 50, 51, 52, 53, 54, 55, 56, 57, 58] (by decide +kernel) (by decide +kernel)
set_option maxRecDepth 20000 in
theorem gX3_siteNow_X3_isKept : GoodIn wsX3_siteNow (wsV RX3 122 RX3 yX3_isKept wsX3_isKept) := goodIn_app (goodIn_of _ (by decide +kernel)) ggX3_siteNow_X3_isKept
theorem dX3_siteNow_0 : decode cX3_siteNow 0 = .ok (.iload_n 2, 1) := by decide +kernel
theorem dX3_siteNow_1 : decode cX3_siteNow 1 = .ok (.tableswitch 97 0 5 #[39, 46, 53, 60, 67, 77], 39) := by decide +kernel
theorem dX3_siteNow_40 : decode cX3_siteNow 40 = .ok (.aload_n 0, 1) := by decide +kernel
theorem dX3_siteNow_41 : decode cX3_siteNow 41 = .ok (.getfield 7, 3) := by decide +kernel
theorem dX3_siteNow_44 : decode cX3_siteNow 44 = .ok (.iload_n 1, 1) := by decide +kernel
theorem dX3_siteNow_45 : decode cX3_siteNow 45 = .ok (.iaload, 1) := by decide +kernel
theorem dX3_siteNow_46 : decode cX3_siteNow 46 = .ok (.ireturn, 1) := by decide +kernel
theorem dX3_siteNow_47 : decode cX3_siteNow 47 = .ok (.aload_n 0, 1) := by decide +kernel
theorem dX3_siteNow_48 : decode cX3_siteNow 48 = .ok (.getfield 13, 3) := by decide +kernel
theorem dX3_siteNow_51 : decode cX3_siteNow 51 = .ok (.iload_n 1, 1) := by decide +kernel
theorem dX3_siteNow_52 : decode cX3_siteNow 52 = .ok (.iaload, 1) := by decide +kernel
theorem dX3_siteNow_53 : decode cX3_siteNow 53 = .ok (.ireturn, 1) := by decide +kernel
theorem dX3_siteNow_54 : decode cX3_siteNow 54 = .ok (.aload_n 0, 1) := by decide +kernel
theorem dX3_siteNow_55 : decode cX3_siteNow 55 = .ok (.getfield 16, 3) := by decide +kernel
theorem dX3_siteNow_58 : decode cX3_siteNow 58 = .ok (.iload_n 1, 1) := by decide +kernel
theorem dX3_siteNow_59 : decode cX3_siteNow 59 = .ok (.iaload, 1) := by decide +kernel
theorem dX3_siteNow_60 : decode cX3_siteNow 60 = .ok (.ireturn, 1) := by decide +kernel
theorem dX3_siteNow_61 : decode cX3_siteNow 61 = .ok (.aload_n 0, 1) := by decide +kernel
theorem dX3_siteNow_62 : decode cX3_siteNow 62 = .ok (.getfield 25, 3) := by decide +kernel
theorem dX3_siteNow_65 : decode cX3_siteNow 65 = .ok (.iload_n 1, 1) := by decide +kernel
theorem dX3_siteNow_66 : decode cX3_siteNow 66 = .ok (.iaload, 1) := by decide +kernel
theorem dX3_siteNow_67 : decode cX3_siteNow 67 = .ok (.ireturn, 1) := by decide +kernel
theorem dX3_siteNow_68 : decode cX3_siteNow 68 = .ok (.aload_n 0, 1) := by decide +kernel
theorem dX3_siteNow_69 : decode cX3_siteNow 69 = .ok (.iload_n 1, 1) := by decide +kernel
theorem dX3_siteNow_70 : decode cX3_siteNow 70 = .ok (.aload_n 0, 1) := by decide +kernel
theorem dX3_siteNow_71 : decode cX3_siteNow 71 = .ok (.getfield 97, 3) := by decide +kernel
theorem dX3_siteNow_74 : decode cX3_siteNow 74 = .ok (.invokevirtual 118, 3) := by decide +kernel
theorem dX3_siteNow_77 : decode cX3_siteNow 77 = .ok (.ireturn, 1) := by decide +kernel
theorem dX3_siteNow_78 : decode cX3_siteNow 78 = .ok (.aload_n 0, 1) := by decide +kernel
theorem dX3_siteNow_79 : decode cX3_siteNow 79 = .ok (.iload_n 1, 1) := by decide +kernel
theorem dX3_siteNow_80 : decode cX3_siteNow 80 = .ok (.aload_n 0, 1) := by decide +kernel
theorem dX3_siteNow_81 : decode cX3_siteNow 81 = .ok (.getfield 16, 3) := by decide +kernel
theorem dX3_siteNow_84 : decode cX3_siteNow 84 = .ok (.iload_n 1, 1) := by decide +kernel
theorem dX3_siteNow_85 : decode cX3_siteNow 85 = .ok (.iaload, 1) := by decide +kernel
theorem dX3_siteNow_86 : decode cX3_siteNow 86 = .ok (.invokevirtual 122, 3) := by decide +kernel
theorem dX3_siteNow_89 : decode cX3_siteNow 89 = .ok (.ifCond .eq 7, 3) := by decide +kernel
theorem dX3_siteNow_92 : decode cX3_siteNow 92 = .ok (.iconst 1, 1) := by decide +kernel
theorem dX3_siteNow_93 : decode cX3_siteNow 93 = .ok (.goto 4, 3) := by decide +kernel
theorem dX3_siteNow_96 : decode cX3_siteNow 96 = .ok (.iconst 0, 1) := by decide +kernel
theorem dX3_siteNow_97 : decode cX3_siteNow 97 = .ok (.ireturn, 1) := by decide +kernel
theorem dX3_siteNow_98 : decode cX3_siteNow 98 = .ok (.aload_n 0, 1) := by decide +kernel
theorem dX3_siteNow_99 : decode cX3_siteNow 99 = .ok (.getfield 22, 3) := by decide +kernel
theorem dX3_siteNow_102 : decode cX3_siteNow 102 = .ok (.iload_n 1, 1) := by decide +kernel
theorem dX3_siteNow_103 : decode cX3_siteNow 103 = .ok (.iaload, 1) := by decide +kernel
theorem dX3_siteNow_104 : decode cX3_siteNow 104 = .ok (.ireturn, 1) := by decide +kernel
set_option maxRecDepth 20000 in
theorem ggX3_about_X3_isSite : GoodIn wsX3_about wsX3_isSite := goodIn_r _ [5, 6, 7, 8, 4, 9, 31, 32, 33, 34, 35, 36, 37, 38, 39, 40, 41, 42, 43, 44, 45, 46, 47, 48, 49, 50, 51, 52, 53, 54, 55, 56, 57, 58, 59, 60, 61, 62, 63, 64, 65, 66, 67, 68, 69, 70] (by decide +kernel) (by decide +kernel)
set_option maxRecDepth 20000 in
theorem gX3_about_X3_isSite : GoodIn wsX3_about (wsV RX3 126 RX3 yX3_isSite wsX3_isSite) := goodIn_app (goodIn_of _ (by decide +kernel)) ggX3_about_X3_isSite
set_option maxRecDepth 20000 in
theorem ggX3_about_X3_within : GoodIn wsX3_about wsX3_within := goodIn_r _ [9] (by decide +kernel) (by decide +kernel)
set_option maxRecDepth 20000 in
theorem gX3_about_X3_within : GoodIn wsX3_about (va_wsS RX3 68 yX3_within wsX3_within) := goodIn_app (goodIn_of _ (by decide +kernel)) ggX3_about_X3_within
set_option maxRecDepth 20000 in
theorem ggX3_about_X3_siteNow : GoodIn wsX3_about wsX3_siteNow := goodIn_r _ [13, 14, 15, 16, 17, 18, 19, 20, 21, 22, 4, 23, 24, 25, 26, 27, 28, 29, 30, 31, 32, 33, 34, 35, 36, 37, 38, 39, 40, 41, 42, 43, 44, 45, 46, 47, 48, 49, 50, 51, 52, 53, 54, 55, 56, 57, 58, 59, 60, 61, 62, 63, 64, 65, 66, 67, 68, 69, 70] (by decide +kernel) (by decide +kernel)
set_option maxRecDepth 20000 in
theorem gX3_about_X3_siteNow : GoodIn wsX3_about (wsV RX3 130 RX3 yX3_siteNow wsX3_siteNow) := goodIn_app (goodIn_of _ (by decide +kernel)) ggX3_about_X3_siteNow
theorem dX3_about_0 : decode cX3_about 0 = .ok (.aload_n 0, 1) := by decide +kernel
theorem dX3_about_1 : decode cX3_about 1 = .ok (.iload_n 1, 1) := by decide +kernel
theorem dX3_about_2 : decode cX3_about 2 = .ok (.invokevirtual 126, 3) := by decide +kernel
theorem dX3_about_5 : decode cX3_about 5 = .ok (.ifCond .ne 8, 3) := by decide +kernel
theorem dX3_about_8 : decode cX3_about 8 = .ok (.bipush (-101), 2) := by decide +kernel
theorem dX3_about_10 : decode cX3_about 10 = .ok (.goto 24, 3) := by decide +kernel
theorem dX3_about_13 : decode cX3_about 13 = .ok (.iload_n 2, 1) := by decide +kernel
theorem dX3_about_14 : decode cX3_about 14 = .ok (.iconst 0, 1) := by decide +kernel
theorem dX3_about_15 : decode cX3_about 15 = .ok (.bipush 6, 2) := by decide +kernel
theorem dX3_about_17 : decode cX3_about 17 = .ok (.invokestatic 68, 3) := by decide +kernel
theorem dX3_about_20 : decode cX3_about 20 = .ok (.ifCond .eq 12, 3) := by decide +kernel
theorem dX3_about_23 : decode cX3_about 23 = .ok (.aload_n 0, 1) := by decide +kernel
theorem dX3_about_24 : decode cX3_about 24 = .ok (.iload_n 1, 1) := by decide +kernel
theorem dX3_about_25 : decode cX3_about 25 = .ok (.iload_n 2, 1) := by decide +kernel
theorem dX3_about_26 : decode cX3_about 26 = .ok (.invokevirtual 130, 3) := by decide +kernel
theorem dX3_about_29 : decode cX3_about 29 = .ok (.goto 5, 3) := by decide +kernel
theorem dX3_about_32 : decode cX3_about 32 = .ok (.bipush (-102), 2) := by decide +kernel
theorem dX3_about_34 : decode cX3_about 34 = .ok (.ireturn, 1) := by decide +kernel
set_option maxRecDepth 20000 in
theorem ggX3_as_X3_isSite : GoodIn wsX3_as wsX3_isSite := goodIn_r _ [6, 7, 8, 9, 5, 10, 11, 12, 13, 14, 15, 16, 17, 18, 19, 20, 21, 22, 23, 24, 25, 26, 27, 28, 29, 30, 31, 32, 33, 34, 35, 36, 37, 38, 39, 40, 41, 42, 43, 44, 45, 46, 47, 48, 49, 50] (by decide +kernel) (by decide +kernel)
set_option maxRecDepth 20000 in
theorem gX3_as_X3_isSite : GoodIn wsX3_as (wsV RX3 126 RX3 yX3_isSite wsX3_isSite) := goodIn_app (goodIn_of _ (by decide +kernel)) ggX3_as_X3_isSite
set_option maxRecDepth 20000 in
theorem ggX3_as_X3_within : GoodIn wsX3_as wsX3_within := goodIn_r _ [10] (by decide +kernel) (by decide +kernel)
set_option maxRecDepth 20000 in
theorem gX3_as_X3_within : GoodIn wsX3_as (va_wsS RX3 68 yX3_within wsX3_within) := goodIn_app (goodIn_of _ (by decide +kernel)) ggX3_as_X3_within
theorem dX3_as_0 : decode cX3_as 0 = .ok (.aload_n 0, 1) := by decide +kernel
theorem dX3_as_1 : decode cX3_as 1 = .ok (.iload_n 1, 1) := by decide +kernel
theorem dX3_as_2 : decode cX3_as 2 = .ok (.invokevirtual 126, 3) := by decide +kernel
theorem dX3_as_5 : decode cX3_as 5 = .ok (.ifCond .ne 6, 3) := by decide +kernel
theorem dX3_as_8 : decode cX3_as 8 = .ok (.bipush (-101), 2) := by decide +kernel
theorem dX3_as_10 : decode cX3_as 10 = .ok (.ireturn, 1) := by decide +kernel
theorem dX3_as_11 : decode cX3_as 11 = .ok (.iload_n 2, 1) := by decide +kernel
theorem dX3_as_12 : decode cX3_as 12 = .ok (.iconst 0, 1) := by decide +kernel
theorem dX3_as_13 : decode cX3_as 13 = .ok (.iconst 4, 1) := by decide +kernel
theorem dX3_as_14 : decode cX3_as 14 = .ok (.invokestatic 68, 3) := by decide +kernel
theorem dX3_as_17 : decode cX3_as 17 = .ok (.ifCond .ne 6, 3) := by decide +kernel
theorem dX3_as_20 : decode cX3_as 20 = .ok (.bipush (-102), 2) := by decide +kernel
theorem dX3_as_22 : decode cX3_as 22 = .ok (.ireturn, 1) := by decide +kernel
theorem dX3_as_23 : decode cX3_as 23 = .ok (.aload_n 0, 1) := by decide +kernel
theorem dX3_as_24 : decode cX3_as 24 = .ok (.getfield 7, 3) := by decide +kernel
theorem dX3_as_27 : decode cX3_as 27 = .ok (.iload_n 1, 1) := by decide +kernel
theorem dX3_as_28 : decode cX3_as 28 = .ok (.iaload, 1) := by decide +kernel
theorem dX3_as_29 : decode cX3_as 29 = .ok (.istore_n 3, 1) := by decide +kernel
theorem dX3_as_30 : decode cX3_as 30 = .ok (.iload_n 2, 1) := by decide +kernel
theorem dX3_as_31 : decode cX3_as 31 = .ok (.ifCond .eq 18, 3) := by decide +kernel
theorem dX3_as_34 : decode cX3_as 34 = .ok (.iload_n 3, 1) := by decide +kernel
theorem dX3_as_35 : decode cX3_as 35 = .ok (.iload_n 2, 1) := by decide +kernel
theorem dX3_as_36 : decode cX3_as 36 = .ok (.if_icmp .eq 13, 3) := by decide +kernel
theorem dX3_as_39 : decode cX3_as 39 = .ok (.iload_n 2, 1) := by decide +kernel
theorem dX3_as_40 : decode cX3_as 40 = .ok (.iconst 2, 1) := by decide +kernel
theorem dX3_as_41 : decode cX3_as 41 = .ok (.if_icmp .ne 12, 3) := by decide +kernel
theorem dX3_as_44 : decode cX3_as 44 = .ok (.iload_n 3, 1) := by decide +kernel
theorem dX3_as_45 : decode cX3_as 45 = .ok (.iconst 4, 1) := by decide +kernel
theorem dX3_as_46 : decode cX3_as 46 = .ok (.if_icmp .ne 7, 3) := by decide +kernel
theorem dX3_as_49 : decode cX3_as 49 = .ok (.iload_n 1, 1) := by decide +kernel
theorem dX3_as_50 : decode cX3_as 50 = .ok (.goto 4, 3) := by decide +kernel
theorem dX3_as_53 : decode cX3_as 53 = .ok (.iconst (-1), 1) := by decide +kernel
theorem dX3_as_54 : decode cX3_as 54 = .ok (.ireturn, 1) := by decide +kernel
set_option maxRecDepth 20000 in
theorem ggX3_bring_X3_isSite : GoodIn wsX3_bring wsX3_isSite := goodIn_r _ [8, 9, 10, 11, 7, 12, 16, 17, 18, 19, 20, 21, 22, 23, 24, 25, 26, 27, 28, 29, 30, 31, 32, 33, 34, 35, 36, 37, 38, 39, 40, 41, 42, 43, 44, 45, 46, 47, 48, 49, 50, 51, 52, 53, 54, 55] (by decide +kernel) (by decide +kernel)
set_option maxRecDepth 20000 in
theorem gX3_bring_X3_isSite : GoodIn wsX3_bring (wsV RX3 126 RX3 yX3_isSite wsX3_isSite) := goodIn_app (goodIn_of _ (by decide +kernel)) ggX3_bring_X3_isSite
set_option maxRecDepth 20000 in
theorem ggX3_bring_X3_within : GoodIn wsX3_bring wsX3_within := goodIn_r _ [12] (by decide +kernel) (by decide +kernel)
set_option maxRecDepth 20000 in
theorem gX3_bring_X3_within : GoodIn wsX3_bring (va_wsS RX3 68 yX3_within wsX3_within) := goodIn_app (goodIn_of _ (by decide +kernel)) ggX3_bring_X3_within
set_option maxRecDepth 20000 in
theorem ggX3_bring_X3_atMost : GoodIn wsX3_bring wsX3_atMost := goodIn_r _ [15] (by decide +kernel) (by decide +kernel)
set_option maxRecDepth 20000 in
theorem gX3_bring_X3_atMost : GoodIn wsX3_bring (va_wsS RX3 133 yX3_atMost wsX3_atMost) := goodIn_app (goodIn_of _ (by decide +kernel)) ggX3_bring_X3_atMost
theorem dX3_bring_0 : decode cX3_bring 0 = .ok (.aload_n 0, 1) := by decide +kernel
theorem dX3_bring_1 : decode cX3_bring 1 = .ok (.iload_n 1, 1) := by decide +kernel
theorem dX3_bring_2 : decode cX3_bring 2 = .ok (.invokevirtual 126, 3) := by decide +kernel
theorem dX3_bring_5 : decode cX3_bring 5 = .ok (.ifCond .ne 6, 3) := by decide +kernel
theorem dX3_bring_8 : decode cX3_bring 8 = .ok (.bipush (-101), 2) := by decide +kernel
theorem dX3_bring_10 : decode cX3_bring 10 = .ok (.ireturn, 1) := by decide +kernel
theorem dX3_bring_11 : decode cX3_bring 11 = .ok (.iload_n 2, 1) := by decide +kernel
theorem dX3_bring_12 : decode cX3_bring 12 = .ok (.iconst 1, 1) := by decide +kernel
theorem dX3_bring_13 : decode cX3_bring 13 = .ok (.bipush 9, 2) := by decide +kernel
theorem dX3_bring_15 : decode cX3_bring 15 = .ok (.invokestatic 68, 3) := by decide +kernel
theorem dX3_bring_18 : decode cX3_bring 18 = .ok (.ifCond .ne 6, 3) := by decide +kernel
theorem dX3_bring_21 : decode cX3_bring 21 = .ok (.bipush (-102), 2) := by decide +kernel
theorem dX3_bring_23 : decode cX3_bring 23 = .ok (.ireturn, 1) := by decide +kernel
theorem dX3_bring_24 : decode cX3_bring 24 = .ok (.aload_n 0, 1) := by decide +kernel
theorem dX3_bring_25 : decode cX3_bring 25 = .ok (.getfield 22, 3) := by decide +kernel
theorem dX3_bring_28 : decode cX3_bring 28 = .ok (.iload_n 1, 1) := by decide +kernel
theorem dX3_bring_29 : decode cX3_bring 29 = .ok (.iaload, 1) := by decide +kernel
theorem dX3_bring_30 : decode cX3_bring 30 = .ok (.iload_n 2, 1) := by decide +kernel
theorem dX3_bring_31 : decode cX3_bring 31 = .ok (.iadd, 1) := by decide +kernel
theorem dX3_bring_32 : decode cX3_bring 32 = .ok (.bipush 99, 2) := by decide +kernel
theorem dX3_bring_34 : decode cX3_bring 34 = .ok (.if_icmp .le 6, 3) := by decide +kernel
theorem dX3_bring_37 : decode cX3_bring 37 = .ok (.bipush (-104), 2) := by decide +kernel
theorem dX3_bring_39 : decode cX3_bring 39 = .ok (.ireturn, 1) := by decide +kernel
theorem dX3_bring_40 : decode cX3_bring 40 = .ok (.aload_n 0, 1) := by decide +kernel
theorem dX3_bring_41 : decode cX3_bring 41 = .ok (.getfield 22, 3) := by decide +kernel
theorem dX3_bring_44 : decode cX3_bring 44 = .ok (.iload_n 1, 1) := by decide +kernel
theorem dX3_bring_45 : decode cX3_bring 45 = .ok (.dup2, 1) := by decide +kernel
theorem dX3_bring_46 : decode cX3_bring 46 = .ok (.iaload, 1) := by decide +kernel
theorem dX3_bring_47 : decode cX3_bring 47 = .ok (.iload_n 2, 1) := by decide +kernel
theorem dX3_bring_48 : decode cX3_bring 48 = .ok (.iadd, 1) := by decide +kernel
theorem dX3_bring_49 : decode cX3_bring 49 = .ok (.iastore, 1) := by decide +kernel
theorem dX3_bring_50 : decode cX3_bring 50 = .ok (.aload_n 0, 1) := by decide +kernel
theorem dX3_bring_51 : decode cX3_bring 51 = .ok (.getfield 16, 3) := by decide +kernel
theorem dX3_bring_54 : decode cX3_bring 54 = .ok (.iload_n 1, 1) := by decide +kernel
theorem dX3_bring_55 : decode cX3_bring 55 = .ok (.aload_n 0, 1) := by decide +kernel
theorem dX3_bring_56 : decode cX3_bring 56 = .ok (.getfield 16, 3) := by decide +kernel
theorem dX3_bring_59 : decode cX3_bring 59 = .ok (.iload_n 1, 1) := by decide +kernel
theorem dX3_bring_60 : decode cX3_bring 60 = .ok (.iaload, 1) := by decide +kernel
theorem dX3_bring_61 : decode cX3_bring 61 = .ok (.iload_n 2, 1) := by decide +kernel
theorem dX3_bring_62 : decode cX3_bring 62 = .ok (.iadd, 1) := by decide +kernel
theorem dX3_bring_63 : decode cX3_bring 63 = .ok (.invokestatic 133, 3) := by decide +kernel
theorem dX3_bring_66 : decode cX3_bring 66 = .ok (.iastore, 1) := by decide +kernel
theorem dX3_bring_67 : decode cX3_bring 67 = .ok (.aload_n 0, 1) := by decide +kernel
theorem dX3_bring_68 : decode cX3_bring 68 = .ok (.dup, 1) := by decide +kernel
theorem dX3_bring_69 : decode cX3_bring 69 = .ok (.getfield 109, 3) := by decide +kernel
theorem dX3_bring_72 : decode cX3_bring 72 = .ok (.iload_n 2, 1) := by decide +kernel
theorem dX3_bring_73 : decode cX3_bring 73 = .ok (.iload_n 1, 1) := by decide +kernel
theorem dX3_bring_74 : decode cX3_bring 74 = .ok (.iconst 1, 1) := by decide +kernel
theorem dX3_bring_75 : decode cX3_bring 75 = .ok (.iadd, 1) := by decide +kernel
theorem dX3_bring_76 : decode cX3_bring 76 = .ok (.imul, 1) := by decide +kernel
theorem dX3_bring_77 : decode cX3_bring 77 = .ok (.iadd, 1) := by decide +kernel
theorem dX3_bring_78 : decode cX3_bring 78 = .ok (.putfield 109, 3) := by decide +kernel
theorem dX3_bring_81 : decode cX3_bring 81 = .ok (.aload_n 0, 1) := by decide +kernel
theorem dX3_bring_82 : decode cX3_bring 82 = .ok (.getfield 16, 3) := by decide +kernel
theorem dX3_bring_85 : decode cX3_bring 85 = .ok (.iload_n 1, 1) := by decide +kernel
theorem dX3_bring_86 : decode cX3_bring 86 = .ok (.iaload, 1) := by decide +kernel
theorem dX3_bring_87 : decode cX3_bring 87 = .ok (.ireturn, 1) := by decide +kernel
set_option maxRecDepth 20000 in
theorem ggX3_tread_X3_isSite : GoodIn wsX3_tread wsX3_isSite := goodIn_r _ [6, 7, 8, 9, 5, 10, 11, 12, 13, 14, 15, 16, 17, 18, 19, 20, 21, 22, 23, 24, 25, 26, 27, 28, 29, 30, 31, 32, 33, 34, 35, 36, 37, 38, 39, 40, 41, 42, 43, 44, 45, 46, 47, 48, 49, 50] (by decide +kernel) (by decide +kernel)
set_option maxRecDepth 20000 in
theorem gX3_tread_X3_isSite : GoodIn wsX3_tread (wsV RX3 126 RX3 yX3_isSite wsX3_isSite) := goodIn_app (goodIn_of _ (by decide +kernel)) ggX3_tread_X3_isSite
set_option maxRecDepth 20000 in
theorem ggX3_tread_X3_within : GoodIn wsX3_tread wsX3_within := goodIn_r _ [10] (by decide +kernel) (by decide +kernel)
set_option maxRecDepth 20000 in
theorem gX3_tread_X3_within : GoodIn wsX3_tread (va_wsS RX3 68 yX3_within wsX3_within) := goodIn_app (goodIn_of _ (by decide +kernel)) ggX3_tread_X3_within
theorem dX3_tread_0 : decode cX3_tread 0 = .ok (.aload_n 0, 1) := by decide +kernel
theorem dX3_tread_1 : decode cX3_tread 1 = .ok (.iload_n 1, 1) := by decide +kernel
theorem dX3_tread_2 : decode cX3_tread 2 = .ok (.invokevirtual 126, 3) := by decide +kernel
theorem dX3_tread_5 : decode cX3_tread 5 = .ok (.ifCond .ne 6, 3) := by decide +kernel
theorem dX3_tread_8 : decode cX3_tread 8 = .ok (.bipush (-101), 2) := by decide +kernel
theorem dX3_tread_10 : decode cX3_tread 10 = .ok (.ireturn, 1) := by decide +kernel
theorem dX3_tread_11 : decode cX3_tread 11 = .ok (.iload_n 2, 1) := by decide +kernel
theorem dX3_tread_12 : decode cX3_tread 12 = .ok (.iconst 0, 1) := by decide +kernel
theorem dX3_tread_13 : decode cX3_tread 13 = .ok (.bipush 9, 2) := by decide +kernel
theorem dX3_tread_15 : decode cX3_tread 15 = .ok (.invokestatic 68, 3) := by decide +kernel
theorem dX3_tread_18 : decode cX3_tread 18 = .ok (.ifCond .ne 6, 3) := by decide +kernel
theorem dX3_tread_21 : decode cX3_tread 21 = .ok (.bipush (-102), 2) := by decide +kernel
theorem dX3_tread_23 : decode cX3_tread 23 = .ok (.ireturn, 1) := by decide +kernel
theorem dX3_tread_24 : decode cX3_tread 24 = .ok (.aload_n 0, 1) := by decide +kernel
theorem dX3_tread_25 : decode cX3_tread 25 = .ok (.getfield 25, 3) := by decide +kernel
theorem dX3_tread_28 : decode cX3_tread 28 = .ok (.iload_n 1, 1) := by decide +kernel
theorem dX3_tread_29 : decode cX3_tread 29 = .ok (.iaload, 1) := by decide +kernel
theorem dX3_tread_30 : decode cX3_tread 30 = .ok (.istore_n 3, 1) := by decide +kernel
theorem dX3_tread_31 : decode cX3_tread 31 = .ok (.aload_n 0, 1) := by decide +kernel
theorem dX3_tread_32 : decode cX3_tread 32 = .ok (.getfield 25, 3) := by decide +kernel
theorem dX3_tread_35 : decode cX3_tread 35 = .ok (.iload_n 1, 1) := by decide +kernel
theorem dX3_tread_36 : decode cX3_tread 36 = .ok (.iload_n 2, 1) := by decide +kernel
theorem dX3_tread_37 : decode cX3_tread 37 = .ok (.iastore, 1) := by decide +kernel
theorem dX3_tread_38 : decode cX3_tread 38 = .ok (.iload_n 3, 1) := by decide +kernel
theorem dX3_tread_39 : decode cX3_tread 39 = .ok (.ireturn, 1) := by decide +kernel
set_option maxRecDepth 20000 in
theorem ggX3_sun_X3_within : GoodIn wsX3_sun wsX3_within := goodIn_r _ [6] (by decide +kernel) (by decide +kernel)
set_option maxRecDepth 20000 in
theorem gX3_sun_X3_within : GoodIn wsX3_sun (va_wsS RX3 68 yX3_within wsX3_within) := goodIn_app (goodIn_of _ (by decide +kernel)) ggX3_sun_X3_within
theorem dX3_sun_0 : decode cX3_sun 0 = .ok (.iload_n 1, 1) := by decide +kernel
theorem dX3_sun_1 : decode cX3_sun 1 = .ok (.iconst 0, 1) := by decide +kernel
theorem dX3_sun_2 : decode cX3_sun 2 = .ok (.bipush 9, 2) := by decide +kernel
theorem dX3_sun_4 : decode cX3_sun 4 = .ok (.invokestatic 68, 3) := by decide +kernel
theorem dX3_sun_7 : decode cX3_sun 7 = .ok (.ifCond .ne 6, 3) := by decide +kernel
theorem dX3_sun_10 : decode cX3_sun 10 = .ok (.bipush (-102), 2) := by decide +kernel
theorem dX3_sun_12 : decode cX3_sun 12 = .ok (.ireturn, 1) := by decide +kernel
theorem dX3_sun_13 : decode cX3_sun 13 = .ok (.aload_n 0, 1) := by decide +kernel
theorem dX3_sun_14 : decode cX3_sun 14 = .ok (.getfield 94, 3) := by decide +kernel
theorem dX3_sun_17 : decode cX3_sun 17 = .ok (.ifCond .ne 6, 3) := by decide +kernel
theorem dX3_sun_20 : decode cX3_sun 20 = .ok (.bipush (-103), 2) := by decide +kernel
theorem dX3_sun_22 : decode cX3_sun 22 = .ok (.ireturn, 1) := by decide +kernel
theorem dX3_sun_23 : decode cX3_sun 23 = .ok (.aload_n 0, 1) := by decide +kernel
theorem dX3_sun_24 : decode cX3_sun 24 = .ok (.getfield 97, 3) := by decide +kernel
theorem dX3_sun_27 : decode cX3_sun 27 = .ok (.istore_n 2, 1) := by decide +kernel
theorem dX3_sun_28 : decode cX3_sun 28 = .ok (.aload_n 0, 1) := by decide +kernel
theorem dX3_sun_29 : decode cX3_sun 29 = .ok (.iload_n 1, 1) := by decide +kernel
theorem dX3_sun_30 : decode cX3_sun 30 = .ok (.putfield 97, 3) := by decide +kernel
theorem dX3_sun_33 : decode cX3_sun 33 = .ok (.iload_n 2, 1) := by decide +kernel
theorem dX3_sun_34 : decode cX3_sun 34 = .ok (.ireturn, 1) := by decide +kernel
set_option maxRecDepth 20000 in
theorem ggX3_keptNow_X3_isKept : GoodIn wsX3_keptNow wsX3_isKept := goodIn_r _ [7, 8, 9, 10, 11, 12, 13, 14, 15, 16, 17, 18, 19, 20, 21, 22, 23, 24, 25, 26, 27, 28, 29, 30, 31, 32, 33, 34, 35, 36, 37, 38, 39, 40, 41, 42, 43, 44, 45, 46, 47, 48] (by decide +kernel) (by decide +kernel)
set_option maxRecDepth 20000 in
theorem gX3_keptNow_X3_isKept : GoodIn wsX3_keptNow (wsV RX3 122 RX3 yX3_isKept wsX3_isKept) := goodIn_app (goodIn_of _ (by decide +kernel)) ggX3_keptNow_X3_isKept
theorem dX3_keptNow_0 : decode cX3_keptNow 0 = .ok (.iconst 0, 1) := by decide +kernel
theorem dX3_keptNow_1 : decode cX3_keptNow 1 = .ok (.istore_n 1, 1) := by decide +kernel
theorem dX3_keptNow_2 : decode cX3_keptNow 2 = .ok (.iconst 0, 1) := by decide +kernel
theorem dX3_keptNow_3 : decode cX3_keptNow 3 = .ok (.istore_n 2, 1) := by decide +kernel
theorem dX3_keptNow_4 : decode cX3_keptNow 4 = .ok (.iload_n 2, 1) := by decide +kernel
theorem dX3_keptNow_5 : decode cX3_keptNow 5 = .ok (.aload_n 0, 1) := by decide +kernel
theorem dX3_keptNow_6 : decode cX3_keptNow 6 = .ok (.getfield 94, 3) := by decide +kernel
theorem dX3_keptNow_9 : decode cX3_keptNow 9 = .ok (.if_icmp .ge 31, 3) := by decide +kernel
theorem dX3_keptNow_12 : decode cX3_keptNow 12 = .ok (.iload_n 1, 1) := by decide +kernel
theorem dX3_keptNow_13 : decode cX3_keptNow 13 = .ok (.aload_n 0, 1) := by decide +kernel
theorem dX3_keptNow_14 : decode cX3_keptNow 14 = .ok (.iload_n 2, 1) := by decide +kernel
theorem dX3_keptNow_15 : decode cX3_keptNow 15 = .ok (.aload_n 0, 1) := by decide +kernel
theorem dX3_keptNow_16 : decode cX3_keptNow 16 = .ok (.getfield 16, 3) := by decide +kernel
theorem dX3_keptNow_19 : decode cX3_keptNow 19 = .ok (.iload_n 2, 1) := by decide +kernel
theorem dX3_keptNow_20 : decode cX3_keptNow 20 = .ok (.iaload, 1) := by decide +kernel
theorem dX3_keptNow_21 : decode cX3_keptNow 21 = .ok (.invokevirtual 122, 3) := by decide +kernel
theorem dX3_keptNow_24 : decode cX3_keptNow 24 = .ok (.ifCond .eq 7, 3) := by decide +kernel
theorem dX3_keptNow_27 : decode cX3_keptNow 27 = .ok (.iconst 1, 1) := by decide +kernel
theorem dX3_keptNow_28 : decode cX3_keptNow 28 = .ok (.goto 4, 3) := by decide +kernel
theorem dX3_keptNow_31 : decode cX3_keptNow 31 = .ok (.iconst 0, 1) := by decide +kernel
theorem dX3_keptNow_32 : decode cX3_keptNow 32 = .ok (.iadd, 1) := by decide +kernel
theorem dX3_keptNow_33 : decode cX3_keptNow 33 = .ok (.istore_n 1, 1) := by decide +kernel
theorem dX3_keptNow_34 : decode cX3_keptNow 34 = .ok (.iinc 2 1, 3) := by decide +kernel
theorem dX3_keptNow_37 : decode cX3_keptNow 37 = .ok (.goto (-33), 3) := by decide +kernel
theorem dX3_keptNow_40 : decode cX3_keptNow 40 = .ok (.iload_n 1, 1) := by decide +kernel
theorem dX3_keptNow_41 : decode cX3_keptNow 41 = .ok (.ireturn, 1) := by decide +kernel
set_option maxRecDepth 20000 in
theorem ggX3_melt_X3_meltsBy : GoodIn wsX3_melt wsX3_meltsBy := goodIn_r _ [7, 8, 9, 10, 11, 6, 12, 13, 14, 15, 16, 17, 18, 19, 20, 21, 22, 23, 24, 25, 26, 27, 28, 29, 30, 31, 32, 33, 34, 35, 36, 37, 38, 39, 40, 41, 42, 43, 44, 45, 46, 47, 48, 49, 50, 51, 52] (by decide +kernel) (by decide +kernel)
set_option maxRecDepth 20000 in
theorem gX3_melt_X3_meltsBy : GoodIn wsX3_melt (wsV RX3 118 RX3 yX3_meltsBy wsX3_meltsBy) := goodIn_app (goodIn_of _ (by decide +kernel)) ggX3_melt_X3_meltsBy
set_option maxRecDepth 20000 in
theorem ggX3_melt_X3_notBelow : GoodIn wsX3_melt wsX3_notBelow := goodIn_r _ [12] (by decide +kernel) (by decide +kernel)
set_option maxRecDepth 20000 in
theorem gX3_melt_X3_notBelow : GoodIn wsX3_melt (va_wsS RX3 115 yX3_notBelow wsX3_notBelow) := goodIn_app (goodIn_of _ (by decide +kernel)) ggX3_melt_X3_notBelow
theorem dX3_melt_0 : decode cX3_melt 0 = .ok (.iconst 0, 1) := by decide +kernel
theorem dX3_melt_1 : decode cX3_melt 1 = .ok (.istore_n 2, 1) := by decide +kernel
theorem dX3_melt_2 : decode cX3_melt 2 = .ok (.iload_n 2, 1) := by decide +kernel
theorem dX3_melt_3 : decode cX3_melt 3 = .ok (.aload_n 0, 1) := by decide +kernel
theorem dX3_melt_4 : decode cX3_melt 4 = .ok (.getfield 94, 3) := by decide +kernel
theorem dX3_melt_7 : decode cX3_melt 7 = .ok (.if_icmp .ge 31, 3) := by decide +kernel
theorem dX3_melt_10 : decode cX3_melt 10 = .ok (.aload_n 0, 1) := by decide +kernel
theorem dX3_melt_11 : decode cX3_melt 11 = .ok (.getfield 16, 3) := by decide +kernel
theorem dX3_melt_14 : decode cX3_melt 14 = .ok (.iload_n 2, 1) := by decide +kernel
theorem dX3_melt_15 : decode cX3_melt 15 = .ok (.aload_n 0, 1) := by decide +kernel
theorem dX3_melt_16 : decode cX3_melt 16 = .ok (.getfield 16, 3) := by decide +kernel
theorem dX3_melt_19 : decode cX3_melt 19 = .ok (.iload_n 2, 1) := by decide +kernel
theorem dX3_melt_20 : decode cX3_melt 20 = .ok (.iaload, 1) := by decide +kernel
theorem dX3_melt_21 : decode cX3_melt 21 = .ok (.aload_n 0, 1) := by decide +kernel
theorem dX3_melt_22 : decode cX3_melt 22 = .ok (.iload_n 2, 1) := by decide +kernel
theorem dX3_melt_23 : decode cX3_melt 23 = .ok (.iload_n 1, 1) := by decide +kernel
theorem dX3_melt_24 : decode cX3_melt 24 = .ok (.invokevirtual 118, 3) := by decide +kernel
theorem dX3_melt_27 : decode cX3_melt 27 = .ok (.isub, 1) := by decide +kernel
theorem dX3_melt_28 : decode cX3_melt 28 = .ok (.invokestatic 115, 3) := by decide +kernel
theorem dX3_melt_31 : decode cX3_melt 31 = .ok (.iastore, 1) := by decide +kernel
theorem dX3_melt_32 : decode cX3_melt 32 = .ok (.iinc 2 1, 3) := by decide +kernel
theorem dX3_melt_35 : decode cX3_melt 35 = .ok (.goto (-33), 3) := by decide +kernel
theorem dX3_melt_38 : decode cX3_melt 38 = .ok (.return_, 1) := by decide +kernel
set_option maxRecDepth 20000 in
theorem ggX3_day_X3_melt : GoodIn wsX3_day wsX3_melt := goodIn_r _ [12, 1, 4, 13, 14, 15, 11, 16, 17, 18, 19, 20, 21, 31, 32, 33, 34, 35, 36, 37, 38, 39, 40, 41, 42, 43, 44, 45, 46, 47, 48, 49, 50, 51, 52, 53, 54, 55, 56, 57, 58, 59, 60, 61, 62, 63, 64, 65, 66, 67, 68, 69, 70] (by decide +kernel) (by decide +kernel)
set_option maxRecDepth 20000 in
theorem gX3_day_X3_melt : GoodIn wsX3_day (wsV RX3 136 RX3 yX3_melt wsX3_melt) := goodIn_app (goodIn_of _ (by decide +kernel)) ggX3_day_X3_melt
set_option maxRecDepth 20000 in
theorem ggX3_day_X3_keptNow : GoodIn wsX3_day wsX3_keptNow := goodIn_r _ [25, 1, 4, 26, 27, 28, 11, 29, 30, 31, 32, 33, 34, 35, 36, 37, 38, 39, 40, 41, 42, 43, 44, 45, 46, 47, 48, 49, 50, 51, 52, 53, 54, 55, 56, 57, 58, 59, 60, 61, 62, 63, 64, 65, 66, 67, 68, 69, 70] (by decide +kernel) (by decide +kernel)
set_option maxRecDepth 20000 in
theorem gX3_day_X3_keptNow : GoodIn wsX3_day (wsV RX3 140 RX3 yX3_keptNow wsX3_keptNow) := goodIn_app (goodIn_of _ (by decide +kernel)) ggX3_day_X3_keptNow
theorem dX3_day_0 : decode cX3_day 0 = .ok (.aload_n 0, 1) := by decide +kernel
theorem dX3_day_1 : decode cX3_day 1 = .ok (.getfield 94, 3) := by decide +kernel
theorem dX3_day_4 : decode cX3_day 4 = .ok (.ifCond .ne 6, 3) := by decide +kernel
theorem dX3_day_7 : decode cX3_day 7 = .ok (.bipush (-103), 2) := by decide +kernel
theorem dX3_day_9 : decode cX3_day 9 = .ok (.ireturn, 1) := by decide +kernel
theorem dX3_day_10 : decode cX3_day 10 = .ok (.aload_n 0, 1) := by decide +kernel
theorem dX3_day_11 : decode cX3_day 11 = .ok (.aload_n 0, 1) := by decide +kernel
theorem dX3_day_12 : decode cX3_day 12 = .ok (.getfield 97, 3) := by decide +kernel
theorem dX3_day_15 : decode cX3_day 15 = .ok (.invokevirtual 136, 3) := by decide +kernel
theorem dX3_day_18 : decode cX3_day 18 = .ok (.iconst 0, 1) := by decide +kernel
theorem dX3_day_19 : decode cX3_day 19 = .ok (.istore_n 1, 1) := by decide +kernel
theorem dX3_day_20 : decode cX3_day 20 = .ok (.iload_n 1, 1) := by decide +kernel
theorem dX3_day_21 : decode cX3_day 21 = .ok (.aload_n 0, 1) := by decide +kernel
theorem dX3_day_22 : decode cX3_day 22 = .ok (.getfield 94, 3) := by decide +kernel
theorem dX3_day_25 : decode cX3_day 25 = .ok (.if_icmp .ge 28, 3) := by decide +kernel
theorem dX3_day_28 : decode cX3_day 28 = .ok (.aload_n 0, 1) := by decide +kernel
theorem dX3_day_29 : decode cX3_day 29 = .ok (.getfield 19, 3) := by decide +kernel
theorem dX3_day_32 : decode cX3_day 32 = .ok (.iload_n 1, 1) := by decide +kernel
theorem dX3_day_33 : decode cX3_day 33 = .ok (.aload_n 0, 1) := by decide +kernel
theorem dX3_day_34 : decode cX3_day 34 = .ok (.getfield 16, 3) := by decide +kernel
theorem dX3_day_37 : decode cX3_day 37 = .ok (.iload_n 1, 1) := by decide +kernel
theorem dX3_day_38 : decode cX3_day 38 = .ok (.iaload, 1) := by decide +kernel
theorem dX3_day_39 : decode cX3_day 39 = .ok (.iastore, 1) := by decide +kernel
theorem dX3_day_40 : decode cX3_day 40 = .ok (.aload_n 0, 1) := by decide +kernel
theorem dX3_day_41 : decode cX3_day 41 = .ok (.getfield 22, 3) := by decide +kernel
theorem dX3_day_44 : decode cX3_day 44 = .ok (.iload_n 1, 1) := by decide +kernel
theorem dX3_day_45 : decode cX3_day 45 = .ok (.iconst 0, 1) := by decide +kernel
theorem dX3_day_46 : decode cX3_day 46 = .ok (.iastore, 1) := by decide +kernel
theorem dX3_day_47 : decode cX3_day 47 = .ok (.iinc 1 1, 3) := by decide +kernel
theorem dX3_day_50 : decode cX3_day 50 = .ok (.goto (-30), 3) := by decide +kernel
theorem dX3_day_53 : decode cX3_day 53 = .ok (.aload_n 0, 1) := by decide +kernel
theorem dX3_day_54 : decode cX3_day 54 = .ok (.dup, 1) := by decide +kernel
theorem dX3_day_55 : decode cX3_day 55 = .ok (.getfield 103, 3) := by decide +kernel
theorem dX3_day_58 : decode cX3_day 58 = .ok (.iconst 1, 1) := by decide +kernel
theorem dX3_day_59 : decode cX3_day 59 = .ok (.iadd, 1) := by decide +kernel
theorem dX3_day_60 : decode cX3_day 60 = .ok (.putfield 103, 3) := by decide +kernel
theorem dX3_day_63 : decode cX3_day 63 = .ok (.aload_n 0, 1) := by decide +kernel
theorem dX3_day_64 : decode cX3_day 64 = .ok (.dup, 1) := by decide +kernel
theorem dX3_day_65 : decode cX3_day 65 = .ok (.getfield 106, 3) := by decide +kernel
theorem dX3_day_68 : decode cX3_day 68 = .ok (.aload_n 0, 1) := by decide +kernel
theorem dX3_day_69 : decode cX3_day 69 = .ok (.invokevirtual 140, 3) := by decide +kernel
theorem dX3_day_72 : decode cX3_day 72 = .ok (.iadd, 1) := by decide +kernel
theorem dX3_day_73 : decode cX3_day 73 = .ok (.putfield 106, 3) := by decide +kernel
theorem dX3_day_76 : decode cX3_day 76 = .ok (.aload_n 0, 1) := by decide +kernel
theorem dX3_day_77 : decode cX3_day 77 = .ok (.invokevirtual 140, 3) := by decide +kernel
theorem dX3_day_80 : decode cX3_day 80 = .ok (.ireturn, 1) := by decide +kernel
set_option maxRecDepth 20000 in
theorem ggX3_isKeptFor_X3_atMost : GoodIn wsX3_isKeptFor wsX3_atMost := goodIn_r _ [6] (by decide +kernel) (by decide +kernel)
set_option maxRecDepth 20000 in
theorem gX3_isKeptFor_X3_atMost : GoodIn wsX3_isKeptFor (va_wsS RX3 133 yX3_atMost wsX3_atMost) := goodIn_app (goodIn_of _ (by decide +kernel)) ggX3_isKeptFor_X3_atMost
set_option maxRecDepth 20000 in
theorem ggX3_isKeptFor_X3_isKept : GoodIn wsX3_isKeptFor wsX3_isKept := goodIn_r _ [10, 11, 21, 22, 23, 24, 25, 26, 27, 28, 29, 30, 31, 32, 33, 34, 35, 36, 37, 38, 39, 40, 41, 42, 43, 44, 45, 46, 47, 48, 49, 50, 51, 52, 53, 54, 55, 56, 57, 58, 59, 60] (by decide +kernel) (by decide +kernel)
set_option maxRecDepth 20000 in
theorem gX3_isKeptFor_X3_isKept : GoodIn wsX3_isKeptFor (wsV RX3 122 RX3 yX3_isKept wsX3_isKept) := goodIn_app (goodIn_of _ (by decide +kernel)) ggX3_isKeptFor_X3_isKept
set_option maxRecDepth 20000 in
theorem ggX3_isKeptFor_X3_meltsBy : GoodIn wsX3_isKeptFor wsX3_meltsBy := goodIn_r _ [15, 16, 17, 18, 19, 5, 20, 21, 22, 23, 24, 25, 26, 27, 28, 29, 30, 31, 32, 33, 34, 35, 36, 37, 38, 39, 40, 41, 42, 43, 44, 45, 46, 47, 48, 49, 50, 51, 52, 53, 54, 55, 56, 57, 58, 59, 60] (by decide +kernel) (by decide +kernel)
set_option maxRecDepth 20000 in
theorem gX3_isKeptFor_X3_meltsBy : GoodIn wsX3_isKeptFor (wsV RX3 118 RX3 yX3_meltsBy wsX3_meltsBy) := goodIn_app (goodIn_of _ (by decide +kernel)) ggX3_isKeptFor_X3_meltsBy
set_option maxRecDepth 20000 in
theorem ggX3_isKeptFor_X3_notBelow : GoodIn wsX3_isKeptFor wsX3_notBelow := goodIn_r _ [20] (by decide +kernel) (by decide +kernel)
set_option maxRecDepth 20000 in
theorem gX3_isKeptFor_X3_notBelow : GoodIn wsX3_isKeptFor (va_wsS RX3 115 yX3_notBelow wsX3_notBelow) := goodIn_app (goodIn_of _ (by decide +kernel)) ggX3_isKeptFor_X3_notBelow
theorem dX3_isKeptFor_0 : decode cX3_isKeptFor 0 = .ok (.aload_n 0, 1) := by decide +kernel
theorem dX3_isKeptFor_1 : decode cX3_isKeptFor 1 = .ok (.getfield 16, 3) := by decide +kernel
theorem dX3_isKeptFor_4 : decode cX3_isKeptFor 4 = .ok (.iload_n 1, 1) := by decide +kernel
theorem dX3_isKeptFor_5 : decode cX3_isKeptFor 5 = .ok (.iaload, 1) := by decide +kernel
theorem dX3_isKeptFor_6 : decode cX3_isKeptFor 6 = .ok (.iload_n 2, 1) := by decide +kernel
theorem dX3_isKeptFor_7 : decode cX3_isKeptFor 7 = .ok (.iadd, 1) := by decide +kernel
theorem dX3_isKeptFor_8 : decode cX3_isKeptFor 8 = .ok (.invokestatic 133, 3) := by decide +kernel
theorem dX3_isKeptFor_11 : decode cX3_isKeptFor 11 = .ok (.istore 4, 2) := by decide +kernel
theorem dX3_isKeptFor_13 : decode cX3_isKeptFor 13 = .ok (.iload_n 3, 1) := by decide +kernel
theorem dX3_isKeptFor_14 : decode cX3_isKeptFor 14 = .ok (.ifCond .gt 13, 3) := by decide +kernel
theorem dX3_isKeptFor_17 : decode cX3_isKeptFor 17 = .ok (.aload_n 0, 1) := by decide +kernel
theorem dX3_isKeptFor_18 : decode cX3_isKeptFor 18 = .ok (.iload_n 1, 1) := by decide +kernel
theorem dX3_isKeptFor_19 : decode cX3_isKeptFor 19 = .ok (.iload 4, 2) := by decide +kernel
theorem dX3_isKeptFor_21 : decode cX3_isKeptFor 21 = .ok (.invokevirtual 122, 3) := by decide +kernel
theorem dX3_isKeptFor_24 : decode cX3_isKeptFor 24 = .ok (.ifCond .eq 7, 3) := by decide +kernel
theorem dX3_isKeptFor_27 : decode cX3_isKeptFor 27 = .ok (.iconst 1, 1) := by decide +kernel
theorem dX3_isKeptFor_28 : decode cX3_isKeptFor 28 = .ok (.goto 4, 3) := by decide +kernel
theorem dX3_isKeptFor_31 : decode cX3_isKeptFor 31 = .ok (.iconst 0, 1) := by decide +kernel
theorem dX3_isKeptFor_32 : decode cX3_isKeptFor 32 = .ok (.istore 5, 2) := by decide +kernel
theorem dX3_isKeptFor_34 : decode cX3_isKeptFor 34 = .ok (.iconst 0, 1) := by decide +kernel
theorem dX3_isKeptFor_35 : decode cX3_isKeptFor 35 = .ok (.istore 6, 2) := by decide +kernel
theorem dX3_isKeptFor_37 : decode cX3_isKeptFor 37 = .ok (.iload 6, 2) := by decide +kernel
theorem dX3_isKeptFor_39 : decode cX3_isKeptFor 39 = .ok (.iload_n 3, 1) := by decide +kernel
theorem dX3_isKeptFor_40 : decode cX3_isKeptFor 40 = .ok (.if_icmp .ge 48, 3) := by decide +kernel
theorem dX3_isKeptFor_43 : decode cX3_isKeptFor 43 = .ok (.iload 4, 2) := by decide +kernel
theorem dX3_isKeptFor_45 : decode cX3_isKeptFor 45 = .ok (.aload_n 0, 1) := by decide +kernel
theorem dX3_isKeptFor_46 : decode cX3_isKeptFor 46 = .ok (.iload_n 1, 1) := by decide +kernel
theorem dX3_isKeptFor_47 : decode cX3_isKeptFor 47 = .ok (.aload_n 0, 1) := by decide +kernel
theorem dX3_isKeptFor_48 : decode cX3_isKeptFor 48 = .ok (.getfield 97, 3) := by decide +kernel
theorem dX3_isKeptFor_51 : decode cX3_isKeptFor 51 = .ok (.invokevirtual 118, 3) := by decide +kernel
theorem dX3_isKeptFor_54 : decode cX3_isKeptFor 54 = .ok (.isub, 1) := by decide +kernel
theorem dX3_isKeptFor_55 : decode cX3_isKeptFor 55 = .ok (.invokestatic 115, 3) := by decide +kernel
theorem dX3_isKeptFor_58 : decode cX3_isKeptFor 58 = .ok (.istore 4, 2) := by decide +kernel
theorem dX3_isKeptFor_60 : decode cX3_isKeptFor 60 = .ok (.iload 5, 2) := by decide +kernel
theorem dX3_isKeptFor_62 : decode cX3_isKeptFor 62 = .ok (.ifCond .eq 17, 3) := by decide +kernel
theorem dX3_isKeptFor_65 : decode cX3_isKeptFor 65 = .ok (.aload_n 0, 1) := by decide +kernel
theorem dX3_isKeptFor_66 : decode cX3_isKeptFor 66 = .ok (.iload_n 1, 1) := by decide +kernel
theorem dX3_isKeptFor_67 : decode cX3_isKeptFor 67 = .ok (.iload 4, 2) := by decide +kernel
theorem dX3_isKeptFor_69 : decode cX3_isKeptFor 69 = .ok (.invokevirtual 122, 3) := by decide +kernel
theorem dX3_isKeptFor_72 : decode cX3_isKeptFor 72 = .ok (.ifCond .eq 7, 3) := by decide +kernel
theorem dX3_isKeptFor_75 : decode cX3_isKeptFor 75 = .ok (.iconst 1, 1) := by decide +kernel
theorem dX3_isKeptFor_76 : decode cX3_isKeptFor 76 = .ok (.goto 4, 3) := by decide +kernel
theorem dX3_isKeptFor_79 : decode cX3_isKeptFor 79 = .ok (.iconst 0, 1) := by decide +kernel
theorem dX3_isKeptFor_80 : decode cX3_isKeptFor 80 = .ok (.istore 5, 2) := by decide +kernel
theorem dX3_isKeptFor_82 : decode cX3_isKeptFor 82 = .ok (.iinc 6 1, 3) := by decide +kernel
theorem dX3_isKeptFor_85 : decode cX3_isKeptFor 85 = .ok (.goto (-48), 3) := by decide +kernel
theorem dX3_isKeptFor_88 : decode cX3_isKeptFor 88 = .ok (.iload 5, 2) := by decide +kernel
theorem dX3_isKeptFor_90 : decode cX3_isKeptFor 90 = .ok (.ireturn, 1) := by decide +kernel
set_option maxRecDepth 20000 in
theorem ggX3_needOf_X3_isKeptFor : GoodIn wsX3_needOf wsX3_isKeptFor := goodIn_r _ [5, 6, 7, 8, 9, 4, 10, 11, 12, 13, 14, 15, 16, 17, 18, 19, 20, 21, 22, 23, 24, 25, 26, 27, 28, 29, 30, 31, 32, 33, 34, 35, 36, 37, 38, 39, 40, 41, 42, 43, 44, 45, 46, 47, 48, 49, 50, 51, 52, 53, 54, 55, 56, 57, 58, 59, 60, 61, 62, 63, 64] (by decide +kernel) (by decide +kernel)
set_option maxRecDepth 20000 in
theorem gX3_needOf_X3_isKeptFor : GoodIn wsX3_needOf (wsV RX3 143 RX3 yX3_isKeptFor wsX3_isKeptFor) := goodIn_app (goodIn_of _ (by decide +kernel)) ggX3_needOf_X3_isKeptFor
theorem dX3_needOf_0 : decode cX3_needOf 0 = .ok (.iconst 0, 1) := by decide +kernel
theorem dX3_needOf_1 : decode cX3_needOf 1 = .ok (.istore_n 3, 1) := by decide +kernel
theorem dX3_needOf_2 : decode cX3_needOf 2 = .ok (.iload_n 3, 1) := by decide +kernel
theorem dX3_needOf_3 : decode cX3_needOf 3 = .ok (.bipush 30, 2) := by decide +kernel
theorem dX3_needOf_5 : decode cX3_needOf 5 = .ok (.if_icmp .gt 21, 3) := by decide +kernel
theorem dX3_needOf_8 : decode cX3_needOf 8 = .ok (.aload_n 0, 1) := by decide +kernel
theorem dX3_needOf_9 : decode cX3_needOf 9 = .ok (.iload_n 1, 1) := by decide +kernel
theorem dX3_needOf_10 : decode cX3_needOf 10 = .ok (.iload_n 3, 1) := by decide +kernel
theorem dX3_needOf_11 : decode cX3_needOf 11 = .ok (.iload_n 2, 1) := by decide +kernel
theorem dX3_needOf_12 : decode cX3_needOf 12 = .ok (.invokevirtual 143, 3) := by decide +kernel
theorem dX3_needOf_15 : decode cX3_needOf 15 = .ok (.ifCond .eq 5, 3) := by decide +kernel
theorem dX3_needOf_18 : decode cX3_needOf 18 = .ok (.iload_n 3, 1) := by decide +kernel
theorem dX3_needOf_19 : decode cX3_needOf 19 = .ok (.ireturn, 1) := by decide +kernel
theorem dX3_needOf_20 : decode cX3_needOf 20 = .ok (.iinc 3 1, 3) := by decide +kernel
theorem dX3_needOf_23 : decode cX3_needOf 23 = .ok (.goto (-21), 3) := by decide +kernel
theorem dX3_needOf_26 : decode cX3_needOf 26 = .ok (.iconst (-1), 1) := by decide +kernel
theorem dX3_needOf_27 : decode cX3_needOf 27 = .ok (.ireturn, 1) := by decide +kernel
set_option maxRecDepth 20000 in
theorem ggX3_need_X3_isSite : GoodIn wsX3_need wsX3_isSite := goodIn_r _ [5, 6, 7, 8, 4, 9, 37, 38, 39, 40, 41, 42, 43, 44, 45, 46, 47, 48, 49, 50, 51, 52, 53, 54, 55, 56, 57, 58, 59, 60, 61, 62, 63, 64, 65, 66, 67, 68, 69, 70, 71, 72, 73, 74, 75, 76] (by decide +kernel) (by decide +kernel)
set_option maxRecDepth 20000 in
theorem gX3_need_X3_isSite : GoodIn wsX3_need (wsV RX3 126 RX3 yX3_isSite wsX3_isSite) := goodIn_app (goodIn_of _ (by decide +kernel)) ggX3_need_X3_isSite
set_option maxRecDepth 20000 in
theorem ggX3_need_X3_within : GoodIn wsX3_need wsX3_within := goodIn_r _ [9] (by decide +kernel) (by decide +kernel)
set_option maxRecDepth 20000 in
theorem gX3_need_X3_within : GoodIn wsX3_need (va_wsS RX3 68 yX3_within wsX3_within) := goodIn_app (goodIn_of _ (by decide +kernel)) ggX3_need_X3_within
set_option maxRecDepth 20000 in
theorem ggX3_need_X3_needOf : GoodIn wsX3_need wsX3_needOf := goodIn_r _ [13, 14, 15, 16, 4, 17, 18, 19, 20, 21, 22, 23, 24, 25, 26, 27, 28, 29, 30, 31, 32, 33, 34, 35, 36, 37, 38, 39, 40, 41, 42, 43, 44, 45, 46, 47, 48, 49, 50, 51, 52, 53, 54, 55, 56, 57, 58, 59, 60, 61, 62, 63, 64, 65, 66, 67, 68, 69, 70, 71, 72, 73, 74, 75, 76] (by decide +kernel) (by decide +kernel)
set_option maxRecDepth 20000 in
theorem gX3_need_X3_needOf : GoodIn wsX3_need (wsV RX3 146 RX3 yX3_needOf wsX3_needOf) := goodIn_app (goodIn_of _ (by decide +kernel)) ggX3_need_X3_needOf
theorem dX3_need_0 : decode cX3_need 0 = .ok (.aload_n 0, 1) := by decide +kernel
theorem dX3_need_1 : decode cX3_need 1 = .ok (.iload_n 1, 1) := by decide +kernel
theorem dX3_need_2 : decode cX3_need 2 = .ok (.invokevirtual 126, 3) := by decide +kernel
theorem dX3_need_5 : decode cX3_need 5 = .ok (.ifCond .ne 8, 3) := by decide +kernel
theorem dX3_need_8 : decode cX3_need 8 = .ok (.bipush (-101), 2) := by decide +kernel
theorem dX3_need_10 : decode cX3_need 10 = .ok (.goto 24, 3) := by decide +kernel
theorem dX3_need_13 : decode cX3_need 13 = .ok (.iload_n 2, 1) := by decide +kernel
theorem dX3_need_14 : decode cX3_need 14 = .ok (.iconst 0, 1) := by decide +kernel
theorem dX3_need_15 : decode cX3_need 15 = .ok (.bipush 9, 2) := by decide +kernel
theorem dX3_need_17 : decode cX3_need 17 = .ok (.invokestatic 68, 3) := by decide +kernel
theorem dX3_need_20 : decode cX3_need 20 = .ok (.ifCond .eq 12, 3) := by decide +kernel
theorem dX3_need_23 : decode cX3_need 23 = .ok (.aload_n 0, 1) := by decide +kernel
theorem dX3_need_24 : decode cX3_need 24 = .ok (.iload_n 1, 1) := by decide +kernel
theorem dX3_need_25 : decode cX3_need 25 = .ok (.iload_n 2, 1) := by decide +kernel
theorem dX3_need_26 : decode cX3_need 26 = .ok (.invokevirtual 146, 3) := by decide +kernel
theorem dX3_need_29 : decode cX3_need 29 = .ok (.goto 5, 3) := by decide +kernel
theorem dX3_need_32 : decode cX3_need 32 = .ok (.bipush (-102), 2) := by decide +kernel
theorem dX3_need_34 : decode cX3_need 34 = .ok (.ireturn, 1) := by decide +kernel
set_option maxRecDepth 20000 in
theorem ggX3_layNeeds_X3_isIn : GoodIn wsX3_layNeeds wsX3_isIn := goodIn_r _ [8] (by decide +kernel) (by decide +kernel)
set_option maxRecDepth 20000 in
theorem gX3_layNeeds_X3_isIn : GoodIn wsX3_layNeeds (va_wsS RX3 155 yX3_isIn wsX3_isIn) := goodIn_app (goodIn_of _ (by decide +kernel)) ggX3_layNeeds_X3_isIn
theorem dX3_layNeeds_0 : decode cX3_layNeeds 0 = .ok (.aload_n 0, 1) := by decide +kernel
theorem dX3_layNeeds_1 : decode cX3_layNeeds 1 = .ok (.iconst 0, 1) := by decide +kernel
theorem dX3_layNeeds_2 : decode cX3_layNeeds 2 = .ok (.putfield 149, 3) := by decide +kernel
theorem dX3_layNeeds_5 : decode cX3_layNeeds 5 = .ok (.aload_n 0, 1) := by decide +kernel
theorem dX3_layNeeds_6 : decode cX3_layNeeds 6 = .ok (.iconst 0, 1) := by decide +kernel
theorem dX3_layNeeds_7 : decode cX3_layNeeds 7 = .ok (.putfield 152, 3) := by decide +kernel
theorem dX3_layNeeds_10 : decode cX3_layNeeds 10 = .ok (.iconst 1, 1) := by decide +kernel
theorem dX3_layNeeds_11 : decode cX3_layNeeds 11 = .ok (.istore_n 2, 1) := by decide +kernel
theorem dX3_layNeeds_12 : decode cX3_layNeeds 12 = .ok (.iconst 0, 1) := by decide +kernel
theorem dX3_layNeeds_13 : decode cX3_layNeeds 13 = .ok (.istore_n 3, 1) := by decide +kernel
theorem dX3_layNeeds_14 : decode cX3_layNeeds 14 = .ok (.iload_n 3, 1) := by decide +kernel
theorem dX3_layNeeds_15 : decode cX3_layNeeds 15 = .ok (.aload_n 0, 1) := by decide +kernel
theorem dX3_layNeeds_16 : decode cX3_layNeeds 16 = .ok (.getfield 94, 3) := by decide +kernel
theorem dX3_layNeeds_19 : decode cX3_layNeeds 19 = .ok (.if_icmp .ge 71, 3) := by decide +kernel
theorem dX3_layNeeds_22 : decode cX3_layNeeds 22 = .ok (.iload_n 1, 1) := by decide +kernel
theorem dX3_layNeeds_23 : decode cX3_layNeeds 23 = .ok (.iload_n 3, 1) := by decide +kernel
theorem dX3_layNeeds_24 : decode cX3_layNeeds 24 = .ok (.invokestatic 155, 3) := by decide +kernel
theorem dX3_layNeeds_27 : decode cX3_layNeeds 27 = .ok (.ifCond .eq 57, 3) := by decide +kernel
theorem dX3_layNeeds_30 : decode cX3_layNeeds 30 = .ok (.iload_n 2, 1) := by decide +kernel
theorem dX3_layNeeds_31 : decode cX3_layNeeds 31 = .ok (.ifCond .eq 17, 3) := by decide +kernel
theorem dX3_layNeeds_34 : decode cX3_layNeeds 34 = .ok (.aload_n 0, 1) := by decide +kernel
theorem dX3_layNeeds_35 : decode cX3_layNeeds 35 = .ok (.getfield 41, 3) := by decide +kernel
theorem dX3_layNeeds_38 : decode cX3_layNeeds 38 = .ok (.iload_n 3, 1) := by decide +kernel
theorem dX3_layNeeds_39 : decode cX3_layNeeds 39 = .ok (.iaload, 1) := by decide +kernel
theorem dX3_layNeeds_40 : decode cX3_layNeeds 40 = .ok (.iconst (-1), 1) := by decide +kernel
theorem dX3_layNeeds_41 : decode cX3_layNeeds 41 = .ok (.if_icmp .eq 7, 3) := by decide +kernel
theorem dX3_layNeeds_44 : decode cX3_layNeeds 44 = .ok (.iconst 1, 1) := by decide +kernel
theorem dX3_layNeeds_45 : decode cX3_layNeeds 45 = .ok (.goto 4, 3) := by decide +kernel
theorem dX3_layNeeds_48 : decode cX3_layNeeds 48 = .ok (.iconst 0, 1) := by decide +kernel
theorem dX3_layNeeds_49 : decode cX3_layNeeds 49 = .ok (.istore_n 2, 1) := by decide +kernel
theorem dX3_layNeeds_50 : decode cX3_layNeeds 50 = .ok (.aload_n 0, 1) := by decide +kernel
theorem dX3_layNeeds_51 : decode cX3_layNeeds 51 = .ok (.dup, 1) := by decide +kernel
theorem dX3_layNeeds_52 : decode cX3_layNeeds 52 = .ok (.getfield 149, 3) := by decide +kernel
theorem dX3_layNeeds_55 : decode cX3_layNeeds 55 = .ok (.aload_n 0, 1) := by decide +kernel
theorem dX3_layNeeds_56 : decode cX3_layNeeds 56 = .ok (.getfield 41, 3) := by decide +kernel
theorem dX3_layNeeds_59 : decode cX3_layNeeds 59 = .ok (.iload_n 3, 1) := by decide +kernel
theorem dX3_layNeeds_60 : decode cX3_layNeeds 60 = .ok (.iaload, 1) := by decide +kernel
theorem dX3_layNeeds_61 : decode cX3_layNeeds 61 = .ok (.iadd, 1) := by decide +kernel
theorem dX3_layNeeds_62 : decode cX3_layNeeds 62 = .ok (.putfield 149, 3) := by decide +kernel
theorem dX3_layNeeds_65 : decode cX3_layNeeds 65 = .ok (.aload_n 0, 1) := by decide +kernel
theorem dX3_layNeeds_66 : decode cX3_layNeeds 66 = .ok (.dup, 1) := by decide +kernel
theorem dX3_layNeeds_67 : decode cX3_layNeeds 67 = .ok (.getfield 152, 3) := by decide +kernel
theorem dX3_layNeeds_70 : decode cX3_layNeeds 70 = .ok (.aload_n 0, 1) := by decide +kernel
theorem dX3_layNeeds_71 : decode cX3_layNeeds 71 = .ok (.getfield 41, 3) := by decide +kernel
theorem dX3_layNeeds_74 : decode cX3_layNeeds 74 = .ok (.iload_n 3, 1) := by decide +kernel
theorem dX3_layNeeds_75 : decode cX3_layNeeds 75 = .ok (.iaload, 1) := by decide +kernel
theorem dX3_layNeeds_76 : decode cX3_layNeeds 76 = .ok (.iload_n 3, 1) := by decide +kernel
theorem dX3_layNeeds_77 : decode cX3_layNeeds 77 = .ok (.iconst 1, 1) := by decide +kernel
theorem dX3_layNeeds_78 : decode cX3_layNeeds 78 = .ok (.iadd, 1) := by decide +kernel
theorem dX3_layNeeds_79 : decode cX3_layNeeds 79 = .ok (.imul, 1) := by decide +kernel
theorem dX3_layNeeds_80 : decode cX3_layNeeds 80 = .ok (.iadd, 1) := by decide +kernel
theorem dX3_layNeeds_81 : decode cX3_layNeeds 81 = .ok (.putfield 152, 3) := by decide +kernel
theorem dX3_layNeeds_84 : decode cX3_layNeeds 84 = .ok (.iinc 3 1, 3) := by decide +kernel
theorem dX3_layNeeds_87 : decode cX3_layNeeds 87 = .ok (.goto (-73), 3) := by decide +kernel
theorem dX3_layNeeds_90 : decode cX3_layNeeds 90 = .ok (.iload_n 2, 1) := by decide +kernel
theorem dX3_layNeeds_91 : decode cX3_layNeeds 91 = .ok (.ireturn, 1) := by decide +kernel
set_option maxRecDepth 20000 in
theorem ggX3_planNow_X3_needOf : GoodIn wsX3_planNow wsX3_needOf := goodIn_r _ [9, 10, 11, 12, 8, 13, 14, 15, 16, 17, 18, 19, 20, 21, 22, 23, 24, 25, 26, 27, 28, 29, 30, 31, 32, 43, 44, 45, 46, 47, 48, 49, 50, 51, 52, 53, 54, 55, 56, 57, 58, 59, 60, 61, 62, 63, 64, 65, 66, 67, 68, 69, 70, 71, 72, 73, 74, 75, 76, 77, 78, 79, 80, 81, 82] (by decide +kernel) (by decide +kernel)
set_option maxRecDepth 20000 in
theorem gX3_planNow_X3_needOf : GoodIn wsX3_planNow (wsV RX3 146 RX3 yX3_needOf wsX3_needOf) := goodIn_app (goodIn_of _ (by decide +kernel)) ggX3_planNow_X3_needOf
set_option maxRecDepth 20000 in
theorem ggX3_planNow_X3_layNeeds : GoodIn wsX3_planNow wsX3_layNeeds := goodIn_r _ [36, 3, 4, 1, 2, 37, 38, 8, 39, 43, 44, 45, 46, 47, 48, 49, 50, 51, 52, 53, 54, 55, 56, 57, 58, 59, 60, 61, 62, 63, 64, 65, 66, 67, 68, 69, 70, 71, 72, 73, 74, 75, 76, 77, 78, 79, 80, 81, 82] (by decide +kernel) (by decide +kernel)
set_option maxRecDepth 20000 in
theorem gX3_planNow_X3_layNeeds : GoodIn wsX3_planNow (wsV RX3 158 RX3 yX3_layNeeds wsX3_layNeeds) := goodIn_app (goodIn_of _ (by decide +kernel)) ggX3_planNow_X3_layNeeds
set_option maxRecDepth 20000 in
theorem ggX3_planNow_X3_size : GoodIn wsX3_planNow wsX3_size := goodIn_r _ [42] (by decide +kernel) (by decide +kernel)
set_option maxRecDepth 20000 in
theorem gX3_planNow_X3_size : GoodIn wsX3_planNow (va_wsS RX3 161 yX3_size wsX3_size) := goodIn_app (goodIn_of _ (by decide +kernel)) ggX3_planNow_X3_size
theorem dX3_planNow_0 : decode cX3_planNow 0 = .ok (.iconst 0, 1) := by decide +kernel
theorem dX3_planNow_1 : decode cX3_planNow 1 = .ok (.istore 4, 2) := by decide +kernel
theorem dX3_planNow_3 : decode cX3_planNow 3 = .ok (.iload 4, 2) := by decide +kernel
theorem dX3_planNow_5 : decode cX3_planNow 5 = .ok (.aload_n 0, 1) := by decide +kernel
theorem dX3_planNow_6 : decode cX3_planNow 6 = .ok (.getfield 94, 3) := by decide +kernel
theorem dX3_planNow_9 : decode cX3_planNow 9 = .ok (.if_icmp .ge 23, 3) := by decide +kernel
theorem dX3_planNow_12 : decode cX3_planNow 12 = .ok (.aload_n 0, 1) := by decide +kernel
theorem dX3_planNow_13 : decode cX3_planNow 13 = .ok (.getfield 41, 3) := by decide +kernel
theorem dX3_planNow_16 : decode cX3_planNow 16 = .ok (.iload 4, 2) := by decide +kernel
theorem dX3_planNow_18 : decode cX3_planNow 18 = .ok (.aload_n 0, 1) := by decide +kernel
theorem dX3_planNow_19 : decode cX3_planNow 19 = .ok (.iload 4, 2) := by decide +kernel
theorem dX3_planNow_21 : decode cX3_planNow 21 = .ok (.iload_n 2, 1) := by decide +kernel
theorem dX3_planNow_22 : decode cX3_planNow 22 = .ok (.invokevirtual 146, 3) := by decide +kernel
theorem dX3_planNow_25 : decode cX3_planNow 25 = .ok (.iastore, 1) := by decide +kernel
theorem dX3_planNow_26 : decode cX3_planNow 26 = .ok (.iinc 4 1, 3) := by decide +kernel
theorem dX3_planNow_29 : decode cX3_planNow 29 = .ok (.goto (-26), 3) := by decide +kernel
theorem dX3_planNow_32 : decode cX3_planNow 32 = .ok (.iconst 0, 1) := by decide +kernel
theorem dX3_planNow_33 : decode cX3_planNow 33 = .ok (.istore 4, 2) := by decide +kernel
theorem dX3_planNow_35 : decode cX3_planNow 35 = .ok (.iconst 0, 1) := by decide +kernel
theorem dX3_planNow_36 : decode cX3_planNow 36 = .ok (.istore 5, 2) := by decide +kernel
theorem dX3_planNow_38 : decode cX3_planNow 38 = .ok (.iconst 0, 1) := by decide +kernel
theorem dX3_planNow_39 : decode cX3_planNow 39 = .ok (.istore 6, 2) := by decide +kernel
theorem dX3_planNow_41 : decode cX3_planNow 41 = .ok (.iload 6, 2) := by decide +kernel
theorem dX3_planNow_43 : decode cX3_planNow 43 = .ok (.iconst 1, 1) := by decide +kernel
theorem dX3_planNow_44 : decode cX3_planNow 44 = .ok (.aload_n 0, 1) := by decide +kernel
theorem dX3_planNow_45 : decode cX3_planNow 45 = .ok (.getfield 94, 3) := by decide +kernel
theorem dX3_planNow_48 : decode cX3_planNow 48 = .ok (.ishl, 1) := by decide +kernel
theorem dX3_planNow_49 : decode cX3_planNow 49 = .ok (.if_icmp .ge 95, 3) := by decide +kernel
theorem dX3_planNow_52 : decode cX3_planNow 52 = .ok (.aload_n 0, 1) := by decide +kernel
theorem dX3_planNow_53 : decode cX3_planNow 53 = .ok (.iload 6, 2) := by decide +kernel
theorem dX3_planNow_55 : decode cX3_planNow 55 = .ok (.invokevirtual 158, 3) := by decide +kernel
theorem dX3_planNow_58 : decode cX3_planNow 58 = .ok (.ifCond .eq 15, 3) := by decide +kernel
theorem dX3_planNow_61 : decode cX3_planNow 61 = .ok (.aload_n 0, 1) := by decide +kernel
theorem dX3_planNow_62 : decode cX3_planNow 62 = .ok (.getfield 149, 3) := by decide +kernel
theorem dX3_planNow_65 : decode cX3_planNow 65 = .ok (.iload_n 1, 1) := by decide +kernel
theorem dX3_planNow_66 : decode cX3_planNow 66 = .ok (.if_icmp .gt 7, 3) := by decide +kernel
theorem dX3_planNow_69 : decode cX3_planNow 69 = .ok (.iconst 1, 1) := by decide +kernel
theorem dX3_planNow_70 : decode cX3_planNow 70 = .ok (.goto 4, 3) := by decide +kernel
theorem dX3_planNow_73 : decode cX3_planNow 73 = .ok (.iconst 0, 1) := by decide +kernel
theorem dX3_planNow_74 : decode cX3_planNow 74 = .ok (.istore 7, 2) := by decide +kernel
theorem dX3_planNow_76 : decode cX3_planNow 76 = .ok (.iload 6, 2) := by decide +kernel
