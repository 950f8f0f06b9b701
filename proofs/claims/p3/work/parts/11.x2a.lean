set_option maxRecDepth 20000 in
theorem ggX2_init_X0_init : GoodIn wsX2_init wsX0_init := goodIn_r _ [23, 24, 2, 3, 8, 25, 26, 39, 40] (by decide +kernel) (by decide +kernel)
set_option maxRecDepth 20000 in
theorem gX2_init_X0_init : GoodIn wsX2_init (wsX0_init) := ggX2_init_X0_init
set_option maxRecDepth 20000 in
theorem ggX2_init_X1_init : GoodIn wsX2_init wsX1_init := goodIn_r _ [29, 30, 2, 3, 8, 31, 32, 33, 34, 35, 36, 37, 38, 51, 52, 53, 54, 55, 56, 57, 58, 59, 60, 61, 62, 63] (by decide +kernel) (by decide +kernel)
set_option maxRecDepth 20000 in
theorem gX2_init_X1_init : GoodIn wsX2_init (wsX1_init) := ggX2_init_X1_init
theorem dX2_init_0 : decode cX2_init 0 = .ok (.aload_n 0, 1) := by decide +kernel
theorem dX2_init_1 : decode cX2_init 1 = .ok (.invokespecial 1, 3) := by decide +kernel
theorem dX2_init_4 : decode cX2_init 4 = .ok (.aload_n 0, 1) := by decide +kernel
theorem dX2_init_5 : decode cX2_init 5 = .ok (.new 7, 3) := by decide +kernel
theorem dX2_init_8 : decode cX2_init 8 = .ok (.dup, 1) := by decide +kernel
theorem dX2_init_9 : decode cX2_init 9 = .ok (.invokespecial 9, 3) := by decide +kernel
theorem dX2_init_12 : decode cX2_init 12 = .ok (.putfield 10, 3) := by decide +kernel
theorem dX2_init_15 : decode cX2_init 15 = .ok (.aload_n 0, 1) := by decide +kernel
theorem dX2_init_16 : decode cX2_init 16 = .ok (.bipush 6, 2) := by decide +kernel
theorem dX2_init_18 : decode cX2_init 18 = .ok (.newarray .int, 2) := by decide +kernel
theorem dX2_init_20 : decode cX2_init 20 = .ok (.putfield 16, 3) := by decide +kernel
theorem dX2_init_23 : decode cX2_init 23 = .ok (.aload_n 0, 1) := by decide +kernel
theorem dX2_init_24 : decode cX2_init 24 = .ok (.bipush 6, 2) := by decide +kernel
theorem dX2_init_26 : decode cX2_init 26 = .ok (.newarray .int, 2) := by decide +kernel
theorem dX2_init_28 : decode cX2_init 28 = .ok (.putfield 20, 3) := by decide +kernel
theorem dX2_init_31 : decode cX2_init 31 = .ok (.aload_n 0, 1) := by decide +kernel
theorem dX2_init_32 : decode cX2_init 32 = .ok (.new 23, 3) := by decide +kernel
theorem dX2_init_35 : decode cX2_init 35 = .ok (.dup, 1) := by decide +kernel
theorem dX2_init_36 : decode cX2_init 36 = .ok (.invokespecial 25, 3) := by decide +kernel
theorem dX2_init_39 : decode cX2_init 39 = .ok (.putfield 26, 3) := by decide +kernel
theorem dX2_init_42 : decode cX2_init 42 = .ok (.aload_n 0, 1) := by decide +kernel
theorem dX2_init_43 : decode cX2_init 43 = .ok (.new 23, 3) := by decide +kernel
theorem dX2_init_46 : decode cX2_init 46 = .ok (.dup, 1) := by decide +kernel
theorem dX2_init_47 : decode cX2_init 47 = .ok (.invokespecial 25, 3) := by decide +kernel
theorem dX2_init_50 : decode cX2_init 50 = .ok (.putfield 30, 3) := by decide +kernel
theorem dX2_init_53 : decode cX2_init 53 = .ok (.aload_n 0, 1) := by decide +kernel
theorem dX2_init_54 : decode cX2_init 54 = .ok (.bipush 6, 2) := by decide +kernel
theorem dX2_init_56 : decode cX2_init 56 = .ok (.newarray .int, 2) := by decide +kernel
theorem dX2_init_58 : decode cX2_init 58 = .ok (.putfield 33, 3) := by decide +kernel
theorem dX2_init_61 : decode cX2_init 61 = .ok (.aload_n 0, 1) := by decide +kernel
theorem dX2_init_62 : decode cX2_init 62 = .ok (.bipush 6, 2) := by decide +kernel
theorem dX2_init_64 : decode cX2_init 64 = .ok (.newarray .int, 2) := by decide +kernel
theorem dX2_init_66 : decode cX2_init 66 = .ok (.putfield 36, 3) := by decide +kernel
theorem dX2_init_69 : decode cX2_init 69 = .ok (.aload_n 0, 1) := by decide +kernel
theorem dX2_init_70 : decode cX2_init 70 = .ok (.iconst 0, 1) := by decide +kernel
theorem dX2_init_71 : decode cX2_init 71 = .ok (.putfield 39, 3) := by decide +kernel
theorem dX2_init_74 : decode cX2_init 74 = .ok (.aload_n 0, 1) := by decide +kernel
theorem dX2_init_75 : decode cX2_init 75 = .ok (.iconst 0, 1) := by decide +kernel
theorem dX2_init_76 : decode cX2_init 76 = .ok (.putfield 43, 3) := by decide +kernel
theorem dX2_init_79 : decode cX2_init 79 = .ok (.aload_n 0, 1) := by decide +kernel
theorem dX2_init_80 : decode cX2_init 80 = .ok (.iconst 0, 1) := by decide +kernel
theorem dX2_init_81 : decode cX2_init 81 = .ok (.putfield 46, 3) := by decide +kernel
theorem dX2_init_84 : decode cX2_init 84 = .ok (.return_, 1) := by decide +kernel
set_option maxRecDepth 20000 in
theorem ggX2_letter_X2_isWithin : GoodIn wsX2_letter wsX2_isWithin := goodIn_r _ [6] (by decide +kernel) (by decide +kernel)
set_option maxRecDepth 20000 in
theorem gX2_letter_X2_isWithin : GoodIn wsX2_letter (va_wsS RX2 50 yX2_isWithin wsX2_isWithin) := goodIn_app (goodIn_of _ (by decide +kernel)) ggX2_letter_X2_isWithin
set_option maxRecDepth 20000 in
theorem ggX2_letter_X0_add : GoodIn wsX2_letter wsX0_add := goodIn_r _ [11, 12, 13, 24, 25] (by decide +kernel) (by decide +kernel)
set_option maxRecDepth 20000 in
theorem gX2_letter_X0_add : GoodIn wsX2_letter (wsV RX2 54 RX0 yX0_add wsX0_add) := goodIn_app (goodIn_of _ (by decide +kernel)) ggX2_letter_X0_add
theorem dX2_letter_0 : decode cX2_letter 0 = .ok (.iload_n 1, 1) := by decide +kernel
theorem dX2_letter_1 : decode cX2_letter 1 = .ok (.bipush 32, 2) := by decide +kernel
theorem dX2_letter_3 : decode cX2_letter 3 = .ok (.bipush 126, 2) := by decide +kernel
theorem dX2_letter_5 : decode cX2_letter 5 = .ok (.invokestatic 50, 3) := by decide +kernel
theorem dX2_letter_8 : decode cX2_letter 8 = .ok (.ifCond .ne 6, 3) := by decide +kernel
theorem dX2_letter_11 : decode cX2_letter 11 = .ok (.bipush (-102), 2) := by decide +kernel
theorem dX2_letter_13 : decode cX2_letter 13 = .ok (.ireturn, 1) := by decide +kernel
theorem dX2_letter_14 : decode cX2_letter 14 = .ok (.aload_n 0, 1) := by decide +kernel
theorem dX2_letter_15 : decode cX2_letter 15 = .ok (.getfield 10, 3) := by decide +kernel
theorem dX2_letter_18 : decode cX2_letter 18 = .ok (.iload_n 1, 1) := by decide +kernel
theorem dX2_letter_19 : decode cX2_letter 19 = .ok (.invokevirtual 54, 3) := by decide +kernel
theorem dX2_letter_22 : decode cX2_letter 22 = .ok (.ifCond .ne 6, 3) := by decide +kernel
theorem dX2_letter_25 : decode cX2_letter 25 = .ok (.bipush (-104), 2) := by decide +kernel
theorem dX2_letter_27 : decode cX2_letter 27 = .ok (.ireturn, 1) := by decide +kernel
theorem dX2_letter_28 : decode cX2_letter 28 = .ok (.aload_n 0, 1) := by decide +kernel
theorem dX2_letter_29 : decode cX2_letter 29 = .ok (.getfield 10, 3) := by decide +kernel
theorem dX2_letter_32 : decode cX2_letter 32 = .ok (.getfield 58, 3) := by decide +kernel
theorem dX2_letter_35 : decode cX2_letter 35 = .ok (.ireturn, 1) := by decide +kernel
set_option maxRecDepth 20000 in
theorem ggX2_blank_X0_clear : GoodIn wsX2_blank wsX0_clear := goodIn_r _ [6, 7, 18, 19] (by decide +kernel) (by decide +kernel)
set_option maxRecDepth 20000 in
theorem gX2_blank_X0_clear : GoodIn wsX2_blank (wsV RX2 61 RX0 yX0_clear wsX0_clear) := goodIn_app (goodIn_of _ (by decide +kernel)) ggX2_blank_X0_clear
theorem dX2_blank_0 : decode cX2_blank 0 = .ok (.aload_n 0, 1) := by decide +kernel
theorem dX2_blank_1 : decode cX2_blank 1 = .ok (.getfield 10, 3) := by decide +kernel
theorem dX2_blank_4 : decode cX2_blank 4 = .ok (.invokevirtual 61, 3) := by decide +kernel
theorem dX2_blank_7 : decode cX2_blank 7 = .ok (.ireturn, 1) := by decide +kernel
set_option maxRecDepth 20000 in
theorem ggX2_fault_X0_faultPlace : GoodIn wsX2_fault wsX0_faultPlace := goodIn_r _ [6, 7, 8, 9, 10, 5, 11, 12, 13, 14, 15, 16, 17, 18, 19, 20, 21, 22, 23, 24, 25, 26, 27, 28, 29, 30, 31, 32, 33, 34, 35, 36, 37, 38, 39, 40, 41, 42, 43, 44, 45, 46, 47, 48, 49, 50, 51, 52, 53, 54, 55, 56, 57, 58, 59, 60, 61, 62, 63, 64, 65, 66, 67, 68, 69, 70, 71, 72, 73, 74, 75, 76, 77, 78, 79, 80, 81, 82, 83, 84, 85, 86, 87, 88, 89, 90, 91, 92, 93, 94, 95, 96, 97, 98, 99, 100, 101, 102, 103, 104, 105, 106, 107, 108, 109, 110, 111, 112, 113, 114, 115, 116, 117, 118, 119, 120, 131, 132] (by decide +kernel) (by decide +kernel)
set_option maxRecDepth 20000 in
theorem gX2_fault_X0_faultPlace : GoodIn wsX2_fault (wsV RX2 65 RX0 yX0_faultPlace wsX0_faultPlace) := goodIn_app (goodIn_of _ (by decide +kernel)) ggX2_fault_X0_faultPlace
theorem dX2_fault_0 : decode cX2_fault 0 = .ok (.aload_n 0, 1) := by decide +kernel
theorem dX2_fault_1 : decode cX2_fault 1 = .ok (.getfield 10, 3) := by decide +kernel
theorem dX2_fault_4 : decode cX2_fault 4 = .ok (.invokevirtual 65, 3) := by decide +kernel
theorem dX2_fault_7 : decode cX2_fault 7 = .ok (.ireturn, 1) := by decide +kernel
set_option maxRecDepth 20000 in
theorem ggX2_city_X0_isWhole : GoodIn wsX2_city wsX0_isWhole := goodIn_r _ [12, 13, 14, 15, 16, 11, 17, 18, 19, 20, 21, 22, 23, 24, 25, 26, 27, 28, 29, 30, 31, 32, 33, 34, 35, 36, 37, 38, 39, 40, 41, 42, 43, 44, 45, 46, 47, 48, 49, 50, 51, 52, 53, 54, 55, 56, 57, 58, 59, 60, 61, 62, 63, 64, 65, 66, 67, 68, 69, 70, 71, 72, 73, 74, 75, 76, 77, 78, 79, 80, 81, 82, 83, 84, 85, 86, 87, 88, 89, 90, 91, 92, 93, 94, 95, 96, 97, 98, 99, 100, 101, 102, 103, 104, 105, 106, 107, 108, 109, 110, 111, 112, 113, 114, 115, 116, 117, 118, 119, 120, 121, 122, 123, 124, 125, 126, 127, 128, 129, 130, 179, 180] (by decide +kernel) (by decide +kernel)
set_option maxRecDepth 20000 in
theorem gX2_city_X0_isWhole : GoodIn wsX2_city (wsV RX2 68 RX0 yX0_isWhole wsX0_isWhole) := goodIn_app (goodIn_of _ (by decide +kernel)) ggX2_city_X0_isWhole
set_option maxRecDepth 20000 in
theorem ggX2_city_X0_siteCount : GoodIn wsX2_city wsX0_siteCount := goodIn_r _ [134, 13, 179, 180] (by decide +kernel) (by decide +kernel)
set_option maxRecDepth 20000 in
theorem gX2_city_X0_siteCount : GoodIn wsX2_city (wsV RX2 72 RX0 yX0_siteCount wsX0_siteCount) := goodIn_app (goodIn_of _ (by decide +kernel)) ggX2_city_X0_siteCount
set_option maxRecDepth 20000 in
theorem ggX2_city_X0_kindOf : GoodIn wsX2_city wsX0_kindOf := goodIn_r _ [138, 22, 23, 24, 11, 25, 26, 27, 28, 29, 30, 31, 32, 33, 34, 35, 36, 37, 38, 39, 40, 41, 42, 43, 44, 45, 46, 47, 48, 49, 50, 51, 52, 53, 54, 55, 56, 57, 58, 59, 60, 61, 62, 63, 64, 65, 66, 67, 68, 69, 70, 71, 72, 73, 74, 75, 76, 77, 78, 79, 80, 81, 82, 83, 84, 85, 86, 87, 88, 89, 90, 91, 92, 93, 94, 95, 96, 97, 98, 99, 100, 101, 102, 103, 104, 105, 106, 107, 108, 109, 110, 111, 112, 113, 114, 115, 116, 117, 118, 119, 179, 180] (by decide +kernel) (by decide +kernel)
set_option maxRecDepth 20000 in
theorem gX2_city_X0_kindOf : GoodIn wsX2_city (wsV RX2 75 RX0 yX0_kindOf wsX0_kindOf) := goodIn_app (goodIn_of _ (by decide +kernel)) ggX2_city_X0_kindOf
set_option maxRecDepth 20000 in
theorem ggX2_city_X0_wantOf : GoodIn wsX2_city wsX0_wantOf := goodIn_r _ [142, 143, 144, 145, 11, 146, 26, 27, 28, 29, 30, 179, 180] (by decide +kernel) (by decide +kernel)
set_option maxRecDepth 20000 in
theorem gX2_city_X0_wantOf : GoodIn wsX2_city (wsV RX2 79 RX0 yX0_wantOf wsX0_wantOf) := goodIn_app (goodIn_of _ (by decide +kernel)) ggX2_city_X0_wantOf
set_option maxRecDepth 20000 in
theorem ggX2_city_X0_sunTold : GoodIn wsX2_city wsX0_sunTold := goodIn_r _ [150, 13, 143, 144, 145, 11, 146, 26, 27, 28, 29, 30, 179, 180] (by decide +kernel) (by decide +kernel)
set_option maxRecDepth 20000 in
theorem gX2_city_X0_sunTold : GoodIn wsX2_city (wsV RX2 82 RX0 yX0_sunTold wsX0_sunTold) := goodIn_app (goodIn_of _ (by decide +kernel)) ggX2_city_X0_sunTold
set_option maxRecDepth 20000 in
theorem ggX2_city_X1_begin : GoodIn wsX2_city wsX1_begin := goodIn_r _ [155, 156, 157, 158, 159, 160, 161, 162, 163, 164, 181, 182, 183, 184, 185, 186, 187, 188, 189, 190, 191, 192, 193] (by decide +kernel) (by decide +kernel)
set_option maxRecDepth 20000 in
theorem gX2_city_X1_begin : GoodIn wsX2_city (wsV RX2 85 RX1 yX1_begin wsX1_begin) := goodIn_app (goodIn_of _ (by decide +kernel)) ggX2_city_X1_begin
set_option maxRecDepth 20000 in
theorem ggX2_city_X0_clear : GoodIn wsX2_city wsX0_clear := goodIn_r _ [168, 13, 179, 180] (by decide +kernel) (by decide +kernel)
set_option maxRecDepth 20000 in
theorem gX2_city_X0_clear : GoodIn wsX2_city (wsV RX2 61 RX0 yX0_clear wsX0_clear) := goodIn_app (goodIn_of _ (by decide +kernel)) ggX2_city_X0_clear
theorem dX2_city_0 : decode cX2_city 0 = .ok (.aload_n 0, 1) := by decide +kernel
theorem dX2_city_1 : decode cX2_city 1 = .ok (.getfield 10, 3) := by decide +kernel
theorem dX2_city_4 : decode cX2_city 4 = .ok (.invokevirtual 68, 3) := by decide +kernel
theorem dX2_city_7 : decode cX2_city 7 = .ok (.ifCond .ne 6, 3) := by decide +kernel
theorem dX2_city_10 : decode cX2_city 10 = .ok (.bipush (-103), 2) := by decide +kernel
theorem dX2_city_12 : decode cX2_city 12 = .ok (.ireturn, 1) := by decide +kernel
theorem dX2_city_13 : decode cX2_city 13 = .ok (.aload_n 0, 1) := by decide +kernel
theorem dX2_city_14 : decode cX2_city 14 = .ok (.aload_n 0, 1) := by decide +kernel
theorem dX2_city_15 : decode cX2_city 15 = .ok (.getfield 10, 3) := by decide +kernel
theorem dX2_city_18 : decode cX2_city 18 = .ok (.invokevirtual 72, 3) := by decide +kernel
theorem dX2_city_21 : decode cX2_city 21 = .ok (.putfield 39, 3) := by decide +kernel
theorem dX2_city_24 : decode cX2_city 24 = .ok (.iconst 0, 1) := by decide +kernel
theorem dX2_city_25 : decode cX2_city 25 = .ok (.istore_n 1, 1) := by decide +kernel
theorem dX2_city_26 : decode cX2_city 26 = .ok (.iload_n 1, 1) := by decide +kernel
theorem dX2_city_27 : decode cX2_city 27 = .ok (.aload_n 0, 1) := by decide +kernel
theorem dX2_city_28 : decode cX2_city 28 = .ok (.getfield 39, 3) := by decide +kernel
theorem dX2_city_31 : decode cX2_city 31 = .ok (.if_icmp .ge 37, 3) := by decide +kernel
theorem dX2_city_34 : decode cX2_city 34 = .ok (.aload_n 0, 1) := by decide +kernel
theorem dX2_city_35 : decode cX2_city 35 = .ok (.getfield 16, 3) := by decide +kernel
theorem dX2_city_38 : decode cX2_city 38 = .ok (.iload_n 1, 1) := by decide +kernel
theorem dX2_city_39 : decode cX2_city 39 = .ok (.aload_n 0, 1) := by decide +kernel
theorem dX2_city_40 : decode cX2_city 40 = .ok (.getfield 10, 3) := by decide +kernel
theorem dX2_city_43 : decode cX2_city 43 = .ok (.iload_n 1, 1) := by decide +kernel
theorem dX2_city_44 : decode cX2_city 44 = .ok (.invokevirtual 75, 3) := by decide +kernel
theorem dX2_city_47 : decode cX2_city 47 = .ok (.iastore, 1) := by decide +kernel
theorem dX2_city_48 : decode cX2_city 48 = .ok (.aload_n 0, 1) := by decide +kernel
theorem dX2_city_49 : decode cX2_city 49 = .ok (.getfield 20, 3) := by decide +kernel
theorem dX2_city_52 : decode cX2_city 52 = .ok (.iload_n 1, 1) := by decide +kernel
theorem dX2_city_53 : decode cX2_city 53 = .ok (.aload_n 0, 1) := by decide +kernel
theorem dX2_city_54 : decode cX2_city 54 = .ok (.getfield 10, 3) := by decide +kernel
theorem dX2_city_57 : decode cX2_city 57 = .ok (.iload_n 1, 1) := by decide +kernel
theorem dX2_city_58 : decode cX2_city 58 = .ok (.invokevirtual 79, 3) := by decide +kernel
theorem dX2_city_61 : decode cX2_city 61 = .ok (.iastore, 1) := by decide +kernel
theorem dX2_city_62 : decode cX2_city 62 = .ok (.iinc 1 1, 3) := by decide +kernel
theorem dX2_city_65 : decode cX2_city 65 = .ok (.goto (-39), 3) := by decide +kernel
theorem dX2_city_68 : decode cX2_city 68 = .ok (.aload_n 0, 1) := by decide +kernel
theorem dX2_city_69 : decode cX2_city 69 = .ok (.getfield 26, 3) := by decide +kernel
theorem dX2_city_72 : decode cX2_city 72 = .ok (.aload_n 0, 1) := by decide +kernel
theorem dX2_city_73 : decode cX2_city 73 = .ok (.getfield 10, 3) := by decide +kernel
theorem dX2_city_76 : decode cX2_city 76 = .ok (.invokevirtual 82, 3) := by decide +kernel
theorem dX2_city_79 : decode cX2_city 79 = .ok (.invokevirtual 85, 3) := by decide +kernel
theorem dX2_city_82 : decode cX2_city 82 = .ok (.aload_n 0, 1) := by decide +kernel
theorem dX2_city_83 : decode cX2_city 83 = .ok (.iconst 0, 1) := by decide +kernel
theorem dX2_city_84 : decode cX2_city 84 = .ok (.putfield 46, 3) := by decide +kernel
theorem dX2_city_87 : decode cX2_city 87 = .ok (.aload_n 0, 1) := by decide +kernel
theorem dX2_city_88 : decode cX2_city 88 = .ok (.dup, 1) := by decide +kernel
theorem dX2_city_89 : decode cX2_city 89 = .ok (.getfield 43, 3) := by decide +kernel
theorem dX2_city_92 : decode cX2_city 92 = .ok (.iconst 1, 1) := by decide +kernel
theorem dX2_city_93 : decode cX2_city 93 = .ok (.iadd, 1) := by decide +kernel
theorem dX2_city_94 : decode cX2_city 94 = .ok (.putfield 43, 3) := by decide +kernel
theorem dX2_city_97 : decode cX2_city 97 = .ok (.aload_n 0, 1) := by decide +kernel
theorem dX2_city_98 : decode cX2_city 98 = .ok (.getfield 10, 3) := by decide +kernel
theorem dX2_city_101 : decode cX2_city 101 = .ok (.invokevirtual 61, 3) := by decide +kernel
theorem dX2_city_104 : decode cX2_city 104 = .ok (.pop, 1) := by decide +kernel
theorem dX2_city_105 : decode cX2_city 105 = .ok (.aload_n 0, 1) := by decide +kernel
theorem dX2_city_106 : decode cX2_city 106 = .ok (.getfield 39, 3) := by decide +kernel
theorem dX2_city_109 : decode cX2_city 109 = .ok (.ireturn, 1) := by decide +kernel
set_option maxRecDepth 20000 in
theorem ggX2_about_X2_isSite : GoodIn wsX2_about wsX2_isSite := goodIn_r _ [11, 12, 25, 26, 27, 28, 29, 30, 31, 32, 33, 34] (by decide +kernel) (by decide +kernel)
set_option maxRecDepth 20000 in
theorem gX2_about_X2_isSite : GoodIn wsX2_about (wsV RX2 89 RX2 yX2_isSite wsX2_isSite) := goodIn_app (goodIn_of _ (by decide +kernel)) ggX2_about_X2_isSite
set_option maxRecDepth 20000 in
theorem ggX2_about_X2_meltsNow : GoodIn wsX2_about wsX2_meltsNow := goodIn_r _ [16, 1, 3, 17, 5, 18, 19, 10, 20, 25, 26, 27, 28, 29, 30, 31, 32, 33, 34, 35, 36, 37, 38, 39, 40, 41, 42, 43, 44, 45, 46, 47] (by decide +kernel) (by decide +kernel)
set_option maxRecDepth 20000 in
theorem gX2_about_X2_meltsNow : GoodIn wsX2_about (wsV RX2 98 RX2 yX2_meltsNow wsX2_meltsNow) := goodIn_app (goodIn_of _ (by decide +kernel)) ggX2_about_X2_meltsNow
set_option maxRecDepth 20000 in
theorem ggX2_about_X2_isKeptWith : GoodIn wsX2_about wsX2_isKeptWith := goodIn_r _ [24, 2, 25, 26, 27, 28, 29, 30, 31, 32, 33, 34] (by decide +kernel) (by decide +kernel)
set_option maxRecDepth 20000 in
theorem gX2_about_X2_isKeptWith : GoodIn wsX2_about (wsV RX2 101 RX2 yX2_isKeptWith wsX2_isKeptWith) := goodIn_app (goodIn_of _ (by decide +kernel)) ggX2_about_X2_isKeptWith
theorem dX2_about_0 : decode cX2_about 0 = .ok (.aload_n 0, 1) := by decide +kernel
theorem dX2_about_1 : decode cX2_about 1 = .ok (.iload_n 1, 1) := by decide +kernel
theorem dX2_about_2 : decode cX2_about 2 = .ok (.invokevirtual 89, 3) := by decide +kernel
theorem dX2_about_5 : decode cX2_about 5 = .ok (.ifCond .ne 6, 3) := by decide +kernel
theorem dX2_about_8 : decode cX2_about 8 = .ok (.bipush (-101), 2) := by decide +kernel
theorem dX2_about_10 : decode cX2_about 10 = .ok (.ireturn, 1) := by decide +kernel
theorem dX2_about_11 : decode cX2_about 11 = .ok (.iload_n 2, 1) := by decide +kernel
theorem dX2_about_12 : decode cX2_about 12 = .ok (.tableswitch 117 0 6 #[44, 51, 58, 68, 78, 84, 107], 44) := by decide +kernel
theorem dX2_about_56 : decode cX2_about 56 = .ok (.aload_n 0, 1) := by decide +kernel
theorem dX2_about_57 : decode cX2_about 57 = .ok (.getfield 16, 3) := by decide +kernel
theorem dX2_about_60 : decode cX2_about 60 = .ok (.iload_n 1, 1) := by decide +kernel
theorem dX2_about_61 : decode cX2_about 61 = .ok (.iaload, 1) := by decide +kernel
theorem dX2_about_62 : decode cX2_about 62 = .ok (.ireturn, 1) := by decide +kernel
theorem dX2_about_63 : decode cX2_about 63 = .ok (.aload_n 0, 1) := by decide +kernel
theorem dX2_about_64 : decode cX2_about 64 = .ok (.getfield 20, 3) := by decide +kernel
theorem dX2_about_67 : decode cX2_about 67 = .ok (.iload_n 1, 1) := by decide +kernel
theorem dX2_about_68 : decode cX2_about 68 = .ok (.iaload, 1) := by decide +kernel
theorem dX2_about_69 : decode cX2_about 69 = .ok (.ireturn, 1) := by decide +kernel
theorem dX2_about_70 : decode cX2_about 70 = .ok (.aload_n 0, 1) := by decide +kernel
theorem dX2_about_71 : decode cX2_about 71 = .ok (.getfield 26, 3) := by decide +kernel
theorem dX2_about_74 : decode cX2_about 74 = .ok (.getfield 92, 3) := by decide +kernel
theorem dX2_about_77 : decode cX2_about 77 = .ok (.iload_n 1, 1) := by decide +kernel
theorem dX2_about_78 : decode cX2_about 78 = .ok (.iaload, 1) := by decide +kernel
theorem dX2_about_79 : decode cX2_about 79 = .ok (.ireturn, 1) := by decide +kernel
theorem dX2_about_80 : decode cX2_about 80 = .ok (.aload_n 0, 1) := by decide +kernel
theorem dX2_about_81 : decode cX2_about 81 = .ok (.getfield 26, 3) := by decide +kernel
theorem dX2_about_84 : decode cX2_about 84 = .ok (.getfield 95, 3) := by decide +kernel
theorem dX2_about_87 : decode cX2_about 87 = .ok (.iload_n 1, 1) := by decide +kernel
theorem dX2_about_88 : decode cX2_about 88 = .ok (.iaload, 1) := by decide +kernel
theorem dX2_about_89 : decode cX2_about 89 = .ok (.ireturn, 1) := by decide +kernel
theorem dX2_about_90 : decode cX2_about 90 = .ok (.aload_n 0, 1) := by decide +kernel
theorem dX2_about_91 : decode cX2_about 91 = .ok (.iload_n 1, 1) := by decide +kernel
theorem dX2_about_92 : decode cX2_about 92 = .ok (.invokevirtual 98, 3) := by decide +kernel
theorem dX2_about_95 : decode cX2_about 95 = .ok (.ireturn, 1) := by decide +kernel
theorem dX2_about_96 : decode cX2_about 96 = .ok (.aload_n 0, 1) := by decide +kernel
theorem dX2_about_97 : decode cX2_about 97 = .ok (.iload_n 1, 1) := by decide +kernel
theorem dX2_about_98 : decode cX2_about 98 = .ok (.aload_n 0, 1) := by decide +kernel
theorem dX2_about_99 : decode cX2_about 99 = .ok (.getfield 26, 3) := by decide +kernel
theorem dX2_about_102 : decode cX2_about 102 = .ok (.getfield 92, 3) := by decide +kernel
theorem dX2_about_105 : decode cX2_about 105 = .ok (.iload_n 1, 1) := by decide +kernel
theorem dX2_about_106 : decode cX2_about 106 = .ok (.iaload, 1) := by decide +kernel
theorem dX2_about_107 : decode cX2_about 107 = .ok (.invokevirtual 101, 3) := by decide +kernel
theorem dX2_about_110 : decode cX2_about 110 = .ok (.ifCond .eq 7, 3) := by decide +kernel
theorem dX2_about_113 : decode cX2_about 113 = .ok (.iconst 1, 1) := by decide +kernel
theorem dX2_about_114 : decode cX2_about 114 = .ok (.goto 4, 3) := by decide +kernel
theorem dX2_about_117 : decode cX2_about 117 = .ok (.iconst 0, 1) := by decide +kernel
theorem dX2_about_118 : decode cX2_about 118 = .ok (.ireturn, 1) := by decide +kernel
theorem dX2_about_119 : decode cX2_about 119 = .ok (.aload_n 0, 1) := by decide +kernel
theorem dX2_about_120 : decode cX2_about 120 = .ok (.getfield 26, 3) := by decide +kernel
theorem dX2_about_123 : decode cX2_about 123 = .ok (.getfield 105, 3) := by decide +kernel
theorem dX2_about_126 : decode cX2_about 126 = .ok (.iload_n 1, 1) := by decide +kernel
theorem dX2_about_127 : decode cX2_about 127 = .ok (.iaload, 1) := by decide +kernel
theorem dX2_about_128 : decode cX2_about 128 = .ok (.ireturn, 1) := by decide +kernel
theorem dX2_about_129 : decode cX2_about 129 = .ok (.bipush (-102), 2) := by decide +kernel
theorem dX2_about_131 : decode cX2_about 131 = .ok (.ireturn, 1) := by decide +kernel
set_option maxRecDepth 20000 in
theorem ggX2_as_X2_isSite : GoodIn wsX2_as wsX2_isSite := goodIn_r _ [6, 7, 14, 15, 16, 17, 18, 19, 20, 21, 22, 23] (by decide +kernel) (by decide +kernel)
set_option maxRecDepth 20000 in
theorem gX2_as_X2_isSite : GoodIn wsX2_as (wsV RX2 89 RX2 yX2_isSite wsX2_isSite) := goodIn_app (goodIn_of _ (by decide +kernel)) ggX2_as_X2_isSite
set_option maxRecDepth 20000 in
theorem ggX2_as_X2_isWithin : GoodIn wsX2_as wsX2_isWithin := goodIn_r _ [10] (by decide +kernel) (by decide +kernel)
set_option maxRecDepth 20000 in
theorem gX2_as_X2_isWithin : GoodIn wsX2_as (va_wsS RX2 50 yX2_isWithin wsX2_isWithin) := goodIn_app (goodIn_of _ (by decide +kernel)) ggX2_as_X2_isWithin
set_option maxRecDepth 20000 in
theorem ggX2_as_X2_isOfKind : GoodIn wsX2_as wsX2_isOfKind := goodIn_r _ [13] (by decide +kernel) (by decide +kernel)
set_option maxRecDepth 20000 in
theorem gX2_as_X2_isOfKind : GoodIn wsX2_as (va_wsS RX2 108 yX2_isOfKind wsX2_isOfKind) := goodIn_app (goodIn_of _ (by decide +kernel)) ggX2_as_X2_isOfKind
theorem dX2_as_0 : decode cX2_as 0 = .ok (.aload_n 0, 1) := by decide +kernel
theorem dX2_as_1 : decode cX2_as 1 = .ok (.iload_n 1, 1) := by decide +kernel
theorem dX2_as_2 : decode cX2_as 2 = .ok (.invokevirtual 89, 3) := by decide +kernel
theorem dX2_as_5 : decode cX2_as 5 = .ok (.ifCond .ne 6, 3) := by decide +kernel
theorem dX2_as_8 : decode cX2_as 8 = .ok (.bipush (-101), 2) := by decide +kernel
theorem dX2_as_10 : decode cX2_as 10 = .ok (.ireturn, 1) := by decide +kernel
theorem dX2_as_11 : decode cX2_as 11 = .ok (.iload_n 2, 1) := by decide +kernel
theorem dX2_as_12 : decode cX2_as 12 = .ok (.iconst 0, 1) := by decide +kernel
theorem dX2_as_13 : decode cX2_as 13 = .ok (.iconst 4, 1) := by decide +kernel
theorem dX2_as_14 : decode cX2_as 14 = .ok (.invokestatic 50, 3) := by decide +kernel
theorem dX2_as_17 : decode cX2_as 17 = .ok (.ifCond .ne 6, 3) := by decide +kernel
theorem dX2_as_20 : decode cX2_as 20 = .ok (.bipush (-102), 2) := by decide +kernel
theorem dX2_as_22 : decode cX2_as 22 = .ok (.ireturn, 1) := by decide +kernel
theorem dX2_as_23 : decode cX2_as 23 = .ok (.aload_n 0, 1) := by decide +kernel
theorem dX2_as_24 : decode cX2_as 24 = .ok (.getfield 16, 3) := by decide +kernel
theorem dX2_as_27 : decode cX2_as 27 = .ok (.iload_n 1, 1) := by decide +kernel
theorem dX2_as_28 : decode cX2_as 28 = .ok (.iaload, 1) := by decide +kernel
theorem dX2_as_29 : decode cX2_as 29 = .ok (.iload_n 2, 1) := by decide +kernel
theorem dX2_as_30 : decode cX2_as 30 = .ok (.invokestatic 108, 3) := by decide +kernel
theorem dX2_as_33 : decode cX2_as 33 = .ok (.ifCond .eq 7, 3) := by decide +kernel
theorem dX2_as_36 : decode cX2_as 36 = .ok (.iload_n 1, 1) := by decide +kernel
theorem dX2_as_37 : decode cX2_as 37 = .ok (.goto 4, 3) := by decide +kernel
theorem dX2_as_40 : decode cX2_as 40 = .ok (.iconst (-1), 1) := by decide +kernel
theorem dX2_as_41 : decode cX2_as 41 = .ok (.ireturn, 1) := by decide +kernel
set_option maxRecDepth 20000 in
theorem ggX2_bring_X2_isSite : GoodIn wsX2_bring wsX2_isSite := goodIn_r _ [9, 10, 24, 25, 26, 27, 28, 29, 30, 31, 32, 33] (by decide +kernel) (by decide +kernel)
set_option maxRecDepth 20000 in
theorem gX2_bring_X2_isSite : GoodIn wsX2_bring (wsV RX2 89 RX2 yX2_isSite wsX2_isSite) := goodIn_app (goodIn_of _ (by decide +kernel)) ggX2_bring_X2_isSite
set_option maxRecDepth 20000 in
theorem ggX2_bring_X2_isWithin : GoodIn wsX2_bring wsX2_isWithin := goodIn_r _ [13] (by decide +kernel) (by decide +kernel)
set_option maxRecDepth 20000 in
theorem gX2_bring_X2_isWithin : GoodIn wsX2_bring (va_wsS RX2 50 yX2_isWithin wsX2_isWithin) := goodIn_app (goodIn_of _ (by decide +kernel)) ggX2_bring_X2_isWithin
set_option maxRecDepth 20000 in
theorem ggX2_bring_X2_deepened : GoodIn wsX2_bring wsX2_deepened := goodIn_r _ [16, 17, 18, 19, 20] (by decide +kernel) (by decide +kernel)
set_option maxRecDepth 20000 in
theorem gX2_bring_X2_deepened : GoodIn wsX2_bring (va_wsS RX2 111 yX2_deepened wsX2_deepened) := goodIn_app (goodIn_of _ (by decide +kernel)) ggX2_bring_X2_deepened
set_option maxRecDepth 20000 in
theorem ggX2_bring_X2_priceAt : GoodIn wsX2_bring wsX2_priceAt := goodIn_r _ [23] (by decide +kernel) (by decide +kernel)
set_option maxRecDepth 20000 in
theorem gX2_bring_X2_priceAt : GoodIn wsX2_bring (va_wsS RX2 118 yX2_priceAt wsX2_priceAt) := goodIn_app (goodIn_of _ (by decide +kernel)) ggX2_bring_X2_priceAt
theorem dX2_bring_0 : decode cX2_bring 0 = .ok (.aload_n 0, 1) := by decide +kernel
theorem dX2_bring_1 : decode cX2_bring 1 = .ok (.iload_n 1, 1) := by decide +kernel
theorem dX2_bring_2 : decode cX2_bring 2 = .ok (.invokevirtual 89, 3) := by decide +kernel
theorem dX2_bring_5 : decode cX2_bring 5 = .ok (.ifCond .ne 6, 3) := by decide +kernel
theorem dX2_bring_8 : decode cX2_bring 8 = .ok (.bipush (-101), 2) := by decide +kernel
theorem dX2_bring_10 : decode cX2_bring 10 = .ok (.ireturn, 1) := by decide +kernel
theorem dX2_bring_11 : decode cX2_bring 11 = .ok (.iload_n 2, 1) := by decide +kernel
theorem dX2_bring_12 : decode cX2_bring 12 = .ok (.iconst 1, 1) := by decide +kernel
theorem dX2_bring_13 : decode cX2_bring 13 = .ok (.bipush 9, 2) := by decide +kernel
theorem dX2_bring_15 : decode cX2_bring 15 = .ok (.invokestatic 50, 3) := by decide +kernel
theorem dX2_bring_18 : decode cX2_bring 18 = .ok (.ifCond .ne 6, 3) := by decide +kernel
theorem dX2_bring_21 : decode cX2_bring 21 = .ok (.bipush (-102), 2) := by decide +kernel
theorem dX2_bring_23 : decode cX2_bring 23 = .ok (.ireturn, 1) := by decide +kernel
theorem dX2_bring_24 : decode cX2_bring 24 = .ok (.aload_n 0, 1) := by decide +kernel
theorem dX2_bring_25 : decode cX2_bring 25 = .ok (.getfield 26, 3) := by decide +kernel
theorem dX2_bring_28 : decode cX2_bring 28 = .ok (.getfield 105, 3) := by decide +kernel
theorem dX2_bring_31 : decode cX2_bring 31 = .ok (.iload_n 1, 1) := by decide +kernel
theorem dX2_bring_32 : decode cX2_bring 32 = .ok (.iaload, 1) := by decide +kernel
theorem dX2_bring_33 : decode cX2_bring 33 = .ok (.iload_n 2, 1) := by decide +kernel
theorem dX2_bring_34 : decode cX2_bring 34 = .ok (.iadd, 1) := by decide +kernel
theorem dX2_bring_35 : decode cX2_bring 35 = .ok (.bipush 99, 2) := by decide +kernel
theorem dX2_bring_37 : decode cX2_bring 37 = .ok (.if_icmp .le 6, 3) := by decide +kernel
theorem dX2_bring_40 : decode cX2_bring 40 = .ok (.bipush (-104), 2) := by decide +kernel
theorem dX2_bring_42 : decode cX2_bring 42 = .ok (.ireturn, 1) := by decide +kernel
theorem dX2_bring_43 : decode cX2_bring 43 = .ok (.aload_n 0, 1) := by decide +kernel
theorem dX2_bring_44 : decode cX2_bring 44 = .ok (.getfield 26, 3) := by decide +kernel
theorem dX2_bring_47 : decode cX2_bring 47 = .ok (.getfield 105, 3) := by decide +kernel
theorem dX2_bring_50 : decode cX2_bring 50 = .ok (.iload_n 1, 1) := by decide +kernel
theorem dX2_bring_51 : decode cX2_bring 51 = .ok (.dup2, 1) := by decide +kernel
theorem dX2_bring_52 : decode cX2_bring 52 = .ok (.iaload, 1) := by decide +kernel
theorem dX2_bring_53 : decode cX2_bring 53 = .ok (.iload_n 2, 1) := by decide +kernel
theorem dX2_bring_54 : decode cX2_bring 54 = .ok (.iadd, 1) := by decide +kernel
theorem dX2_bring_55 : decode cX2_bring 55 = .ok (.iastore, 1) := by decide +kernel
theorem dX2_bring_56 : decode cX2_bring 56 = .ok (.aload_n 0, 1) := by decide +kernel
theorem dX2_bring_57 : decode cX2_bring 57 = .ok (.getfield 26, 3) := by decide +kernel
theorem dX2_bring_60 : decode cX2_bring 60 = .ok (.getfield 92, 3) := by decide +kernel
theorem dX2_bring_63 : decode cX2_bring 63 = .ok (.iload_n 1, 1) := by decide +kernel
theorem dX2_bring_64 : decode cX2_bring 64 = .ok (.aload_n 0, 1) := by decide +kernel
theorem dX2_bring_65 : decode cX2_bring 65 = .ok (.getfield 26, 3) := by decide +kernel
theorem dX2_bring_68 : decode cX2_bring 68 = .ok (.getfield 92, 3) := by decide +kernel
theorem dX2_bring_71 : decode cX2_bring 71 = .ok (.iload_n 1, 1) := by decide +kernel
theorem dX2_bring_72 : decode cX2_bring 72 = .ok (.iaload, 1) := by decide +kernel
theorem dX2_bring_73 : decode cX2_bring 73 = .ok (.iload_n 2, 1) := by decide +kernel
theorem dX2_bring_74 : decode cX2_bring 74 = .ok (.invokestatic 111, 3) := by decide +kernel
theorem dX2_bring_77 : decode cX2_bring 77 = .ok (.iastore, 1) := by decide +kernel
theorem dX2_bring_78 : decode cX2_bring 78 = .ok (.aload_n 0, 1) := by decide +kernel
theorem dX2_bring_79 : decode cX2_bring 79 = .ok (.getfield 26, 3) := by decide +kernel
theorem dX2_bring_82 : decode cX2_bring 82 = .ok (.dup, 1) := by decide +kernel
theorem dX2_bring_83 : decode cX2_bring 83 = .ok (.getfield 115, 3) := by decide +kernel
theorem dX2_bring_86 : decode cX2_bring 86 = .ok (.iload_n 2, 1) := by decide +kernel
theorem dX2_bring_87 : decode cX2_bring 87 = .ok (.iload_n 1, 1) := by decide +kernel
theorem dX2_bring_88 : decode cX2_bring 88 = .ok (.invokestatic 118, 3) := by decide +kernel
theorem dX2_bring_91 : decode cX2_bring 91 = .ok (.imul, 1) := by decide +kernel
theorem dX2_bring_92 : decode cX2_bring 92 = .ok (.iadd, 1) := by decide +kernel
theorem dX2_bring_93 : decode cX2_bring 93 = .ok (.putfield 115, 3) := by decide +kernel
theorem dX2_bring_96 : decode cX2_bring 96 = .ok (.aload_n 0, 1) := by decide +kernel
theorem dX2_bring_97 : decode cX2_bring 97 = .ok (.getfield 26, 3) := by decide +kernel
theorem dX2_bring_100 : decode cX2_bring 100 = .ok (.getfield 92, 3) := by decide +kernel
theorem dX2_bring_103 : decode cX2_bring 103 = .ok (.iload_n 1, 1) := by decide +kernel
theorem dX2_bring_104 : decode cX2_bring 104 = .ok (.iaload, 1) := by decide +kernel
theorem dX2_bring_105 : decode cX2_bring 105 = .ok (.ireturn, 1) := by decide +kernel
set_option maxRecDepth 20000 in
theorem ggX2_tread_X2_isSite : GoodIn wsX2_tread wsX2_isSite := goodIn_r _ [7, 8, 12, 13, 14, 15, 16, 17, 18, 19, 20, 21] (by decide +kernel) (by decide +kernel)
set_option maxRecDepth 20000 in
theorem gX2_tread_X2_isSite : GoodIn wsX2_tread (wsV RX2 89 RX2 yX2_isSite wsX2_isSite) := goodIn_app (goodIn_of _ (by decide +kernel)) ggX2_tread_X2_isSite
set_option maxRecDepth 20000 in
theorem ggX2_tread_X2_isWithin : GoodIn wsX2_tread wsX2_isWithin := goodIn_r _ [11] (by decide +kernel) (by decide +kernel)
set_option maxRecDepth 20000 in
theorem gX2_tread_X2_isWithin : GoodIn wsX2_tread (va_wsS RX2 50 yX2_isWithin wsX2_isWithin) := goodIn_app (goodIn_of _ (by decide +kernel)) ggX2_tread_X2_isWithin
theorem dX2_tread_0 : decode cX2_tread 0 = .ok (.aload_n 0, 1) := by decide +kernel
theorem dX2_tread_1 : decode cX2_tread 1 = .ok (.iload_n 1, 1) := by decide +kernel
theorem dX2_tread_2 : decode cX2_tread 2 = .ok (.invokevirtual 89, 3) := by decide +kernel
theorem dX2_tread_5 : decode cX2_tread 5 = .ok (.ifCond .ne 6, 3) := by decide +kernel
theorem dX2_tread_8 : decode cX2_tread 8 = .ok (.bipush (-101), 2) := by decide +kernel
theorem dX2_tread_10 : decode cX2_tread 10 = .ok (.ireturn, 1) := by decide +kernel
theorem dX2_tread_11 : decode cX2_tread 11 = .ok (.iload_n 2, 1) := by decide +kernel
theorem dX2_tread_12 : decode cX2_tread 12 = .ok (.iconst 0, 1) := by decide +kernel
theorem dX2_tread_13 : decode cX2_tread 13 = .ok (.bipush 9, 2) := by decide +kernel
theorem dX2_tread_15 : decode cX2_tread 15 = .ok (.invokestatic 50, 3) := by decide +kernel
theorem dX2_tread_18 : decode cX2_tread 18 = .ok (.ifCond .ne 6, 3) := by decide +kernel
theorem dX2_tread_21 : decode cX2_tread 21 = .ok (.bipush (-102), 2) := by decide +kernel
theorem dX2_tread_23 : decode cX2_tread 23 = .ok (.ireturn, 1) := by decide +kernel
theorem dX2_tread_24 : decode cX2_tread 24 = .ok (.aload_n 0, 1) := by decide +kernel
theorem dX2_tread_25 : decode cX2_tread 25 = .ok (.getfield 26, 3) := by decide +kernel
theorem dX2_tread_28 : decode cX2_tread 28 = .ok (.getfield 95, 3) := by decide +kernel
theorem dX2_tread_31 : decode cX2_tread 31 = .ok (.iload_n 1, 1) := by decide +kernel
theorem dX2_tread_32 : decode cX2_tread 32 = .ok (.iaload, 1) := by decide +kernel
theorem dX2_tread_33 : decode cX2_tread 33 = .ok (.istore_n 3, 1) := by decide +kernel
theorem dX2_tread_34 : decode cX2_tread 34 = .ok (.aload_n 0, 1) := by decide +kernel
theorem dX2_tread_35 : decode cX2_tread 35 = .ok (.getfield 26, 3) := by decide +kernel
theorem dX2_tread_38 : decode cX2_tread 38 = .ok (.getfield 95, 3) := by decide +kernel
theorem dX2_tread_41 : decode cX2_tread 41 = .ok (.iload_n 1, 1) := by decide +kernel
theorem dX2_tread_42 : decode cX2_tread 42 = .ok (.iload_n 2, 1) := by decide +kernel
theorem dX2_tread_43 : decode cX2_tread 43 = .ok (.iastore, 1) := by decide +kernel
theorem dX2_tread_44 : decode cX2_tread 44 = .ok (.iload_n 3, 1) := by decide +kernel
theorem dX2_tread_45 : decode cX2_tread 45 = .ok (.ireturn, 1) := by decide +kernel
set_option maxRecDepth 20000 in
theorem ggX2_sun_X2_isWithin : GoodIn wsX2_sun wsX2_isWithin := goodIn_r _ [7] (by decide +kernel) (by decide +kernel)
set_option maxRecDepth 20000 in
theorem gX2_sun_X2_isWithin : GoodIn wsX2_sun (va_wsS RX2 50 yX2_isWithin wsX2_isWithin) := goodIn_app (goodIn_of _ (by decide +kernel)) ggX2_sun_X2_isWithin
theorem dX2_sun_0 : decode cX2_sun 0 = .ok (.iload_n 1, 1) := by decide +kernel
theorem dX2_sun_1 : decode cX2_sun 1 = .ok (.iconst 0, 1) := by decide +kernel
theorem dX2_sun_2 : decode cX2_sun 2 = .ok (.bipush 9, 2) := by decide +kernel
theorem dX2_sun_4 : decode cX2_sun 4 = .ok (.invokestatic 50, 3) := by decide +kernel
theorem dX2_sun_7 : decode cX2_sun 7 = .ok (.ifCond .ne 6, 3) := by decide +kernel
theorem dX2_sun_10 : decode cX2_sun 10 = .ok (.bipush (-102), 2) := by decide +kernel
theorem dX2_sun_12 : decode cX2_sun 12 = .ok (.ireturn, 1) := by decide +kernel
theorem dX2_sun_13 : decode cX2_sun 13 = .ok (.aload_n 0, 1) := by decide +kernel
theorem dX2_sun_14 : decode cX2_sun 14 = .ok (.getfield 39, 3) := by decide +kernel
theorem dX2_sun_17 : decode cX2_sun 17 = .ok (.ifCond .ne 6, 3) := by decide +kernel
theorem dX2_sun_20 : decode cX2_sun 20 = .ok (.bipush (-103), 2) := by decide +kernel
theorem dX2_sun_22 : decode cX2_sun 22 = .ok (.ireturn, 1) := by decide +kernel
theorem dX2_sun_23 : decode cX2_sun 23 = .ok (.aload_n 0, 1) := by decide +kernel
theorem dX2_sun_24 : decode cX2_sun 24 = .ok (.getfield 26, 3) := by decide +kernel
theorem dX2_sun_27 : decode cX2_sun 27 = .ok (.getfield 121, 3) := by decide +kernel
theorem dX2_sun_30 : decode cX2_sun 30 = .ok (.istore_n 2, 1) := by decide +kernel
theorem dX2_sun_31 : decode cX2_sun 31 = .ok (.aload_n 0, 1) := by decide +kernel
theorem dX2_sun_32 : decode cX2_sun 32 = .ok (.getfield 26, 3) := by decide +kernel
theorem dX2_sun_35 : decode cX2_sun 35 = .ok (.iload_n 1, 1) := by decide +kernel
theorem dX2_sun_36 : decode cX2_sun 36 = .ok (.putfield 121, 3) := by decide +kernel
theorem dX2_sun_39 : decode cX2_sun 39 = .ok (.iload_n 2, 1) := by decide +kernel
theorem dX2_sun_40 : decode cX2_sun 40 = .ok (.ireturn, 1) := by decide +kernel
set_option maxRecDepth 20000 in
theorem ggX2_day_X2_meltAll : GoodIn wsX2_day wsX2_meltAll := goodIn_r _ [9, 1, 10, 2, 11, 12, 13, 8, 14, 15, 16, 17, 18, 19, 20, 21, 22, 23, 24, 25, 26, 37, 38, 39, 40, 41, 42, 43, 44, 45, 46, 47, 48, 49, 50, 51, 52, 53, 54, 55, 56, 57, 58, 59] (by decide +kernel) (by decide +kernel)
set_option maxRecDepth 20000 in
theorem gX2_day_X2_meltAll : GoodIn wsX2_day (wsV RX2 124 RX2 yX2_meltAll wsX2_meltAll) := goodIn_app (goodIn_of _ (by decide +kernel)) ggX2_day_X2_meltAll
set_option maxRecDepth 20000 in
theorem ggX2_day_X1_endDay : GoodIn wsX2_day wsX1_endDay := goodIn_r _ [31, 32, 33, 34, 35, 36, 47, 48, 49, 50, 51, 52, 53, 54, 55, 56, 57, 58, 59] (by decide +kernel) (by decide +kernel)
set_option maxRecDepth 20000 in
theorem gX2_day_X1_endDay : GoodIn wsX2_day (wsV RX2 128 RX1 yX1_endDay wsX1_endDay) := goodIn_app (goodIn_of _ (by decide +kernel)) ggX2_day_X1_endDay
theorem dX2_day_0 : decode cX2_day 0 = .ok (.aload_n 0, 1) := by decide +kernel
theorem dX2_day_1 : decode cX2_day 1 = .ok (.getfield 39, 3) := by decide +kernel
theorem dX2_day_4 : decode cX2_day 4 = .ok (.ifCond .ne 6, 3) := by decide +kernel
theorem dX2_day_7 : decode cX2_day 7 = .ok (.bipush (-103), 2) := by decide +kernel
theorem dX2_day_9 : decode cX2_day 9 = .ok (.ireturn, 1) := by decide +kernel
theorem dX2_day_10 : decode cX2_day 10 = .ok (.aload_n 0, 1) := by decide +kernel
theorem dX2_day_11 : decode cX2_day 11 = .ok (.aload_n 0, 1) := by decide +kernel
theorem dX2_day_12 : decode cX2_day 12 = .ok (.getfield 26, 3) := by decide +kernel
theorem dX2_day_15 : decode cX2_day 15 = .ok (.getfield 92, 3) := by decide +kernel
theorem dX2_day_18 : decode cX2_day 18 = .ok (.aload_n 0, 1) := by decide +kernel
theorem dX2_day_19 : decode cX2_day 19 = .ok (.getfield 26, 3) := by decide +kernel
theorem dX2_day_22 : decode cX2_day 22 = .ok (.getfield 121, 3) := by decide +kernel
theorem dX2_day_25 : decode cX2_day 25 = .ok (.invokevirtual 124, 3) := by decide +kernel
theorem dX2_day_28 : decode cX2_day 28 = .ok (.istore_n 1, 1) := by decide +kernel
theorem dX2_day_29 : decode cX2_day 29 = .ok (.aload_n 0, 1) := by decide +kernel
theorem dX2_day_30 : decode cX2_day 30 = .ok (.getfield 26, 3) := by decide +kernel
theorem dX2_day_33 : decode cX2_day 33 = .ok (.iload_n 1, 1) := by decide +kernel
theorem dX2_day_34 : decode cX2_day 34 = .ok (.invokevirtual 128, 3) := by decide +kernel
theorem dX2_day_37 : decode cX2_day 37 = .ok (.iload_n 1, 1) := by decide +kernel
theorem dX2_day_38 : decode cX2_day 38 = .ok (.ireturn, 1) := by decide +kernel
set_option maxRecDepth 20000 in
theorem ggX2_need_X2_isSite : GoodIn wsX2_need wsX2_isSite := goodIn_r _ [5, 6, 31, 32, 33, 34, 35, 36, 37, 38, 39, 40] (by decide +kernel) (by decide +kernel)
set_option maxRecDepth 20000 in
theorem gX2_need_X2_isSite : GoodIn wsX2_need (wsV RX2 89 RX2 yX2_isSite wsX2_isSite) := goodIn_app (goodIn_of _ (by decide +kernel)) ggX2_need_X2_isSite
set_option maxRecDepth 20000 in
theorem ggX2_need_X2_isWithin : GoodIn wsX2_need wsX2_isWithin := goodIn_r _ [9] (by decide +kernel) (by decide +kernel)
set_option maxRecDepth 20000 in
theorem gX2_need_X2_isWithin : GoodIn wsX2_need (va_wsS RX2 50 yX2_isWithin wsX2_isWithin) := goodIn_app (goodIn_of _ (by decide +kernel)) ggX2_need_X2_isWithin
set_option maxRecDepth 20000 in
theorem ggX2_need_X2_loadsNeeded : GoodIn wsX2_need wsX2_loadsNeeded := goodIn_r _ [13, 14, 15, 16, 17, 18, 19, 20, 21, 22, 23, 4, 24, 25, 26, 27, 28, 29, 30, 31, 32, 33, 34, 35, 36, 37, 38, 39, 40, 41, 42, 43, 44, 45, 46, 47, 48, 49, 50, 51, 52, 53] (by decide +kernel) (by decide +kernel)
set_option maxRecDepth 20000 in
theorem gX2_need_X2_loadsNeeded : GoodIn wsX2_need (wsV RX2 131 RX2 yX2_loadsNeeded wsX2_loadsNeeded) := goodIn_app (goodIn_of _ (by decide +kernel)) ggX2_need_X2_loadsNeeded
theorem dX2_need_0 : decode cX2_need 0 = .ok (.aload_n 0, 1) := by decide +kernel
theorem dX2_need_1 : decode cX2_need 1 = .ok (.iload_n 1, 1) := by decide +kernel
theorem dX2_need_2 : decode cX2_need 2 = .ok (.invokevirtual 89, 3) := by decide +kernel
theorem dX2_need_5 : decode cX2_need 5 = .ok (.ifCond .ne 6, 3) := by decide +kernel
theorem dX2_need_8 : decode cX2_need 8 = .ok (.bipush (-101), 2) := by decide +kernel
theorem dX2_need_10 : decode cX2_need 10 = .ok (.ireturn, 1) := by decide +kernel
theorem dX2_need_11 : decode cX2_need 11 = .ok (.iload_n 2, 1) := by decide +kernel
theorem dX2_need_12 : decode cX2_need 12 = .ok (.iconst 0, 1) := by decide +kernel
theorem dX2_need_13 : decode cX2_need 13 = .ok (.bipush 9, 2) := by decide +kernel
theorem dX2_need_15 : decode cX2_need 15 = .ok (.invokestatic 50, 3) := by decide +kernel
theorem dX2_need_18 : decode cX2_need 18 = .ok (.ifCond .ne 6, 3) := by decide +kernel
theorem dX2_need_21 : decode cX2_need 21 = .ok (.bipush (-102), 2) := by decide +kernel
theorem dX2_need_23 : decode cX2_need 23 = .ok (.ireturn, 1) := by decide +kernel
theorem dX2_need_24 : decode cX2_need 24 = .ok (.aload_n 0, 1) := by decide +kernel
theorem dX2_need_25 : decode cX2_need 25 = .ok (.iload_n 1, 1) := by decide +kernel
theorem dX2_need_26 : decode cX2_need 26 = .ok (.iload_n 2, 1) := by decide +kernel
theorem dX2_need_27 : decode cX2_need 27 = .ok (.invokevirtual 131, 3) := by decide +kernel
theorem dX2_need_30 : decode cX2_need 30 = .ok (.ireturn, 1) := by decide +kernel
set_option maxRecDepth 20000 in
theorem ggX2_plan_X2_isWithin : GoodIn wsX2_plan wsX2_isWithin := goodIn_r _ [5] (by decide +kernel) (by decide +kernel)
set_option maxRecDepth 20000 in
theorem gX2_plan_X2_isWithin : GoodIn wsX2_plan (va_wsS RX2 50 yX2_isWithin wsX2_isWithin) := goodIn_app (goodIn_of _ (by decide +kernel)) ggX2_plan_X2_isWithin
set_option maxRecDepth 20000 in
theorem ggX2_plan_X2_tellNeeds : GoodIn wsX2_plan wsX2_tellNeeds := goodIn_r _ [9, 1, 10, 11, 12, 13, 4, 14, 15, 16, 17, 18, 19, 20, 21, 22, 23, 24, 25, 26, 27, 28, 29, 30, 31, 61, 62, 63, 64, 65, 66, 67, 68, 69, 70, 71, 72, 73, 74, 75, 76, 77, 78, 79, 80, 81, 82, 83] (by decide +kernel) (by decide +kernel)
set_option maxRecDepth 20000 in
theorem gX2_plan_X2_tellNeeds : GoodIn wsX2_plan (wsV RX2 134 RX2 yX2_tellNeeds wsX2_tellNeeds) := goodIn_app (goodIn_of _ (by decide +kernel)) ggX2_plan_X2_tellNeeds
set_option maxRecDepth 20000 in
theorem ggX2_plan_X2_bestPlan : GoodIn wsX2_plan wsX2_bestPlan := goodIn_r _ [35, 1, 36, 37, 38, 4, 39, 10, 40, 41, 42, 43, 44, 45, 46, 47, 48, 49, 50, 51, 52, 53, 54, 55, 56, 57, 58, 59, 60, 61, 62, 63, 64, 65, 66, 67, 68, 69, 70] (by decide +kernel) (by decide +kernel)
set_option maxRecDepth 20000 in
theorem gX2_plan_X2_bestPlan : GoodIn wsX2_plan (wsV RX2 137 RX2 yX2_bestPlan wsX2_bestPlan) := goodIn_app (goodIn_of _ (by decide +kernel)) ggX2_plan_X2_bestPlan
set_option maxRecDepth 20000 in
theorem ggX2_plan_J6_bitCount_0f7a4 : GoodIn wsX2_plan wsJ6_bitCount_0f7a4 := goodIn_r _ [50, 51, 52, 53] (by decide +kernel) (by decide +kernel)
set_option maxRecDepth 20000 in
theorem gX2_plan_J6_bitCount_0f7a4 : GoodIn wsX2_plan (va_wsS RX2 140 yJ6_bitCount_0f7a4 wsJ6_bitCount_0f7a4) := goodIn_app (goodIn_of _ (by decide +kernel)) ggX2_plan_J6_bitCount_0f7a4
set_option maxRecDepth 20000 in
theorem ggX2_plan_X2_loadsOf : GoodIn wsX2_plan wsX2_loadsOf := goodIn_r _ [39, 1, 10, 40, 41, 4, 42, 61, 62, 63, 64, 65, 66, 67, 68, 69, 70] (by decide +kernel) (by decide +kernel)
set_option maxRecDepth 20000 in
theorem gX2_plan_X2_loadsOf : GoodIn wsX2_plan (wsV RX2 145 RX2 yX2_loadsOf wsX2_loadsOf) := goodIn_app (goodIn_of _ (by decide +kernel)) ggX2_plan_X2_loadsOf
set_option maxRecDepth 20000 in
theorem ggX2_plan_X2_costOf : GoodIn wsX2_plan wsX2_costOf := goodIn_r _ [57, 1, 10, 40, 41, 4, 42, 58, 59, 60, 61, 62, 63, 64, 65, 66, 67, 68, 69, 70] (by decide +kernel) (by decide +kernel)
set_option maxRecDepth 20000 in
theorem gX2_plan_X2_costOf : GoodIn wsX2_plan (wsV RX2 148 RX2 yX2_costOf wsX2_costOf) := goodIn_app (goodIn_of _ (by decide +kernel)) ggX2_plan_X2_costOf
theorem dX2_plan_0 : decode cX2_plan 0 = .ok (.iload_n 1, 1) := by decide +kernel
theorem dX2_plan_1 : decode cX2_plan 1 = .ok (.iconst 0, 1) := by decide +kernel
theorem dX2_plan_2 : decode cX2_plan 2 = .ok (.bipush 60, 2) := by decide +kernel
theorem dX2_plan_4 : decode cX2_plan 4 = .ok (.invokestatic 50, 3) := by decide +kernel
theorem dX2_plan_7 : decode cX2_plan 7 = .ok (.ifCond .eq 22, 3) := by decide +kernel
theorem dX2_plan_10 : decode cX2_plan 10 = .ok (.iload_n 2, 1) := by decide +kernel
theorem dX2_plan_11 : decode cX2_plan 11 = .ok (.iconst 0, 1) := by decide +kernel
theorem dX2_plan_12 : decode cX2_plan 12 = .ok (.bipush 9, 2) := by decide +kernel
theorem dX2_plan_14 : decode cX2_plan 14 = .ok (.invokestatic 50, 3) := by decide +kernel
theorem dX2_plan_17 : decode cX2_plan 17 = .ok (.ifCond .eq 12, 3) := by decide +kernel
theorem dX2_plan_20 : decode cX2_plan 20 = .ok (.iload_n 3, 1) := by decide +kernel
theorem dX2_plan_21 : decode cX2_plan 21 = .ok (.iconst 0, 1) := by decide +kernel
theorem dX2_plan_22 : decode cX2_plan 22 = .ok (.iconst 3, 1) := by decide +kernel
theorem dX2_plan_23 : decode cX2_plan 23 = .ok (.invokestatic 50, 3) := by decide +kernel
theorem dX2_plan_26 : decode cX2_plan 26 = .ok (.ifCond .ne 6, 3) := by decide +kernel
theorem dX2_plan_29 : decode cX2_plan 29 = .ok (.bipush (-102), 2) := by decide +kernel
theorem dX2_plan_31 : decode cX2_plan 31 = .ok (.ireturn, 1) := by decide +kernel
theorem dX2_plan_32 : decode cX2_plan 32 = .ok (.aload_n 0, 1) := by decide +kernel
theorem dX2_plan_33 : decode cX2_plan 33 = .ok (.getfield 39, 3) := by decide +kernel
theorem dX2_plan_36 : decode cX2_plan 36 = .ok (.ifCond .ne 6, 3) := by decide +kernel
theorem dX2_plan_39 : decode cX2_plan 39 = .ok (.bipush (-103), 2) := by decide +kernel
theorem dX2_plan_41 : decode cX2_plan 41 = .ok (.ireturn, 1) := by decide +kernel
theorem dX2_plan_42 : decode cX2_plan 42 = .ok (.aload_n 0, 1) := by decide +kernel
theorem dX2_plan_43 : decode cX2_plan 43 = .ok (.iload_n 2, 1) := by decide +kernel
theorem dX2_plan_44 : decode cX2_plan 44 = .ok (.invokevirtual 134, 3) := by decide +kernel
theorem dX2_plan_47 : decode cX2_plan 47 = .ok (.aload_n 0, 1) := by decide +kernel
theorem dX2_plan_48 : decode cX2_plan 48 = .ok (.iload_n 1, 1) := by decide +kernel
theorem dX2_plan_49 : decode cX2_plan 49 = .ok (.invokevirtual 137, 3) := by decide +kernel
theorem dX2_plan_52 : decode cX2_plan 52 = .ok (.istore 4, 2) := by decide +kernel
theorem dX2_plan_54 : decode cX2_plan 54 = .ok (.iload_n 3, 1) := by decide +kernel
theorem dX2_plan_55 : decode cX2_plan 55 = .ok (.tableswitch 41 0 2 #[25, 31, 34], 25) := by decide +kernel
theorem dX2_plan_80 : decode cX2_plan 80 = .ok (.iload 4, 2) := by decide +kernel
theorem dX2_plan_82 : decode cX2_plan 82 = .ok (.invokestatic 140, 3) := by decide +kernel
theorem dX2_plan_85 : decode cX2_plan 85 = .ok (.ireturn, 1) := by decide +kernel
theorem dX2_plan_86 : decode cX2_plan 86 = .ok (.iload 4, 2) := by decide +kernel
theorem dX2_plan_88 : decode cX2_plan 88 = .ok (.ireturn, 1) := by decide +kernel
theorem dX2_plan_89 : decode cX2_plan 89 = .ok (.aload_n 0, 1) := by decide +kernel
theorem dX2_plan_90 : decode cX2_plan 90 = .ok (.iload 4, 2) := by decide +kernel
theorem dX2_plan_92 : decode cX2_plan 92 = .ok (.invokevirtual 145, 3) := by decide +kernel
theorem dX2_plan_95 : decode cX2_plan 95 = .ok (.ireturn, 1) := by decide +kernel
theorem dX2_plan_96 : decode cX2_plan 96 = .ok (.aload_n 0, 1) := by decide +kernel
theorem dX2_plan_97 : decode cX2_plan 97 = .ok (.iload 4, 2) := by decide +kernel
theorem dX2_plan_99 : decode cX2_plan 99 = .ok (.invokevirtual 148, 3) := by decide +kernel
theorem dX2_plan_102 : decode cX2_plan 102 = .ok (.ireturn, 1) := by decide +kernel
set_option maxRecDepth 20000 in
theorem ggX2_error_X2_isWithin : GoodIn wsX2_error wsX2_isWithin := goodIn_r _ [5] (by decide +kernel) (by decide +kernel)
set_option maxRecDepth 20000 in
theorem gX2_error_X2_isWithin : GoodIn wsX2_error (va_wsS RX2 50 yX2_isWithin wsX2_isWithin) := goodIn_app (goodIn_of _ (by decide +kernel)) ggX2_error_X2_isWithin
set_option maxRecDepth 20000 in
theorem ggX2_error_X2_bestError : GoodIn wsX2_error wsX2_bestError := goodIn_r _ [9, 10, 11, 1, 12, 13, 14, 4, 15, 16, 17, 18, 19, 20, 21, 22, 23, 24, 25, 26, 27, 28, 29, 30, 31, 32, 33, 34, 35, 36, 37, 38, 39, 40, 41, 42, 43, 44, 45, 46, 47, 48, 49, 50, 51, 52, 53, 54, 55, 56, 57, 58, 59, 60, 61, 62, 63, 64] (by decide +kernel) (by decide +kernel)
set_option maxRecDepth 20000 in
theorem gX2_error_X2_bestError : GoodIn wsX2_error (wsV RX2 151 RX2 yX2_bestError wsX2_bestError) := goodIn_app (goodIn_of _ (by decide +kernel)) ggX2_error_X2_bestError
set_option maxRecDepth 20000 in
theorem ggX2_error_X2_keptIfSwapped : GoodIn wsX2_error wsX2_keptIfSwapped := goodIn_r _ [24, 1, 10, 11, 25, 26, 27, 4, 28, 29, 30, 31, 32, 33, 34, 35, 36, 37, 38, 39, 40, 41, 16, 17, 18, 19, 20, 42, 43, 44, 45, 46, 47, 48, 49, 50, 51, 52, 53, 54, 55, 56, 57, 58, 59, 60, 61, 62, 63, 64] (by decide +kernel) (by decide +kernel)
set_option maxRecDepth 20000 in
theorem gX2_error_X2_keptIfSwapped : GoodIn wsX2_error (wsV RX2 154 RX2 yX2_keptIfSwapped wsX2_keptIfSwapped) := goodIn_app (goodIn_of _ (by decide +kernel)) ggX2_error_X2_keptIfSwapped
theorem dX2_error_0 : decode cX2_error 0 = .ok (.iload_n 1, 1) := by decide +kernel
theorem dX2_error_1 : decode cX2_error 1 = .ok (.iconst 0, 1) := by decide +kernel
theorem dX2_error_2 : decode cX2_error 2 = .ok (.iconst 1, 1) := by decide +kernel
theorem dX2_error_3 : decode cX2_error 3 = .ok (.invokestatic 50, 3) := by decide +kernel
theorem dX2_error_6 : decode cX2_error 6 = .ok (.ifCond .ne 6, 3) := by decide +kernel
theorem dX2_error_9 : decode cX2_error 9 = .ok (.bipush (-102), 2) := by decide +kernel
theorem dX2_error_11 : decode cX2_error 11 = .ok (.ireturn, 1) := by decide +kernel
theorem dX2_error_12 : decode cX2_error 12 = .ok (.aload_n 0, 1) := by decide +kernel
theorem dX2_error_13 : decode cX2_error 13 = .ok (.getfield 39, 3) := by decide +kernel
theorem dX2_error_16 : decode cX2_error 16 = .ok (.ifCond .ne 6, 3) := by decide +kernel
theorem dX2_error_19 : decode cX2_error 19 = .ok (.bipush (-103), 2) := by decide +kernel
theorem dX2_error_21 : decode cX2_error 21 = .ok (.ireturn, 1) := by decide +kernel
theorem dX2_error_22 : decode cX2_error 22 = .ok (.aload_n 0, 1) := by decide +kernel
theorem dX2_error_23 : decode cX2_error 23 = .ok (.invokevirtual 151, 3) := by decide +kernel
theorem dX2_error_26 : decode cX2_error 26 = .ok (.istore_n 2, 1) := by decide +kernel
theorem dX2_error_27 : decode cX2_error 27 = .ok (.iload_n 2, 1) := by decide +kernel
theorem dX2_error_28 : decode cX2_error 28 = .ok (.iconst (-1), 1) := by decide +kernel
theorem dX2_error_29 : decode cX2_error 29 = .ok (.if_icmp .eq 7, 3) := by decide +kernel
theorem dX2_error_32 : decode cX2_error 32 = .ok (.iload_n 1, 1) := by decide +kernel
theorem dX2_error_33 : decode cX2_error 33 = .ok (.ifCond .ne 5, 3) := by decide +kernel
theorem dX2_error_36 : decode cX2_error 36 = .ok (.iload_n 2, 1) := by decide +kernel
theorem dX2_error_37 : decode cX2_error 37 = .ok (.ireturn, 1) := by decide +kernel
theorem dX2_error_38 : decode cX2_error 38 = .ok (.aload_n 0, 1) := by decide +kernel
theorem dX2_error_39 : decode cX2_error 39 = .ok (.iload_n 2, 1) := by decide +kernel
theorem dX2_error_40 : decode cX2_error 40 = .ok (.bipush 10, 2) := by decide +kernel
theorem dX2_error_42 : decode cX2_error 42 = .ok (.idiv, 1) := by decide +kernel
theorem dX2_error_43 : decode cX2_error 43 = .ok (.iload_n 2, 1) := by decide +kernel
theorem dX2_error_44 : decode cX2_error 44 = .ok (.bipush 10, 2) := by decide +kernel
theorem dX2_error_46 : decode cX2_error 46 = .ok (.irem, 1) := by decide +kernel
theorem dX2_error_47 : decode cX2_error 47 = .ok (.invokevirtual 154, 3) := by decide +kernel
theorem dX2_error_50 : decode cX2_error 50 = .ok (.ireturn, 1) := by decide +kernel
set_option maxRecDepth 20000 in
theorem ggX2_found_X2_isSite : GoodIn wsX2_found wsX2_isSite := goodIn_r _ [9, 10, 24, 25, 26, 27, 28, 29, 30, 31, 32, 33] (by decide +kernel) (by decide +kernel)
set_option maxRecDepth 20000 in
theorem gX2_found_X2_isSite : GoodIn wsX2_found (wsV RX2 89 RX2 yX2_isSite wsX2_isSite) := goodIn_app (goodIn_of _ (by decide +kernel)) ggX2_found_X2_isSite
set_option maxRecDepth 20000 in
theorem ggX2_found_X2_isWithin : GoodIn wsX2_found wsX2_isWithin := goodIn_r _ [13] (by decide +kernel) (by decide +kernel)
set_option maxRecDepth 20000 in
theorem gX2_found_X2_isWithin : GoodIn wsX2_found (va_wsS RX2 50 yX2_isWithin wsX2_isWithin) := goodIn_app (goodIn_of _ (by decide +kernel)) ggX2_found_X2_isWithin
set_option maxRecDepth 20000 in
theorem ggX2_found_X1_addFound : GoodIn wsX2_found wsX1_addFound := goodIn_r _ [18, 19, 20, 21, 22, 23, 34, 35, 36, 37, 38, 39, 40, 41, 42, 43, 44, 45, 46] (by decide +kernel) (by decide +kernel)
set_option maxRecDepth 20000 in
theorem gX2_found_X1_addFound : GoodIn wsX2_found (wsV RX2 157 RX1 yX1_addFound wsX1_addFound) := goodIn_app (goodIn_of _ (by decide +kernel)) ggX2_found_X1_addFound
theorem dX2_found_0 : decode cX2_found 0 = .ok (.aload_n 0, 1) := by decide +kernel
theorem dX2_found_1 : decode cX2_found 1 = .ok (.iload_n 1, 1) := by decide +kernel
theorem dX2_found_2 : decode cX2_found 2 = .ok (.invokevirtual 89, 3) := by decide +kernel
theorem dX2_found_5 : decode cX2_found 5 = .ok (.ifCond .ne 6, 3) := by decide +kernel
theorem dX2_found_8 : decode cX2_found 8 = .ok (.bipush (-101), 2) := by decide +kernel
theorem dX2_found_10 : decode cX2_found 10 = .ok (.ireturn, 1) := by decide +kernel
theorem dX2_found_11 : decode cX2_found 11 = .ok (.iload_n 2, 1) := by decide +kernel
theorem dX2_found_12 : decode cX2_found 12 = .ok (.iconst 0, 1) := by decide +kernel
theorem dX2_found_13 : decode cX2_found 13 = .ok (.bipush 30, 2) := by decide +kernel
theorem dX2_found_15 : decode cX2_found 15 = .ok (.invokestatic 50, 3) := by decide +kernel
theorem dX2_found_18 : decode cX2_found 18 = .ok (.ifCond .eq 13, 3) := by decide +kernel
theorem dX2_found_21 : decode cX2_found 21 = .ok (.iload_n 3, 1) := by decide +kernel
theorem dX2_found_22 : decode cX2_found 22 = .ok (.iconst 0, 1) := by decide +kernel
theorem dX2_found_23 : decode cX2_found 23 = .ok (.bipush 30, 2) := by decide +kernel
theorem dX2_found_25 : decode cX2_found 25 = .ok (.invokestatic 50, 3) := by decide +kernel
theorem dX2_found_28 : decode cX2_found 28 = .ok (.ifCond .ne 6, 3) := by decide +kernel
theorem dX2_found_31 : decode cX2_found 31 = .ok (.bipush (-102), 2) := by decide +kernel
theorem dX2_found_33 : decode cX2_found 33 = .ok (.ireturn, 1) := by decide +kernel
theorem dX2_found_34 : decode cX2_found 34 = .ok (.aload_n 0, 1) := by decide +kernel
theorem dX2_found_35 : decode cX2_found 35 = .ok (.getfield 26, 3) := by decide +kernel
theorem dX2_found_38 : decode cX2_found 38 = .ok (.aload_n 0, 1) := by decide +kernel
theorem dX2_found_39 : decode cX2_found 39 = .ok (.getfield 16, 3) := by decide +kernel
theorem dX2_found_42 : decode cX2_found 42 = .ok (.iload_n 1, 1) := by decide +kernel
theorem dX2_found_43 : decode cX2_found 43 = .ok (.iaload, 1) := by decide +kernel
theorem dX2_found_44 : decode cX2_found 44 = .ok (.aload_n 0, 1) := by decide +kernel
theorem dX2_found_45 : decode cX2_found 45 = .ok (.getfield 26, 3) := by decide +kernel
theorem dX2_found_48 : decode cX2_found 48 = .ok (.getfield 95, 3) := by decide +kernel
theorem dX2_found_51 : decode cX2_found 51 = .ok (.iload_n 1, 1) := by decide +kernel
theorem dX2_found_52 : decode cX2_found 52 = .ok (.iaload, 1) := by decide +kernel
theorem dX2_found_53 : decode cX2_found 53 = .ok (.iload_n 2, 1) := by decide +kernel
theorem dX2_found_54 : decode cX2_found 54 = .ok (.iload_n 3, 1) := by decide +kernel
theorem dX2_found_55 : decode cX2_found 55 = .ok (.invokevirtual 157, 3) := by decide +kernel
theorem dX2_found_58 : decode cX2_found 58 = .ok (.ifCond .ne 6, 3) := by decide +kernel
theorem dX2_found_61 : decode cX2_found 61 = .ok (.bipush (-104), 2) := by decide +kernel
theorem dX2_found_63 : decode cX2_found 63 = .ok (.ireturn, 1) := by decide +kernel
theorem dX2_found_64 : decode cX2_found 64 = .ok (.aload_n 0, 1) := by decide +kernel
theorem dX2_found_65 : decode cX2_found 65 = .ok (.getfield 26, 3) := by decide +kernel
theorem dX2_found_68 : decode cX2_found 68 = .ok (.getfield 161, 3) := by decide +kernel
theorem dX2_found_71 : decode cX2_found 71 = .ok (.ireturn, 1) := by decide +kernel
theorem dX2_forget_0 : decode cX2_forget 0 = .ok (.aload_n 0, 1) := by decide +kernel
theorem dX2_forget_1 : decode cX2_forget 1 = .ok (.getfield 26, 3) := by decide +kernel
theorem dX2_forget_4 : decode cX2_forget 4 = .ok (.getfield 161, 3) := by decide +kernel
theorem dX2_forget_7 : decode cX2_forget 7 = .ok (.istore_n 1, 1) := by decide +kernel
theorem dX2_forget_8 : decode cX2_forget 8 = .ok (.aload_n 0, 1) := by decide +kernel
theorem dX2_forget_9 : decode cX2_forget 9 = .ok (.getfield 26, 3) := by decide +kernel
theorem dX2_forget_12 : decode cX2_forget 12 = .ok (.iconst 0, 1) := by decide +kernel
theorem dX2_forget_13 : decode cX2_forget 13 = .ok (.putfield 161, 3) := by decide +kernel
theorem dX2_forget_16 : decode cX2_forget 16 = .ok (.iload_n 1, 1) := by decide +kernel
theorem dX2_forget_17 : decode cX2_forget 17 = .ok (.ireturn, 1) := by decide +kernel
set_option maxRecDepth 20000 in
theorem ggX2_suns_X2_possibleSuns : GoodIn wsX2_suns wsX2_possibleSuns := goodIn_r _ [6, 7, 8, 9, 5, 10, 11, 12, 13, 14, 15, 16, 17, 18, 19, 20, 21, 22, 23, 24, 25, 26, 27, 28, 29, 30, 31, 32, 33, 34, 35, 36, 37, 38, 39, 40, 41, 42, 43, 44, 45] (by decide +kernel) (by decide +kernel)
set_option maxRecDepth 20000 in
theorem gX2_suns_X2_possibleSuns : GoodIn wsX2_suns (wsV RX2 164 RX2 yX2_possibleSuns wsX2_possibleSuns) := goodIn_app (goodIn_of _ (by decide +kernel)) ggX2_suns_X2_possibleSuns
theorem dX2_suns_0 : decode cX2_suns 0 = .ok (.aload_n 0, 1) := by decide +kernel
theorem dX2_suns_1 : decode cX2_suns 1 = .ok (.getfield 39, 3) := by decide +kernel
theorem dX2_suns_4 : decode cX2_suns 4 = .ok (.ifCond .ne 6, 3) := by decide +kernel
theorem dX2_suns_7 : decode cX2_suns 7 = .ok (.bipush (-103), 2) := by decide +kernel
theorem dX2_suns_9 : decode cX2_suns 9 = .ok (.ireturn, 1) := by decide +kernel
theorem dX2_suns_10 : decode cX2_suns 10 = .ok (.aload_n 0, 1) := by decide +kernel
theorem dX2_suns_11 : decode cX2_suns 11 = .ok (.invokevirtual 164, 3) := by decide +kernel
theorem dX2_suns_14 : decode cX2_suns 14 = .ok (.ireturn, 1) := by decide +kernel
set_option maxRecDepth 20000 in
theorem ggX2_look_X2_possibleSuns : GoodIn wsX2_look wsX2_possibleSuns := goodIn_r _ [6, 7, 8, 9, 5, 10, 11, 12, 13, 14, 15, 16, 17, 18, 19, 20, 21, 22, 52, 53, 54, 55, 56, 57, 58, 59, 60, 61, 62, 63, 64, 65, 66, 67, 68, 69, 70, 71, 72, 73, 74] (by decide +kernel) (by decide +kernel)
set_option maxRecDepth 20000 in
theorem gX2_look_X2_possibleSuns : GoodIn wsX2_look (wsV RX2 164 RX2 yX2_possibleSuns wsX2_possibleSuns) := goodIn_app (goodIn_of _ (by decide +kernel)) ggX2_look_X2_possibleSuns
set_option maxRecDepth 20000 in
theorem ggX2_look_X2_bestLook : GoodIn wsX2_look wsX2_bestLook := goodIn_r _ [26, 1, 27, 28, 29, 5, 30, 31, 32, 33, 34, 35, 36, 37, 38, 39, 40, 41, 42, 43, 44, 45, 46, 11, 47, 48, 49, 50, 51, 17, 18, 19, 20, 21, 22, 52, 53, 54, 55, 56, 57, 58, 59, 60, 61, 62, 63, 64, 65, 66, 67, 68, 69, 70, 71, 72, 73, 74] (by decide +kernel) (by decide +kernel)
set_option maxRecDepth 20000 in
theorem gX2_look_X2_bestLook : GoodIn wsX2_look (wsV RX2 167 RX2 yX2_bestLook wsX2_bestLook) := goodIn_app (goodIn_of _ (by decide +kernel)) ggX2_look_X2_bestLook
theorem dX2_look_0 : decode cX2_look 0 = .ok (.aload_n 0, 1) := by decide +kernel
theorem dX2_look_1 : decode cX2_look 1 = .ok (.getfield 39, 3) := by decide +kernel
theorem dX2_look_4 : decode cX2_look 4 = .ok (.ifCond .ne 6, 3) := by decide +kernel
theorem dX2_look_7 : decode cX2_look 7 = .ok (.bipush (-103), 2) := by decide +kernel
theorem dX2_look_9 : decode cX2_look 9 = .ok (.ireturn, 1) := by decide +kernel
theorem dX2_look_10 : decode cX2_look 10 = .ok (.aload_n 0, 1) := by decide +kernel
theorem dX2_look_11 : decode cX2_look 11 = .ok (.aload_n 0, 1) := by decide +kernel
theorem dX2_look_12 : decode cX2_look 12 = .ok (.invokevirtual 164, 3) := by decide +kernel
theorem dX2_look_15 : decode cX2_look 15 = .ok (.invokevirtual 167, 3) := by decide +kernel
theorem dX2_look_18 : decode cX2_look 18 = .ok (.ireturn, 1) := by decide +kernel
set_option maxRecDepth 20000 in
theorem ggX2_winters_X2_isWithin : GoodIn wsX2_winters wsX2_isWithin := goodIn_r _ [12] (by decide +kernel) (by decide +kernel)
set_option maxRecDepth 20000 in
theorem gX2_winters_X2_isWithin : GoodIn wsX2_winters (va_wsS RX2 50 yX2_isWithin wsX2_isWithin) := goodIn_app (goodIn_of _ (by decide +kernel)) ggX2_winters_X2_isWithin
set_option maxRecDepth 20000 in
theorem ggX2_winters_X2_seedAfter : GoodIn wsX2_winters wsX2_seedAfter := goodIn_r _ [15, 16, 17, 18] (by decide +kernel) (by decide +kernel)
set_option maxRecDepth 20000 in
theorem gX2_winters_X2_seedAfter : GoodIn wsX2_winters (va_wsS RX2 176 yX2_seedAfter wsX2_seedAfter) := goodIn_app (goodIn_of _ (by decide +kernel)) ggX2_winters_X2_seedAfter
set_option maxRecDepth 20000 in
theorem ggX2_winters_X2_drawOf : GoodIn wsX2_winters wsX2_drawOf := goodIn_r _ [21, 22] (by decide +kernel) (by decide +kernel)
set_option maxRecDepth 20000 in
theorem gX2_winters_X2_drawOf : GoodIn wsX2_winters (va_wsS RX2 179 yX2_drawOf wsX2_drawOf) := goodIn_app (goodIn_of _ (by decide +kernel)) ggX2_winters_X2_drawOf
set_option maxRecDepth 20000 in
theorem ggX2_winters_X2_bringOneLoad : GoodIn wsX2_winters wsX2_bringOneLoad := goodIn_r _ [26, 27, 28, 29, 11, 30, 1, 31, 32, 33, 34, 35, 36, 37, 63, 64, 65, 66, 67, 68, 69, 70, 71, 72] (by decide +kernel) (by decide +kernel)
set_option maxRecDepth 20000 in
theorem gX2_winters_X2_bringOneLoad : GoodIn wsX2_winters (wsV RX2 182 RX2 yX2_bringOneLoad wsX2_bringOneLoad) := goodIn_app (goodIn_of _ (by decide +kernel)) ggX2_winters_X2_bringOneLoad
set_option maxRecDepth 20000 in
theorem ggX2_winters_X2_meltAll : GoodIn wsX2_winters wsX2_meltAll := goodIn_r _ [41, 1, 42, 2, 43, 44, 45, 11, 46, 47, 48, 49, 50, 51, 52, 53, 54, 55, 56, 57, 58, 63, 64, 65, 66, 67, 68, 69, 70, 71, 72, 73, 74, 75, 76, 77, 78, 79, 80, 81, 82, 83, 84, 85] (by decide +kernel) (by decide +kernel)
set_option maxRecDepth 20000 in
theorem gX2_winters_X2_meltAll : GoodIn wsX2_winters (wsV RX2 124 RX2 yX2_meltAll wsX2_meltAll) := goodIn_app (goodIn_of _ (by decide +kernel)) ggX2_winters_X2_meltAll
set_option maxRecDepth 20000 in
theorem ggX2_winters_X2_snowIn : GoodIn wsX2_winters wsX2_snowIn := goodIn_r _ [62, 1, 63, 64, 65, 66, 67, 68, 69, 70, 71, 72] (by decide +kernel) (by decide +kernel)
set_option maxRecDepth 20000 in
theorem gX2_winters_X2_snowIn : GoodIn wsX2_winters (wsV RX2 186 RX2 yX2_snowIn wsX2_snowIn) := goodIn_app (goodIn_of _ (by decide +kernel)) ggX2_winters_X2_snowIn
theorem dX2_winters_0 : decode cX2_winters 0 = .ok (.iload_n 1, 1) := by decide +kernel
theorem dX2_winters_1 : decode cX2_winters 1 = .ok (.iconst 1, 1) := by decide +kernel
theorem dX2_winters_2 : decode cX2_winters 2 = .ok (.bipush 60, 2) := by decide +kernel
theorem dX2_winters_4 : decode cX2_winters 4 = .ok (.invokestatic 50, 3) := by decide +kernel
theorem dX2_winters_7 : decode cX2_winters 7 = .ok (.ifCond .eq 16, 3) := by decide +kernel
theorem dX2_winters_10 : decode cX2_winters 10 = .ok (.iload_n 2, 1) := by decide +kernel
theorem dX2_winters_11 : decode cX2_winters 11 = .ok (.ifCond .lt 12, 3) := by decide +kernel
theorem dX2_winters_14 : decode cX2_winters 14 = .ok (.iload_n 3, 1) := by decide +kernel
theorem dX2_winters_15 : decode cX2_winters 15 = .ok (.iconst 0, 1) := by decide +kernel
theorem dX2_winters_16 : decode cX2_winters 16 = .ok (.iconst 2, 1) := by decide +kernel
theorem dX2_winters_17 : decode cX2_winters 17 = .ok (.invokestatic 50, 3) := by decide +kernel
theorem dX2_winters_20 : decode cX2_winters 20 = .ok (.ifCond .ne 6, 3) := by decide +kernel
theorem dX2_winters_23 : decode cX2_winters 23 = .ok (.bipush (-102), 2) := by decide +kernel
theorem dX2_winters_25 : decode cX2_winters 25 = .ok (.ireturn, 1) := by decide +kernel
theorem dX2_winters_26 : decode cX2_winters 26 = .ok (.aload_n 0, 1) := by decide +kernel
theorem dX2_winters_27 : decode cX2_winters 27 = .ok (.getfield 39, 3) := by decide +kernel
theorem dX2_winters_30 : decode cX2_winters 30 = .ok (.ifCond .ne 6, 3) := by decide +kernel
theorem dX2_winters_33 : decode cX2_winters 33 = .ok (.bipush (-103), 2) := by decide +kernel
theorem dX2_winters_35 : decode cX2_winters 35 = .ok (.ireturn, 1) := by decide +kernel
theorem dX2_winters_36 : decode cX2_winters 36 = .ok (.aload_n 0, 1) := by decide +kernel
theorem dX2_winters_37 : decode cX2_winters 37 = .ok (.getfield 26, 3) := by decide +kernel
theorem dX2_winters_40 : decode cX2_winters 40 = .ok (.getfield 92, 3) := by decide +kernel
theorem dX2_winters_43 : decode cX2_winters 43 = .ok (.iconst 0, 1) := by decide +kernel
theorem dX2_winters_44 : decode cX2_winters 44 = .ok (.aload_n 0, 1) := by decide +kernel
theorem dX2_winters_45 : decode cX2_winters 45 = .ok (.getfield 33, 3) := by decide +kernel
theorem dX2_winters_48 : decode cX2_winters 48 = .ok (.iconst 0, 1) := by decide +kernel
theorem dX2_winters_49 : decode cX2_winters 49 = .ok (.bipush 6, 2) := by decide +kernel
theorem dX2_winters_51 : decode cX2_winters 51 = .ok (.invokestatic 170, 3) := by decide +kernel
theorem dX2_winters_54 : decode cX2_winters 54 = .ok (.iconst 0, 1) := by decide +kernel
theorem dX2_winters_55 : decode cX2_winters 55 = .ok (.istore 4, 2) := by decide +kernel
theorem dX2_winters_57 : decode cX2_winters 57 = .ok (.iload_n 2, 1) := by decide +kernel
theorem dX2_winters_58 : decode cX2_winters 58 = .ok (.istore 5, 2) := by decide +kernel
theorem dX2_winters_60 : decode cX2_winters 60 = .ok (.iconst 0, 1) := by decide +kernel
theorem dX2_winters_61 : decode cX2_winters 61 = .ok (.istore 6, 2) := by decide +kernel
theorem dX2_winters_63 : decode cX2_winters 63 = .ok (.iload 6, 2) := by decide +kernel
theorem dX2_winters_65 : decode cX2_winters 65 = .ok (.iload_n 1, 1) := by decide +kernel
theorem dX2_winters_66 : decode cX2_winters 66 = .ok (.if_icmp .ge 63, 3) := by decide +kernel
theorem dX2_winters_69 : decode cX2_winters 69 = .ok (.iload 5, 2) := by decide +kernel
theorem dX2_winters_71 : decode cX2_winters 71 = .ok (.invokestatic 176, 3) := by decide +kernel
theorem dX2_winters_74 : decode cX2_winters 74 = .ok (.istore 5, 2) := by decide +kernel
theorem dX2_winters_76 : decode cX2_winters 76 = .ok (.iconst 5, 1) := by decide +kernel
theorem dX2_winters_77 : decode cX2_winters 77 = .ok (.iload 5, 2) := by decide +kernel
theorem dX2_winters_79 : decode cX2_winters 79 = .ok (.invokestatic 179, 3) := by decide +kernel
theorem dX2_winters_82 : decode cX2_winters 82 = .ok (.istore 7, 2) := by decide +kernel
theorem dX2_winters_84 : decode cX2_winters 84 = .ok (.iload 5, 2) := by decide +kernel
theorem dX2_winters_86 : decode cX2_winters 86 = .ok (.invokestatic 176, 3) := by decide +kernel
theorem dX2_winters_89 : decode cX2_winters 89 = .ok (.istore 5, 2) := by decide +kernel
theorem dX2_winters_91 : decode cX2_winters 91 = .ok (.aload_n 0, 1) := by decide +kernel
theorem dX2_winters_92 : decode cX2_winters 92 = .ok (.aload_n 0, 1) := by decide +kernel
theorem dX2_winters_93 : decode cX2_winters 93 = .ok (.getfield 33, 3) := by decide +kernel
theorem dX2_winters_96 : decode cX2_winters 96 = .ok (.aload_n 0, 1) := by decide +kernel
theorem dX2_winters_97 : decode cX2_winters 97 = .ok (.getfield 39, 3) := by decide +kernel
theorem dX2_winters_100 : decode cX2_winters 100 = .ok (.iload 5, 2) := by decide +kernel
theorem dX2_winters_102 : decode cX2_winters 102 = .ok (.invokestatic 179, 3) := by decide +kernel
theorem dX2_winters_105 : decode cX2_winters 105 = .ok (.invokevirtual 182, 3) := by decide +kernel
theorem dX2_winters_108 : decode cX2_winters 108 = .ok (.iload 4, 2) := by decide +kernel
theorem dX2_winters_110 : decode cX2_winters 110 = .ok (.aload_n 0, 1) := by decide +kernel
theorem dX2_winters_111 : decode cX2_winters 111 = .ok (.aload_n 0, 1) := by decide +kernel
theorem dX2_winters_112 : decode cX2_winters 112 = .ok (.getfield 33, 3) := by decide +kernel
theorem dX2_winters_115 : decode cX2_winters 115 = .ok (.iload 7, 2) := by decide +kernel
theorem dX2_winters_117 : decode cX2_winters 117 = .ok (.invokevirtual 124, 3) := by decide +kernel
theorem dX2_winters_120 : decode cX2_winters 120 = .ok (.iadd, 1) := by decide +kernel
theorem dX2_winters_121 : decode cX2_winters 121 = .ok (.istore 4, 2) := by decide +kernel
theorem dX2_winters_123 : decode cX2_winters 123 = .ok (.iinc 6 1, 3) := by decide +kernel
theorem dX2_winters_126 : decode cX2_winters 126 = .ok (.goto (-63), 3) := by decide +kernel
theorem dX2_winters_129 : decode cX2_winters 129 = .ok (.iload_n 3, 1) := by decide +kernel
theorem dX2_winters_130 : decode cX2_winters 130 = .ok (.lookupswitch 38 #[(0, 26), (1, 29)], 26) := by decide +kernel
theorem dX2_winters_156 : decode cX2_winters 156 = .ok (.iload 4, 2) := by decide +kernel
theorem dX2_winters_158 : decode cX2_winters 158 = .ok (.ireturn, 1) := by decide +kernel
theorem dX2_winters_159 : decode cX2_winters 159 = .ok (.aload_n 0, 1) := by decide +kernel
theorem dX2_winters_160 : decode cX2_winters 160 = .ok (.aload_n 0, 1) := by decide +kernel
theorem dX2_winters_161 : decode cX2_winters 161 = .ok (.getfield 33, 3) := by decide +kernel
theorem dX2_winters_164 : decode cX2_winters 164 = .ok (.invokevirtual 186, 3) := by decide +kernel
theorem dX2_winters_167 : decode cX2_winters 167 = .ok (.ireturn, 1) := by decide +kernel
theorem dX2_winters_168 : decode cX2_winters 168 = .ok (.iload 5, 2) := by decide +kernel
theorem dX2_winters_170 : decode cX2_winters 170 = .ok (.ireturn, 1) := by decide +kernel
set_option maxRecDepth 20000 in
theorem ggX2_image_X1_copy : GoodIn wsX2_image wsX1_copy := goodIn_r _ [10, 11, 12, 13, 14, 15, 16, 17, 18, 19, 20, 21, 22, 23, 24, 25, 9, 26, 27, 28, 29, 30, 31, 32, 33, 34, 45, 46, 47, 48, 49, 50, 51, 52, 53, 54, 55, 56, 57] (by decide +kernel) (by decide +kernel)
set_option maxRecDepth 20000 in
theorem gX2_image_X1_copy : GoodIn wsX2_image (wsV RX2 190 RX1 yX1_copy wsX1_copy) := goodIn_app (goodIn_of _ (by decide +kernel)) ggX2_image_X1_copy
theorem dX2_image_0 : decode cX2_image 0 = .ok (.aload_n 0, 1) := by decide +kernel
theorem dX2_image_1 : decode cX2_image 1 = .ok (.getfield 39, 3) := by decide +kernel
theorem dX2_image_4 : decode cX2_image 4 = .ok (.ifCond .ne 6, 3) := by decide +kernel
theorem dX2_image_7 : decode cX2_image 7 = .ok (.bipush (-103), 2) := by decide +kernel
theorem dX2_image_9 : decode cX2_image 9 = .ok (.ireturn, 1) := by decide +kernel
theorem dX2_image_10 : decode cX2_image 10 = .ok (.aload_n 0, 1) := by decide +kernel
theorem dX2_image_11 : decode cX2_image 11 = .ok (.getfield 30, 3) := by decide +kernel
theorem dX2_image_14 : decode cX2_image 14 = .ok (.aload_n 0, 1) := by decide +kernel
theorem dX2_image_15 : decode cX2_image 15 = .ok (.getfield 26, 3) := by decide +kernel
theorem dX2_image_18 : decode cX2_image 18 = .ok (.invokevirtual 190, 3) := by decide +kernel
theorem dX2_image_21 : decode cX2_image 21 = .ok (.aload_n 0, 1) := by decide +kernel
theorem dX2_image_22 : decode cX2_image 22 = .ok (.iconst 1, 1) := by decide +kernel
theorem dX2_image_23 : decode cX2_image 23 = .ok (.putfield 46, 3) := by decide +kernel
theorem dX2_image_26 : decode cX2_image 26 = .ok (.aload_n 0, 1) := by decide +kernel
theorem dX2_image_27 : decode cX2_image 27 = .ok (.getfield 30, 3) := by decide +kernel
theorem dX2_image_30 : decode cX2_image 30 = .ok (.getfield 194, 3) := by decide +kernel
theorem dX2_image_33 : decode cX2_image 33 = .ok (.ireturn, 1) := by decide +kernel
set_option maxRecDepth 20000 in
theorem ggX2_restore_X1_copy : GoodIn wsX2_restore wsX1_copy := goodIn_r _ [9, 10, 11, 12, 13, 14, 15, 16, 17, 18, 19, 20, 21, 22, 23, 24, 8, 25, 26, 27, 28, 29, 30, 31, 32, 33, 44, 45, 46, 47, 48, 49, 50, 51, 52, 53, 54, 55, 56] (by decide +kernel) (by decide +kernel)
set_option maxRecDepth 20000 in
theorem gX2_restore_X1_copy : GoodIn wsX2_restore (wsV RX2 190 RX1 yX1_copy wsX1_copy) := goodIn_app (goodIn_of _ (by decide +kernel)) ggX2_restore_X1_copy
theorem dX2_restore_0 : decode cX2_restore 0 = .ok (.aload_n 0, 1) := by decide +kernel
theorem dX2_restore_1 : decode cX2_restore 1 = .ok (.getfield 46, 3) := by decide +kernel
theorem dX2_restore_4 : decode cX2_restore 4 = .ok (.ifCond .ne 6, 3) := by decide +kernel
theorem dX2_restore_7 : decode cX2_restore 7 = .ok (.bipush (-103), 2) := by decide +kernel
theorem dX2_restore_9 : decode cX2_restore 9 = .ok (.ireturn, 1) := by decide +kernel
theorem dX2_restore_10 : decode cX2_restore 10 = .ok (.aload_n 0, 1) := by decide +kernel
theorem dX2_restore_11 : decode cX2_restore 11 = .ok (.getfield 26, 3) := by decide +kernel
theorem dX2_restore_14 : decode cX2_restore 14 = .ok (.aload_n 0, 1) := by decide +kernel
theorem dX2_restore_15 : decode cX2_restore 15 = .ok (.getfield 30, 3) := by decide +kernel
theorem dX2_restore_18 : decode cX2_restore 18 = .ok (.invokevirtual 190, 3) := by decide +kernel
theorem dX2_restore_21 : decode cX2_restore 21 = .ok (.aload_n 0, 1) := by decide +kernel
theorem dX2_restore_22 : decode cX2_restore 22 = .ok (.getfield 26, 3) := by decide +kernel
theorem dX2_restore_25 : decode cX2_restore 25 = .ok (.getfield 194, 3) := by decide +kernel
theorem dX2_restore_28 : decode cX2_restore 28 = .ok (.ireturn, 1) := by decide +kernel
set_option maxRecDepth 20000 in
theorem ggX2_count_X2_snowIn : GoodIn wsX2_count wsX2_snowIn := goodIn_r _ [16, 1, 26, 27, 28, 29, 30, 31, 32, 33, 34, 35] (by decide +kernel) (by decide +kernel)
set_option maxRecDepth 20000 in
theorem gX2_count_X2_snowIn : GoodIn wsX2_count (wsV RX2 186 RX2 yX2_snowIn wsX2_snowIn) := goodIn_app (goodIn_of _ (by decide +kernel)) ggX2_count_X2_snowIn
set_option maxRecDepth 20000 in
theorem ggX2_count_X2_keptIn : GoodIn wsX2_count wsX2_keptIn := goodIn_r _ [20, 1, 21, 22, 23, 15, 24, 25, 26, 27, 28, 29, 30, 31, 32, 33, 34, 35] (by decide +kernel) (by decide +kernel)
set_option maxRecDepth 20000 in
theorem gX2_count_X2_keptIn : GoodIn wsX2_count (wsV RX2 197 RX2 yX2_keptIn wsX2_keptIn) := goodIn_app (goodIn_of _ (by decide +kernel)) ggX2_count_X2_keptIn
theorem dX2_count_0 : decode cX2_count 0 = .ok (.iload_n 1, 1) := by decide +kernel
theorem dX2_count_1 : decode cX2_count 1 = .ok (.tableswitch 137 0 9 #[55, 60, 68, 76, 88, 100, 108, 116, 124, 132], 55) := by decide +kernel
theorem dX2_count_56 : decode cX2_count 56 = .ok (.aload_n 0, 1) := by decide +kernel
theorem dX2_count_57 : decode cX2_count 57 = .ok (.getfield 39, 3) := by decide +kernel
theorem dX2_count_60 : decode cX2_count 60 = .ok (.ireturn, 1) := by decide +kernel
theorem dX2_count_61 : decode cX2_count 61 = .ok (.aload_n 0, 1) := by decide +kernel
theorem dX2_count_62 : decode cX2_count 62 = .ok (.getfield 26, 3) := by decide +kernel
theorem dX2_count_65 : decode cX2_count 65 = .ok (.getfield 121, 3) := by decide +kernel
theorem dX2_count_68 : decode cX2_count 68 = .ok (.ireturn, 1) := by decide +kernel
theorem dX2_count_69 : decode cX2_count 69 = .ok (.aload_n 0, 1) := by decide +kernel
theorem dX2_count_70 : decode cX2_count 70 = .ok (.getfield 26, 3) := by decide +kernel
theorem dX2_count_73 : decode cX2_count 73 = .ok (.getfield 194, 3) := by decide +kernel
theorem dX2_count_76 : decode cX2_count 76 = .ok (.ireturn, 1) := by decide +kernel
theorem dX2_count_77 : decode cX2_count 77 = .ok (.aload_n 0, 1) := by decide +kernel
theorem dX2_count_78 : decode cX2_count 78 = .ok (.aload_n 0, 1) := by decide +kernel
theorem dX2_count_79 : decode cX2_count 79 = .ok (.getfield 26, 3) := by decide +kernel
theorem dX2_count_82 : decode cX2_count 82 = .ok (.getfield 92, 3) := by decide +kernel
theorem dX2_count_85 : decode cX2_count 85 = .ok (.invokevirtual 186, 3) := by decide +kernel
theorem dX2_count_88 : decode cX2_count 88 = .ok (.ireturn, 1) := by decide +kernel
theorem dX2_count_89 : decode cX2_count 89 = .ok (.aload_n 0, 1) := by decide +kernel
theorem dX2_count_90 : decode cX2_count 90 = .ok (.aload_n 0, 1) := by decide +kernel
theorem dX2_count_91 : decode cX2_count 91 = .ok (.getfield 26, 3) := by decide +kernel
theorem dX2_count_94 : decode cX2_count 94 = .ok (.getfield 92, 3) := by decide +kernel
theorem dX2_count_97 : decode cX2_count 97 = .ok (.invokevirtual 197, 3) := by decide +kernel
theorem dX2_count_100 : decode cX2_count 100 = .ok (.ireturn, 1) := by decide +kernel
theorem dX2_count_101 : decode cX2_count 101 = .ok (.aload_n 0, 1) := by decide +kernel
theorem dX2_count_102 : decode cX2_count 102 = .ok (.getfield 26, 3) := by decide +kernel
theorem dX2_count_105 : decode cX2_count 105 = .ok (.getfield 200, 3) := by decide +kernel
theorem dX2_count_108 : decode cX2_count 108 = .ok (.ireturn, 1) := by decide +kernel
theorem dX2_count_109 : decode cX2_count 109 = .ok (.aload_n 0, 1) := by decide +kernel
theorem dX2_count_110 : decode cX2_count 110 = .ok (.getfield 26, 3) := by decide +kernel
theorem dX2_count_113 : decode cX2_count 113 = .ok (.getfield 115, 3) := by decide +kernel
theorem dX2_count_116 : decode cX2_count 116 = .ok (.ireturn, 1) := by decide +kernel
theorem dX2_count_117 : decode cX2_count 117 = .ok (.aload_n 0, 1) := by decide +kernel
theorem dX2_count_118 : decode cX2_count 118 = .ok (.getfield 26, 3) := by decide +kernel
theorem dX2_count_121 : decode cX2_count 121 = .ok (.getfield 161, 3) := by decide +kernel
theorem dX2_count_124 : decode cX2_count 124 = .ok (.ireturn, 1) := by decide +kernel
theorem dX2_count_125 : decode cX2_count 125 = .ok (.aload_n 0, 1) := by decide +kernel
theorem dX2_count_126 : decode cX2_count 126 = .ok (.getfield 10, 3) := by decide +kernel
theorem dX2_count_129 : decode cX2_count 129 = .ok (.getfield 58, 3) := by decide +kernel
theorem dX2_count_132 : decode cX2_count 132 = .ok (.ireturn, 1) := by decide +kernel
theorem dX2_count_133 : decode cX2_count 133 = .ok (.aload_n 0, 1) := by decide +kernel
theorem dX2_count_134 : decode cX2_count 134 = .ok (.getfield 43, 3) := by decide +kernel
theorem dX2_count_137 : decode cX2_count 137 = .ok (.ireturn, 1) := by decide +kernel
theorem dX2_count_138 : decode cX2_count 138 = .ok (.bipush (-102), 2) := by decide +kernel
theorem dX2_count_140 : decode cX2_count 140 = .ok (.ireturn, 1) := by decide +kernel
set_option maxRecDepth 20000 in
theorem ggX2_digest_X2_about : GoodIn wsX2_digest wsX2_about := goodIn_r _ [9, 10, 11, 12, 13, 14, 15, 16, 17, 18, 8, 19, 2, 20, 21, 22, 23, 24, 25, 26, 27, 28, 29, 30, 31, 174, 175, 176, 177, 178, 179, 180, 181, 182, 183, 186, 187, 188, 189, 190, 191, 192, 193, 194, 195, 196, 197, 198] (by decide +kernel) (by decide +kernel)
set_option maxRecDepth 20000 in
theorem gX2_digest_X2_about : GoodIn wsX2_digest (wsV RX2 205 RX2 yX2_about wsX2_about) := goodIn_app (goodIn_of _ (by decide +kernel)) ggX2_digest_X2_about
set_option maxRecDepth 20000 in
theorem ggX2_digest_X2_mixed : GoodIn wsX2_digest wsX2_mixed := goodIn_r _ [34, 35] (by decide +kernel) (by decide +kernel)
set_option maxRecDepth 20000 in
theorem gX2_digest_X2_mixed : GoodIn wsX2_digest (va_wsS RX2 208 yX2_mixed wsX2_mixed) := goodIn_app (goodIn_of _ (by decide +kernel)) ggX2_digest_X2_mixed
set_option maxRecDepth 20000 in
theorem ggX2_digest_X2_need : GoodIn wsX2_digest wsX2_need := goodIn_r _ [39, 16, 17, 18, 8, 19, 2, 40, 41, 42, 43, 44, 45, 46, 11, 12, 13, 47, 48, 49, 50, 20, 21, 22, 23, 10, 24, 14, 25, 26, 27, 174, 175, 176, 177, 178, 179, 180, 181, 182, 183, 186, 187, 188, 189, 190, 191, 192, 193, 194, 195, 196, 197, 198] (by decide +kernel) (by decide +kernel)
set_option maxRecDepth 20000 in
theorem gX2_digest_X2_need : GoodIn wsX2_digest (wsV RX2 212 RX2 yX2_need wsX2_need) := goodIn_app (goodIn_of _ (by decide +kernel)) ggX2_digest_X2_need
set_option maxRecDepth 20000 in
theorem ggX2_digest_X2_plan : GoodIn wsX2_digest wsX2_plan := goodIn_r _ [54, 2, 40, 41, 8, 42, 55, 56, 57, 58, 59, 43, 44, 45, 46, 11, 12, 13, 47, 48, 49, 50, 20, 21, 22, 23, 10, 24, 14, 25, 26, 27, 60, 61, 62, 63, 64, 65, 66, 67, 68, 69, 70, 71, 72, 73, 74, 75, 76, 77, 78, 79, 80, 81, 82, 83, 84, 85, 86, 87, 88, 174, 175, 176, 177, 178, 179, 180, 181, 182, 183, 186, 187, 188, 189, 190, 191, 192, 193, 194, 195, 196, 197, 198] (by decide +kernel) (by decide +kernel)
set_option maxRecDepth 20000 in
theorem gX2_digest_X2_plan : GoodIn wsX2_digest (wsV RX2 215 RX2 yX2_plan wsX2_plan) := goodIn_app (goodIn_of _ (by decide +kernel)) ggX2_digest_X2_plan
set_option maxRecDepth 20000 in
theorem ggX2_digest_X2_error : GoodIn wsX2_digest wsX2_error := goodIn_r _ [92, 2, 40, 41, 8, 42, 93, 94, 95, 96, 12, 13, 97, 98, 99, 100, 28, 29, 30, 31, 11, 101, 102, 103, 104, 105, 106, 107, 108, 109, 15, 16, 17, 18, 19, 110, 111, 112, 113, 114, 49, 115, 174, 175, 176, 177, 178, 179, 180, 181, 182, 183, 186, 187, 188, 189, 190, 191, 192, 193, 194, 195, 196, 197, 198] (by decide +kernel) (by decide +kernel)
set_option maxRecDepth 20000 in
theorem gX2_digest_X2_error : GoodIn wsX2_digest (wsV RX2 219 RX2 yX2_error wsX2_error) := goodIn_app (goodIn_of _ (by decide +kernel)) ggX2_digest_X2_error
set_option maxRecDepth 20000 in
theorem ggX2_digest_X2_suns : GoodIn wsX2_digest wsX2_suns := goodIn_r _ [119, 2, 120, 121, 122, 8, 123, 124, 125, 126, 127, 12, 128, 129, 130, 131, 132, 25, 26, 27, 133, 134, 135, 174, 175, 176, 177, 178, 179, 180, 181, 182, 183, 186, 187, 188, 189, 190, 191, 192, 193, 194, 195, 196, 197, 198] (by decide +kernel) (by decide +kernel)
set_option maxRecDepth 20000 in
theorem gX2_digest_X2_suns : GoodIn wsX2_digest (wsV RX2 222 RX2 yX2_suns wsX2_suns) := goodIn_app (goodIn_of _ (by decide +kernel)) ggX2_digest_X2_suns
set_option maxRecDepth 20000 in
theorem ggX2_digest_X2_look : GoodIn wsX2_digest wsX2_look := goodIn_r _ [139, 2, 120, 121, 122, 8, 123, 124, 125, 126, 127, 12, 128, 129, 130, 131, 132, 25, 26, 27, 133, 134, 135, 140, 141, 142, 143, 144, 145, 146, 147, 47, 48, 49, 50, 68, 69, 70, 148, 149, 150, 151, 152, 153, 154, 155, 10, 14, 16, 17, 18, 19, 174, 175, 176, 177, 178, 179, 180, 181, 182, 183, 186, 187, 188, 189, 190, 191, 192, 193, 194, 195, 196, 197, 198] (by decide +kernel) (by decide +kernel)
set_option maxRecDepth 20000 in
theorem gX2_digest_X2_look : GoodIn wsX2_digest (wsV RX2 225 RX2 yX2_look wsX2_look) := goodIn_app (goodIn_of _ (by decide +kernel)) ggX2_digest_X2_look
set_option maxRecDepth 20000 in
theorem ggX2_digest_X0_codeAt : GoodIn wsX2_digest wsX0_codeAt := goodIn_r _ [160, 161, 184, 185] (by decide +kernel) (by decide +kernel)
set_option maxRecDepth 20000 in
theorem gX2_digest_X0_codeAt : GoodIn wsX2_digest (wsV RX2 228 RX0 yX0_codeAt wsX0_codeAt) := goodIn_app (goodIn_of _ (by decide +kernel)) ggX2_digest_X0_codeAt
set_option maxRecDepth 20000 in
theorem ggX2_digest_X2_count : GoodIn wsX2_digest wsX2_count := goodIn_r _ [165, 2, 12, 24, 166, 13, 167, 168, 128, 3, 4, 169, 170, 171, 172, 8, 173, 97, 98, 99, 100, 28, 29, 30, 31, 11, 174, 175, 176, 177, 178, 179, 180, 181, 182, 183, 186, 187, 188, 189, 190, 191, 192, 193, 194, 195, 196, 197, 198, 184, 185] (by decide +kernel) (by decide +kernel)
set_option maxRecDepth 20000 in
theorem gX2_digest_X2_count : GoodIn wsX2_digest (wsV RX2 231 RX2 yX2_count wsX2_count) := goodIn_app (goodIn_of _ (by decide +kernel)) ggX2_digest_X2_count
theorem dX2_digest_0 : decode cX2_digest 0 = .ok (.ldc2_w 203, 3) := by decide +kernel
theorem dX2_digest_3 : decode cX2_digest 3 = .ok (.lstore_n 1, 1) := by decide +kernel
theorem dX2_digest_4 : decode cX2_digest 4 = .ok (.iconst 0, 1) := by decide +kernel
theorem dX2_digest_5 : decode cX2_digest 5 = .ok (.istore_n 3, 1) := by decide +kernel
theorem dX2_digest_6 : decode cX2_digest 6 = .ok (.iload_n 3, 1) := by decide +kernel
theorem dX2_digest_7 : decode cX2_digest 7 = .ok (.aload_n 0, 1) := by decide +kernel
theorem dX2_digest_8 : decode cX2_digest 8 = .ok (.getfield 39, 3) := by decide +kernel
theorem dX2_digest_11 : decode cX2_digest 11 = .ok (.if_icmp .ge 70, 3) := by decide +kernel
theorem dX2_digest_14 : decode cX2_digest 14 = .ok (.iconst 0, 1) := by decide +kernel
theorem dX2_digest_15 : decode cX2_digest 15 = .ok (.istore 4, 2) := by decide +kernel
theorem dX2_digest_17 : decode cX2_digest 17 = .ok (.iload 4, 2) := by decide +kernel
theorem dX2_digest_19 : decode cX2_digest 19 = .ok (.bipush 6, 2) := by decide +kernel
theorem dX2_digest_21 : decode cX2_digest 21 = .ok (.if_icmp .gt 21, 3) := by decide +kernel
theorem dX2_digest_24 : decode cX2_digest 24 = .ok (.lload_n 1, 1) := by decide +kernel
theorem dX2_digest_25 : decode cX2_digest 25 = .ok (.aload_n 0, 1) := by decide +kernel
theorem dX2_digest_26 : decode cX2_digest 26 = .ok (.iload_n 3, 1) := by decide +kernel
theorem dX2_digest_27 : decode cX2_digest 27 = .ok (.iload 4, 2) := by decide +kernel
theorem dX2_digest_29 : decode cX2_digest 29 = .ok (.invokevirtual 205, 3) := by decide +kernel
theorem dX2_digest_32 : decode cX2_digest 32 = .ok (.invokestatic 208, 3) := by decide +kernel
theorem dX2_digest_35 : decode cX2_digest 35 = .ok (.lstore_n 1, 1) := by decide +kernel
theorem dX2_digest_36 : decode cX2_digest 36 = .ok (.iinc 4 1, 3) := by decide +kernel
theorem dX2_digest_39 : decode cX2_digest 39 = .ok (.goto (-22), 3) := by decide +kernel
theorem dX2_digest_42 : decode cX2_digest 42 = .ok (.lload_n 1, 1) := by decide +kernel
theorem dX2_digest_43 : decode cX2_digest 43 = .ok (.aload_n 0, 1) := by decide +kernel
theorem dX2_digest_44 : decode cX2_digest 44 = .ok (.iload_n 3, 1) := by decide +kernel
