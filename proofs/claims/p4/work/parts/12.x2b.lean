set_option maxRecDepth 20000 in
theorem ggX2_init_X0_init : GoodIn wsX2_init wsX0_init := goodIn_r _ [23, 24, 2, 3, 8, 25, 26, 39, 40] (by decide +kernel) (by decide +kernel)
set_option maxRecDepth 20000 in
theorem gX2_init_X0_init : GoodIn wsX2_init (wsX0_init) := ggX2_init_X0_init
set_option maxRecDepth 20000 in
theorem ggX2_init_X1_init : GoodIn wsX2_init wsX1_init := goodIn_r _ [29, 30, 2, 3, 8, 31, 32, 33, 34, 35, 36, 37, 38, 51, 52, 53, 54, 55, 56, 57, 58, 59, 60, 61, 62, 63] (by decide +kernel) (by decide +kernel)
set_option maxRecDepth 20000 in
theorem gX2_init_X1_init : GoodIn wsX2_init (wsX1_init) := ggX2_init_X1_init
set_option maxRecDepth 20000 in
theorem ggX2_letter_X2_isWithin : GoodIn wsX2_letter wsX2_isWithin := goodIn_r _ [6] (by decide +kernel) (by decide +kernel)
set_option maxRecDepth 20000 in
theorem gX2_letter_X2_isWithin : GoodIn wsX2_letter (va_wsS RX2 50 yX2_isWithin wsX2_isWithin) := goodIn_app (goodIn_of _ (by decide +kernel)) ggX2_letter_X2_isWithin
set_option maxRecDepth 20000 in
theorem ggX2_letter_X0_add : GoodIn wsX2_letter wsX0_add := goodIn_r _ [11, 12, 13, 24, 25] (by decide +kernel) (by decide +kernel)
set_option maxRecDepth 20000 in
theorem gX2_letter_X0_add : GoodIn wsX2_letter (wsV RX2 54 RX0 yX0_add wsX0_add) := goodIn_app (goodIn_of _ (by decide +kernel)) ggX2_letter_X0_add
set_option maxRecDepth 20000 in
theorem ggX2_blank_X0_clear : GoodIn wsX2_blank wsX0_clear := goodIn_r _ [6, 7, 18, 19] (by decide +kernel) (by decide +kernel)
set_option maxRecDepth 20000 in
theorem gX2_blank_X0_clear : GoodIn wsX2_blank (wsV RX2 61 RX0 yX0_clear wsX0_clear) := goodIn_app (goodIn_of _ (by decide +kernel)) ggX2_blank_X0_clear
set_option maxRecDepth 20000 in
theorem ggX2_fault_X0_faultPlace : GoodIn wsX2_fault wsX0_faultPlace := goodIn_r _ [6, 7, 8, 9, 10, 5, 11, 12, 13, 14, 15, 16, 17, 18, 19, 20, 21, 22, 23, 24, 25, 26, 27, 28, 29, 30, 31, 32, 33, 34, 35, 36, 37, 38, 39, 40, 41, 42, 43, 44, 45, 46, 47, 48, 49, 50, 51, 52, 53, 54, 55, 56, 57, 58, 59, 60, 61, 62, 63, 64, 65, 66, 67, 68, 69, 70, 71, 72, 73, 74, 75, 76, 77, 78, 79, 80, 81, 82, 83, 84, 85, 86, 87, 88, 89, 90, 91, 92, 93, 94, 95, 96, 97, 98, 99, 100, 101, 102, 103, 104, 105, 106, 107, 108, 109, 110, 111, 112, 113, 114, 115, 116, 117, 118, 119, 120, 131, 132] (by decide +kernel) (by decide +kernel)
set_option maxRecDepth 20000 in
theorem gX2_fault_X0_faultPlace : GoodIn wsX2_fault (wsV RX2 65 RX0 yX0_faultPlace wsX0_faultPlace) := goodIn_app (goodIn_of _ (by decide +kernel)) ggX2_fault_X0_faultPlace
set_option maxRecDepth 20000 in
theorem ggX2_city_X0_isWhole : GoodIn wsX2_city wsX0_isWhole := goodIn_r _ [12, 13, 14, 15, 16, 11, 17, 18, 19, 20, 21, 22, 23, 24, 25, 26, 27, 28, 29, 30, 31, 32, 33, 34, 35, 36, 37, 38, 39, 40, 41, 42, 43, 44, 45, 46, 47, 48, 49, 50, 51, 52, 53, 54, 55, 56, 57, 58, 59, 60, 61, 62, 63, 64, 65, 66, 67, 68, 69, 70, 71, 72, 73, 74, 75, 76, 77, 78, 79, 80, 81, 82, 83, 84, 85, 86, 87, 88, 89, 90, 91, 92, 93, 94, 95, 96, 97, 98, 99, 100, 101, 102, 103, 104, 105, 106, 107, 108, 109, 110, 111, 112, 113, 114, 115, 116, 117, 118, 119, 120, 121, 122, 123, 124, 125, 126, 127, 128, 129, 130, 179, 180] (by decide +kernel) (by decide +kernel)
set_option maxRecDepth 20000 in
theorem gX2_city_X0_isWhole : GoodIn wsX2_city (wsV RX2 68 RX0 yX0_isWhole wsX0_isWhole) := goodIn_app (goodIn_of _ (by decide +kernel)) ggX2_city_X0_isWhole
set_option maxRecDepth 20000 in
theorem ggX2_city_X0_siteCount : GoodIn wsX2_city wsX0_siteCount := goodIn_r _ [134, 13, 179, 180] (by decide +kernel) (by decide +kernel)
set_option maxRecDepth 20000 in
theorem gX2_city_X0_siteCount : GoodIn wsX2_city (wsV RX2 72 RX0 yX0_siteCount wsX0_siteCount) := goodIn_app (goodIn_of _ (by decide +kernel)) ggX2_city_X0_siteCount
set_option maxRecDepth 20000 in
theorem ggX2_city_X0_kindOf : GoodIn wsX2_city wsX0_kindOf := goodIn_r _ [138, 22, 23, 24, 11, 25, 26, 27, 28, 29, 30, 31, 32, 33, 34, 35, 36, 37, 38, 39, 40, 41, 42, 43, 44, 45, 46, 47, 48, 49, 50, 51, 52, 53, 54, 55, 56, 57, 58, 59, 60, 61, 62, 63, 64, 65, 66, 67, 68, 69, 70, 71, 72, 73, 74, 75, 76, 77, 78, 79, 80, 81, 82, 83, 84, 85, 86, 87, 88, 89, 90, 91, 92, 93, 94, 95, 96, 97, 98, 99, 100, 101, 102, 103, 104, 105, 106, 107, 108, 109, 110, 111, 112, 113, 114, 115, 116, 117, 118, 119, 179, 180] (by decide +kernel) (by decide +kernel)
set_option maxRecDepth 20000 in
theorem gX2_city_X0_kindOf : GoodIn wsX2_city (wsV RX2 75 RX0 yX0_kindOf wsX0_kindOf) := goodIn_app (goodIn_of _ (by decide +kernel)) ggX2_city_X0_kindOf
set_option maxRecDepth 20000 in
theorem ggX2_city_X0_wantOf : GoodIn wsX2_city wsX0_wantOf := goodIn_r _ [142, 143, 144, 145, 11, 146, 26, 27, 28, 29, 30, 179, 180] (by decide +kernel) (by decide +kernel)
set_option maxRecDepth 20000 in
theorem gX2_city_X0_wantOf : GoodIn wsX2_city (wsV RX2 79 RX0 yX0_wantOf wsX0_wantOf) := goodIn_app (goodIn_of _ (by decide +kernel)) ggX2_city_X0_wantOf
set_option maxRecDepth 20000 in
theorem ggX2_city_X0_sunTold : GoodIn wsX2_city wsX0_sunTold := goodIn_r _ [150, 13, 143, 144, 145, 11, 146, 26, 27, 28, 29, 30, 179, 180] (by decide +kernel) (by decide +kernel)
set_option maxRecDepth 20000 in
theorem gX2_city_X0_sunTold : GoodIn wsX2_city (wsV RX2 82 RX0 yX0_sunTold wsX0_sunTold) := goodIn_app (goodIn_of _ (by decide +kernel)) ggX2_city_X0_sunTold
set_option maxRecDepth 20000 in
theorem ggX2_city_X1_begin : GoodIn wsX2_city wsX1_begin := goodIn_r _ [155, 156, 157, 158, 159, 160, 161, 162, 163, 164, 181, 182, 183, 184, 185, 186, 187, 188, 189, 190, 191, 192, 193] (by decide +kernel) (by decide +kernel)
set_option maxRecDepth 20000 in
theorem gX2_city_X1_begin : GoodIn wsX2_city (wsV RX2 85 RX1 yX1_begin wsX1_begin) := goodIn_app (goodIn_of _ (by decide +kernel)) ggX2_city_X1_begin
set_option maxRecDepth 20000 in
theorem ggX2_city_X0_clear : GoodIn wsX2_city wsX0_clear := goodIn_r _ [168, 13, 179, 180] (by decide +kernel) (by decide +kernel)
set_option maxRecDepth 20000 in
theorem gX2_city_X0_clear : GoodIn wsX2_city (wsV RX2 61 RX0 yX0_clear wsX0_clear) := goodIn_app (goodIn_of _ (by decide +kernel)) ggX2_city_X0_clear
set_option maxRecDepth 20000 in
theorem ggX2_about_X2_isSite : GoodIn wsX2_about wsX2_isSite := goodIn_r _ [11, 12, 25, 26, 27, 28, 29, 30, 31, 32, 33, 34] (by decide +kernel) (by decide +kernel)
set_option maxRecDepth 20000 in
theorem gX2_about_X2_isSite : GoodIn wsX2_about (wsV RX2 89 RX2 yX2_isSite wsX2_isSite) := goodIn_app (goodIn_of _ (by decide +kernel)) ggX2_about_X2_isSite
set_option maxRecDepth 20000 in
theorem ggX2_about_X2_meltsNow : GoodIn wsX2_about wsX2_meltsNow := goodIn_r _ [16, 1, 3, 17, 5, 18, 19, 10, 20, 25, 26, 27, 28, 29, 30, 31, 32, 33, 34, 35, 36, 37, 38, 39, 40, 41, 42, 43, 44, 45, 46, 47] (by decide +kernel) (by decide +kernel)
set_option maxRecDepth 20000 in
theorem gX2_about_X2_meltsNow : GoodIn wsX2_about (wsV RX2 98 RX2 yX2_meltsNow wsX2_meltsNow) := goodIn_app (goodIn_of _ (by decide +kernel)) ggX2_about_X2_meltsNow
set_option maxRecDepth 20000 in
theorem ggX2_about_X2_isKeptWith : GoodIn wsX2_about wsX2_isKeptWith := goodIn_r _ [24, 2, 25, 26, 27, 28, 29, 30, 31, 32, 33, 34] (by decide +kernel) (by decide +kernel)
set_option maxRecDepth 20000 in
theorem gX2_about_X2_isKeptWith : GoodIn wsX2_about (wsV RX2 101 RX2 yX2_isKeptWith wsX2_isKeptWith) := goodIn_app (goodIn_of _ (by decide +kernel)) ggX2_about_X2_isKeptWith
set_option maxRecDepth 20000 in
theorem ggX2_as_X2_isSite : GoodIn wsX2_as wsX2_isSite := goodIn_r _ [6, 7, 14, 15, 16, 17, 18, 19, 20, 21, 22, 23] (by decide +kernel) (by decide +kernel)
set_option maxRecDepth 20000 in
theorem gX2_as_X2_isSite : GoodIn wsX2_as (wsV RX2 89 RX2 yX2_isSite wsX2_isSite) := goodIn_app (goodIn_of _ (by decide +kernel)) ggX2_as_X2_isSite
set_option maxRecDepth 20000 in
theorem ggX2_as_X2_isWithin : GoodIn wsX2_as wsX2_isWithin := goodIn_r _ [10] (by decide +kernel) (by decide +kernel)
set_option maxRecDepth 20000 in
theorem gX2_as_X2_isWithin : GoodIn wsX2_as (va_wsS RX2 50 yX2_isWithin wsX2_isWithin) := goodIn_app (goodIn_of _ (by decide +kernel)) ggX2_as_X2_isWithin
set_option maxRecDepth 20000 in
theorem ggX2_as_X2_isOfKind : GoodIn wsX2_as wsX2_isOfKind := goodIn_r _ [13] (by decide +kernel) (by decide +kernel)
set_option maxRecDepth 20000 in
theorem gX2_as_X2_isOfKind : GoodIn wsX2_as (va_wsS RX2 108 yX2_isOfKind wsX2_isOfKind) := goodIn_app (goodIn_of _ (by decide +kernel)) ggX2_as_X2_isOfKind
set_option maxRecDepth 20000 in
theorem ggX2_bring_X2_isSite : GoodIn wsX2_bring wsX2_isSite := goodIn_r _ [9, 10, 24, 25, 26, 27, 28, 29, 30, 31, 32, 33] (by decide +kernel) (by decide +kernel)
set_option maxRecDepth 20000 in
theorem gX2_bring_X2_isSite : GoodIn wsX2_bring (wsV RX2 89 RX2 yX2_isSite wsX2_isSite) := goodIn_app (goodIn_of _ (by decide +kernel)) ggX2_bring_X2_isSite
set_option maxRecDepth 20000 in
theorem ggX2_bring_X2_isWithin : GoodIn wsX2_bring wsX2_isWithin := goodIn_r _ [13] (by decide +kernel) (by decide +kernel)
set_option maxRecDepth 20000 in
theorem gX2_bring_X2_isWithin : GoodIn wsX2_bring (va_wsS RX2 50 yX2_isWithin wsX2_isWithin) := goodIn_app (goodIn_of _ (by decide +kernel)) ggX2_bring_X2_isWithin
set_option maxRecDepth 20000 in
theorem ggX2_bring_X2_deepened : GoodIn wsX2_bring wsX2_deepened := goodIn_r _ [16, 17, 18, 19, 20] (by decide +kernel) (by decide +kernel)
set_option maxRecDepth 20000 in
theorem gX2_bring_X2_deepened : GoodIn wsX2_bring (va_wsS RX2 111 yX2_deepened wsX2_deepened) := goodIn_app (goodIn_of _ (by decide +kernel)) ggX2_bring_X2_deepened
set_option maxRecDepth 20000 in
theorem ggX2_bring_X2_priceAt : GoodIn wsX2_bring wsX2_priceAt := goodIn_r _ [23] (by decide +kernel) (by decide +kernel)
set_option maxRecDepth 20000 in
theorem gX2_bring_X2_priceAt : GoodIn wsX2_bring (va_wsS RX2 118 yX2_priceAt wsX2_priceAt) := goodIn_app (goodIn_of _ (by decide +kernel)) ggX2_bring_X2_priceAt
set_option maxRecDepth 20000 in
theorem ggX2_tread_X2_isSite : GoodIn wsX2_tread wsX2_isSite := goodIn_r _ [7, 8, 12, 13, 14, 15, 16, 17, 18, 19, 20, 21] (by decide +kernel) (by decide +kernel)
set_option maxRecDepth 20000 in
theorem gX2_tread_X2_isSite : GoodIn wsX2_tread (wsV RX2 89 RX2 yX2_isSite wsX2_isSite) := goodIn_app (goodIn_of _ (by decide +kernel)) ggX2_tread_X2_isSite
set_option maxRecDepth 20000 in
theorem ggX2_tread_X2_isWithin : GoodIn wsX2_tread wsX2_isWithin := goodIn_r _ [11] (by decide +kernel) (by decide +kernel)
set_option maxRecDepth 20000 in
theorem gX2_tread_X2_isWithin : GoodIn wsX2_tread (va_wsS RX2 50 yX2_isWithin wsX2_isWithin) := goodIn_app (goodIn_of _ (by decide +kernel)) ggX2_tread_X2_isWithin
set_option maxRecDepth 20000 in
theorem ggX2_sun_X2_isWithin : GoodIn wsX2_sun wsX2_isWithin := goodIn_r _ [7] (by decide +kernel) (by decide +kernel)
set_option maxRecDepth 20000 in
theorem gX2_sun_X2_isWithin : GoodIn wsX2_sun (va_wsS RX2 50 yX2_isWithin wsX2_isWithin) := goodIn_app (goodIn_of _ (by decide +kernel)) ggX2_sun_X2_isWithin
set_option maxRecDepth 20000 in
theorem ggX2_day_X2_meltAll : GoodIn wsX2_day wsX2_meltAll := goodIn_r _ [9, 1, 10, 2, 11, 12, 13, 8, 14, 15, 16, 17, 18, 19, 20, 21, 22, 23, 24, 25, 26, 37, 38, 39, 40, 41, 42, 43, 44, 45, 46, 47, 48, 49, 50, 51, 52, 53, 54, 55, 56, 57, 58, 59] (by decide +kernel) (by decide +kernel)
set_option maxRecDepth 20000 in
theorem gX2_day_X2_meltAll : GoodIn wsX2_day (wsV RX2 124 RX2 yX2_meltAll wsX2_meltAll) := goodIn_app (goodIn_of _ (by decide +kernel)) ggX2_day_X2_meltAll
set_option maxRecDepth 20000 in
theorem ggX2_day_X1_endDay : GoodIn wsX2_day wsX1_endDay := goodIn_r _ [31, 32, 33, 34, 35, 36, 47, 48, 49, 50, 51, 52, 53, 54, 55, 56, 57, 58, 59] (by decide +kernel) (by decide +kernel)
set_option maxRecDepth 20000 in
theorem gX2_day_X1_endDay : GoodIn wsX2_day (wsV RX2 128 RX1 yX1_endDay wsX1_endDay) := goodIn_app (goodIn_of _ (by decide +kernel)) ggX2_day_X1_endDay
set_option maxRecDepth 20000 in
theorem ggX2_need_X2_isSite : GoodIn wsX2_need wsX2_isSite := goodIn_r _ [5, 6, 31, 32, 33, 34, 35, 36, 37, 38, 39, 40] (by decide +kernel) (by decide +kernel)
set_option maxRecDepth 20000 in
theorem gX2_need_X2_isSite : GoodIn wsX2_need (wsV RX2 89 RX2 yX2_isSite wsX2_isSite) := goodIn_app (goodIn_of _ (by decide +kernel)) ggX2_need_X2_isSite
set_option maxRecDepth 20000 in
theorem ggX2_need_X2_isWithin : GoodIn wsX2_need wsX2_isWithin := goodIn_r _ [9] (by decide +kernel) (by decide +kernel)
set_option maxRecDepth 20000 in
theorem gX2_need_X2_isWithin : GoodIn wsX2_need (va_wsS RX2 50 yX2_isWithin wsX2_isWithin) := goodIn_app (goodIn_of _ (by decide +kernel)) ggX2_need_X2_isWithin
set_option maxRecDepth 20000 in
theorem ggX2_need_X2_loadsNeeded : GoodIn wsX2_need wsX2_loadsNeeded := goodIn_r _ [13, 14, 15, 16, 17, 18, 19, 20, 21, 22, 23, 4, 24, 25, 26, 27, 28, 29, 30, 31, 32, 33, 34, 35, 36, 37, 38, 39, 40, 41, 42, 43, 44, 45, 46, 47, 48, 49, 50, 51, 52, 53] (by decide +kernel) (by decide +kernel)
set_option maxRecDepth 20000 in
theorem gX2_need_X2_loadsNeeded : GoodIn wsX2_need (wsV RX2 131 RX2 yX2_loadsNeeded wsX2_loadsNeeded) := goodIn_app (goodIn_of _ (by decide +kernel)) ggX2_need_X2_loadsNeeded
set_option maxRecDepth 20000 in
theorem ggX2_plan_X2_isWithin : GoodIn wsX2_plan wsX2_isWithin := goodIn_r _ [5] (by decide +kernel) (by decide +kernel)
set_option maxRecDepth 20000 in
theorem gX2_plan_X2_isWithin : GoodIn wsX2_plan (va_wsS RX2 50 yX2_isWithin wsX2_isWithin) := goodIn_app (goodIn_of _ (by decide +kernel)) ggX2_plan_X2_isWithin
set_option maxRecDepth 20000 in
theorem ggX2_plan_X2_tellNeeds : GoodIn wsX2_plan wsX2_tellNeeds := goodIn_r _ [9, 1, 10, 11, 12, 13, 4, 14, 15, 16, 17, 18, 19, 20, 21, 22, 23, 24, 25, 26, 27, 28, 29, 30, 31, 61, 62, 63, 64, 65, 66, 67, 68, 69, 70, 71, 72, 73, 74, 75, 76, 77, 78, 79, 80, 81, 82, 83] (by decide +kernel) (by decide +kernel)
set_option maxRecDepth 20000 in
theorem gX2_plan_X2_tellNeeds : GoodIn wsX2_plan (wsV RX2 134 RX2 yX2_tellNeeds wsX2_tellNeeds) := goodIn_app (goodIn_of _ (by decide +kernel)) ggX2_plan_X2_tellNeeds
set_option maxRecDepth 20000 in
theorem ggX2_plan_X2_bestPlan : GoodIn wsX2_plan wsX2_bestPlan := goodIn_r _ [35, 1, 36, 37, 38, 4, 39, 10, 40, 41, 42, 43, 44, 45, 46, 47, 48, 49, 50, 51, 52, 53, 54, 55, 56, 57, 58, 59, 60, 61, 62, 63, 64, 65, 66, 67, 68, 69, 70] (by decide +kernel) (by decide +kernel)
set_option maxRecDepth 20000 in
theorem gX2_plan_X2_bestPlan : GoodIn wsX2_plan (wsV RX2 137 RX2 yX2_bestPlan wsX2_bestPlan) := goodIn_app (goodIn_of _ (by decide +kernel)) ggX2_plan_X2_bestPlan
set_option maxRecDepth 20000 in
theorem ggX2_plan_J6_bitCount_0f7a4 : GoodIn wsX2_plan wsJ6_bitCount_0f7a4 := goodIn_r _ [50, 51, 52, 53] (by decide +kernel) (by decide +kernel)
set_option maxRecDepth 20000 in
theorem gX2_plan_J6_bitCount_0f7a4 : GoodIn wsX2_plan (va_wsS RX2 140 yJ6_bitCount_0f7a4 wsJ6_bitCount_0f7a4) := goodIn_app (goodIn_of _ (by decide +kernel)) ggX2_plan_J6_bitCount_0f7a4
set_option maxRecDepth 20000 in
theorem ggX2_plan_X2_loadsOf : GoodIn wsX2_plan wsX2_loadsOf := goodIn_r _ [39, 1, 10, 40, 41, 4, 42, 61, 62, 63, 64, 65, 66, 67, 68, 69, 70] (by decide +kernel) (by decide +kernel)
set_option maxRecDepth 20000 in
theorem gX2_plan_X2_loadsOf : GoodIn wsX2_plan (wsV RX2 145 RX2 yX2_loadsOf wsX2_loadsOf) := goodIn_app (goodIn_of _ (by decide +kernel)) ggX2_plan_X2_loadsOf
set_option maxRecDepth 20000 in
theorem ggX2_plan_X2_costOf : GoodIn wsX2_plan wsX2_costOf := goodIn_r _ [57, 1, 10, 40, 41, 4, 42, 58, 59, 60, 61, 62, 63, 64, 65, 66, 67, 68, 69, 70] (by decide +kernel) (by decide +kernel)
set_option maxRecDepth 20000 in
theorem gX2_plan_X2_costOf : GoodIn wsX2_plan (wsV RX2 148 RX2 yX2_costOf wsX2_costOf) := goodIn_app (goodIn_of _ (by decide +kernel)) ggX2_plan_X2_costOf
set_option maxRecDepth 20000 in
theorem ggX2_error_X2_isWithin : GoodIn wsX2_error wsX2_isWithin := goodIn_r _ [5] (by decide +kernel) (by decide +kernel)
set_option maxRecDepth 20000 in
theorem gX2_error_X2_isWithin : GoodIn wsX2_error (va_wsS RX2 50 yX2_isWithin wsX2_isWithin) := goodIn_app (goodIn_of _ (by decide +kernel)) ggX2_error_X2_isWithin
set_option maxRecDepth 20000 in
theorem ggX2_error_X2_bestError : GoodIn wsX2_error wsX2_bestError := goodIn_r _ [9, 10, 11, 1, 12, 13, 14, 4, 15, 16, 17, 18, 19, 20, 21, 22, 23, 24, 25, 26, 27, 28, 29, 30, 31, 32, 33, 34, 35, 36, 37, 38, 39, 40, 41, 42, 43, 44, 45, 46, 47, 48, 49, 50, 51, 52, 53, 54, 55, 56, 57, 58, 59, 60, 61, 62, 63, 64] (by decide +kernel) (by decide +kernel)
set_option maxRecDepth 20000 in
theorem gX2_error_X2_bestError : GoodIn wsX2_error (wsV RX2 151 RX2 yX2_bestError wsX2_bestError) := goodIn_app (goodIn_of _ (by decide +kernel)) ggX2_error_X2_bestError
set_option maxRecDepth 20000 in
theorem ggX2_error_X2_keptIfSwapped : GoodIn wsX2_error wsX2_keptIfSwapped := goodIn_r _ [24, 1, 10, 11, 25, 26, 27, 4, 28, 29, 30, 31, 32, 33, 34, 35, 36, 37, 38, 39, 40, 41, 16, 17, 18, 19, 20, 42, 43, 44, 45, 46, 47, 48, 49, 50, 51, 52, 53, 54, 55, 56, 57, 58, 59, 60, 61, 62, 63, 64] (by decide +kernel) (by decide +kernel)
set_option maxRecDepth 20000 in
theorem gX2_error_X2_keptIfSwapped : GoodIn wsX2_error (wsV RX2 154 RX2 yX2_keptIfSwapped wsX2_keptIfSwapped) := goodIn_app (goodIn_of _ (by decide +kernel)) ggX2_error_X2_keptIfSwapped
set_option maxRecDepth 20000 in
theorem ggX2_found_X2_isSite : GoodIn wsX2_found wsX2_isSite := goodIn_r _ [9, 10, 24, 25, 26, 27, 28, 29, 30, 31, 32, 33] (by decide +kernel) (by decide +kernel)
set_option maxRecDepth 20000 in
theorem gX2_found_X2_isSite : GoodIn wsX2_found (wsV RX2 89 RX2 yX2_isSite wsX2_isSite) := goodIn_app (goodIn_of _ (by decide +kernel)) ggX2_found_X2_isSite
set_option maxRecDepth 20000 in
theorem ggX2_found_X2_isWithin : GoodIn wsX2_found wsX2_isWithin := goodIn_r _ [13] (by decide +kernel) (by decide +kernel)
set_option maxRecDepth 20000 in
theorem gX2_found_X2_isWithin : GoodIn wsX2_found (va_wsS RX2 50 yX2_isWithin wsX2_isWithin) := goodIn_app (goodIn_of _ (by decide +kernel)) ggX2_found_X2_isWithin
set_option maxRecDepth 20000 in
theorem ggX2_found_X1_addFound : GoodIn wsX2_found wsX1_addFound := goodIn_r _ [18, 19, 20, 21, 22, 23, 34, 35, 36, 37, 38, 39, 40, 41, 42, 43, 44, 45, 46] (by decide +kernel) (by decide +kernel)
set_option maxRecDepth 20000 in
theorem gX2_found_X1_addFound : GoodIn wsX2_found (wsV RX2 157 RX1 yX1_addFound wsX1_addFound) := goodIn_app (goodIn_of _ (by decide +kernel)) ggX2_found_X1_addFound
set_option maxRecDepth 20000 in
theorem ggX2_suns_X2_possibleSuns : GoodIn wsX2_suns wsX2_possibleSuns := goodIn_r _ [6, 7, 8, 9, 5, 10, 11, 12, 13, 14, 15, 16, 17, 18, 19, 20, 21, 22, 23, 24, 25, 26, 27, 28, 29, 30, 31, 32, 33, 34, 35, 36, 37, 38, 39, 40, 41, 42, 43, 44, 45] (by decide +kernel) (by decide +kernel)
set_option maxRecDepth 20000 in
theorem gX2_suns_X2_possibleSuns : GoodIn wsX2_suns (wsV RX2 164 RX2 yX2_possibleSuns wsX2_possibleSuns) := goodIn_app (goodIn_of _ (by decide +kernel)) ggX2_suns_X2_possibleSuns
set_option maxRecDepth 20000 in
theorem ggX2_look_X2_possibleSuns : GoodIn wsX2_look wsX2_possibleSuns := goodIn_r _ [6, 7, 8, 9, 5, 10, 11, 12, 13, 14, 15, 16, 17, 18, 19, 20, 21, 22, 52, 53, 54, 55, 56, 57, 58, 59, 60, 61, 62, 63, 64, 65, 66, 67, 68, 69, 70, 71, 72, 73, 74] (by decide +kernel) (by decide +kernel)
set_option maxRecDepth 20000 in
theorem gX2_look_X2_possibleSuns : GoodIn wsX2_look (wsV RX2 164 RX2 yX2_possibleSuns wsX2_possibleSuns) := goodIn_app (goodIn_of _ (by decide +kernel)) ggX2_look_X2_possibleSuns
set_option maxRecDepth 20000 in
theorem ggX2_look_X2_bestLook : GoodIn wsX2_look wsX2_bestLook := goodIn_r _ [26, 1, 27, 28, 29, 5, 30, 31, 32, 33, 34, 35, 36, 37, 38, 39, 40, 41, 42, 43, 44, 45, 46, 11, 47, 48, 49, 50, 51, 17, 18, 19, 20, 21, 22, 52, 53, 54, 55, 56, 57, 58, 59, 60, 61, 62, 63, 64, 65, 66, 67, 68, 69, 70, 71, 72, 73, 74] (by decide +kernel) (by decide +kernel)
set_option maxRecDepth 20000 in
theorem gX2_look_X2_bestLook : GoodIn wsX2_look (wsV RX2 167 RX2 yX2_bestLook wsX2_bestLook) := goodIn_app (goodIn_of _ (by decide +kernel)) ggX2_look_X2_bestLook
set_option maxRecDepth 20000 in
theorem ggX2_winters_X2_isWithin : GoodIn wsX2_winters wsX2_isWithin := goodIn_r _ [12] (by decide +kernel) (by decide +kernel)
set_option maxRecDepth 20000 in
theorem gX2_winters_X2_isWithin : GoodIn wsX2_winters (va_wsS RX2 50 yX2_isWithin wsX2_isWithin) := goodIn_app (goodIn_of _ (by decide +kernel)) ggX2_winters_X2_isWithin
set_option maxRecDepth 20000 in
theorem ggX2_winters_X2_seedAfter : GoodIn wsX2_winters wsX2_seedAfter := goodIn_r _ [15, 16, 17, 18] (by decide +kernel) (by decide +kernel)
set_option maxRecDepth 20000 in
theorem gX2_winters_X2_seedAfter : GoodIn wsX2_winters (va_wsS RX2 176 yX2_seedAfter wsX2_seedAfter) := goodIn_app (goodIn_of _ (by decide +kernel)) ggX2_winters_X2_seedAfter
set_option maxRecDepth 20000 in
theorem ggX2_winters_X2_drawOf : GoodIn wsX2_winters wsX2_drawOf := goodIn_r _ [21, 22] (by decide +kernel) (by decide +kernel)
set_option maxRecDepth 20000 in
theorem gX2_winters_X2_drawOf : GoodIn wsX2_winters (va_wsS RX2 179 yX2_drawOf wsX2_drawOf) := goodIn_app (goodIn_of _ (by decide +kernel)) ggX2_winters_X2_drawOf
set_option maxRecDepth 20000 in
theorem ggX2_winters_X2_bringOneLoad : GoodIn wsX2_winters wsX2_bringOneLoad := goodIn_r _ [26, 27, 28, 29, 11, 30, 1, 31, 32, 33, 34, 35, 36, 37, 63, 64, 65, 66, 67, 68, 69, 70, 71, 72] (by decide +kernel) (by decide +kernel)
set_option maxRecDepth 20000 in
theorem gX2_winters_X2_bringOneLoad : GoodIn wsX2_winters (wsV RX2 182 RX2 yX2_bringOneLoad wsX2_bringOneLoad) := goodIn_app (goodIn_of _ (by decide +kernel)) ggX2_winters_X2_bringOneLoad
set_option maxRecDepth 20000 in
theorem ggX2_winters_X2_meltAll : GoodIn wsX2_winters wsX2_meltAll := goodIn_r _ [41, 1, 42, 2, 43, 44, 45, 11, 46, 47, 48, 49, 50, 51, 52, 53, 54, 55, 56, 57, 58, 63, 64, 65, 66, 67, 68, 69, 70, 71, 72, 73, 74, 75, 76, 77, 78, 79, 80, 81, 82, 83, 84, 85] (by decide +kernel) (by decide +kernel)
set_option maxRecDepth 20000 in
theorem gX2_winters_X2_meltAll : GoodIn wsX2_winters (wsV RX2 124 RX2 yX2_meltAll wsX2_meltAll) := goodIn_app (goodIn_of _ (by decide +kernel)) ggX2_winters_X2_meltAll
set_option maxRecDepth 20000 in
theorem ggX2_winters_X2_snowIn : GoodIn wsX2_winters wsX2_snowIn := goodIn_r _ [62, 1, 63, 64, 65, 66, 67, 68, 69, 70, 71, 72] (by decide +kernel) (by decide +kernel)
set_option maxRecDepth 20000 in
theorem gX2_winters_X2_snowIn : GoodIn wsX2_winters (wsV RX2 186 RX2 yX2_snowIn wsX2_snowIn) := goodIn_app (goodIn_of _ (by decide +kernel)) ggX2_winters_X2_snowIn
set_option maxRecDepth 20000 in
theorem ggX2_image_X1_copy : GoodIn wsX2_image wsX1_copy := goodIn_r _ [10, 11, 12, 13, 14, 15, 16, 17, 18, 19, 20, 21, 22, 23, 24, 25, 9, 26, 27, 28, 29, 30, 31, 32, 33, 34, 45, 46, 47, 48, 49, 50, 51, 52, 53, 54, 55, 56, 57] (by decide +kernel) (by decide +kernel)
set_option maxRecDepth 20000 in
theorem gX2_image_X1_copy : GoodIn wsX2_image (wsV RX2 190 RX1 yX1_copy wsX1_copy) := goodIn_app (goodIn_of _ (by decide +kernel)) ggX2_image_X1_copy
set_option maxRecDepth 20000 in
theorem ggX2_restore_X1_copy : GoodIn wsX2_restore wsX1_copy := goodIn_r _ [9, 10, 11, 12, 13, 14, 15, 16, 17, 18, 19, 20, 21, 22, 23, 24, 8, 25, 26, 27, 28, 29, 30, 31, 32, 33, 44, 45, 46, 47, 48, 49, 50, 51, 52, 53, 54, 55, 56] (by decide +kernel) (by decide +kernel)
set_option maxRecDepth 20000 in
theorem gX2_restore_X1_copy : GoodIn wsX2_restore (wsV RX2 190 RX1 yX1_copy wsX1_copy) := goodIn_app (goodIn_of _ (by decide +kernel)) ggX2_restore_X1_copy
set_option maxRecDepth 20000 in
theorem ggX2_count_X2_snowIn : GoodIn wsX2_count wsX2_snowIn := goodIn_r _ [16, 1, 26, 27, 28, 29, 30, 31, 32, 33, 34, 35] (by decide +kernel) (by decide +kernel)
set_option maxRecDepth 20000 in
theorem gX2_count_X2_snowIn : GoodIn wsX2_count (wsV RX2 186 RX2 yX2_snowIn wsX2_snowIn) := goodIn_app (goodIn_of _ (by decide +kernel)) ggX2_count_X2_snowIn
set_option maxRecDepth 20000 in
theorem ggX2_count_X2_keptIn : GoodIn wsX2_count wsX2_keptIn := goodIn_r _ [20, 1, 21, 22, 23, 15, 24, 25, 26, 27, 28, 29, 30, 31, 32, 33, 34, 35] (by decide +kernel) (by decide +kernel)
set_option maxRecDepth 20000 in
theorem gX2_count_X2_keptIn : GoodIn wsX2_count (wsV RX2 197 RX2 yX2_keptIn wsX2_keptIn) := goodIn_app (goodIn_of _ (by decide +kernel)) ggX2_count_X2_keptIn
set_option maxRecDepth 20000 in
theorem ggX2_digest_X2_about : GoodIn wsX2_digest wsX2_about := goodIn_r _ [9, 10, 11, 12, 13, 14, 15, 16, 17, 18, 8, 19, 2, 20, 21, 22, 23, 24, 25, 26, 27, 28, 29, 30, 31, 174, 175, 176, 177, 178, 179, 180, 181, 182, 183, 186, 187, 188, 189, 190, 191, 192, 193, 194, 195, 196, 197, 198] (by decide +kernel) (by decide +kernel)
set_option maxRecDepth 20000 in
theorem gX2_digest_X2_about : GoodIn wsX2_digest (wsV RX2 205 RX2 yX2_about wsX2_about) := goodIn_app (goodIn_of _ (by decide +kernel)) ggX2_digest_X2_about
set_option maxRecDepth 20000 in
theorem ggX2_digest_X2_mixed : GoodIn wsX2_digest wsX2_mixed := goodIn_r _ [34, 35] (by decide +kernel) (by decide +kernel)
set_option maxRecDepth 20000 in
theorem gX2_digest_X2_mixed : GoodIn wsX2_digest (va_wsS RX2 208 yX2_mixed wsX2_mixed) := goodIn_app (goodIn_of _ (by decide +kernel)) ggX2_digest_X2_mixed
set_option maxRecDepth 20000 in
theorem ggX2_digest_X2_need : GoodIn wsX2_digest wsX2_need := goodIn_r _ [39, 16, 17, 18, 8, 19, 2, 40, 41, 42, 43, 44, 45, 46, 11, 12, 13, 47, 48, 49, 50, 20, 21, 22, 23, 10, 24, 14, 25, 26, 27, 174, 175, 176, 177, 178, 179, 180, 181, 182, 183, 186, 187, 188, 189, 190, 191, 192, 193, 194, 195, 196, 197, 198] (by decide +kernel) (by decide +kernel)
set_option maxRecDepth 20000 in
theorem gX2_digest_X2_need : GoodIn wsX2_digest (wsV RX2 212 RX2 yX2_need wsX2_need) := goodIn_app (goodIn_of _ (by decide +kernel)) ggX2_digest_X2_need
set_option maxRecDepth 20000 in
theorem ggX2_digest_X2_plan : GoodIn wsX2_digest wsX2_plan := goodIn_r _ [54, 2, 40, 41, 8, 42, 55, 56, 57, 58, 59, 43, 44, 45, 46, 11, 12, 13, 47, 48, 49, 50, 20, 21, 22, 23, 10, 24, 14, 25, 26, 27, 60, 61, 62, 63, 64, 65, 66, 67, 68, 69, 70, 71, 72, 73, 74, 75, 76, 77, 78, 79, 80, 81, 82, 83, 84, 85, 86, 87, 88, 174, 175, 176, 177, 178, 179, 180, 181, 182, 183, 186, 187, 188, 189, 190, 191, 192, 193, 194, 195, 196, 197, 198] (by decide +kernel) (by decide +kernel)
set_option maxRecDepth 20000 in
theorem gX2_digest_X2_plan : GoodIn wsX2_digest (wsV RX2 215 RX2 yX2_plan wsX2_plan) := goodIn_app (goodIn_of _ (by decide +kernel)) ggX2_digest_X2_plan
set_option maxRecDepth 20000 in
theorem ggX2_digest_X2_error : GoodIn wsX2_digest wsX2_error := goodIn_r _ [92, 2, 40, 41, 8, 42, 93, 94, 95, 96, 12, 13, 97, 98, 99, 100, 28, 29, 30, 31, 11, 101, 102, 103, 104, 105, 106, 107, 108, 109, 15, 16, 17, 18, 19, 110, 111, 112, 113, 114, 49, 115, 174, 175, 176, 177, 178, 179, 180, 181, 182, 183, 186, 187, 188, 189, 190, 191, 192, 193, 194, 195, 196, 197, 198] (by decide +kernel) (by decide +kernel)
set_option maxRecDepth 20000 in
theorem gX2_digest_X2_error : GoodIn wsX2_digest (wsV RX2 219 RX2 yX2_error wsX2_error) := goodIn_app (goodIn_of _ (by decide +kernel)) ggX2_digest_X2_error
set_option maxRecDepth 20000 in
theorem ggX2_digest_X2_suns : GoodIn wsX2_digest wsX2_suns := goodIn_r _ [119, 2, 120, 121, 122, 8, 123, 124, 125, 126, 127, 12, 128, 129, 130, 131, 132, 25, 26, 27, 133, 134, 135, 174, 175, 176, 177, 178, 179, 180, 181, 182, 183, 186, 187, 188, 189, 190, 191, 192, 193, 194, 195, 196, 197, 198] (by decide +kernel) (by decide +kernel)
set_option maxRecDepth 20000 in
theorem gX2_digest_X2_suns : GoodIn wsX2_digest (wsV RX2 222 RX2 yX2_suns wsX2_suns) := goodIn_app (goodIn_of _ (by decide +kernel)) ggX2_digest_X2_suns
set_option maxRecDepth 20000 in
theorem ggX2_digest_X2_look : GoodIn wsX2_digest wsX2_look := goodIn_r _ [139, 2, 120, 121, 122, 8, 123, 124, 125, 126, 127, 12, 128, 129, 130, 131, 132, 25, 26, 27, 133, 134, 135, 140, 141, 142, 143, 144, 145, 146, 147, 47, 48, 49, 50, 68, 69, 70, 148, 149, 150, 151, 152, 153, 154, 155, 10, 14, 16, 17, 18, 19, 174, 175, 176, 177, 178, 179, 180, 181, 182, 183, 186, 187, 188, 189, 190, 191, 192, 193, 194, 195, 196, 197, 198] (by decide +kernel) (by decide +kernel)
set_option maxRecDepth 20000 in
theorem gX2_digest_X2_look : GoodIn wsX2_digest (wsV RX2 225 RX2 yX2_look wsX2_look) := goodIn_app (goodIn_of _ (by decide +kernel)) ggX2_digest_X2_look
set_option maxRecDepth 20000 in
theorem ggX2_digest_X0_codeAt : GoodIn wsX2_digest wsX0_codeAt := goodIn_r _ [160, 161, 184, 185] (by decide +kernel) (by decide +kernel)
set_option maxRecDepth 20000 in
theorem gX2_digest_X0_codeAt : GoodIn wsX2_digest (wsV RX2 228 RX0 yX0_codeAt wsX0_codeAt) := goodIn_app (goodIn_of _ (by decide +kernel)) ggX2_digest_X0_codeAt
set_option maxRecDepth 20000 in
theorem ggX2_digest_X2_count : GoodIn wsX2_digest wsX2_count := goodIn_r _ [165, 2, 12, 24, 166, 13, 167, 168, 128, 3, 4, 169, 170, 171, 172, 8, 173, 97, 98, 99, 100, 28, 29, 30, 31, 11, 174, 175, 176, 177, 178, 179, 180, 181, 182, 183, 186, 187, 188, 189, 190, 191, 192, 193, 194, 195, 196, 197, 198, 184, 185] (by decide +kernel) (by decide +kernel)
set_option maxRecDepth 20000 in
theorem gX2_digest_X2_count : GoodIn wsX2_digest (wsV RX2 231 RX2 yX2_count wsX2_count) := goodIn_app (goodIn_of _ (by decide +kernel)) ggX2_digest_X2_count
set_option maxRecDepth 20000 in
theorem ggX2_meltsNow_X2_melting : GoodIn wsX2_meltsNow wsX2_melting := goodIn_r _ [8] (by decide +kernel) (by decide +kernel)
set_option maxRecDepth 20000 in
theorem gX2_meltsNow_X2_melting : GoodIn wsX2_meltsNow (va_wsS RX2 243 yX2_melting wsX2_melting) := goodIn_app (goodIn_of _ (by decide +kernel)) ggX2_meltsNow_X2_melting
set_option maxRecDepth 20000 in
theorem ggX2_keptIn_X2_isKeptWith : GoodIn wsX2_keptIn wsX2_isKeptWith := goodIn_r _ [6, 7, 8, 9, 10, 11, 12, 13, 14, 15, 16, 17] (by decide +kernel) (by decide +kernel)
set_option maxRecDepth 20000 in
theorem gX2_keptIn_X2_isKeptWith : GoodIn wsX2_keptIn (wsV RX2 101 RX2 yX2_isKeptWith wsX2_isKeptWith) := goodIn_app (goodIn_of _ (by decide +kernel)) ggX2_keptIn_X2_isKeptWith
set_option maxRecDepth 20000 in
theorem ggX2_bringOneLoad_X2_isSite : GoodIn wsX2_bringOneLoad wsX2_isSite := goodIn_r _ [5, 6, 14, 15, 16, 17, 18, 19, 20, 21, 22, 23] (by decide +kernel) (by decide +kernel)
set_option maxRecDepth 20000 in
theorem gX2_bringOneLoad_X2_isSite : GoodIn wsX2_bringOneLoad (wsV RX2 89 RX2 yX2_isSite wsX2_isSite) := goodIn_app (goodIn_of _ (by decide +kernel)) ggX2_bringOneLoad_X2_isSite
set_option maxRecDepth 20000 in
theorem ggX2_bringOneLoad_X2_deepened : GoodIn wsX2_bringOneLoad wsX2_deepened := goodIn_r _ [9, 10, 11, 12, 13] (by decide +kernel) (by decide +kernel)
set_option maxRecDepth 20000 in
theorem gX2_bringOneLoad_X2_deepened : GoodIn wsX2_bringOneLoad (va_wsS RX2 111 yX2_deepened wsX2_deepened) := goodIn_app (goodIn_of _ (by decide +kernel)) ggX2_bringOneLoad_X2_deepened
set_option maxRecDepth 20000 in
theorem ggX2_meltAll_X2_melting : GoodIn wsX2_meltAll wsX2_melting := goodIn_r _ [8] (by decide +kernel) (by decide +kernel)
set_option maxRecDepth 20000 in
theorem gX2_meltAll_X2_melting : GoodIn wsX2_meltAll (va_wsS RX2 243 yX2_melting wsX2_melting) := goodIn_app (goodIn_of _ (by decide +kernel)) ggX2_meltAll_X2_melting
set_option maxRecDepth 20000 in
theorem ggX2_meltAll_X2_leftOf : GoodIn wsX2_meltAll wsX2_leftOf := goodIn_r _ [11] (by decide +kernel) (by decide +kernel)
set_option maxRecDepth 20000 in
theorem gX2_meltAll_X2_leftOf : GoodIn wsX2_meltAll (va_wsS RX2 251 yX2_leftOf wsX2_leftOf) := goodIn_app (goodIn_of _ (by decide +kernel)) ggX2_meltAll_X2_leftOf
set_option maxRecDepth 20000 in
theorem ggX2_meltAll_X2_keptIn : GoodIn wsX2_meltAll wsX2_keptIn := goodIn_r _ [15, 1, 16, 17, 18, 7, 19, 20, 21, 22, 23, 24, 25, 26, 27, 28, 29, 30] (by decide +kernel) (by decide +kernel)
set_option maxRecDepth 20000 in
theorem gX2_meltAll_X2_keptIn : GoodIn wsX2_meltAll (wsV RX2 197 RX2 yX2_keptIn wsX2_keptIn) := goodIn_app (goodIn_of _ (by decide +kernel)) ggX2_meltAll_X2_keptIn
set_option maxRecDepth 20000 in
theorem ggX2_loadsNeeded_X2_meltsNow : GoodIn wsX2_loadsNeeded wsX2_meltsNow := goodIn_r _ [12, 13, 2, 14, 15, 16, 17, 11, 18, 19, 20, 21, 22, 23, 24, 25, 26, 27, 28, 29, 30, 31, 32, 33, 34, 35, 36, 37, 38, 39, 40, 41] (by decide +kernel) (by decide +kernel)
set_option maxRecDepth 20000 in
theorem gX2_loadsNeeded_X2_meltsNow : GoodIn wsX2_loadsNeeded (wsV RX2 98 RX2 yX2_meltsNow wsX2_meltsNow) := goodIn_app (goodIn_of _ (by decide +kernel)) ggX2_loadsNeeded_X2_meltsNow
set_option maxRecDepth 20000 in
theorem ggX2_tellNeeds_X2_loadsNeeded : GoodIn wsX2_tellNeeds wsX2_loadsNeeded := goodIn_r _ [7, 8, 9, 10, 11, 12, 13, 14, 15, 16, 17, 6, 18, 19, 20, 21, 22, 23, 24, 25, 26, 27, 28, 29, 30, 31, 32, 33, 34, 35, 36, 37, 38, 39, 40, 41, 42, 43, 44, 45, 46, 47] (by decide +kernel) (by decide +kernel)
set_option maxRecDepth 20000 in
theorem gX2_tellNeeds_X2_loadsNeeded : GoodIn wsX2_tellNeeds (wsV RX2 131 RX2 yX2_loadsNeeded wsX2_loadsNeeded) := goodIn_app (goodIn_of _ (by decide +kernel)) ggX2_tellNeeds_X2_loadsNeeded
set_option maxRecDepth 20000 in
theorem ggX2_bestPlan_X2_loadsOf : GoodIn wsX2_bestPlan wsX2_loadsOf := goodIn_r _ [6, 1, 7, 8, 9, 5, 10, 29, 30, 31, 32, 33, 34, 35, 36, 37, 38] (by decide +kernel) (by decide +kernel)
set_option maxRecDepth 20000 in
theorem gX2_bestPlan_X2_loadsOf : GoodIn wsX2_bestPlan (wsV RX2 145 RX2 yX2_loadsOf wsX2_loadsOf) := goodIn_app (goodIn_of _ (by decide +kernel)) ggX2_bestPlan_X2_loadsOf
set_option maxRecDepth 20000 in
theorem ggX2_bestPlan_X2_isBetterPlan : GoodIn wsX2_bestPlan wsX2_isBetterPlan := goodIn_r _ [14, 15, 16, 17, 18, 19, 20, 21, 22, 23, 24, 5, 25, 1, 7, 8, 9, 10, 26, 27, 28, 29, 30, 31, 32, 33, 34, 35, 36, 37, 38] (by decide +kernel) (by decide +kernel)
set_option maxRecDepth 20000 in
theorem gX2_bestPlan_X2_isBetterPlan : GoodIn wsX2_bestPlan (wsV RX2 257 RX2 yX2_isBetterPlan wsX2_isBetterPlan) := goodIn_app (goodIn_of _ (by decide +kernel)) ggX2_bestPlan_X2_isBetterPlan
set_option maxRecDepth 20000 in
theorem ggX2_isBetterPlan_J6_bitCount_0f7a4 : GoodIn wsX2_isBetterPlan wsJ6_bitCount_0f7a4 := goodIn_r _ [4, 5, 6, 7] (by decide +kernel) (by decide +kernel)
set_option maxRecDepth 20000 in
theorem gX2_isBetterPlan_J6_bitCount_0f7a4 : GoodIn wsX2_isBetterPlan (va_wsS RX2 140 yJ6_bitCount_0f7a4 wsJ6_bitCount_0f7a4) := goodIn_app (goodIn_of _ (by decide +kernel)) ggX2_isBetterPlan_J6_bitCount_0f7a4
set_option maxRecDepth 20000 in
theorem ggX2_isBetterPlan_X2_costOf : GoodIn wsX2_isBetterPlan wsX2_costOf := goodIn_r _ [12, 13, 14, 15, 16, 11, 17, 18, 19, 20, 21, 22, 23, 24, 25, 26, 27, 28, 29, 30] (by decide +kernel) (by decide +kernel)
set_option maxRecDepth 20000 in
theorem gX2_isBetterPlan_X2_costOf : GoodIn wsX2_isBetterPlan (wsV RX2 148 RX2 yX2_costOf wsX2_costOf) := goodIn_app (goodIn_of _ (by decide +kernel)) ggX2_isBetterPlan_X2_costOf
set_option maxRecDepth 20000 in
theorem ggX2_loadsOf_X2_hasBit : GoodIn wsX2_loadsOf wsX2_hasBit := goodIn_r _ [6] (by decide +kernel) (by decide +kernel)
set_option maxRecDepth 20000 in
theorem gX2_loadsOf_X2_hasBit : GoodIn wsX2_loadsOf (va_wsS RX2 260 yX2_hasBit wsX2_hasBit) := goodIn_app (goodIn_of _ (by decide +kernel)) ggX2_loadsOf_X2_hasBit
set_option maxRecDepth 20000 in
theorem ggX2_costOf_X2_hasBit : GoodIn wsX2_costOf wsX2_hasBit := goodIn_r _ [6] (by decide +kernel) (by decide +kernel)
set_option maxRecDepth 20000 in
theorem gX2_costOf_X2_hasBit : GoodIn wsX2_costOf (va_wsS RX2 260 yX2_hasBit wsX2_hasBit) := goodIn_app (goodIn_of _ (by decide +kernel)) ggX2_costOf_X2_hasBit
set_option maxRecDepth 20000 in
theorem ggX2_costOf_X2_priceAt : GoodIn wsX2_costOf wsX2_priceAt := goodIn_r _ [9] (by decide +kernel) (by decide +kernel)
set_option maxRecDepth 20000 in
theorem gX2_costOf_X2_priceAt : GoodIn wsX2_costOf (va_wsS RX2 118 yX2_priceAt wsX2_priceAt) := goodIn_app (goodIn_of _ (by decide +kernel)) ggX2_costOf_X2_priceAt
set_option maxRecDepth 20000 in
theorem ggX2_bestError_X2_keptIn : GoodIn wsX2_bestError wsX2_keptIn := goodIn_r _ [8, 3, 9, 10, 11, 7, 12, 13, 35, 36, 37, 38, 39, 40, 41, 42, 43, 44] (by decide +kernel) (by decide +kernel)
set_option maxRecDepth 20000 in
theorem gX2_bestError_X2_keptIn : GoodIn wsX2_bestError (wsV RX2 197 RX2 yX2_keptIn wsX2_keptIn) := goodIn_app (goodIn_of _ (by decide +kernel)) ggX2_bestError_X2_keptIn
set_option maxRecDepth 20000 in
theorem ggX2_bestError_X2_keptIfSwapped : GoodIn wsX2_bestError wsX2_keptIfSwapped := goodIn_r _ [17, 3, 1, 2, 18, 19, 20, 7, 21, 22, 23, 24, 25, 26, 27, 28, 29, 30, 31, 32, 33, 34, 9, 10, 11, 12, 13, 35, 36, 37, 38, 39, 40, 41, 42, 43, 44, 45, 46, 47, 48, 49, 50, 51, 52, 53, 54, 55, 56, 57] (by decide +kernel) (by decide +kernel)
set_option maxRecDepth 20000 in
theorem gX2_bestError_X2_keptIfSwapped : GoodIn wsX2_bestError (wsV RX2 154 RX2 yX2_keptIfSwapped wsX2_keptIfSwapped) := goodIn_app (goodIn_of _ (by decide +kernel)) ggX2_bestError_X2_keptIfSwapped
set_option maxRecDepth 20000 in
theorem ggX2_keptIfSwapped_X2_deepWithLoadsOf : GoodIn wsX2_keptIfSwapped wsX2_deepWithLoadsOf := goodIn_r _ [8, 2, 9, 10, 11, 12, 13, 7, 14, 1, 15, 16, 17, 18, 19, 20, 21, 27, 28, 29, 30, 31, 32, 33, 34, 35, 36, 37, 38, 39, 40, 41, 42, 43, 44, 45, 46, 47, 48, 49] (by decide +kernel) (by decide +kernel)
set_option maxRecDepth 20000 in
theorem gX2_keptIfSwapped_X2_deepWithLoadsOf : GoodIn wsX2_keptIfSwapped (wsV RX2 263 RX2 yX2_deepWithLoadsOf wsX2_deepWithLoadsOf) := goodIn_app (goodIn_of _ (by decide +kernel)) ggX2_keptIfSwapped_X2_deepWithLoadsOf
set_option maxRecDepth 20000 in
theorem ggX2_keptIfSwapped_X2_isKeptWith : GoodIn wsX2_keptIfSwapped wsX2_isKeptWith := goodIn_r _ [25, 26, 27, 28, 29, 30, 31, 32, 33, 34, 35, 36] (by decide +kernel) (by decide +kernel)
set_option maxRecDepth 20000 in
theorem gX2_keptIfSwapped_X2_isKeptWith : GoodIn wsX2_keptIfSwapped (wsV RX2 101 RX2 yX2_isKeptWith wsX2_isKeptWith) := goodIn_app (goodIn_of _ (by decide +kernel)) ggX2_keptIfSwapped_X2_isKeptWith
set_option maxRecDepth 20000 in
theorem ggX2_deepWithLoadsOf_X2_isSite : GoodIn wsX2_deepWithLoadsOf wsX2_isSite := goodIn_r _ [8, 9, 17, 18, 19, 20, 21, 22, 23, 24, 25, 26] (by decide +kernel) (by decide +kernel)
set_option maxRecDepth 20000 in
theorem gX2_deepWithLoadsOf_X2_isSite : GoodIn wsX2_deepWithLoadsOf (wsV RX2 89 RX2 yX2_isSite wsX2_isSite) := goodIn_app (goodIn_of _ (by decide +kernel)) ggX2_deepWithLoadsOf_X2_isSite
set_option maxRecDepth 20000 in
theorem ggX2_deepWithLoadsOf_X2_deepened : GoodIn wsX2_deepWithLoadsOf wsX2_deepened := goodIn_r _ [12, 13, 14, 15, 16] (by decide +kernel) (by decide +kernel)
set_option maxRecDepth 20000 in
theorem gX2_deepWithLoadsOf_X2_deepened : GoodIn wsX2_deepWithLoadsOf (va_wsS RX2 111 yX2_deepened wsX2_deepened) := goodIn_app (goodIn_of _ (by decide +kernel)) ggX2_deepWithLoadsOf_X2_deepened
set_option maxRecDepth 20000 in
theorem ggX2_possibleSuns_X2_explainsAllFound : GoodIn wsX2_possibleSuns wsX2_explainsAllFound := goodIn_r _ [5, 6, 7, 8, 9, 10, 11, 12, 13, 4, 14, 15, 16, 17, 18, 19, 20, 21, 22, 23, 24, 25, 26, 27, 28, 29, 30, 31, 32, 33, 34, 35, 36, 37, 38, 39, 40] (by decide +kernel) (by decide +kernel)
set_option maxRecDepth 20000 in
theorem gX2_possibleSuns_X2_explainsAllFound : GoodIn wsX2_possibleSuns (wsV RX2 269 RX2 yX2_explainsAllFound wsX2_explainsAllFound) := goodIn_app (goodIn_of _ (by decide +kernel)) ggX2_possibleSuns_X2_explainsAllFound
set_option maxRecDepth 20000 in
theorem ggX2_explainsAllFound_X2_melting : GoodIn wsX2_explainsAllFound wsX2_melting := goodIn_r _ [10] (by decide +kernel) (by decide +kernel)
set_option maxRecDepth 20000 in
theorem gX2_explainsAllFound_X2_melting : GoodIn wsX2_explainsAllFound (va_wsS RX2 243 yX2_melting wsX2_melting) := goodIn_app (goodIn_of _ (by decide +kernel)) ggX2_explainsAllFound_X2_melting
set_option maxRecDepth 20000 in
theorem ggX2_explainsAllFound_X2_leftOf : GoodIn wsX2_explainsAllFound wsX2_leftOf := goodIn_r _ [13] (by decide +kernel) (by decide +kernel)
set_option maxRecDepth 20000 in
theorem gX2_explainsAllFound_X2_leftOf : GoodIn wsX2_explainsAllFound (va_wsS RX2 251 yX2_leftOf wsX2_leftOf) := goodIn_app (goodIn_of _ (by decide +kernel)) ggX2_explainsAllFound_X2_leftOf
set_option maxRecDepth 20000 in
theorem ggX2_bestLook_X2_sunsLeftAtWorst : GoodIn wsX2_bestLook wsX2_sunsLeftAtWorst := goodIn_r _ [6, 7, 8, 9, 10, 11, 12, 5, 13, 14, 15, 16, 17, 18, 19, 20, 21, 22, 23, 24, 25, 26, 27, 28, 1, 29, 30, 31, 32, 33, 34, 35, 36, 37, 38, 39, 40, 41, 42, 43, 44, 45, 46, 47, 48, 49, 50, 51, 52, 53, 54, 55, 56, 57] (by decide +kernel) (by decide +kernel)
set_option maxRecDepth 20000 in
theorem gX2_bestLook_X2_sunsLeftAtWorst : GoodIn wsX2_bestLook (wsV RX2 284 RX2 yX2_sunsLeftAtWorst wsX2_sunsLeftAtWorst) := goodIn_app (goodIn_of _ (by decide +kernel)) ggX2_bestLook_X2_sunsLeftAtWorst
set_option maxRecDepth 20000 in
theorem ggX2_sunsLeftAtWorst_X2_hasBit : GoodIn wsX2_sunsLeftAtWorst wsX2_hasBit := goodIn_r _ [8] (by decide +kernel) (by decide +kernel)
set_option maxRecDepth 20000 in
theorem gX2_sunsLeftAtWorst_X2_hasBit : GoodIn wsX2_sunsLeftAtWorst (va_wsS RX2 260 yX2_hasBit wsX2_hasBit) := goodIn_app (goodIn_of _ (by decide +kernel)) ggX2_sunsLeftAtWorst_X2_hasBit
set_option maxRecDepth 20000 in
theorem ggX2_sunsLeftAtWorst_X2_sunsLikeThis : GoodIn wsX2_sunsLeftAtWorst wsX2_sunsLikeThis := goodIn_r _ [12, 13, 14, 15, 7, 16, 17, 18, 19, 20, 21, 22, 23, 24, 25, 26, 27, 28, 29, 30, 5, 6, 8, 31, 32, 33, 34, 35, 36, 37, 38, 39, 40, 41, 42, 43, 44, 45, 46, 47, 48, 49, 50, 51, 52, 53] (by decide +kernel) (by decide +kernel)
set_option maxRecDepth 20000 in
theorem gX2_sunsLeftAtWorst_X2_sunsLikeThis : GoodIn wsX2_sunsLeftAtWorst (wsV RX2 287 RX2 yX2_sunsLikeThis wsX2_sunsLikeThis) := goodIn_app (goodIn_of _ (by decide +kernel)) ggX2_sunsLeftAtWorst_X2_sunsLikeThis
set_option maxRecDepth 20000 in
theorem ggX2_sunsLikeThis_X2_leftOfDeepest : GoodIn wsX2_sunsLikeThis wsX2_leftOfDeepest := goodIn_r _ [5, 6, 7, 8, 9, 10, 11, 4, 12, 13, 14, 15, 16, 17, 18, 19, 23, 24, 25, 26, 27, 28, 29, 30, 31, 32, 33, 34, 35, 36, 37, 38, 39, 40, 41, 42, 43, 44, 45] (by decide +kernel) (by decide +kernel)
set_option maxRecDepth 20000 in
theorem gX2_sunsLikeThis_X2_leftOfDeepest : GoodIn wsX2_sunsLikeThis (wsV RX2 290 RX2 yX2_leftOfDeepest wsX2_leftOfDeepest) := goodIn_app (goodIn_of _ (by decide +kernel)) ggX2_sunsLikeThis_X2_leftOfDeepest
set_option maxRecDepth 20000 in
theorem ggX2_sunsLikeThis_X2_hasBit : GoodIn wsX2_sunsLikeThis wsX2_hasBit := goodIn_r _ [22] (by decide +kernel) (by decide +kernel)
set_option maxRecDepth 20000 in
theorem gX2_sunsLikeThis_X2_hasBit : GoodIn wsX2_sunsLikeThis (va_wsS RX2 260 yX2_hasBit wsX2_hasBit) := goodIn_app (goodIn_of _ (by decide +kernel)) ggX2_sunsLikeThis_X2_hasBit
set_option maxRecDepth 20000 in
theorem ggX2_leftOfDeepest_X2_isSite : GoodIn wsX2_leftOfDeepest wsX2_isSite := goodIn_r _ [8, 9, 16, 17, 18, 19, 20, 21, 22, 23, 24, 25] (by decide +kernel) (by decide +kernel)
set_option maxRecDepth 20000 in
theorem gX2_leftOfDeepest_X2_isSite : GoodIn wsX2_leftOfDeepest (wsV RX2 89 RX2 yX2_isSite wsX2_isSite) := goodIn_app (goodIn_of _ (by decide +kernel)) ggX2_leftOfDeepest_X2_isSite
set_option maxRecDepth 20000 in
theorem ggX2_leftOfDeepest_X2_melting : GoodIn wsX2_leftOfDeepest wsX2_melting := goodIn_r _ [12] (by decide +kernel) (by decide +kernel)
set_option maxRecDepth 20000 in
theorem gX2_leftOfDeepest_X2_melting : GoodIn wsX2_leftOfDeepest (va_wsS RX2 243 yX2_melting wsX2_melting) := goodIn_app (goodIn_of _ (by decide +kernel)) ggX2_leftOfDeepest_X2_melting
set_option maxRecDepth 20000 in
theorem ggX2_leftOfDeepest_X2_leftOf : GoodIn wsX2_leftOfDeepest wsX2_leftOf := goodIn_r _ [15] (by decide +kernel) (by decide +kernel)
set_option maxRecDepth 20000 in
theorem gX2_leftOfDeepest_X2_leftOf : GoodIn wsX2_leftOfDeepest (va_wsS RX2 251 yX2_leftOf wsX2_leftOf) := goodIn_app (goodIn_of _ (by decide +kernel)) ggX2_leftOfDeepest_X2_leftOf
