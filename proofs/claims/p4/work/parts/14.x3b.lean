set_option maxRecDepth 20000 in
theorem ggX3_letter_X3_within : GoodIn wsX3_letter wsX3_within := goodIn_r _ [6] (by decide +kernel) (by decide +kernel)
set_option maxRecDepth 20000 in
theorem gX3_letter_X3_within : GoodIn wsX3_letter (va_wsS RX3 68 yX3_within wsX3_within) := goodIn_app (goodIn_of _ (by decide +kernel)) ggX3_letter_X3_within
set_option maxRecDepth 20000 in
theorem ggX3_read_X3_kindBy : GoodIn wsX3_read wsX3_kindBy := goodIn_r _ [8] (by decide +kernel) (by decide +kernel)
set_option maxRecDepth 20000 in
theorem gX3_read_X3_kindBy : GoodIn wsX3_read (va_wsS RX3 83 yX3_kindBy wsX3_kindBy) := goodIn_app (goodIn_of _ (by decide +kernel)) ggX3_read_X3_kindBy
set_option maxRecDepth 20000 in
theorem ggX3_read_X3_figure : GoodIn wsX3_read wsX3_figure := goodIn_r _ [12, 3, 4, 16, 17, 18, 19, 20, 21, 22, 23, 24, 25, 26, 27, 28, 29, 30, 31, 32, 33, 34, 35, 36, 37, 38, 39, 40, 41, 42, 43, 44, 45, 46, 47, 48, 49, 50, 51, 52, 53, 54, 55] (by decide +kernel) (by decide +kernel)
set_option maxRecDepth 20000 in
theorem gX3_read_X3_figure : GoodIn wsX3_read (wsV RX3 87 RX3 yX3_figure wsX3_figure) := goodIn_app (goodIn_of _ (by decide +kernel)) ggX3_read_X3_figure
set_option maxRecDepth 20000 in
theorem ggX3_read_X3_within : GoodIn wsX3_read wsX3_within := goodIn_r _ [15] (by decide +kernel) (by decide +kernel)
set_option maxRecDepth 20000 in
theorem gX3_read_X3_within : GoodIn wsX3_read (va_wsS RX3 68 yX3_within wsX3_within) := goodIn_app (goodIn_of _ (by decide +kernel)) ggX3_read_X3_within
set_option maxRecDepth 20000 in
theorem ggX3_fault_X3_read : GoodIn wsX3_fault wsX3_read := goodIn_r _ [5, 6, 7, 8, 9, 10, 11, 4, 12, 13, 14, 15, 16, 17, 18, 19, 20, 21, 22, 23, 24, 25, 26, 27, 28, 29, 30, 31, 32, 33, 34, 35, 36, 37, 38, 39, 40, 41, 42, 43, 44, 45, 46, 47, 48, 49, 50, 51, 52, 53, 54, 55, 56, 57, 58, 59] (by decide +kernel) (by decide +kernel)
set_option maxRecDepth 20000 in
theorem gX3_fault_X3_read : GoodIn wsX3_fault (wsV RX3 90 RX3 yX3_read wsX3_read) := goodIn_app (goodIn_of _ (by decide +kernel)) ggX3_fault_X3_read
set_option maxRecDepth 20000 in
theorem ggX3_city_X3_read : GoodIn wsX3_city wsX3_read := goodIn_r _ [22, 1, 2, 17, 5, 23, 24, 21, 25, 26, 27, 28, 29, 30, 31, 32, 33, 34, 35, 36, 37, 38, 39, 40, 41, 42, 43, 44, 45, 46, 47, 48, 49, 50, 51, 52, 53, 54, 55, 56, 57, 58, 59, 60, 61, 62, 63, 64, 65, 66, 67, 68, 69, 70, 71, 72] (by decide +kernel) (by decide +kernel)
set_option maxRecDepth 20000 in
theorem gX3_city_X3_read : GoodIn wsX3_city (wsV RX3 90 RX3 yX3_read wsX3_read) := goodIn_app (goodIn_of _ (by decide +kernel)) ggX3_city_X3_read
set_option maxRecDepth 20000 in
theorem ggX3_city_X3_kindBy : GoodIn wsX3_city wsX3_kindBy := goodIn_r _ [25] (by decide +kernel) (by decide +kernel)
set_option maxRecDepth 20000 in
theorem gX3_city_X3_kindBy : GoodIn wsX3_city (va_wsS RX3 83 yX3_kindBy wsX3_kindBy) := goodIn_app (goodIn_of _ (by decide +kernel)) ggX3_city_X3_kindBy
set_option maxRecDepth 20000 in
theorem ggX3_isSite_X3_within : GoodIn wsX3_isSite wsX3_within := goodIn_r _ [5] (by decide +kernel) (by decide +kernel)
set_option maxRecDepth 20000 in
theorem gX3_isSite_X3_within : GoodIn wsX3_isSite (va_wsS RX3 68 yX3_within wsX3_within) := goodIn_app (goodIn_of _ (by decide +kernel)) ggX3_isSite_X3_within
set_option maxRecDepth 20000 in
theorem ggX3_meltsBy_X3_notBelow : GoodIn wsX3_meltsBy wsX3_notBelow := goodIn_r _ [6] (by decide +kernel) (by decide +kernel)
set_option maxRecDepth 20000 in
theorem gX3_meltsBy_X3_notBelow : GoodIn wsX3_meltsBy (va_wsS RX3 115 yX3_notBelow wsX3_notBelow) := goodIn_app (goodIn_of _ (by decide +kernel)) ggX3_meltsBy_X3_notBelow
set_option maxRecDepth 20000 in
theorem ggX3_siteNow_X3_meltsBy : GoodIn wsX3_siteNow wsX3_meltsBy := goodIn_r _ [11, 4, 1, 12, 13, 10, 14, 19, 20, 21, 22, 23, 24, 25, 26, 27, 28, 29, 30, 31, 32, 33, 34, 35, 36, 37, 38, 39, 40, 41, 42, 43, 44, 45, 46, 47, 48, 49, 50, 51, 52, 53, 54, 55, 56, 57, 58] (by decide +kernel) (by decide +kernel)
set_option maxRecDepth 20000 in
theorem gX3_siteNow_X3_meltsBy : GoodIn wsX3_siteNow (wsV RX3 118 RX3 yX3_meltsBy wsX3_meltsBy) := goodIn_app (goodIn_of _ (by decide +kernel)) ggX3_siteNow_X3_meltsBy
set_option maxRecDepth 20000 in
theorem ggX3_siteNow_X3_isKept : GoodIn wsX3_siteNow wsX3_isKept := goodIn_r _ [18, 2, 19, 20, 21, 22, 23, 24, 25, 26, 27, 28, 29, 30, 31, 32, 33, 34, 35, 36, 37, 38, 39, 40, 41, 42, 43, 44, 45, 46, 47, 48, 49, 50, 51, 52, 53, 54, 55, 56, 57, 58] (by decide +kernel) (by decide +kernel)
set_option maxRecDepth 20000 in
theorem gX3_siteNow_X3_isKept : GoodIn wsX3_siteNow (wsV RX3 122 RX3 yX3_isKept wsX3_isKept) := goodIn_app (goodIn_of _ (by decide +kernel)) ggX3_siteNow_X3_isKept
set_option maxRecDepth 20000 in
theorem ggX3_about_X3_isSite : GoodIn wsX3_about wsX3_isSite := goodIn_r _ [5, 6, 7, 8, 4, 9, 31, 32, 33, 34, 35, 36, 37, 38, 39, 40, 41, 42, 43, 44, 45, 46, 47, 48, 49, 50, 51, 52, 53, 54, 55, 56, 57, 58, 59, 60, 61, 62, 63, 64, 65, 66, 67, 68, 69, 70] (by decide +kernel) (by decide +kernel)
set_option maxRecDepth 20000 in
theorem gX3_about_X3_isSite : GoodIn wsX3_about (wsV RX3 126 RX3 yX3_isSite wsX3_isSite) := goodIn_app (goodIn_of _ (by decide +kernel)) ggX3_about_X3_isSite
set_option maxRecDepth 20000 in
theorem ggX3_about_X3_within : GoodIn wsX3_about wsX3_within := goodIn_r _ [9] (by decide +kernel) (by decide +kernel)
set_option maxRecDepth 20000 in
theorem gX3_about_X3_within : GoodIn wsX3_about (va_wsS RX3 68 yX3_within wsX3_within) := goodIn_app (goodIn_of _ (by decide +kernel)) ggX3_about_X3_within
set_option maxRecDepth 20000 in
theorem ggX3_about_X3_siteNow : GoodIn wsX3_about wsX3_siteNow := goodIn_r _ [13, 14, 15, 16, 17, 18, 19, 20, 21, 22, 4, 23, 24, 25, 26, 27, 28, 29, 30, 31, 32, 33, 34, 35, 36, 37, 38, 39, 40, 41, 42, 43, 44, 45, 46, 47, 48, 49, 50, 51, 52, 53, 54, 55, 56, 57, 58, 59, 60, 61, 62, 63, 64, 65, 66, 67, 68, 69, 70] (by decide +kernel) (by decide +kernel)
set_option maxRecDepth 20000 in
theorem gX3_about_X3_siteNow : GoodIn wsX3_about (wsV RX3 130 RX3 yX3_siteNow wsX3_siteNow) := goodIn_app (goodIn_of _ (by decide +kernel)) ggX3_about_X3_siteNow
set_option maxRecDepth 20000 in
theorem ggX3_as_X3_isSite : GoodIn wsX3_as wsX3_isSite := goodIn_r _ [6, 7, 8, 9, 5, 10, 11, 12, 13, 14, 15, 16, 17, 18, 19, 20, 21, 22, 23, 24, 25, 26, 27, 28, 29, 30, 31, 32, 33, 34, 35, 36, 37, 38, 39, 40, 41, 42, 43, 44, 45, 46, 47, 48, 49, 50] (by decide +kernel) (by decide +kernel)
set_option maxRecDepth 20000 in
theorem gX3_as_X3_isSite : GoodIn wsX3_as (wsV RX3 126 RX3 yX3_isSite wsX3_isSite) := goodIn_app (goodIn_of _ (by decide +kernel)) ggX3_as_X3_isSite
set_option maxRecDepth 20000 in
theorem ggX3_as_X3_within : GoodIn wsX3_as wsX3_within := goodIn_r _ [10] (by decide +kernel) (by decide +kernel)
set_option maxRecDepth 20000 in
theorem gX3_as_X3_within : GoodIn wsX3_as (va_wsS RX3 68 yX3_within wsX3_within) := goodIn_app (goodIn_of _ (by decide +kernel)) ggX3_as_X3_within
set_option maxRecDepth 20000 in
theorem ggX3_bring_X3_isSite : GoodIn wsX3_bring wsX3_isSite := goodIn_r _ [8, 9, 10, 11, 7, 12, 16, 17, 18, 19, 20, 21, 22, 23, 24, 25, 26, 27, 28, 29, 30, 31, 32, 33, 34, 35, 36, 37, 38, 39, 40, 41, 42, 43, 44, 45, 46, 47, 48, 49, 50, 51, 52, 53, 54, 55] (by decide +kernel) (by decide +kernel)
set_option maxRecDepth 20000 in
theorem gX3_bring_X3_isSite : GoodIn wsX3_bring (wsV RX3 126 RX3 yX3_isSite wsX3_isSite) := goodIn_app (goodIn_of _ (by decide +kernel)) ggX3_bring_X3_isSite
set_option maxRecDepth 20000 in
theorem ggX3_bring_X3_within : GoodIn wsX3_bring wsX3_within := goodIn_r _ [12] (by decide +kernel) (by decide +kernel)
set_option maxRecDepth 20000 in
theorem gX3_bring_X3_within : GoodIn wsX3_bring (va_wsS RX3 68 yX3_within wsX3_within) := goodIn_app (goodIn_of _ (by decide +kernel)) ggX3_bring_X3_within
set_option maxRecDepth 20000 in
theorem ggX3_bring_X3_atMost : GoodIn wsX3_bring wsX3_atMost := goodIn_r _ [15] (by decide +kernel) (by decide +kernel)
set_option maxRecDepth 20000 in
theorem gX3_bring_X3_atMost : GoodIn wsX3_bring (va_wsS RX3 133 yX3_atMost wsX3_atMost) := goodIn_app (goodIn_of _ (by decide +kernel)) ggX3_bring_X3_atMost
set_option maxRecDepth 20000 in
theorem ggX3_tread_X3_isSite : GoodIn wsX3_tread wsX3_isSite := goodIn_r _ [6, 7, 8, 9, 5, 10, 11, 12, 13, 14, 15, 16, 17, 18, 19, 20, 21, 22, 23, 24, 25, 26, 27, 28, 29, 30, 31, 32, 33, 34, 35, 36, 37, 38, 39, 40, 41, 42, 43, 44, 45, 46, 47, 48, 49, 50] (by decide +kernel) (by decide +kernel)
set_option maxRecDepth 20000 in
theorem gX3_tread_X3_isSite : GoodIn wsX3_tread (wsV RX3 126 RX3 yX3_isSite wsX3_isSite) := goodIn_app (goodIn_of _ (by decide +kernel)) ggX3_tread_X3_isSite
set_option maxRecDepth 20000 in
theorem ggX3_tread_X3_within : GoodIn wsX3_tread wsX3_within := goodIn_r _ [10] (by decide +kernel) (by decide +kernel)
set_option maxRecDepth 20000 in
theorem gX3_tread_X3_within : GoodIn wsX3_tread (va_wsS RX3 68 yX3_within wsX3_within) := goodIn_app (goodIn_of _ (by decide +kernel)) ggX3_tread_X3_within
set_option maxRecDepth 20000 in
theorem ggX3_sun_X3_within : GoodIn wsX3_sun wsX3_within := goodIn_r _ [6] (by decide +kernel) (by decide +kernel)
set_option maxRecDepth 20000 in
theorem gX3_sun_X3_within : GoodIn wsX3_sun (va_wsS RX3 68 yX3_within wsX3_within) := goodIn_app (goodIn_of _ (by decide +kernel)) ggX3_sun_X3_within
set_option maxRecDepth 20000 in
theorem ggX3_keptNow_X3_isKept : GoodIn wsX3_keptNow wsX3_isKept := goodIn_r _ [7, 8, 9, 10, 11, 12, 13, 14, 15, 16, 17, 18, 19, 20, 21, 22, 23, 24, 25, 26, 27, 28, 29, 30, 31, 32, 33, 34, 35, 36, 37, 38, 39, 40, 41, 42, 43, 44, 45, 46, 47, 48] (by decide +kernel) (by decide +kernel)
set_option maxRecDepth 20000 in
theorem gX3_keptNow_X3_isKept : GoodIn wsX3_keptNow (wsV RX3 122 RX3 yX3_isKept wsX3_isKept) := goodIn_app (goodIn_of _ (by decide +kernel)) ggX3_keptNow_X3_isKept
set_option maxRecDepth 20000 in
theorem ggX3_melt_X3_meltsBy : GoodIn wsX3_melt wsX3_meltsBy := goodIn_r _ [7, 8, 9, 10, 11, 6, 12, 13, 14, 15, 16, 17, 18, 19, 20, 21, 22, 23, 24, 25, 26, 27, 28, 29, 30, 31, 32, 33, 34, 35, 36, 37, 38, 39, 40, 41, 42, 43, 44, 45, 46, 47, 48, 49, 50, 51, 52] (by decide +kernel) (by decide +kernel)
set_option maxRecDepth 20000 in
theorem gX3_melt_X3_meltsBy : GoodIn wsX3_melt (wsV RX3 118 RX3 yX3_meltsBy wsX3_meltsBy) := goodIn_app (goodIn_of _ (by decide +kernel)) ggX3_melt_X3_meltsBy
set_option maxRecDepth 20000 in
theorem ggX3_melt_X3_notBelow : GoodIn wsX3_melt wsX3_notBelow := goodIn_r _ [12] (by decide +kernel) (by decide +kernel)
set_option maxRecDepth 20000 in
theorem gX3_melt_X3_notBelow : GoodIn wsX3_melt (va_wsS RX3 115 yX3_notBelow wsX3_notBelow) := goodIn_app (goodIn_of _ (by decide +kernel)) ggX3_melt_X3_notBelow
set_option maxRecDepth 20000 in
theorem ggX3_day_X3_melt : GoodIn wsX3_day wsX3_melt := goodIn_r _ [12, 1, 4, 13, 14, 15, 11, 16, 17, 18, 19, 20, 21, 31, 32, 33, 34, 35, 36, 37, 38, 39, 40, 41, 42, 43, 44, 45, 46, 47, 48, 49, 50, 51, 52, 53, 54, 55, 56, 57, 58, 59, 60, 61, 62, 63, 64, 65, 66, 67, 68, 69, 70] (by decide +kernel) (by decide +kernel)
set_option maxRecDepth 20000 in
theorem gX3_day_X3_melt : GoodIn wsX3_day (wsV RX3 136 RX3 yX3_melt wsX3_melt) := goodIn_app (goodIn_of _ (by decide +kernel)) ggX3_day_X3_melt
set_option maxRecDepth 20000 in
theorem ggX3_day_X3_keptNow : GoodIn wsX3_day wsX3_keptNow := goodIn_r _ [25, 1, 4, 26, 27, 28, 11, 29, 30, 31, 32, 33, 34, 35, 36, 37, 38, 39, 40, 41, 42, 43, 44, 45, 46, 47, 48, 49, 50, 51, 52, 53, 54, 55, 56, 57, 58, 59, 60, 61, 62, 63, 64, 65, 66, 67, 68, 69, 70] (by decide +kernel) (by decide +kernel)
set_option maxRecDepth 20000 in
theorem gX3_day_X3_keptNow : GoodIn wsX3_day (wsV RX3 140 RX3 yX3_keptNow wsX3_keptNow) := goodIn_app (goodIn_of _ (by decide +kernel)) ggX3_day_X3_keptNow
set_option maxRecDepth 20000 in
theorem ggX3_isKeptFor_X3_atMost : GoodIn wsX3_isKeptFor wsX3_atMost := goodIn_r _ [6] (by decide +kernel) (by decide +kernel)
set_option maxRecDepth 20000 in
theorem gX3_isKeptFor_X3_atMost : GoodIn wsX3_isKeptFor (va_wsS RX3 133 yX3_atMost wsX3_atMost) := goodIn_app (goodIn_of _ (by decide +kernel)) ggX3_isKeptFor_X3_atMost
set_option maxRecDepth 20000 in
theorem ggX3_isKeptFor_X3_isKept : GoodIn wsX3_isKeptFor wsX3_isKept := goodIn_r _ [10, 11, 21, 22, 23, 24, 25, 26, 27, 28, 29, 30, 31, 32, 33, 34, 35, 36, 37, 38, 39, 40, 41, 42, 43, 44, 45, 46, 47, 48, 49, 50, 51, 52, 53, 54, 55, 56, 57, 58, 59, 60] (by decide +kernel) (by decide +kernel)
set_option maxRecDepth 20000 in
theorem gX3_isKeptFor_X3_isKept : GoodIn wsX3_isKeptFor (wsV RX3 122 RX3 yX3_isKept wsX3_isKept) := goodIn_app (goodIn_of _ (by decide +kernel)) ggX3_isKeptFor_X3_isKept
set_option maxRecDepth 20000 in
theorem ggX3_isKeptFor_X3_meltsBy : GoodIn wsX3_isKeptFor wsX3_meltsBy := goodIn_r _ [15, 16, 17, 18, 19, 5, 20, 21, 22, 23, 24, 25, 26, 27, 28, 29, 30, 31, 32, 33, 34, 35, 36, 37, 38, 39, 40, 41, 42, 43, 44, 45, 46, 47, 48, 49, 50, 51, 52, 53, 54, 55, 56, 57, 58, 59, 60] (by decide +kernel) (by decide +kernel)
set_option maxRecDepth 20000 in
theorem gX3_isKeptFor_X3_meltsBy : GoodIn wsX3_isKeptFor (wsV RX3 118 RX3 yX3_meltsBy wsX3_meltsBy) := goodIn_app (goodIn_of _ (by decide +kernel)) ggX3_isKeptFor_X3_meltsBy
set_option maxRecDepth 20000 in
theorem ggX3_isKeptFor_X3_notBelow : GoodIn wsX3_isKeptFor wsX3_notBelow := goodIn_r _ [20] (by decide +kernel) (by decide +kernel)
set_option maxRecDepth 20000 in
theorem gX3_isKeptFor_X3_notBelow : GoodIn wsX3_isKeptFor (va_wsS RX3 115 yX3_notBelow wsX3_notBelow) := goodIn_app (goodIn_of _ (by decide +kernel)) ggX3_isKeptFor_X3_notBelow
set_option maxRecDepth 20000 in
theorem ggX3_needOf_X3_isKeptFor : GoodIn wsX3_needOf wsX3_isKeptFor := goodIn_r _ [5, 6, 7, 8, 9, 4, 10, 11, 12, 13, 14, 15, 16, 17, 18, 19, 20, 21, 22, 23, 24, 25, 26, 27, 28, 29, 30, 31, 32, 33, 34, 35, 36, 37, 38, 39, 40, 41, 42, 43, 44, 45, 46, 47, 48, 49, 50, 51, 52, 53, 54, 55, 56, 57, 58, 59, 60, 61, 62, 63, 64] (by decide +kernel) (by decide +kernel)
set_option maxRecDepth 20000 in
theorem gX3_needOf_X3_isKeptFor : GoodIn wsX3_needOf (wsV RX3 143 RX3 yX3_isKeptFor wsX3_isKeptFor) := goodIn_app (goodIn_of _ (by decide +kernel)) ggX3_needOf_X3_isKeptFor
set_option maxRecDepth 20000 in
theorem ggX3_need_X3_isSite : GoodIn wsX3_need wsX3_isSite := goodIn_r _ [5, 6, 7, 8, 4, 9, 37, 38, 39, 40, 41, 42, 43, 44, 45, 46, 47, 48, 49, 50, 51, 52, 53, 54, 55, 56, 57, 58, 59, 60, 61, 62, 63, 64, 65, 66, 67, 68, 69, 70, 71, 72, 73, 74, 75, 76] (by decide +kernel) (by decide +kernel)
set_option maxRecDepth 20000 in
theorem gX3_need_X3_isSite : GoodIn wsX3_need (wsV RX3 126 RX3 yX3_isSite wsX3_isSite) := goodIn_app (goodIn_of _ (by decide +kernel)) ggX3_need_X3_isSite
set_option maxRecDepth 20000 in
theorem ggX3_need_X3_within : GoodIn wsX3_need wsX3_within := goodIn_r _ [9] (by decide +kernel) (by decide +kernel)
set_option maxRecDepth 20000 in
theorem gX3_need_X3_within : GoodIn wsX3_need (va_wsS RX3 68 yX3_within wsX3_within) := goodIn_app (goodIn_of _ (by decide +kernel)) ggX3_need_X3_within
set_option maxRecDepth 20000 in
theorem ggX3_need_X3_needOf : GoodIn wsX3_need wsX3_needOf := goodIn_r _ [13, 14, 15, 16, 4, 17, 18, 19, 20, 21, 22, 23, 24, 25, 26, 27, 28, 29, 30, 31, 32, 33, 34, 35, 36, 37, 38, 39, 40, 41, 42, 43, 44, 45, 46, 47, 48, 49, 50, 51, 52, 53, 54, 55, 56, 57, 58, 59, 60, 61, 62, 63, 64, 65, 66, 67, 68, 69, 70, 71, 72, 73, 74, 75, 76] (by decide +kernel) (by decide +kernel)
set_option maxRecDepth 20000 in
theorem gX3_need_X3_needOf : GoodIn wsX3_need (wsV RX3 146 RX3 yX3_needOf wsX3_needOf) := goodIn_app (goodIn_of _ (by decide +kernel)) ggX3_need_X3_needOf
set_option maxRecDepth 20000 in
theorem ggX3_layNeeds_X3_isIn : GoodIn wsX3_layNeeds wsX3_isIn := goodIn_r _ [8] (by decide +kernel) (by decide +kernel)
set_option maxRecDepth 20000 in
theorem gX3_layNeeds_X3_isIn : GoodIn wsX3_layNeeds (va_wsS RX3 155 yX3_isIn wsX3_isIn) := goodIn_app (goodIn_of _ (by decide +kernel)) ggX3_layNeeds_X3_isIn
set_option maxRecDepth 20000 in
theorem ggX3_planNow_X3_needOf : GoodIn wsX3_planNow wsX3_needOf := goodIn_r _ [9, 10, 11, 12, 8, 13, 14, 15, 16, 17, 18, 19, 20, 21, 22, 23, 24, 25, 26, 27, 28, 29, 30, 31, 32, 43, 44, 45, 46, 47, 48, 49, 50, 51, 52, 53, 54, 55, 56, 57, 58, 59, 60, 61, 62, 63, 64, 65, 66, 67, 68, 69, 70, 71, 72, 73, 74, 75, 76, 77, 78, 79, 80, 81, 82] (by decide +kernel) (by decide +kernel)
set_option maxRecDepth 20000 in
theorem gX3_planNow_X3_needOf : GoodIn wsX3_planNow (wsV RX3 146 RX3 yX3_needOf wsX3_needOf) := goodIn_app (goodIn_of _ (by decide +kernel)) ggX3_planNow_X3_needOf
set_option maxRecDepth 20000 in
theorem ggX3_planNow_X3_layNeeds : GoodIn wsX3_planNow wsX3_layNeeds := goodIn_r _ [36, 3, 4, 1, 2, 37, 38, 8, 39, 43, 44, 45, 46, 47, 48, 49, 50, 51, 52, 53, 54, 55, 56, 57, 58, 59, 60, 61, 62, 63, 64, 65, 66, 67, 68, 69, 70, 71, 72, 73, 74, 75, 76, 77, 78, 79, 80, 81, 82] (by decide +kernel) (by decide +kernel)
set_option maxRecDepth 20000 in
theorem gX3_planNow_X3_layNeeds : GoodIn wsX3_planNow (wsV RX3 158 RX3 yX3_layNeeds wsX3_layNeeds) := goodIn_app (goodIn_of _ (by decide +kernel)) ggX3_planNow_X3_layNeeds
set_option maxRecDepth 20000 in
theorem ggX3_planNow_X3_size : GoodIn wsX3_planNow wsX3_size := goodIn_r _ [42] (by decide +kernel) (by decide +kernel)
set_option maxRecDepth 20000 in
theorem gX3_planNow_X3_size : GoodIn wsX3_planNow (va_wsS RX3 161 yX3_size wsX3_size) := goodIn_app (goodIn_of _ (by decide +kernel)) ggX3_planNow_X3_size
set_option maxRecDepth 20000 in
theorem ggX3_plan_X3_within : GoodIn wsX3_plan wsX3_within := goodIn_r _ [5] (by decide +kernel) (by decide +kernel)
set_option maxRecDepth 20000 in
theorem gX3_plan_X3_within : GoodIn wsX3_plan (va_wsS RX3 68 yX3_within wsX3_within) := goodIn_app (goodIn_of _ (by decide +kernel)) ggX3_plan_X3_within
set_option maxRecDepth 20000 in
theorem ggX3_plan_X3_planNow : GoodIn wsX3_plan wsX3_planNow := goodIn_r _ [9, 1, 10, 11, 12, 13, 14, 15, 4, 16, 17, 18, 19, 20, 21, 22, 23, 24, 25, 26, 27, 28, 29, 30, 31, 32, 33, 34, 35, 36, 37, 38, 39, 40, 41, 42, 43, 44, 45, 46, 47, 48, 49, 50, 51, 52, 53, 54, 55, 56, 57, 58, 59, 60, 61, 62, 63, 64, 65, 66, 67, 68, 69, 70, 71, 72, 73, 74, 75, 76, 77, 78, 79, 80, 81, 82, 83, 84, 85, 86, 87, 88, 89] (by decide +kernel) (by decide +kernel)
set_option maxRecDepth 20000 in
theorem gX3_plan_X3_planNow : GoodIn wsX3_plan (wsV RX3 164 RX3 yX3_planNow wsX3_planNow) := goodIn_app (goodIn_of _ (by decide +kernel)) ggX3_plan_X3_planNow
set_option maxRecDepth 20000 in
theorem ggX3_keptBy_X3_atMost : GoodIn wsX3_keptBy wsX3_atMost := goodIn_r _ [8] (by decide +kernel) (by decide +kernel)
set_option maxRecDepth 20000 in
theorem gX3_keptBy_X3_atMost : GoodIn wsX3_keptBy (va_wsS RX3 133 yX3_atMost wsX3_atMost) := goodIn_app (goodIn_of _ (by decide +kernel)) ggX3_keptBy_X3_atMost
set_option maxRecDepth 20000 in
theorem ggX3_keptBy_X3_isKept : GoodIn wsX3_keptBy wsX3_isKept := goodIn_r _ [12, 13, 14, 15, 16, 17, 18, 19, 20, 21, 22, 23, 24, 25, 26, 27, 28, 29, 30, 31, 32, 33, 34, 35, 36, 37, 38, 39, 40, 41, 42, 43, 44, 45, 46, 47, 48, 49, 50, 51, 52, 53] (by decide +kernel) (by decide +kernel)
set_option maxRecDepth 20000 in
theorem gX3_keptBy_X3_isKept : GoodIn wsX3_keptBy (wsV RX3 122 RX3 yX3_isKept wsX3_isKept) := goodIn_app (goodIn_of _ (by decide +kernel)) ggX3_keptBy_X3_isKept
set_option maxRecDepth 20000 in
theorem ggX3_errorNow_X3_keptNow : GoodIn wsX3_errorNow wsX3_keptNow := goodIn_r _ [6, 1, 7, 8, 9, 10, 5, 11, 12, 22, 23, 24, 25, 26, 27, 28, 29, 30, 31, 32, 33, 34, 35, 36, 37, 38, 39, 40, 41, 42, 43, 44, 45, 46, 47, 48, 49, 50, 51, 52, 53, 54, 55, 56, 57, 58, 59, 60, 61] (by decide +kernel) (by decide +kernel)
set_option maxRecDepth 20000 in
theorem gX3_errorNow_X3_keptNow : GoodIn wsX3_errorNow (wsV RX3 140 RX3 yX3_keptNow wsX3_keptNow) := goodIn_app (goodIn_of _ (by decide +kernel)) ggX3_errorNow_X3_keptNow
set_option maxRecDepth 20000 in
theorem ggX3_errorNow_X3_keptBy : GoodIn wsX3_errorNow wsX3_keptBy := goodIn_r _ [16, 1, 17, 18, 7, 19, 20, 5, 21, 8, 9, 10, 11, 12, 22, 23, 24, 25, 26, 27, 28, 29, 30, 31, 32, 33, 34, 35, 36, 37, 38, 39, 40, 41, 42, 43, 44, 45, 46, 47, 48, 49, 50, 51, 52, 53, 54, 55, 56, 57, 58, 59, 60, 61] (by decide +kernel) (by decide +kernel)
set_option maxRecDepth 20000 in
theorem gX3_errorNow_X3_keptBy : GoodIn wsX3_errorNow (wsV RX3 168 RX3 yX3_keptBy wsX3_keptBy) := goodIn_app (goodIn_of _ (by decide +kernel)) ggX3_errorNow_X3_keptBy
set_option maxRecDepth 20000 in
theorem ggX3_error_X3_within : GoodIn wsX3_error wsX3_within := goodIn_r _ [5] (by decide +kernel) (by decide +kernel)
set_option maxRecDepth 20000 in
theorem gX3_error_X3_within : GoodIn wsX3_error (va_wsS RX3 68 yX3_within wsX3_within) := goodIn_app (goodIn_of _ (by decide +kernel)) ggX3_error_X3_within
set_option maxRecDepth 20000 in
theorem ggX3_error_X3_errorNow : GoodIn wsX3_error wsX3_errorNow := goodIn_r _ [9, 1, 10, 11, 12, 4, 13, 14, 15, 16, 17, 18, 19, 20, 21, 22, 23, 24, 25, 26, 27, 28, 29, 30, 31, 32, 33, 34, 35, 36, 37, 38, 39, 40, 41, 42, 43, 44, 45, 46, 47, 48, 49, 50, 51, 52, 53, 54, 55, 56, 57, 58, 59, 60, 61, 62, 63, 64, 65, 66, 67, 68] (by decide +kernel) (by decide +kernel)
set_option maxRecDepth 20000 in
theorem gX3_error_X3_errorNow : GoodIn wsX3_error (wsV RX3 171 RX3 yX3_errorNow wsX3_errorNow) := goodIn_app (goodIn_of _ (by decide +kernel)) ggX3_error_X3_errorNow
set_option maxRecDepth 20000 in
theorem ggX3_found_X3_isSite : GoodIn wsX3_found wsX3_isSite := goodIn_r _ [9, 10, 11, 12, 8, 13, 14, 15, 16, 17, 18, 19, 20, 21, 22, 23, 24, 25, 26, 27, 28, 29, 30, 31, 32, 33, 34, 35, 36, 37, 38, 39, 40, 41, 42, 43, 44, 45, 46, 47, 48, 49, 50, 51, 52, 53] (by decide +kernel) (by decide +kernel)
set_option maxRecDepth 20000 in
theorem gX3_found_X3_isSite : GoodIn wsX3_found (wsV RX3 126 RX3 yX3_isSite wsX3_isSite) := goodIn_app (goodIn_of _ (by decide +kernel)) ggX3_found_X3_isSite
set_option maxRecDepth 20000 in
theorem ggX3_found_X3_within : GoodIn wsX3_found wsX3_within := goodIn_r _ [13] (by decide +kernel) (by decide +kernel)
set_option maxRecDepth 20000 in
theorem gX3_found_X3_within : GoodIn wsX3_found (va_wsS RX3 68 yX3_within wsX3_within) := goodIn_app (goodIn_of _ (by decide +kernel)) ggX3_found_X3_within
set_option maxRecDepth 20000 in
theorem ggX3_leftOf_X3_meltsBy : GoodIn wsX3_leftOf wsX3_meltsBy := goodIn_r _ [5, 6, 7, 8, 9, 4, 10, 11, 12, 13, 14, 15, 16, 17, 18, 19, 20, 21, 22, 23, 24, 25, 26, 27, 28, 29, 30, 31, 32, 33, 34, 35, 36, 37, 38, 39, 40, 41, 42, 43, 44, 45, 46, 47, 48, 49, 50] (by decide +kernel) (by decide +kernel)
set_option maxRecDepth 20000 in
theorem gX3_leftOf_X3_meltsBy : GoodIn wsX3_leftOf (wsV RX3 118 RX3 yX3_meltsBy wsX3_meltsBy) := goodIn_app (goodIn_of _ (by decide +kernel)) ggX3_leftOf_X3_meltsBy
set_option maxRecDepth 20000 in
theorem ggX3_leftOf_X3_notBelow : GoodIn wsX3_leftOf wsX3_notBelow := goodIn_r _ [10] (by decide +kernel) (by decide +kernel)
set_option maxRecDepth 20000 in
theorem gX3_leftOf_X3_notBelow : GoodIn wsX3_leftOf (va_wsS RX3 115 yX3_notBelow wsX3_notBelow) := goodIn_app (goodIn_of _ (by decide +kernel)) ggX3_leftOf_X3_notBelow
set_option maxRecDepth 20000 in
theorem ggX3_sunsNow_X3_leftOf : GoodIn wsX3_sunsNow wsX3_leftOf := goodIn_r _ [9, 10, 11, 12, 8, 13, 14, 15, 16, 17, 18, 19, 20, 21, 22, 23, 24, 25, 26, 27, 28, 29, 30, 31, 32, 33, 34, 35, 36, 37, 38, 39, 40, 41, 42, 43, 44, 45, 46, 47, 48, 49, 50, 51, 52, 53, 54, 55, 56, 57, 58] (by decide +kernel) (by decide +kernel)
set_option maxRecDepth 20000 in
theorem gX3_sunsNow_X3_leftOf : GoodIn wsX3_sunsNow (wsV RX3 174 RX3 yX3_leftOf wsX3_leftOf) := goodIn_app (goodIn_of _ (by decide +kernel)) ggX3_sunsNow_X3_leftOf
set_option maxRecDepth 20000 in
theorem ggX3_suns_X3_sunsNow : GoodIn wsX3_suns wsX3_sunsNow := goodIn_r _ [6, 7, 8, 9, 10, 11, 12, 13, 5, 14, 15, 16, 17, 18, 19, 20, 21, 22, 23, 24, 25, 26, 27, 28, 29, 30, 31, 32, 33, 34, 35, 36, 37, 38, 39, 40, 41, 42, 43, 44, 45, 46, 47, 48, 49, 50, 51, 52, 53, 54, 55, 56, 57, 58, 59, 60, 61, 62, 63] (by decide +kernel) (by decide +kernel)
set_option maxRecDepth 20000 in
theorem gX3_suns_X3_sunsNow : GoodIn wsX3_suns (wsV RX3 177 RX3 yX3_sunsNow wsX3_sunsNow) := goodIn_app (goodIn_of _ (by decide +kernel)) ggX3_suns_X3_sunsNow
set_option maxRecDepth 20000 in
theorem ggX3_worstAt_X3_isIn : GoodIn wsX3_worstAt wsX3_isIn := goodIn_r _ [4] (by decide +kernel) (by decide +kernel)
set_option maxRecDepth 20000 in
theorem gX3_worstAt_X3_isIn : GoodIn wsX3_worstAt (va_wsS RX3 155 yX3_isIn wsX3_isIn) := goodIn_app (goodIn_of _ (by decide +kernel)) ggX3_worstAt_X3_isIn
set_option maxRecDepth 20000 in
theorem ggX3_worstAt_X3_leftOf : GoodIn wsX3_worstAt wsX3_leftOf := goodIn_r _ [8, 9, 10, 11, 3, 12, 13, 14, 15, 16, 17, 18, 19, 20, 21, 22, 23, 24, 25, 26, 27, 28, 29, 30, 31, 32, 33, 34, 35, 36, 37, 38, 39, 40, 41, 42, 43, 44, 45, 46, 47, 48, 49, 50, 51, 52, 53, 54, 55, 56, 57] (by decide +kernel) (by decide +kernel)
set_option maxRecDepth 20000 in
theorem gX3_worstAt_X3_leftOf : GoodIn wsX3_worstAt (wsV RX3 174 RX3 yX3_leftOf wsX3_leftOf) := goodIn_app (goodIn_of _ (by decide +kernel)) ggX3_worstAt_X3_leftOf
set_option maxRecDepth 20000 in
theorem ggX3_lookNow_X3_sunsNow : GoodIn wsX3_lookNow wsX3_sunsNow := goodIn_r _ [7, 8, 9, 10, 11, 12, 13, 14, 6, 15, 16, 17, 18, 19, 20, 21, 22, 23, 24, 32, 33, 34, 35, 36, 37, 38, 39, 40, 41, 42, 43, 44, 45, 46, 47, 48, 49, 50, 51, 52, 53, 54, 55, 56, 57, 58, 59, 60, 61, 62, 63, 64, 65, 66, 67, 68, 69, 70, 71] (by decide +kernel) (by decide +kernel)
set_option maxRecDepth 20000 in
theorem gX3_lookNow_X3_sunsNow : GoodIn wsX3_lookNow (wsV RX3 177 RX3 yX3_sunsNow wsX3_sunsNow) := goodIn_app (goodIn_of _ (by decide +kernel)) ggX3_lookNow_X3_sunsNow
set_option maxRecDepth 20000 in
theorem ggX3_lookNow_X3_worstAt : GoodIn wsX3_lookNow wsX3_worstAt := goodIn_r _ [28, 29, 30, 6, 31, 12, 13, 14, 15, 16, 17, 18, 19, 20, 21, 22, 23, 24, 32, 33, 34, 35, 36, 37, 38, 39, 40, 41, 42, 43, 44, 45, 46, 47, 48, 49, 50, 51, 52, 53, 54, 55, 56, 57, 58, 59, 60, 61, 62, 63, 64, 65, 66, 67, 68, 69, 70, 71] (by decide +kernel) (by decide +kernel)
set_option maxRecDepth 20000 in
theorem gX3_lookNow_X3_worstAt : GoodIn wsX3_lookNow (wsV RX3 181 RX3 yX3_worstAt wsX3_worstAt) := goodIn_app (goodIn_of _ (by decide +kernel)) ggX3_lookNow_X3_worstAt
set_option maxRecDepth 20000 in
theorem ggX3_look_X3_lookNow : GoodIn wsX3_look wsX3_lookNow := goodIn_r _ [6, 7, 1, 8, 9, 10, 5, 11, 12, 13, 14, 15, 16, 17, 18, 19, 20, 21, 22, 23, 24, 25, 26, 27, 28, 29, 30, 31, 32, 33, 34, 35, 36, 37, 38, 39, 40, 41, 42, 43, 44, 45, 46, 47, 48, 49, 50, 51, 52, 53, 54, 55, 56, 57, 58, 59, 60, 61, 62, 63, 64, 65, 66, 67, 68, 69, 70, 71, 72, 73, 74, 75] (by decide +kernel) (by decide +kernel)
set_option maxRecDepth 20000 in
theorem gX3_look_X3_lookNow : GoodIn wsX3_look (wsV RX3 184 RX3 yX3_lookNow wsX3_lookNow) := goodIn_app (goodIn_of _ (by decide +kernel)) ggX3_look_X3_lookNow
set_option maxRecDepth 20000 in
theorem ggX3_wintersNow_X3_draw : GoodIn wsX3_wintersNow wsX3_draw := goodIn_r _ [9, 10, 3, 11, 12, 13, 43, 44, 45, 46, 47, 48, 49, 50, 51, 52, 53, 54, 55, 56, 57, 58, 59, 60, 61, 62, 63, 64, 65, 66, 67, 68, 69, 70, 71, 72, 73, 74, 75, 76, 77, 78, 79, 80, 81, 82] (by decide +kernel) (by decide +kernel)
set_option maxRecDepth 20000 in
theorem gX3_wintersNow_X3_draw : GoodIn wsX3_wintersNow (wsV RX3 199 RX3 yX3_draw wsX3_draw) := goodIn_app (goodIn_of _ (by decide +kernel)) ggX3_wintersNow_X3_draw
set_option maxRecDepth 20000 in
theorem ggX3_wintersNow_X3_atMost : GoodIn wsX3_wintersNow wsX3_atMost := goodIn_r _ [16] (by decide +kernel) (by decide +kernel)
set_option maxRecDepth 20000 in
theorem gX3_wintersNow_X3_atMost : GoodIn wsX3_wintersNow (va_wsS RX3 133 yX3_atMost wsX3_atMost) := goodIn_app (goodIn_of _ (by decide +kernel)) ggX3_wintersNow_X3_atMost
set_option maxRecDepth 20000 in
theorem ggX3_wintersNow_X3_melt : GoodIn wsX3_wintersNow wsX3_melt := goodIn_r _ [20, 4, 2, 21, 22, 23, 8, 24, 25, 26, 27, 28, 29, 43, 44, 45, 46, 47, 48, 49, 50, 51, 52, 53, 54, 55, 56, 57, 58, 59, 60, 61, 62, 63, 64, 65, 66, 67, 68, 69, 70, 71, 72, 73, 74, 75, 76, 77, 78, 79, 80, 81, 82] (by decide +kernel) (by decide +kernel)
set_option maxRecDepth 20000 in
theorem gX3_wintersNow_X3_melt : GoodIn wsX3_wintersNow (wsV RX3 136 RX3 yX3_melt wsX3_melt) := goodIn_app (goodIn_of _ (by decide +kernel)) ggX3_wintersNow_X3_melt
set_option maxRecDepth 20000 in
theorem ggX3_wintersNow_X3_keptNow : GoodIn wsX3_wintersNow wsX3_keptNow := goodIn_r _ [33, 4, 2, 34, 35, 36, 8, 37, 38, 43, 44, 45, 46, 47, 48, 49, 50, 51, 52, 53, 54, 55, 56, 57, 58, 59, 60, 61, 62, 63, 64, 65, 66, 67, 68, 69, 70, 71, 72, 73, 74, 75, 76, 77, 78, 79, 80, 81, 82] (by decide +kernel) (by decide +kernel)
set_option maxRecDepth 20000 in
theorem gX3_wintersNow_X3_keptNow : GoodIn wsX3_wintersNow (wsV RX3 140 RX3 yX3_keptNow wsX3_keptNow) := goodIn_app (goodIn_of _ (by decide +kernel)) ggX3_wintersNow_X3_keptNow
set_option maxRecDepth 20000 in
theorem ggX3_wintersNow_X3_snowAll : GoodIn wsX3_wintersNow wsX3_snowAll := goodIn_r _ [42, 4, 2, 43, 44, 45, 46, 47, 48, 49, 50, 51, 52, 53, 54, 55, 56, 57, 58, 59, 60, 61, 62, 63, 64, 65, 66, 67, 68, 69, 70, 71, 72, 73, 74, 75, 76, 77, 78, 79, 80, 81, 82] (by decide +kernel) (by decide +kernel)
set_option maxRecDepth 20000 in
theorem gX3_wintersNow_X3_snowAll : GoodIn wsX3_wintersNow (wsV RX3 202 RX3 yX3_snowAll wsX3_snowAll) := goodIn_app (goodIn_of _ (by decide +kernel)) ggX3_wintersNow_X3_snowAll
set_option maxRecDepth 20000 in
theorem ggX3_winters_X3_within : GoodIn wsX3_winters wsX3_within := goodIn_r _ [5] (by decide +kernel) (by decide +kernel)
set_option maxRecDepth 20000 in
theorem gX3_winters_X3_within : GoodIn wsX3_winters (va_wsS RX3 68 yX3_within wsX3_within) := goodIn_app (goodIn_of _ (by decide +kernel)) ggX3_winters_X3_within
set_option maxRecDepth 20000 in
theorem ggX3_winters_X3_wintersNow : GoodIn wsX3_winters wsX3_wintersNow := goodIn_r _ [9, 10, 11, 12, 1, 13, 14, 15, 4, 16, 17, 18, 19, 20, 21, 22, 23, 24, 25, 26, 27, 28, 29, 30, 31, 32, 33, 34, 35, 36, 37, 38, 39, 40, 41, 42, 43, 44, 45, 46, 47, 48, 49, 50, 51, 52, 53, 54, 55, 56, 57, 58, 59, 60, 61, 62, 63, 64, 65, 66, 67, 68, 69, 70, 71, 72, 73, 74, 75, 76, 77, 78, 79, 80, 81, 82, 83, 84, 85, 86, 87, 88, 89] (by decide +kernel) (by decide +kernel)
set_option maxRecDepth 20000 in
theorem gX3_winters_X3_wintersNow : GoodIn wsX3_winters (wsV RX3 205 RX3 yX3_wintersNow wsX3_wintersNow) := goodIn_app (goodIn_of _ (by decide +kernel)) ggX3_winters_X3_wintersNow
set_option maxRecDepth 20000 in
theorem ggX3_howMany_X3_snowAll : GoodIn wsX3_howMany wsX3_snowAll := goodIn_r _ [13, 1, 14, 24, 25, 26, 27, 28, 29, 30, 31, 32, 33, 34, 35, 36, 37, 38, 39, 40, 41, 42, 43, 44, 45, 46, 47, 48, 49, 50, 51, 52, 53, 54, 55, 56, 57, 58, 59, 60, 61, 62, 63] (by decide +kernel) (by decide +kernel)
set_option maxRecDepth 20000 in
theorem gX3_howMany_X3_snowAll : GoodIn wsX3_howMany (wsV RX3 202 RX3 yX3_snowAll wsX3_snowAll) := goodIn_app (goodIn_of _ (by decide +kernel)) ggX3_howMany_X3_snowAll
set_option maxRecDepth 20000 in
theorem ggX3_howMany_X3_keptNow : GoodIn wsX3_howMany wsX3_keptNow := goodIn_r _ [18, 1, 14, 19, 20, 21, 12, 22, 23, 24, 25, 26, 27, 28, 29, 30, 31, 32, 33, 34, 35, 36, 37, 38, 39, 40, 41, 42, 43, 44, 45, 46, 47, 48, 49, 50, 51, 52, 53, 54, 55, 56, 57, 58, 59, 60, 61, 62, 63] (by decide +kernel) (by decide +kernel)
set_option maxRecDepth 20000 in
theorem gX3_howMany_X3_keptNow : GoodIn wsX3_howMany (wsV RX3 140 RX3 yX3_keptNow wsX3_keptNow) := goodIn_app (goodIn_of _ (by decide +kernel)) ggX3_howMany_X3_keptNow
set_option maxRecDepth 20000 in
theorem ggX3_count_X3_howMany : GoodIn wsX3_count wsX3_howMany := goodIn_r _ [5, 6, 7, 8, 9, 10, 11, 12, 13, 14, 15, 16, 4, 17, 18, 19, 20, 21, 22, 23, 24, 25, 26, 27, 28, 29, 30, 31, 32, 33, 34, 35, 36, 37, 38, 39, 40, 41, 42, 43, 44, 45, 46, 47, 48, 49, 50, 51, 52, 53, 54, 55, 56, 57, 58, 59, 60, 61, 62, 63, 64, 65, 66, 67] (by decide +kernel) (by decide +kernel)
set_option maxRecDepth 20000 in
theorem gX3_count_X3_howMany : GoodIn wsX3_count (wsV RX3 229 RX3 yX3_howMany wsX3_howMany) := goodIn_app (goodIn_of _ (by decide +kernel)) ggX3_count_X3_howMany
set_option maxRecDepth 20000 in
theorem ggX3_digest_X3_siteNow : GoodIn wsX3_digest wsX3_siteNow := goodIn_r _ [10, 11, 12, 13, 14, 15, 16, 17, 18, 19, 9, 20, 21, 22, 23, 24, 25, 26, 27, 107, 108, 109, 110, 111, 112, 113, 114, 115, 116, 117, 118, 119, 120, 121, 122, 123, 124, 125, 126, 127, 128, 129, 130, 131, 132, 133, 134, 135, 136, 137, 138, 139, 140, 141, 142, 143, 144, 145, 146] (by decide +kernel) (by decide +kernel)
set_option maxRecDepth 20000 in
theorem gX3_digest_X3_siteNow : GoodIn wsX3_digest (wsV RX3 130 RX3 yX3_siteNow wsX3_siteNow) := goodIn_app (goodIn_of _ (by decide +kernel)) ggX3_digest_X3_siteNow
set_option maxRecDepth 20000 in
theorem ggX3_digest_X3_mix : GoodIn wsX3_digest wsX3_mix := goodIn_r _ [31, 32, 2, 107, 108, 109, 110, 111, 112, 113, 114, 115, 116, 117, 118, 119, 120, 121, 122, 123, 124, 125, 126, 127, 128, 129, 130, 131, 132, 133, 134, 135, 136, 137, 138, 139, 140, 141, 142, 143, 144, 145, 146] (by decide +kernel) (by decide +kernel)
set_option maxRecDepth 20000 in
theorem gX3_digest_X3_mix : GoodIn wsX3_digest (wsV RX3 239 RX3 yX3_mix wsX3_mix) := goodIn_app (goodIn_of _ (by decide +kernel)) ggX3_digest_X3_mix
set_option maxRecDepth 20000 in
theorem ggX3_digest_X3_needOf : GoodIn wsX3_digest wsX3_needOf := goodIn_r _ [36, 37, 38, 39, 9, 40, 13, 15, 41, 42, 43, 24, 25, 26, 27, 12, 17, 18, 19, 20, 14, 11, 21, 22, 23, 107, 108, 109, 110, 111, 112, 113, 114, 115, 116, 117, 118, 119, 120, 121, 122, 123, 124, 125, 126, 127, 128, 129, 130, 131, 132, 133, 134, 135, 136, 137, 138, 139, 140, 141, 142, 143, 144, 145, 146] (by decide +kernel) (by decide +kernel)
set_option maxRecDepth 20000 in
theorem gX3_digest_X3_needOf : GoodIn wsX3_digest (wsV RX3 146 RX3 yX3_needOf wsX3_needOf) := goodIn_app (goodIn_of _ (by decide +kernel)) ggX3_digest_X3_needOf
set_option maxRecDepth 20000 in
theorem ggX3_digest_X3_planNow : GoodIn wsX3_digest wsX3_planNow := goodIn_r _ [47, 3, 48, 49, 50, 33, 34, 35, 9, 36, 37, 38, 39, 40, 13, 15, 41, 42, 43, 24, 25, 26, 27, 12, 17, 18, 19, 20, 14, 11, 21, 22, 23, 51, 52, 53, 54, 55, 56, 57, 58, 59, 60, 107, 108, 109, 110, 111, 112, 113, 114, 115, 116, 117, 118, 119, 120, 121, 122, 123, 124, 125, 126, 127, 128, 129, 130, 131, 132, 133, 134, 135, 136, 137, 138, 139, 140, 141, 142, 143, 144, 145, 146] (by decide +kernel) (by decide +kernel)
set_option maxRecDepth 20000 in
theorem gX3_digest_X3_planNow : GoodIn wsX3_digest (wsV RX3 164 RX3 yX3_planNow wsX3_planNow) := goodIn_app (goodIn_of _ (by decide +kernel)) ggX3_digest_X3_planNow
set_option maxRecDepth 20000 in
theorem ggX3_digest_X3_errorNow : GoodIn wsX3_digest wsX3_errorNow := goodIn_r _ [64, 3, 65, 66, 67, 9, 68, 13, 24, 25, 26, 27, 12, 69, 70, 71, 72, 73, 16, 41, 42, 43, 107, 108, 109, 110, 111, 112, 113, 114, 115, 116, 117, 118, 119, 120, 121, 122, 123, 124, 125, 126, 127, 128, 129, 130, 131, 132, 133, 134, 135, 136, 137, 138, 139, 140, 141, 142, 143, 144, 145, 146] (by decide +kernel) (by decide +kernel)
set_option maxRecDepth 20000 in
theorem gX3_digest_X3_errorNow : GoodIn wsX3_digest (wsV RX3 171 RX3 yX3_errorNow wsX3_errorNow) := goodIn_app (goodIn_of _ (by decide +kernel)) ggX3_digest_X3_errorNow
set_option maxRecDepth 20000 in
theorem ggX3_digest_X3_sunsNow : GoodIn wsX3_digest wsX3_sunsNow := goodIn_r _ [77, 78, 79, 80, 81, 82, 83, 84, 9, 85, 17, 18, 19, 20, 14, 11, 21, 22, 23, 107, 108, 109, 110, 111, 112, 113, 114, 115, 116, 117, 118, 119, 120, 121, 122, 123, 124, 125, 126, 127, 128, 129, 130, 131, 132, 133, 134, 135, 136, 137, 138, 139, 140, 141, 142, 143, 144, 145, 146] (by decide +kernel) (by decide +kernel)
set_option maxRecDepth 20000 in
theorem gX3_digest_X3_sunsNow : GoodIn wsX3_digest (wsV RX3 177 RX3 yX3_sunsNow wsX3_sunsNow) := goodIn_app (goodIn_of _ (by decide +kernel)) ggX3_digest_X3_sunsNow
set_option maxRecDepth 20000 in
theorem ggX3_digest_X3_lookNow : GoodIn wsX3_digest wsX3_lookNow := goodIn_r _ [89, 90, 3, 74, 75, 76, 9, 77, 78, 79, 80, 81, 82, 83, 84, 85, 17, 18, 19, 20, 14, 11, 21, 22, 23, 91, 92, 93, 94, 55, 56, 57, 107, 108, 109, 110, 111, 112, 113, 114, 115, 116, 117, 118, 119, 120, 121, 122, 123, 124, 125, 126, 127, 128, 129, 130, 131, 132, 133, 134, 135, 136, 137, 138, 139, 140, 141, 142, 143, 144, 145, 146] (by decide +kernel) (by decide +kernel)
set_option maxRecDepth 20000 in
theorem gX3_digest_X3_lookNow : GoodIn wsX3_digest (wsV RX3 184 RX3 yX3_lookNow wsX3_lookNow) := goodIn_app (goodIn_of _ (by decide +kernel)) ggX3_digest_X3_lookNow
set_option maxRecDepth 20000 in
theorem ggX3_digest_X3_howMany : GoodIn wsX3_digest wsX3_howMany := goodIn_r _ [98, 3, 15, 99, 100, 101, 78, 4, 102, 103, 104, 105, 9, 106, 13, 65, 66, 67, 68, 24, 25, 26, 27, 12, 107, 108, 109, 110, 111, 112, 113, 114, 115, 116, 117, 118, 119, 120, 121, 122, 123, 124, 125, 126, 127, 128, 129, 130, 131, 132, 133, 134, 135, 136, 137, 138, 139, 140, 141, 142, 143, 144, 145, 146] (by decide +kernel) (by decide +kernel)
set_option maxRecDepth 20000 in
theorem gX3_digest_X3_howMany : GoodIn wsX3_digest (wsV RX3 229 RX3 yX3_howMany wsX3_howMany) := goodIn_app (goodIn_of _ (by decide +kernel)) ggX3_digest_X3_howMany
