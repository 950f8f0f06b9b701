theorem ir_X3_letter_X30 : ∀ w ∈ wsX30, w ∈ wsX3_letter := fun _ h => List.mem_cons_of_mem _ (List.mem_append_right _ (h))
set_option maxRecDepth 20000 in
theorem aw_X3_within : wsX3_within.all goodWord = true := by decide +kernel
set_option maxRecDepth 20000 in
theorem ggX3_letter_X3_within : GoodIn wsX3_letter wsX3_within := goodIn_sub (al_c (gm 6 rfl) al_n) aw_X3_within
set_option maxRecDepth 20000 in
theorem gX3_letter_X3_within : GoodIn wsX3_letter (va_wsS RX3 68 yX3_within wsX3_within) := goodIn_app (goodIn_sub (al_c (gm 3 rfl) (al_c (gm 4 rfl) (al_c (gm 5 rfl) al_n))) rfl) ggX3_letter_X3_within
theorem ir_X3_read_X30 : ∀ w ∈ wsX30, w ∈ wsX3_read := fun _ h => List.mem_cons_of_mem _ (List.mem_append_right _ (h))
set_option maxRecDepth 20000 in
theorem aw_X3_kindBy : wsX3_kindBy.all goodWord = true := by decide +kernel
set_option maxRecDepth 20000 in
theorem ggX3_read_X3_kindBy : GoodIn wsX3_read wsX3_kindBy := goodIn_sub (al_c (gm 8 rfl) al_n) aw_X3_kindBy
set_option maxRecDepth 20000 in
theorem gX3_read_X3_kindBy : GoodIn wsX3_read (va_wsS RX3 83 yX3_kindBy wsX3_kindBy) := goodIn_app (goodIn_sub (al_c (gm 5 rfl) (al_c (gm 6 rfl) (al_c (gm 7 rfl) al_n))) rfl) ggX3_read_X3_kindBy
set_option maxRecDepth 20000 in
theorem aw_X3_figure : wsX3_figure.all goodWord = true := by decide +kernel
set_option maxRecDepth 20000 in
theorem ggX3_read_X3_figure : GoodIn wsX3_read wsX3_figure := goodIn_sub (al_c (gm 12 rfl) (al_a (al_c (gm 3 rfl) (al_c (gm 4 rfl) al_n)) ir_X3_read_X30)) aw_X3_figure
set_option maxRecDepth 20000 in
theorem gX3_read_X3_figure : GoodIn wsX3_read (wsV RX3 87 RX3 yX3_figure wsX3_figure) := goodIn_app (goodIn_sub (al_c (gm 9 rfl) (al_c (gm 10 rfl) (al_c (gm 11 rfl) (al_c (gm 7 rfl) al_n)))) rfl) ggX3_read_X3_figure
set_option maxRecDepth 20000 in
theorem ggX3_read_X3_within : GoodIn wsX3_read wsX3_within := goodIn_sub (al_c (gm 15 rfl) al_n) aw_X3_within
set_option maxRecDepth 20000 in
theorem gX3_read_X3_within : GoodIn wsX3_read (va_wsS RX3 68 yX3_within wsX3_within) := goodIn_app (goodIn_sub (al_c (gm 13 rfl) (al_c (gm 14 rfl) (al_c (gm 7 rfl) al_n))) rfl) ggX3_read_X3_within
theorem ir_X3_fault_X30 : ∀ w ∈ wsX30, w ∈ wsX3_fault := fun _ h => List.mem_cons_of_mem _ (List.mem_append_right _ (h))
set_option maxRecDepth 20000 in
theorem aw_X3_read : wsX3_read.all goodWord = true := by decide +kernel
set_option maxRecDepth 20000 in
theorem ggX3_fault_X3_read : GoodIn wsX3_fault wsX3_read := goodIn_sub (al_c (gm 5 rfl) (al_a (al_c (gm 6 rfl) (al_c (gm 7 rfl) (al_c (gm 8 rfl) (al_c (gm 9 rfl) (al_c (gm 10 rfl) (al_c (gm 11 rfl) (al_c (gm 4 rfl) (al_c (gm 12 rfl) (al_c (gm 13 rfl) (al_c (gm 14 rfl) (al_c (gm 15 rfl) (al_c (gm 16 rfl) (al_c (gm 17 rfl) (al_c (gm 18 rfl) (al_c (gm 19 rfl) al_n))))))))))))))) ir_X3_fault_X30)) aw_X3_read
set_option maxRecDepth 20000 in
theorem gX3_fault_X3_read : GoodIn wsX3_fault (wsV RX3 90 RX3 yX3_read wsX3_read) := goodIn_app (goodIn_sub (al_c (gm 1 rfl) (al_c (gm 2 rfl) (al_c (gm 3 rfl) (al_c (gm 4 rfl) al_n)))) rfl) ggX3_fault_X3_read
theorem ir_X3_city_X3_city_r1 : ∀ w ∈ wsX3_city_r1, w ∈ wsX3_city := fun _ h => List.mem_cons_of_mem _ (List.mem_append_left _ (List.mem_append_left _ (h)))
theorem ir_X3_city_X3_city_r2 : ∀ w ∈ wsX3_city_r2, w ∈ wsX3_city := fun _ h => List.mem_cons_of_mem _ (List.mem_append_left _ (List.mem_append_right _ (h)))
theorem ir_X3_city_X30 : ∀ w ∈ wsX30, w ∈ wsX3_city := fun _ h => List.mem_cons_of_mem _ (List.mem_append_right _ (h))
set_option maxRecDepth 20000 in
theorem ggX3_city_X3_read : GoodIn wsX3_city wsX3_read := goodIn_sub (al_c (ir_X3_city_X3_city_r1 _ (gm 21 rfl)) (al_a (al_c (ir_X3_city_X3_city_r1 _ (gm 0 rfl)) (al_c (ir_X3_city_X3_city_r1 _ (gm 1 rfl)) (al_c (ir_X3_city_X3_city_r1 _ (gm 16 rfl)) (al_c (ir_X3_city_X3_city_r1 _ (gm 4 rfl)) (al_c (ir_X3_city_X3_city_r1 _ (gm 22 rfl)) (al_c (ir_X3_city_X3_city_r1 _ (gm 23 rfl)) (al_c (ir_X3_city_X3_city_r1 _ (gm 20 rfl)) (al_c (ir_X3_city_X3_city_r2 _ (gm 0 rfl)) (al_c (ir_X3_city_X3_city_r2 _ (gm 1 rfl)) (al_c (ir_X3_city_X3_city_r2 _ (gm 2 rfl)) (al_c (ir_X3_city_X3_city_r2 _ (gm 3 rfl)) (al_c (ir_X3_city_X3_city_r2 _ (gm 4 rfl)) (al_c (ir_X3_city_X3_city_r2 _ (gm 5 rfl)) (al_c (ir_X3_city_X3_city_r2 _ (gm 6 rfl)) (al_c (ir_X3_city_X3_city_r2 _ (gm 7 rfl)) al_n))))))))))))))) ir_X3_city_X30)) aw_X3_read
set_option maxRecDepth 20000 in
theorem gX3_city_X3_read : GoodIn wsX3_city (wsV RX3 90 RX3 yX3_read wsX3_read) := goodIn_app (goodIn_sub (al_c (ir_X3_city_X3_city_r1 _ (gm 17 rfl)) (al_c (ir_X3_city_X3_city_r1 _ (gm 18 rfl)) (al_c (ir_X3_city_X3_city_r1 _ (gm 19 rfl)) (al_c (ir_X3_city_X3_city_r1 _ (gm 20 rfl)) al_n)))) rfl) ggX3_city_X3_read
set_option maxRecDepth 20000 in
theorem ggX3_city_X3_kindBy : GoodIn wsX3_city wsX3_kindBy := goodIn_sub (al_c (ir_X3_city_X3_city_r2 _ (gm 0 rfl)) al_n) aw_X3_kindBy
set_option maxRecDepth 20000 in
theorem gX3_city_X3_kindBy : GoodIn wsX3_city (va_wsS RX3 83 yX3_kindBy wsX3_kindBy) := goodIn_app (goodIn_sub (al_c (ir_X3_city_X3_city_r1 _ (gm 22 rfl)) (al_c (ir_X3_city_X3_city_r1 _ (gm 23 rfl)) (al_c (ir_X3_city_X3_city_r1 _ (gm 20 rfl)) al_n))) rfl) ggX3_city_X3_kindBy
theorem ir_X3_isSite_X30 : ∀ w ∈ wsX30, w ∈ wsX3_isSite := fun _ h => List.mem_cons_of_mem _ (List.mem_append_right _ (h))
set_option maxRecDepth 20000 in
theorem ggX3_isSite_X3_within : GoodIn wsX3_isSite wsX3_within := goodIn_sub (al_c (gm 5 rfl) al_n) aw_X3_within
set_option maxRecDepth 20000 in
theorem gX3_isSite_X3_within : GoodIn wsX3_isSite (va_wsS RX3 68 yX3_within wsX3_within) := goodIn_app (goodIn_sub (al_c (gm 2 rfl) (al_c (gm 3 rfl) (al_c (gm 4 rfl) al_n))) rfl) ggX3_isSite_X3_within
theorem ir_X3_meltsBy_X30 : ∀ w ∈ wsX30, w ∈ wsX3_meltsBy := fun _ h => List.mem_cons_of_mem _ (List.mem_append_right _ (h))
set_option maxRecDepth 20000 in
theorem aw_X3_notBelow : wsX3_notBelow.all goodWord = true := by decide +kernel
set_option maxRecDepth 20000 in
theorem ggX3_meltsBy_X3_notBelow : GoodIn wsX3_meltsBy wsX3_notBelow := goodIn_sub (al_c (gm 6 rfl) al_n) aw_X3_notBelow
set_option maxRecDepth 20000 in
theorem gX3_meltsBy_X3_notBelow : GoodIn wsX3_meltsBy (va_wsS RX3 115 yX3_notBelow wsX3_notBelow) := goodIn_app (goodIn_sub (al_c (gm 3 rfl) (al_c (gm 4 rfl) (al_c (gm 5 rfl) al_n))) rfl) ggX3_meltsBy_X3_notBelow
theorem ir_X3_siteNow_X30 : ∀ w ∈ wsX30, w ∈ wsX3_siteNow := fun _ h => List.mem_cons_of_mem _ (List.mem_append_right _ (h))
set_option maxRecDepth 20000 in
theorem aw_X3_meltsBy : wsX3_meltsBy.all goodWord = true := by decide +kernel
set_option maxRecDepth 20000 in
theorem ggX3_siteNow_X3_meltsBy : GoodIn wsX3_siteNow wsX3_meltsBy := goodIn_sub (al_c (gm 11 rfl) (al_a (al_c (gm 4 rfl) (al_c (gm 1 rfl) (al_c (gm 12 rfl) (al_c (gm 13 rfl) (al_c (gm 10 rfl) (al_c (gm 14 rfl) al_n)))))) ir_X3_siteNow_X30)) aw_X3_meltsBy
set_option maxRecDepth 20000 in
theorem gX3_siteNow_X3_meltsBy : GoodIn wsX3_siteNow (wsV RX3 118 RX3 yX3_meltsBy wsX3_meltsBy) := goodIn_app (goodIn_sub (al_c (gm 7 rfl) (al_c (gm 8 rfl) (al_c (gm 9 rfl) (al_c (gm 10 rfl) al_n)))) rfl) ggX3_siteNow_X3_meltsBy
set_option maxRecDepth 20000 in
theorem aw_X3_isKept : wsX3_isKept.all goodWord = true := by decide +kernel
set_option maxRecDepth 20000 in
theorem ggX3_siteNow_X3_isKept : GoodIn wsX3_siteNow wsX3_isKept := goodIn_sub (al_c (gm 18 rfl) (al_a (al_c (gm 2 rfl) al_n) ir_X3_siteNow_X30)) aw_X3_isKept
set_option maxRecDepth 20000 in
theorem gX3_siteNow_X3_isKept : GoodIn wsX3_siteNow (wsV RX3 122 RX3 yX3_isKept wsX3_isKept) := goodIn_app (goodIn_sub (al_c (gm 15 rfl) (al_c (gm 16 rfl) (al_c (gm 17 rfl) (al_c (gm 10 rfl) al_n)))) rfl) ggX3_siteNow_X3_isKept
theorem ir_X3_about_X3_about_r1 : ∀ w ∈ wsX3_about_r1, w ∈ wsX3_about := fun _ h => List.mem_cons_of_mem _ (List.mem_append_left _ (List.mem_append_left _ (h)))
theorem ir_X3_about_X3_about_r2 : ∀ w ∈ wsX3_about_r2, w ∈ wsX3_about := fun _ h => List.mem_cons_of_mem _ (List.mem_append_left _ (List.mem_append_right _ (h)))
theorem ir_X3_about_X30 : ∀ w ∈ wsX30, w ∈ wsX3_about := fun _ h => List.mem_cons_of_mem _ (List.mem_append_right _ (h))
set_option maxRecDepth 20000 in
theorem aw_X3_isSite : wsX3_isSite.all goodWord = true := by decide +kernel
set_option maxRecDepth 20000 in
theorem ggX3_about_X3_isSite : GoodIn wsX3_about wsX3_isSite := goodIn_sub (al_c (ir_X3_about_X3_about_r1 _ (gm 4 rfl)) (al_a (al_c (ir_X3_about_X3_about_r1 _ (gm 5 rfl)) (al_c (ir_X3_about_X3_about_r1 _ (gm 6 rfl)) (al_c (ir_X3_about_X3_about_r1 _ (gm 7 rfl)) (al_c (ir_X3_about_X3_about_r1 _ (gm 3 rfl)) (al_c (ir_X3_about_X3_about_r1 _ (gm 8 rfl)) al_n))))) ir_X3_about_X30)) aw_X3_isSite
set_option maxRecDepth 20000 in
theorem gX3_about_X3_isSite : GoodIn wsX3_about (wsV RX3 126 RX3 yX3_isSite wsX3_isSite) := goodIn_app (goodIn_sub (al_c (ir_X3_about_X3_about_r1 _ (gm 0 rfl)) (al_c (ir_X3_about_X3_about_r1 _ (gm 1 rfl)) (al_c (ir_X3_about_X3_about_r1 _ (gm 2 rfl)) (al_c (ir_X3_about_X3_about_r1 _ (gm 3 rfl)) al_n)))) rfl) ggX3_about_X3_isSite
set_option maxRecDepth 20000 in
theorem ggX3_about_X3_within : GoodIn wsX3_about wsX3_within := goodIn_sub (al_c (ir_X3_about_X3_about_r1 _ (gm 8 rfl)) al_n) aw_X3_within
set_option maxRecDepth 20000 in
theorem gX3_about_X3_within : GoodIn wsX3_about (va_wsS RX3 68 yX3_within wsX3_within) := goodIn_app (goodIn_sub (al_c (ir_X3_about_X3_about_r1 _ (gm 6 rfl)) (al_c (ir_X3_about_X3_about_r1 _ (gm 7 rfl)) (al_c (ir_X3_about_X3_about_r1 _ (gm 3 rfl)) al_n))) rfl) ggX3_about_X3_within
set_option maxRecDepth 20000 in
theorem aw_X3_siteNow : wsX3_siteNow.all goodWord = true := by decide +kernel
set_option maxRecDepth 20000 in
theorem ggX3_about_X3_siteNow : GoodIn wsX3_about wsX3_siteNow := goodIn_sub (al_c (ir_X3_about_X3_about_r1 _ (gm 12 rfl)) (al_a (al_c (ir_X3_about_X3_about_r1 _ (gm 13 rfl)) (al_c (ir_X3_about_X3_about_r1 _ (gm 14 rfl)) (al_c (ir_X3_about_X3_about_r1 _ (gm 15 rfl)) (al_c (ir_X3_about_X3_about_r1 _ (gm 16 rfl)) (al_c (ir_X3_about_X3_about_r1 _ (gm 17 rfl)) (al_c (ir_X3_about_X3_about_r1 _ (gm 18 rfl)) (al_c (ir_X3_about_X3_about_r1 _ (gm 19 rfl)) (al_c (ir_X3_about_X3_about_r1 _ (gm 20 rfl)) (al_c (ir_X3_about_X3_about_r1 _ (gm 21 rfl)) (al_c (ir_X3_about_X3_about_r1 _ (gm 3 rfl)) (al_c (ir_X3_about_X3_about_r1 _ (gm 22 rfl)) (al_c (ir_X3_about_X3_about_r1 _ (gm 23 rfl)) (al_c (ir_X3_about_X3_about_r2 _ (gm 0 rfl)) (al_c (ir_X3_about_X3_about_r2 _ (gm 1 rfl)) (al_c (ir_X3_about_X3_about_r2 _ (gm 2 rfl)) (al_c (ir_X3_about_X3_about_r2 _ (gm 3 rfl)) (al_c (ir_X3_about_X3_about_r2 _ (gm 4 rfl)) (al_c (ir_X3_about_X3_about_r2 _ (gm 5 rfl)) al_n)))))))))))))))))) ir_X3_about_X30)) aw_X3_siteNow
set_option maxRecDepth 20000 in
theorem gX3_about_X3_siteNow : GoodIn wsX3_about (wsV RX3 130 RX3 yX3_siteNow wsX3_siteNow) := goodIn_app (goodIn_sub (al_c (ir_X3_about_X3_about_r1 _ (gm 9 rfl)) (al_c (ir_X3_about_X3_about_r1 _ (gm 10 rfl)) (al_c (ir_X3_about_X3_about_r1 _ (gm 11 rfl)) (al_c (ir_X3_about_X3_about_r1 _ (gm 3 rfl)) al_n)))) rfl) ggX3_about_X3_siteNow
theorem ir_X3_as_X30 : ∀ w ∈ wsX30, w ∈ wsX3_as := fun _ h => List.mem_cons_of_mem _ (List.mem_append_right _ (h))
set_option maxRecDepth 20000 in
theorem ggX3_as_X3_isSite : GoodIn wsX3_as wsX3_isSite := goodIn_sub (al_c (gm 6 rfl) (al_a (al_c (gm 7 rfl) (al_c (gm 8 rfl) (al_c (gm 9 rfl) (al_c (gm 5 rfl) (al_c (gm 10 rfl) al_n))))) ir_X3_as_X30)) aw_X3_isSite
set_option maxRecDepth 20000 in
theorem gX3_as_X3_isSite : GoodIn wsX3_as (wsV RX3 126 RX3 yX3_isSite wsX3_isSite) := goodIn_app (goodIn_sub (al_c (gm 2 rfl) (al_c (gm 3 rfl) (al_c (gm 4 rfl) (al_c (gm 5 rfl) al_n)))) rfl) ggX3_as_X3_isSite
set_option maxRecDepth 20000 in
theorem ggX3_as_X3_within : GoodIn wsX3_as wsX3_within := goodIn_sub (al_c (gm 10 rfl) al_n) aw_X3_within
set_option maxRecDepth 20000 in
theorem gX3_as_X3_within : GoodIn wsX3_as (va_wsS RX3 68 yX3_within wsX3_within) := goodIn_app (goodIn_sub (al_c (gm 8 rfl) (al_c (gm 9 rfl) (al_c (gm 5 rfl) al_n))) rfl) ggX3_as_X3_within
theorem ir_X3_bring_X30 : ∀ w ∈ wsX30, w ∈ wsX3_bring := fun _ h => List.mem_cons_of_mem _ (List.mem_append_right _ (h))
set_option maxRecDepth 20000 in
theorem ggX3_bring_X3_isSite : GoodIn wsX3_bring wsX3_isSite := goodIn_sub (al_c (gm 8 rfl) (al_a (al_c (gm 9 rfl) (al_c (gm 10 rfl) (al_c (gm 11 rfl) (al_c (gm 7 rfl) (al_c (gm 12 rfl) al_n))))) ir_X3_bring_X30)) aw_X3_isSite
set_option maxRecDepth 20000 in
theorem gX3_bring_X3_isSite : GoodIn wsX3_bring (wsV RX3 126 RX3 yX3_isSite wsX3_isSite) := goodIn_app (goodIn_sub (al_c (gm 4 rfl) (al_c (gm 5 rfl) (al_c (gm 6 rfl) (al_c (gm 7 rfl) al_n)))) rfl) ggX3_bring_X3_isSite
set_option maxRecDepth 20000 in
theorem ggX3_bring_X3_within : GoodIn wsX3_bring wsX3_within := goodIn_sub (al_c (gm 12 rfl) al_n) aw_X3_within
set_option maxRecDepth 20000 in
theorem gX3_bring_X3_within : GoodIn wsX3_bring (va_wsS RX3 68 yX3_within wsX3_within) := goodIn_app (goodIn_sub (al_c (gm 10 rfl) (al_c (gm 11 rfl) (al_c (gm 7 rfl) al_n))) rfl) ggX3_bring_X3_within
set_option maxRecDepth 20000 in
theorem aw_X3_atMost : wsX3_atMost.all goodWord = true := by decide +kernel
set_option maxRecDepth 20000 in
theorem ggX3_bring_X3_atMost : GoodIn wsX3_bring wsX3_atMost := goodIn_sub (al_c (gm 15 rfl) al_n) aw_X3_atMost
set_option maxRecDepth 20000 in
theorem gX3_bring_X3_atMost : GoodIn wsX3_bring (va_wsS RX3 133 yX3_atMost wsX3_atMost) := goodIn_app (goodIn_sub (al_c (gm 13 rfl) (al_c (gm 14 rfl) (al_c (gm 7 rfl) al_n))) rfl) ggX3_bring_X3_atMost
theorem ir_X3_tread_X30 : ∀ w ∈ wsX30, w ∈ wsX3_tread := fun _ h => List.mem_cons_of_mem _ (List.mem_append_right _ (h))
set_option maxRecDepth 20000 in
theorem ggX3_tread_X3_isSite : GoodIn wsX3_tread wsX3_isSite := goodIn_sub (al_c (gm 6 rfl) (al_a (al_c (gm 7 rfl) (al_c (gm 8 rfl) (al_c (gm 9 rfl) (al_c (gm 5 rfl) (al_c (gm 10 rfl) al_n))))) ir_X3_tread_X30)) aw_X3_isSite
set_option maxRecDepth 20000 in
theorem gX3_tread_X3_isSite : GoodIn wsX3_tread (wsV RX3 126 RX3 yX3_isSite wsX3_isSite) := goodIn_app (goodIn_sub (al_c (gm 2 rfl) (al_c (gm 3 rfl) (al_c (gm 4 rfl) (al_c (gm 5 rfl) al_n)))) rfl) ggX3_tread_X3_isSite
set_option maxRecDepth 20000 in
theorem ggX3_tread_X3_within : GoodIn wsX3_tread wsX3_within := goodIn_sub (al_c (gm 10 rfl) al_n) aw_X3_within
set_option maxRecDepth 20000 in
theorem gX3_tread_X3_within : GoodIn wsX3_tread (va_wsS RX3 68 yX3_within wsX3_within) := goodIn_app (goodIn_sub (al_c (gm 8 rfl) (al_c (gm 9 rfl) (al_c (gm 5 rfl) al_n))) rfl) ggX3_tread_X3_within
theorem ir_X3_sun_X30 : ∀ w ∈ wsX30, w ∈ wsX3_sun := fun _ h => List.mem_cons_of_mem _ (List.mem_append_right _ (h))
set_option maxRecDepth 20000 in
theorem ggX3_sun_X3_within : GoodIn wsX3_sun wsX3_within := goodIn_sub (al_c (gm 6 rfl) al_n) aw_X3_within
set_option maxRecDepth 20000 in
theorem gX3_sun_X3_within : GoodIn wsX3_sun (va_wsS RX3 68 yX3_within wsX3_within) := goodIn_app (goodIn_sub (al_c (gm 3 rfl) (al_c (gm 4 rfl) (al_c (gm 5 rfl) al_n))) rfl) ggX3_sun_X3_within
theorem ir_X3_keptNow_X30 : ∀ w ∈ wsX30, w ∈ wsX3_keptNow := fun _ h => List.mem_cons_of_mem _ (List.mem_append_right _ (h))
set_option maxRecDepth 20000 in
theorem ggX3_keptNow_X3_isKept : GoodIn wsX3_keptNow wsX3_isKept := goodIn_sub (al_c (gm 7 rfl) (al_a (al_c (gm 8 rfl) al_n) ir_X3_keptNow_X30)) aw_X3_isKept
set_option maxRecDepth 20000 in
theorem gX3_keptNow_X3_isKept : GoodIn wsX3_keptNow (wsV RX3 122 RX3 yX3_isKept wsX3_isKept) := goodIn_app (goodIn_sub (al_c (gm 3 rfl) (al_c (gm 4 rfl) (al_c (gm 5 rfl) (al_c (gm 6 rfl) al_n)))) rfl) ggX3_keptNow_X3_isKept
theorem ir_X3_melt_X30 : ∀ w ∈ wsX30, w ∈ wsX3_melt := fun _ h => List.mem_cons_of_mem _ (List.mem_append_right _ (h))
set_option maxRecDepth 20000 in
theorem ggX3_melt_X3_meltsBy : GoodIn wsX3_melt wsX3_meltsBy := goodIn_sub (al_c (gm 7 rfl) (al_a (al_c (gm 8 rfl) (al_c (gm 9 rfl) (al_c (gm 10 rfl) (al_c (gm 11 rfl) (al_c (gm 6 rfl) (al_c (gm 12 rfl) al_n)))))) ir_X3_melt_X30)) aw_X3_meltsBy
set_option maxRecDepth 20000 in
theorem gX3_melt_X3_meltsBy : GoodIn wsX3_melt (wsV RX3 118 RX3 yX3_meltsBy wsX3_meltsBy) := goodIn_app (goodIn_sub (al_c (gm 3 rfl) (al_c (gm 4 rfl) (al_c (gm 5 rfl) (al_c (gm 6 rfl) al_n)))) rfl) ggX3_melt_X3_meltsBy
set_option maxRecDepth 20000 in
theorem ggX3_melt_X3_notBelow : GoodIn wsX3_melt wsX3_notBelow := goodIn_sub (al_c (gm 12 rfl) al_n) aw_X3_notBelow
set_option maxRecDepth 20000 in
theorem gX3_melt_X3_notBelow : GoodIn wsX3_melt (va_wsS RX3 115 yX3_notBelow wsX3_notBelow) := goodIn_app (goodIn_sub (al_c (gm 10 rfl) (al_c (gm 11 rfl) (al_c (gm 6 rfl) al_n))) rfl) ggX3_melt_X3_notBelow
theorem ir_X3_day_X3_day_r1 : ∀ w ∈ wsX3_day_r1, w ∈ wsX3_day := fun _ h => List.mem_cons_of_mem _ (List.mem_append_left _ (List.mem_append_left _ (h)))
theorem ir_X3_day_X3_day_r2 : ∀ w ∈ wsX3_day_r2, w ∈ wsX3_day := fun _ h => List.mem_cons_of_mem _ (List.mem_append_left _ (List.mem_append_right _ (h)))
theorem ir_X3_day_X30 : ∀ w ∈ wsX30, w ∈ wsX3_day := fun _ h => List.mem_cons_of_mem _ (List.mem_append_right _ (h))
set_option maxRecDepth 20000 in
theorem aw_X3_melt : wsX3_melt.all goodWord = true := by decide +kernel
set_option maxRecDepth 20000 in
theorem ggX3_day_X3_melt : GoodIn wsX3_day wsX3_melt := goodIn_sub (al_c (ir_X3_day_X3_day_r1 _ (gm 11 rfl)) (al_a (al_c (ir_X3_day_X3_day_r1 _ (gm 0 rfl)) (al_c (ir_X3_day_X3_day_r1 _ (gm 3 rfl)) (al_c (ir_X3_day_X3_day_r1 _ (gm 12 rfl)) (al_c (ir_X3_day_X3_day_r1 _ (gm 13 rfl)) (al_c (ir_X3_day_X3_day_r1 _ (gm 14 rfl)) (al_c (ir_X3_day_X3_day_r1 _ (gm 10 rfl)) (al_c (ir_X3_day_X3_day_r1 _ (gm 15 rfl)) (al_c (ir_X3_day_X3_day_r1 _ (gm 16 rfl)) (al_c (ir_X3_day_X3_day_r1 _ (gm 17 rfl)) (al_c (ir_X3_day_X3_day_r1 _ (gm 18 rfl)) (al_c (ir_X3_day_X3_day_r1 _ (gm 19 rfl)) (al_c (ir_X3_day_X3_day_r1 _ (gm 20 rfl)) al_n)))))))))))) ir_X3_day_X30)) aw_X3_melt
set_option maxRecDepth 20000 in
theorem gX3_day_X3_melt : GoodIn wsX3_day (wsV RX3 136 RX3 yX3_melt wsX3_melt) := goodIn_app (goodIn_sub (al_c (ir_X3_day_X3_day_r1 _ (gm 7 rfl)) (al_c (ir_X3_day_X3_day_r1 _ (gm 8 rfl)) (al_c (ir_X3_day_X3_day_r1 _ (gm 9 rfl)) (al_c (ir_X3_day_X3_day_r1 _ (gm 10 rfl)) al_n)))) rfl) ggX3_day_X3_melt
set_option maxRecDepth 20000 in
theorem aw_X3_keptNow : wsX3_keptNow.all goodWord = true := by decide +kernel
set_option maxRecDepth 20000 in
theorem ggX3_day_X3_keptNow : GoodIn wsX3_day wsX3_keptNow := goodIn_sub (al_c (ir_X3_day_X3_day_r2 _ (gm 0 rfl)) (al_a (al_c (ir_X3_day_X3_day_r1 _ (gm 0 rfl)) (al_c (ir_X3_day_X3_day_r1 _ (gm 3 rfl)) (al_c (ir_X3_day_X3_day_r2 _ (gm 1 rfl)) (al_c (ir_X3_day_X3_day_r2 _ (gm 2 rfl)) (al_c (ir_X3_day_X3_day_r2 _ (gm 3 rfl)) (al_c (ir_X3_day_X3_day_r1 _ (gm 10 rfl)) (al_c (ir_X3_day_X3_day_r2 _ (gm 4 rfl)) (al_c (ir_X3_day_X3_day_r2 _ (gm 5 rfl)) al_n)))))))) ir_X3_day_X30)) aw_X3_keptNow
set_option maxRecDepth 20000 in
theorem gX3_day_X3_keptNow : GoodIn wsX3_day (wsV RX3 140 RX3 yX3_keptNow wsX3_keptNow) := goodIn_app (goodIn_sub (al_c (ir_X3_day_X3_day_r1 _ (gm 21 rfl)) (al_c (ir_X3_day_X3_day_r1 _ (gm 22 rfl)) (al_c (ir_X3_day_X3_day_r1 _ (gm 23 rfl)) (al_c (ir_X3_day_X3_day_r1 _ (gm 10 rfl)) al_n)))) rfl) ggX3_day_X3_keptNow
theorem ir_X3_isKeptFor_X30 : ∀ w ∈ wsX30, w ∈ wsX3_isKeptFor := fun _ h => List.mem_cons_of_mem _ (List.mem_append_right _ (h))
set_option maxRecDepth 20000 in
theorem ggX3_isKeptFor_X3_atMost : GoodIn wsX3_isKeptFor wsX3_atMost := goodIn_sub (al_c (gm 6 rfl) al_n) aw_X3_atMost
set_option maxRecDepth 20000 in
theorem gX3_isKeptFor_X3_atMost : GoodIn wsX3_isKeptFor (va_wsS RX3 133 yX3_atMost wsX3_atMost) := goodIn_app (goodIn_sub (al_c (gm 3 rfl) (al_c (gm 4 rfl) (al_c (gm 5 rfl) al_n))) rfl) ggX3_isKeptFor_X3_atMost
set_option maxRecDepth 20000 in
theorem ggX3_isKeptFor_X3_isKept : GoodIn wsX3_isKeptFor wsX3_isKept := goodIn_sub (al_c (gm 10 rfl) (al_a (al_c (gm 11 rfl) al_n) ir_X3_isKeptFor_X30)) aw_X3_isKept
set_option maxRecDepth 20000 in
theorem gX3_isKeptFor_X3_isKept : GoodIn wsX3_isKeptFor (wsV RX3 122 RX3 yX3_isKept wsX3_isKept) := goodIn_app (goodIn_sub (al_c (gm 7 rfl) (al_c (gm 8 rfl) (al_c (gm 9 rfl) (al_c (gm 5 rfl) al_n)))) rfl) ggX3_isKeptFor_X3_isKept
set_option maxRecDepth 20000 in
theorem ggX3_isKeptFor_X3_meltsBy : GoodIn wsX3_isKeptFor wsX3_meltsBy := goodIn_sub (al_c (gm 15 rfl) (al_a (al_c (gm 16 rfl) (al_c (gm 17 rfl) (al_c (gm 18 rfl) (al_c (gm 19 rfl) (al_c (gm 5 rfl) (al_c (gm 20 rfl) al_n)))))) ir_X3_isKeptFor_X30)) aw_X3_meltsBy
set_option maxRecDepth 20000 in
theorem gX3_isKeptFor_X3_meltsBy : GoodIn wsX3_isKeptFor (wsV RX3 118 RX3 yX3_meltsBy wsX3_meltsBy) := goodIn_app (goodIn_sub (al_c (gm 12 rfl) (al_c (gm 13 rfl) (al_c (gm 14 rfl) (al_c (gm 5 rfl) al_n)))) rfl) ggX3_isKeptFor_X3_meltsBy
set_option maxRecDepth 20000 in
theorem ggX3_isKeptFor_X3_notBelow : GoodIn wsX3_isKeptFor wsX3_notBelow := goodIn_sub (al_c (gm 20 rfl) al_n) aw_X3_notBelow
set_option maxRecDepth 20000 in
theorem gX3_isKeptFor_X3_notBelow : GoodIn wsX3_isKeptFor (va_wsS RX3 115 yX3_notBelow wsX3_notBelow) := goodIn_app (goodIn_sub (al_c (gm 18 rfl) (al_c (gm 19 rfl) (al_c (gm 5 rfl) al_n))) rfl) ggX3_isKeptFor_X3_notBelow
theorem ir_X3_needOf_X30 : ∀ w ∈ wsX30, w ∈ wsX3_needOf := fun _ h => List.mem_cons_of_mem _ (List.mem_append_right _ (h))
set_option maxRecDepth 20000 in
theorem aw_X3_isKeptFor : wsX3_isKeptFor.all goodWord = true := by decide +kernel
set_option maxRecDepth 20000 in
theorem ggX3_needOf_X3_isKeptFor : GoodIn wsX3_needOf wsX3_isKeptFor := goodIn_sub (al_c (gm 5 rfl) (al_a (al_c (gm 6 rfl) (al_c (gm 7 rfl) (al_c (gm 8 rfl) (al_c (gm 9 rfl) (al_c (gm 4 rfl) (al_c (gm 10 rfl) (al_c (gm 11 rfl) (al_c (gm 12 rfl) (al_c (gm 13 rfl) (al_c (gm 14 rfl) (al_c (gm 15 rfl) (al_c (gm 16 rfl) (al_c (gm 17 rfl) (al_c (gm 18 rfl) (al_c (gm 19 rfl) (al_c (gm 20 rfl) (al_c (gm 21 rfl) (al_c (gm 22 rfl) (al_c (gm 23 rfl) (al_c (gm 24 rfl) al_n)))))))))))))))))))) ir_X3_needOf_X30)) aw_X3_isKeptFor
set_option maxRecDepth 20000 in
theorem gX3_needOf_X3_isKeptFor : GoodIn wsX3_needOf (wsV RX3 143 RX3 yX3_isKeptFor wsX3_isKeptFor) := goodIn_app (goodIn_sub (al_c (gm 1 rfl) (al_c (gm 2 rfl) (al_c (gm 3 rfl) (al_c (gm 4 rfl) al_n)))) rfl) ggX3_needOf_X3_isKeptFor
theorem ir_X3_need_X3_need_r1 : ∀ w ∈ wsX3_need_r1, w ∈ wsX3_need := fun _ h => List.mem_cons_of_mem _ (List.mem_append_left _ (List.mem_append_left _ (h)))
theorem ir_X3_need_X3_need_r2 : ∀ w ∈ wsX3_need_r2, w ∈ wsX3_need := fun _ h => List.mem_cons_of_mem _ (List.mem_append_left _ (List.mem_append_right _ (h)))
theorem ir_X3_need_X30 : ∀ w ∈ wsX30, w ∈ wsX3_need := fun _ h => List.mem_cons_of_mem _ (List.mem_append_right _ (h))
set_option maxRecDepth 20000 in
theorem ggX3_need_X3_isSite : GoodIn wsX3_need wsX3_isSite := goodIn_sub (al_c (ir_X3_need_X3_need_r1 _ (gm 4 rfl)) (al_a (al_c (ir_X3_need_X3_need_r1 _ (gm 5 rfl)) (al_c (ir_X3_need_X3_need_r1 _ (gm 6 rfl)) (al_c (ir_X3_need_X3_need_r1 _ (gm 7 rfl)) (al_c (ir_X3_need_X3_need_r1 _ (gm 3 rfl)) (al_c (ir_X3_need_X3_need_r1 _ (gm 8 rfl)) al_n))))) ir_X3_need_X30)) aw_X3_isSite
set_option maxRecDepth 20000 in
theorem gX3_need_X3_isSite : GoodIn wsX3_need (wsV RX3 126 RX3 yX3_isSite wsX3_isSite) := goodIn_app (goodIn_sub (al_c (ir_X3_need_X3_need_r1 _ (gm 0 rfl)) (al_c (ir_X3_need_X3_need_r1 _ (gm 1 rfl)) (al_c (ir_X3_need_X3_need_r1 _ (gm 2 rfl)) (al_c (ir_X3_need_X3_need_r1 _ (gm 3 rfl)) al_n)))) rfl) ggX3_need_X3_isSite
set_option maxRecDepth 20000 in
theorem ggX3_need_X3_within : GoodIn wsX3_need wsX3_within := goodIn_sub (al_c (ir_X3_need_X3_need_r1 _ (gm 8 rfl)) al_n) aw_X3_within
set_option maxRecDepth 20000 in
theorem gX3_need_X3_within : GoodIn wsX3_need (va_wsS RX3 68 yX3_within wsX3_within) := goodIn_app (goodIn_sub (al_c (ir_X3_need_X3_need_r1 _ (gm 6 rfl)) (al_c (ir_X3_need_X3_need_r1 _ (gm 7 rfl)) (al_c (ir_X3_need_X3_need_r1 _ (gm 3 rfl)) al_n))) rfl) ggX3_need_X3_within
set_option maxRecDepth 20000 in
theorem aw_X3_needOf : wsX3_needOf.all goodWord = true := by decide +kernel
set_option maxRecDepth 20000 in
theorem ggX3_need_X3_needOf : GoodIn wsX3_need wsX3_needOf := goodIn_sub (al_c (ir_X3_need_X3_need_r1 _ (gm 12 rfl)) (al_a (al_c (ir_X3_need_X3_need_r1 _ (gm 13 rfl)) (al_c (ir_X3_need_X3_need_r1 _ (gm 14 rfl)) (al_c (ir_X3_need_X3_need_r1 _ (gm 15 rfl)) (al_c (ir_X3_need_X3_need_r1 _ (gm 3 rfl)) (al_c (ir_X3_need_X3_need_r1 _ (gm 16 rfl)) (al_c (ir_X3_need_X3_need_r1 _ (gm 17 rfl)) (al_c (ir_X3_need_X3_need_r1 _ (gm 18 rfl)) (al_c (ir_X3_need_X3_need_r1 _ (gm 19 rfl)) (al_c (ir_X3_need_X3_need_r1 _ (gm 20 rfl)) (al_c (ir_X3_need_X3_need_r1 _ (gm 21 rfl)) (al_c (ir_X3_need_X3_need_r1 _ (gm 22 rfl)) (al_c (ir_X3_need_X3_need_r1 _ (gm 23 rfl)) (al_c (ir_X3_need_X3_need_r2 _ (gm 0 rfl)) (al_c (ir_X3_need_X3_need_r2 _ (gm 1 rfl)) (al_c (ir_X3_need_X3_need_r2 _ (gm 2 rfl)) (al_c (ir_X3_need_X3_need_r2 _ (gm 3 rfl)) (al_c (ir_X3_need_X3_need_r2 _ (gm 4 rfl)) (al_c (ir_X3_need_X3_need_r2 _ (gm 5 rfl)) (al_c (ir_X3_need_X3_need_r2 _ (gm 6 rfl)) (al_c (ir_X3_need_X3_need_r2 _ (gm 7 rfl)) (al_c (ir_X3_need_X3_need_r2 _ (gm 8 rfl)) (al_c (ir_X3_need_X3_need_r2 _ (gm 9 rfl)) (al_c (ir_X3_need_X3_need_r2 _ (gm 10 rfl)) (al_c (ir_X3_need_X3_need_r2 _ (gm 11 rfl)) al_n)))))))))))))))))))))))) ir_X3_need_X30)) aw_X3_needOf
set_option maxRecDepth 20000 in
theorem gX3_need_X3_needOf : GoodIn wsX3_need (wsV RX3 146 RX3 yX3_needOf wsX3_needOf) := goodIn_app (goodIn_sub (al_c (ir_X3_need_X3_need_r1 _ (gm 9 rfl)) (al_c (ir_X3_need_X3_need_r1 _ (gm 10 rfl)) (al_c (ir_X3_need_X3_need_r1 _ (gm 11 rfl)) (al_c (ir_X3_need_X3_need_r1 _ (gm 3 rfl)) al_n)))) rfl) ggX3_need_X3_needOf
theorem ir_X3_layNeeds_X30 : ∀ w ∈ wsX30, w ∈ wsX3_layNeeds := fun _ h => List.mem_cons_of_mem _ (List.mem_append_right _ (h))
set_option maxRecDepth 20000 in
theorem aw_X3_isIn : wsX3_isIn.all goodWord = true := by decide +kernel
set_option maxRecDepth 20000 in
theorem ggX3_layNeeds_X3_isIn : GoodIn wsX3_layNeeds wsX3_isIn := goodIn_sub (al_c (gm 8 rfl) al_n) aw_X3_isIn
set_option maxRecDepth 20000 in
theorem gX3_layNeeds_X3_isIn : GoodIn wsX3_layNeeds (va_wsS RX3 155 yX3_isIn wsX3_isIn) := goodIn_app (goodIn_sub (al_c (gm 5 rfl) (al_c (gm 6 rfl) (al_c (gm 7 rfl) al_n))) rfl) ggX3_layNeeds_X3_isIn
theorem ir_X3_planNow_X3_planNow_r1 : ∀ w ∈ wsX3_planNow_r1, w ∈ wsX3_planNow := fun _ h => List.mem_cons_of_mem _ (List.mem_append_left _ (List.mem_append_left _ (h)))
theorem ir_X3_planNow_X3_planNow_r2 : ∀ w ∈ wsX3_planNow_r2, w ∈ wsX3_planNow := fun _ h => List.mem_cons_of_mem _ (List.mem_append_left _ (List.mem_append_right _ (h)))
theorem ir_X3_planNow_X30 : ∀ w ∈ wsX30, w ∈ wsX3_planNow := fun _ h => List.mem_cons_of_mem _ (List.mem_append_right _ (h))
set_option maxRecDepth 20000 in
theorem ggX3_planNow_X3_needOf : GoodIn wsX3_planNow wsX3_needOf := goodIn_sub (al_c (ir_X3_planNow_X3_planNow_r1 _ (gm 8 rfl)) (al_a (al_c (ir_X3_planNow_X3_planNow_r1 _ (gm 9 rfl)) (al_c (ir_X3_planNow_X3_planNow_r1 _ (gm 10 rfl)) (al_c (ir_X3_planNow_X3_planNow_r1 _ (gm 11 rfl)) (al_c (ir_X3_planNow_X3_planNow_r1 _ (gm 7 rfl)) (al_c (ir_X3_planNow_X3_planNow_r1 _ (gm 12 rfl)) (al_c (ir_X3_planNow_X3_planNow_r1 _ (gm 13 rfl)) (al_c (ir_X3_planNow_X3_planNow_r1 _ (gm 14 rfl)) (al_c (ir_X3_planNow_X3_planNow_r1 _ (gm 15 rfl)) (al_c (ir_X3_planNow_X3_planNow_r1 _ (gm 16 rfl)) (al_c (ir_X3_planNow_X3_planNow_r1 _ (gm 17 rfl)) (al_c (ir_X3_planNow_X3_planNow_r1 _ (gm 18 rfl)) (al_c (ir_X3_planNow_X3_planNow_r1 _ (gm 19 rfl)) (al_c (ir_X3_planNow_X3_planNow_r1 _ (gm 20 rfl)) (al_c (ir_X3_planNow_X3_planNow_r1 _ (gm 21 rfl)) (al_c (ir_X3_planNow_X3_planNow_r1 _ (gm 22 rfl)) (al_c (ir_X3_planNow_X3_planNow_r1 _ (gm 23 rfl)) (al_c (ir_X3_planNow_X3_planNow_r2 _ (gm 0 rfl)) (al_c (ir_X3_planNow_X3_planNow_r2 _ (gm 1 rfl)) (al_c (ir_X3_planNow_X3_planNow_r2 _ (gm 2 rfl)) (al_c (ir_X3_planNow_X3_planNow_r2 _ (gm 3 rfl)) (al_c (ir_X3_planNow_X3_planNow_r2 _ (gm 4 rfl)) (al_c (ir_X3_planNow_X3_planNow_r2 _ (gm 5 rfl)) (al_c (ir_X3_planNow_X3_planNow_r2 _ (gm 6 rfl)) (al_c (ir_X3_planNow_X3_planNow_r2 _ (gm 7 rfl)) al_n)))))))))))))))))))))))) ir_X3_planNow_X30)) aw_X3_needOf
set_option maxRecDepth 20000 in
theorem gX3_planNow_X3_needOf : GoodIn wsX3_planNow (wsV RX3 146 RX3 yX3_needOf wsX3_needOf) := goodIn_app (goodIn_sub (al_c (ir_X3_planNow_X3_planNow_r1 _ (gm 4 rfl)) (al_c (ir_X3_planNow_X3_planNow_r1 _ (gm 5 rfl)) (al_c (ir_X3_planNow_X3_planNow_r1 _ (gm 6 rfl)) (al_c (ir_X3_planNow_X3_planNow_r1 _ (gm 7 rfl)) al_n)))) rfl) ggX3_planNow_X3_needOf
set_option maxRecDepth 20000 in
theorem aw_X3_layNeeds : wsX3_layNeeds.all goodWord = true := by decide +kernel
set_option maxRecDepth 20000 in
theorem ggX3_planNow_X3_layNeeds : GoodIn wsX3_planNow wsX3_layNeeds := goodIn_sub (al_c (ir_X3_planNow_X3_planNow_r2 _ (gm 11 rfl)) (al_a (al_c (ir_X3_planNow_X3_planNow_r1 _ (gm 2 rfl)) (al_c (ir_X3_planNow_X3_planNow_r1 _ (gm 3 rfl)) (al_c (ir_X3_planNow_X3_planNow_r1 _ (gm 0 rfl)) (al_c (ir_X3_planNow_X3_planNow_r1 _ (gm 1 rfl)) (al_c (ir_X3_planNow_X3_planNow_r2 _ (gm 12 rfl)) (al_c (ir_X3_planNow_X3_planNow_r2 _ (gm 13 rfl)) (al_c (ir_X3_planNow_X3_planNow_r1 _ (gm 7 rfl)) (al_c (ir_X3_planNow_X3_planNow_r2 _ (gm 14 rfl)) al_n)))))))) ir_X3_planNow_X30)) aw_X3_layNeeds
set_option maxRecDepth 20000 in
theorem gX3_planNow_X3_layNeeds : GoodIn wsX3_planNow (wsV RX3 158 RX3 yX3_layNeeds wsX3_layNeeds) := goodIn_app (goodIn_sub (al_c (ir_X3_planNow_X3_planNow_r2 _ (gm 8 rfl)) (al_c (ir_X3_planNow_X3_planNow_r2 _ (gm 9 rfl)) (al_c (ir_X3_planNow_X3_planNow_r2 _ (gm 10 rfl)) (al_c (ir_X3_planNow_X3_planNow_r1 _ (gm 7 rfl)) al_n)))) rfl) ggX3_planNow_X3_layNeeds
set_option maxRecDepth 20000 in
theorem aw_X3_size : wsX3_size.all goodWord = true := by decide +kernel
set_option maxRecDepth 20000 in
theorem ggX3_planNow_X3_size : GoodIn wsX3_planNow wsX3_size := goodIn_sub (al_c (ir_X3_planNow_X3_planNow_r2 _ (gm 17 rfl)) al_n) aw_X3_size
set_option maxRecDepth 20000 in
theorem gX3_planNow_X3_size : GoodIn wsX3_planNow (va_wsS RX3 161 yX3_size wsX3_size) := goodIn_app (goodIn_sub (al_c (ir_X3_planNow_X3_planNow_r2 _ (gm 15 rfl)) (al_c (ir_X3_planNow_X3_planNow_r2 _ (gm 16 rfl)) (al_c (ir_X3_planNow_X3_planNow_r1 _ (gm 7 rfl)) al_n))) rfl) ggX3_planNow_X3_size
theorem ir_X3_plan_X3_plan_r1 : ∀ w ∈ wsX3_plan_r1, w ∈ wsX3_plan := fun _ h => List.mem_cons_of_mem _ (List.mem_append_left _ (List.mem_append_left _ (h)))
theorem ir_X3_plan_X3_plan_r2 : ∀ w ∈ wsX3_plan_r2, w ∈ wsX3_plan := fun _ h => List.mem_cons_of_mem _ (List.mem_append_left _ (List.mem_append_right _ (List.mem_append_left _ (h))))
theorem ir_X3_plan_X3_plan_r3 : ∀ w ∈ wsX3_plan_r3, w ∈ wsX3_plan := fun _ h => List.mem_cons_of_mem _ (List.mem_append_left _ (List.mem_append_right _ (List.mem_append_right _ (h))))
theorem ir_X3_plan_X30 : ∀ w ∈ wsX30, w ∈ wsX3_plan := fun _ h => List.mem_cons_of_mem _ (List.mem_append_right _ (h))
set_option maxRecDepth 20000 in
theorem ggX3_plan_X3_within : GoodIn wsX3_plan wsX3_within := goodIn_sub (al_c (ir_X3_plan_X3_plan_r1 _ (gm 4 rfl)) al_n) aw_X3_within
set_option maxRecDepth 20000 in
theorem gX3_plan_X3_within : GoodIn wsX3_plan (va_wsS RX3 68 yX3_within wsX3_within) := goodIn_app (goodIn_sub (al_c (ir_X3_plan_X3_plan_r1 _ (gm 1 rfl)) (al_c (ir_X3_plan_X3_plan_r1 _ (gm 2 rfl)) (al_c (ir_X3_plan_X3_plan_r1 _ (gm 3 rfl)) al_n))) rfl) ggX3_plan_X3_within
set_option maxRecDepth 20000 in
theorem aw_X3_planNow : wsX3_planNow.all goodWord = true := by decide +kernel
set_option maxRecDepth 20000 in
theorem ggX3_plan_X3_planNow : GoodIn wsX3_plan wsX3_planNow := goodIn_sub (al_c (ir_X3_plan_X3_plan_r1 _ (gm 8 rfl)) (al_a (al_a (al_c (ir_X3_plan_X3_plan_r1 _ (gm 0 rfl)) (al_c (ir_X3_plan_X3_plan_r1 _ (gm 9 rfl)) (al_c (ir_X3_plan_X3_plan_r1 _ (gm 10 rfl)) (al_c (ir_X3_plan_X3_plan_r1 _ (gm 11 rfl)) (al_c (ir_X3_plan_X3_plan_r1 _ (gm 12 rfl)) (al_c (ir_X3_plan_X3_plan_r1 _ (gm 13 rfl)) (al_c (ir_X3_plan_X3_plan_r1 _ (gm 14 rfl)) (al_c (ir_X3_plan_X3_plan_r1 _ (gm 3 rfl)) (al_c (ir_X3_plan_X3_plan_r1 _ (gm 15 rfl)) (al_c (ir_X3_plan_X3_plan_r1 _ (gm 16 rfl)) (al_c (ir_X3_plan_X3_plan_r1 _ (gm 17 rfl)) (al_c (ir_X3_plan_X3_plan_r1 _ (gm 18 rfl)) (al_c (ir_X3_plan_X3_plan_r1 _ (gm 19 rfl)) (al_c (ir_X3_plan_X3_plan_r1 _ (gm 20 rfl)) (al_c (ir_X3_plan_X3_plan_r1 _ (gm 21 rfl)) (al_c (ir_X3_plan_X3_plan_r1 _ (gm 22 rfl)) (al_c (ir_X3_plan_X3_plan_r1 _ (gm 23 rfl)) (al_c (ir_X3_plan_X3_plan_r2 _ (gm 0 rfl)) (al_c (ir_X3_plan_X3_plan_r2 _ (gm 1 rfl)) (al_c (ir_X3_plan_X3_plan_r2 _ (gm 2 rfl)) (al_c (ir_X3_plan_X3_plan_r2 _ (gm 3 rfl)) (al_c (ir_X3_plan_X3_plan_r2 _ (gm 4 rfl)) (al_c (ir_X3_plan_X3_plan_r2 _ (gm 5 rfl)) (al_c (ir_X3_plan_X3_plan_r2 _ (gm 6 rfl)) al_n)))))))))))))))))))))))) (al_c (ir_X3_plan_X3_plan_r2 _ (gm 7 rfl)) (al_c (ir_X3_plan_X3_plan_r2 _ (gm 8 rfl)) (al_c (ir_X3_plan_X3_plan_r2 _ (gm 9 rfl)) (al_c (ir_X3_plan_X3_plan_r2 _ (gm 10 rfl)) (al_c (ir_X3_plan_X3_plan_r2 _ (gm 11 rfl)) (al_c (ir_X3_plan_X3_plan_r2 _ (gm 12 rfl)) (al_c (ir_X3_plan_X3_plan_r2 _ (gm 13 rfl)) (al_c (ir_X3_plan_X3_plan_r2 _ (gm 14 rfl)) (al_c (ir_X3_plan_X3_plan_r2 _ (gm 15 rfl)) (al_c (ir_X3_plan_X3_plan_r2 _ (gm 16 rfl)) (al_c (ir_X3_plan_X3_plan_r2 _ (gm 17 rfl)) (al_c (ir_X3_plan_X3_plan_r2 _ (gm 18 rfl)) (al_c (ir_X3_plan_X3_plan_r2 _ (gm 19 rfl)) (al_c (ir_X3_plan_X3_plan_r2 _ (gm 20 rfl)) (al_c (ir_X3_plan_X3_plan_r2 _ (gm 21 rfl)) (al_c (ir_X3_plan_X3_plan_r2 _ (gm 22 rfl)) (al_c (ir_X3_plan_X3_plan_r2 _ (gm 23 rfl)) (al_c (ir_X3_plan_X3_plan_r3 _ (gm 0 rfl)) al_n))))))))))))))))))) ir_X3_plan_X30)) aw_X3_planNow
set_option maxRecDepth 20000 in
theorem gX3_plan_X3_planNow : GoodIn wsX3_plan (wsV RX3 164 RX3 yX3_planNow wsX3_planNow) := goodIn_app (goodIn_sub (al_c (ir_X3_plan_X3_plan_r1 _ (gm 5 rfl)) (al_c (ir_X3_plan_X3_plan_r1 _ (gm 6 rfl)) (al_c (ir_X3_plan_X3_plan_r1 _ (gm 7 rfl)) (al_c (ir_X3_plan_X3_plan_r1 _ (gm 3 rfl)) al_n)))) rfl) ggX3_plan_X3_planNow
theorem ir_X3_keptBy_X30 : ∀ w ∈ wsX30, w ∈ wsX3_keptBy := fun _ h => List.mem_cons_of_mem _ (List.mem_append_right _ (h))
set_option maxRecDepth 20000 in
theorem ggX3_keptBy_X3_atMost : GoodIn wsX3_keptBy wsX3_atMost := goodIn_sub (al_c (gm 8 rfl) al_n) aw_X3_atMost
set_option maxRecDepth 20000 in
theorem gX3_keptBy_X3_atMost : GoodIn wsX3_keptBy (va_wsS RX3 133 yX3_atMost wsX3_atMost) := goodIn_app (goodIn_sub (al_c (gm 5 rfl) (al_c (gm 6 rfl) (al_c (gm 7 rfl) al_n))) rfl) ggX3_keptBy_X3_atMost
set_option maxRecDepth 20000 in
theorem ggX3_keptBy_X3_isKept : GoodIn wsX3_keptBy wsX3_isKept := goodIn_sub (al_c (gm 12 rfl) (al_a (al_c (gm 13 rfl) al_n) ir_X3_keptBy_X30)) aw_X3_isKept
set_option maxRecDepth 20000 in
theorem gX3_keptBy_X3_isKept : GoodIn wsX3_keptBy (wsV RX3 122 RX3 yX3_isKept wsX3_isKept) := goodIn_app (goodIn_sub (al_c (gm 9 rfl) (al_c (gm 10 rfl) (al_c (gm 11 rfl) (al_c (gm 7 rfl) al_n)))) rfl) ggX3_keptBy_X3_isKept
theorem ir_X3_errorNow_X30 : ∀ w ∈ wsX30, w ∈ wsX3_errorNow := fun _ h => List.mem_cons_of_mem _ (List.mem_append_right _ (h))
set_option maxRecDepth 20000 in
theorem ggX3_errorNow_X3_keptNow : GoodIn wsX3_errorNow wsX3_keptNow := goodIn_sub (al_c (gm 6 rfl) (al_a (al_c (gm 1 rfl) (al_c (gm 7 rfl) (al_c (gm 8 rfl) (al_c (gm 9 rfl) (al_c (gm 10 rfl) (al_c (gm 5 rfl) (al_c (gm 11 rfl) (al_c (gm 12 rfl) al_n)))))))) ir_X3_errorNow_X30)) aw_X3_keptNow
set_option maxRecDepth 20000 in
theorem gX3_errorNow_X3_keptNow : GoodIn wsX3_errorNow (wsV RX3 140 RX3 yX3_keptNow wsX3_keptNow) := goodIn_app (goodIn_sub (al_c (gm 2 rfl) (al_c (gm 3 rfl) (al_c (gm 4 rfl) (al_c (gm 5 rfl) al_n)))) rfl) ggX3_errorNow_X3_keptNow
set_option maxRecDepth 20000 in
theorem aw_X3_keptBy : wsX3_keptBy.all goodWord = true := by decide +kernel
set_option maxRecDepth 20000 in
theorem ggX3_errorNow_X3_keptBy : GoodIn wsX3_errorNow wsX3_keptBy := goodIn_sub (al_c (gm 16 rfl) (al_a (al_c (gm 1 rfl) (al_c (gm 17 rfl) (al_c (gm 18 rfl) (al_c (gm 7 rfl) (al_c (gm 19 rfl) (al_c (gm 20 rfl) (al_c (gm 5 rfl) (al_c (gm 21 rfl) (al_c (gm 8 rfl) (al_c (gm 9 rfl) (al_c (gm 10 rfl) (al_c (gm 11 rfl) (al_c (gm 12 rfl) al_n))))))))))))) ir_X3_errorNow_X30)) aw_X3_keptBy
set_option maxRecDepth 20000 in
theorem gX3_errorNow_X3_keptBy : GoodIn wsX3_errorNow (wsV RX3 168 RX3 yX3_keptBy wsX3_keptBy) := goodIn_app (goodIn_sub (al_c (gm 13 rfl) (al_c (gm 14 rfl) (al_c (gm 15 rfl) (al_c (gm 5 rfl) al_n)))) rfl) ggX3_errorNow_X3_keptBy
theorem ir_X3_error_X3_error_r1 : ∀ w ∈ wsX3_error_r1, w ∈ wsX3_error := fun _ h => List.mem_cons_of_mem _ (List.mem_append_left _ (List.mem_append_left _ (h)))
theorem ir_X3_error_X3_error_r2 : ∀ w ∈ wsX3_error_r2, w ∈ wsX3_error := fun _ h => List.mem_cons_of_mem _ (List.mem_append_left _ (List.mem_append_right _ (h)))
theorem ir_X3_error_X30 : ∀ w ∈ wsX30, w ∈ wsX3_error := fun _ h => List.mem_cons_of_mem _ (List.mem_append_right _ (h))
set_option maxRecDepth 20000 in
theorem ggX3_error_X3_within : GoodIn wsX3_error wsX3_within := goodIn_sub (al_c (ir_X3_error_X3_error_r1 _ (gm 4 rfl)) al_n) aw_X3_within
set_option maxRecDepth 20000 in
theorem gX3_error_X3_within : GoodIn wsX3_error (va_wsS RX3 68 yX3_within wsX3_within) := goodIn_app (goodIn_sub (al_c (ir_X3_error_X3_error_r1 _ (gm 1 rfl)) (al_c (ir_X3_error_X3_error_r1 _ (gm 2 rfl)) (al_c (ir_X3_error_X3_error_r1 _ (gm 3 rfl)) al_n))) rfl) ggX3_error_X3_within
set_option maxRecDepth 20000 in
theorem aw_X3_errorNow : wsX3_errorNow.all goodWord = true := by decide +kernel
set_option maxRecDepth 20000 in
theorem ggX3_error_X3_errorNow : GoodIn wsX3_error wsX3_errorNow := goodIn_sub (al_c (ir_X3_error_X3_error_r1 _ (gm 8 rfl)) (al_a (al_c (ir_X3_error_X3_error_r1 _ (gm 0 rfl)) (al_c (ir_X3_error_X3_error_r1 _ (gm 9 rfl)) (al_c (ir_X3_error_X3_error_r1 _ (gm 10 rfl)) (al_c (ir_X3_error_X3_error_r1 _ (gm 11 rfl)) (al_c (ir_X3_error_X3_error_r1 _ (gm 3 rfl)) (al_c (ir_X3_error_X3_error_r1 _ (gm 12 rfl)) (al_c (ir_X3_error_X3_error_r1 _ (gm 13 rfl)) (al_c (ir_X3_error_X3_error_r1 _ (gm 14 rfl)) (al_c (ir_X3_error_X3_error_r1 _ (gm 15 rfl)) (al_c (ir_X3_error_X3_error_r1 _ (gm 16 rfl)) (al_c (ir_X3_error_X3_error_r1 _ (gm 17 rfl)) (al_c (ir_X3_error_X3_error_r1 _ (gm 18 rfl)) (al_c (ir_X3_error_X3_error_r1 _ (gm 19 rfl)) (al_c (ir_X3_error_X3_error_r1 _ (gm 20 rfl)) (al_c (ir_X3_error_X3_error_r1 _ (gm 21 rfl)) (al_c (ir_X3_error_X3_error_r1 _ (gm 22 rfl)) (al_c (ir_X3_error_X3_error_r1 _ (gm 23 rfl)) (al_c (ir_X3_error_X3_error_r2 _ (gm 0 rfl)) (al_c (ir_X3_error_X3_error_r2 _ (gm 1 rfl)) (al_c (ir_X3_error_X3_error_r2 _ (gm 2 rfl)) (al_c (ir_X3_error_X3_error_r2 _ (gm 3 rfl)) al_n))))))))))))))))))))) ir_X3_error_X30)) aw_X3_errorNow
set_option maxRecDepth 20000 in
theorem gX3_error_X3_errorNow : GoodIn wsX3_error (wsV RX3 171 RX3 yX3_errorNow wsX3_errorNow) := goodIn_app (goodIn_sub (al_c (ir_X3_error_X3_error_r1 _ (gm 5 rfl)) (al_c (ir_X3_error_X3_error_r1 _ (gm 6 rfl)) (al_c (ir_X3_error_X3_error_r1 _ (gm 7 rfl)) (al_c (ir_X3_error_X3_error_r1 _ (gm 3 rfl)) al_n)))) rfl) ggX3_error_X3_errorNow
theorem ir_X3_found_X30 : ∀ w ∈ wsX30, w ∈ wsX3_found := fun _ h => List.mem_cons_of_mem _ (List.mem_append_right _ (h))
set_option maxRecDepth 20000 in
theorem ggX3_found_X3_isSite : GoodIn wsX3_found wsX3_isSite := goodIn_sub (al_c (gm 9 rfl) (al_a (al_c (gm 10 rfl) (al_c (gm 11 rfl) (al_c (gm 12 rfl) (al_c (gm 8 rfl) (al_c (gm 13 rfl) al_n))))) ir_X3_found_X30)) aw_X3_isSite
set_option maxRecDepth 20000 in
theorem gX3_found_X3_isSite : GoodIn wsX3_found (wsV RX3 126 RX3 yX3_isSite wsX3_isSite) := goodIn_app (goodIn_sub (al_c (gm 5 rfl) (al_c (gm 6 rfl) (al_c (gm 7 rfl) (al_c (gm 8 rfl) al_n)))) rfl) ggX3_found_X3_isSite
set_option maxRecDepth 20000 in
theorem ggX3_found_X3_within : GoodIn wsX3_found wsX3_within := goodIn_sub (al_c (gm 13 rfl) al_n) aw_X3_within
set_option maxRecDepth 20000 in
theorem gX3_found_X3_within : GoodIn wsX3_found (va_wsS RX3 68 yX3_within wsX3_within) := goodIn_app (goodIn_sub (al_c (gm 11 rfl) (al_c (gm 12 rfl) (al_c (gm 8 rfl) al_n))) rfl) ggX3_found_X3_within
theorem ir_X3_leftOf_X30 : ∀ w ∈ wsX30, w ∈ wsX3_leftOf := fun _ h => List.mem_cons_of_mem _ (List.mem_append_right _ (h))
set_option maxRecDepth 20000 in
theorem ggX3_leftOf_X3_meltsBy : GoodIn wsX3_leftOf wsX3_meltsBy := goodIn_sub (al_c (gm 5 rfl) (al_a (al_c (gm 6 rfl) (al_c (gm 7 rfl) (al_c (gm 8 rfl) (al_c (gm 9 rfl) (al_c (gm 4 rfl) (al_c (gm 10 rfl) al_n)))))) ir_X3_leftOf_X30)) aw_X3_meltsBy
set_option maxRecDepth 20000 in
theorem gX3_leftOf_X3_meltsBy : GoodIn wsX3_leftOf (wsV RX3 118 RX3 yX3_meltsBy wsX3_meltsBy) := goodIn_app (goodIn_sub (al_c (gm 1 rfl) (al_c (gm 2 rfl) (al_c (gm 3 rfl) (al_c (gm 4 rfl) al_n)))) rfl) ggX3_leftOf_X3_meltsBy
set_option maxRecDepth 20000 in
theorem ggX3_leftOf_X3_notBelow : GoodIn wsX3_leftOf wsX3_notBelow := goodIn_sub (al_c (gm 10 rfl) al_n) aw_X3_notBelow
set_option maxRecDepth 20000 in
theorem gX3_leftOf_X3_notBelow : GoodIn wsX3_leftOf (va_wsS RX3 115 yX3_notBelow wsX3_notBelow) := goodIn_app (goodIn_sub (al_c (gm 8 rfl) (al_c (gm 9 rfl) (al_c (gm 4 rfl) al_n))) rfl) ggX3_leftOf_X3_notBelow
theorem ir_X3_sunsNow_X30 : ∀ w ∈ wsX30, w ∈ wsX3_sunsNow := fun _ h => List.mem_cons_of_mem _ (List.mem_append_right _ (h))
set_option maxRecDepth 20000 in
theorem aw_X3_leftOf : wsX3_leftOf.all goodWord = true := by decide +kernel
set_option maxRecDepth 20000 in
theorem ggX3_sunsNow_X3_leftOf : GoodIn wsX3_sunsNow wsX3_leftOf := goodIn_sub (al_c (gm 9 rfl) (al_a (al_c (gm 10 rfl) (al_c (gm 11 rfl) (al_c (gm 12 rfl) (al_c (gm 8 rfl) (al_c (gm 13 rfl) (al_c (gm 14 rfl) (al_c (gm 15 rfl) (al_c (gm 16 rfl) (al_c (gm 17 rfl) (al_c (gm 18 rfl) al_n)))))))))) ir_X3_sunsNow_X30)) aw_X3_leftOf
set_option maxRecDepth 20000 in
theorem gX3_sunsNow_X3_leftOf : GoodIn wsX3_sunsNow (wsV RX3 174 RX3 yX3_leftOf wsX3_leftOf) := goodIn_app (goodIn_sub (al_c (gm 5 rfl) (al_c (gm 6 rfl) (al_c (gm 7 rfl) (al_c (gm 8 rfl) al_n)))) rfl) ggX3_sunsNow_X3_leftOf
theorem ir_X3_suns_X30 : ∀ w ∈ wsX30, w ∈ wsX3_suns := fun _ h => List.mem_cons_of_mem _ (List.mem_append_right _ (h))
set_option maxRecDepth 20000 in
theorem aw_X3_sunsNow : wsX3_sunsNow.all goodWord = true := by decide +kernel
set_option maxRecDepth 20000 in
theorem ggX3_suns_X3_sunsNow : GoodIn wsX3_suns wsX3_sunsNow := goodIn_sub (al_c (gm 6 rfl) (al_a (al_c (gm 7 rfl) (al_c (gm 8 rfl) (al_c (gm 9 rfl) (al_c (gm 10 rfl) (al_c (gm 11 rfl) (al_c (gm 12 rfl) (al_c (gm 13 rfl) (al_c (gm 5 rfl) (al_c (gm 14 rfl) (al_c (gm 15 rfl) (al_c (gm 16 rfl) (al_c (gm 17 rfl) (al_c (gm 18 rfl) (al_c (gm 19 rfl) (al_c (gm 20 rfl) (al_c (gm 21 rfl) (al_c (gm 22 rfl) (al_c (gm 23 rfl) al_n)))))))))))))))))) ir_X3_suns_X30)) aw_X3_sunsNow
set_option maxRecDepth 20000 in
theorem gX3_suns_X3_sunsNow : GoodIn wsX3_suns (wsV RX3 177 RX3 yX3_sunsNow wsX3_sunsNow) := goodIn_app (goodIn_sub (al_c (gm 2 rfl) (al_c (gm 3 rfl) (al_c (gm 4 rfl) (al_c (gm 5 rfl) al_n)))) rfl) ggX3_suns_X3_sunsNow
theorem ir_X3_worstAt_X30 : ∀ w ∈ wsX30, w ∈ wsX3_worstAt := fun _ h => List.mem_cons_of_mem _ (List.mem_append_right _ (h))
set_option maxRecDepth 20000 in
theorem ggX3_worstAt_X3_isIn : GoodIn wsX3_worstAt wsX3_isIn := goodIn_sub (al_c (gm 4 rfl) al_n) aw_X3_isIn
set_option maxRecDepth 20000 in
theorem gX3_worstAt_X3_isIn : GoodIn wsX3_worstAt (va_wsS RX3 155 yX3_isIn wsX3_isIn) := goodIn_app (goodIn_sub (al_c (gm 1 rfl) (al_c (gm 2 rfl) (al_c (gm 3 rfl) al_n))) rfl) ggX3_worstAt_X3_isIn
set_option maxRecDepth 20000 in
theorem ggX3_worstAt_X3_leftOf : GoodIn wsX3_worstAt wsX3_leftOf := goodIn_sub (al_c (gm 8 rfl) (al_a (al_c (gm 9 rfl) (al_c (gm 10 rfl) (al_c (gm 11 rfl) (al_c (gm 3 rfl) (al_c (gm 12 rfl) (al_c (gm 13 rfl) (al_c (gm 14 rfl) (al_c (gm 15 rfl) (al_c (gm 16 rfl) (al_c (gm 17 rfl) al_n)))))))))) ir_X3_worstAt_X30)) aw_X3_leftOf
set_option maxRecDepth 20000 in
theorem gX3_worstAt_X3_leftOf : GoodIn wsX3_worstAt (wsV RX3 174 RX3 yX3_leftOf wsX3_leftOf) := goodIn_app (goodIn_sub (al_c (gm 5 rfl) (al_c (gm 6 rfl) (al_c (gm 7 rfl) (al_c (gm 3 rfl) al_n)))) rfl) ggX3_worstAt_X3_leftOf
theorem ir_X3_lookNow_X3_lookNow_r1 : ∀ w ∈ wsX3_lookNow_r1, w ∈ wsX3_lookNow := fun _ h => List.mem_cons_of_mem _ (List.mem_append_left _ (List.mem_append_left _ (h)))
theorem ir_X3_lookNow_X3_lookNow_r2 : ∀ w ∈ wsX3_lookNow_r2, w ∈ wsX3_lookNow := fun _ h => List.mem_cons_of_mem _ (List.mem_append_left _ (List.mem_append_right _ (h)))
theorem ir_X3_lookNow_X30 : ∀ w ∈ wsX30, w ∈ wsX3_lookNow := fun _ h => List.mem_cons_of_mem _ (List.mem_append_right _ (h))
set_option maxRecDepth 20000 in
theorem ggX3_lookNow_X3_sunsNow : GoodIn wsX3_lookNow wsX3_sunsNow := goodIn_sub (al_c (ir_X3_lookNow_X3_lookNow_r1 _ (gm 6 rfl)) (al_a (al_c (ir_X3_lookNow_X3_lookNow_r1 _ (gm 7 rfl)) (al_c (ir_X3_lookNow_X3_lookNow_r1 _ (gm 8 rfl)) (al_c (ir_X3_lookNow_X3_lookNow_r1 _ (gm 9 rfl)) (al_c (ir_X3_lookNow_X3_lookNow_r1 _ (gm 10 rfl)) (al_c (ir_X3_lookNow_X3_lookNow_r1 _ (gm 11 rfl)) (al_c (ir_X3_lookNow_X3_lookNow_r1 _ (gm 12 rfl)) (al_c (ir_X3_lookNow_X3_lookNow_r1 _ (gm 13 rfl)) (al_c (ir_X3_lookNow_X3_lookNow_r1 _ (gm 5 rfl)) (al_c (ir_X3_lookNow_X3_lookNow_r1 _ (gm 14 rfl)) (al_c (ir_X3_lookNow_X3_lookNow_r1 _ (gm 15 rfl)) (al_c (ir_X3_lookNow_X3_lookNow_r1 _ (gm 16 rfl)) (al_c (ir_X3_lookNow_X3_lookNow_r1 _ (gm 17 rfl)) (al_c (ir_X3_lookNow_X3_lookNow_r1 _ (gm 18 rfl)) (al_c (ir_X3_lookNow_X3_lookNow_r1 _ (gm 19 rfl)) (al_c (ir_X3_lookNow_X3_lookNow_r1 _ (gm 20 rfl)) (al_c (ir_X3_lookNow_X3_lookNow_r1 _ (gm 21 rfl)) (al_c (ir_X3_lookNow_X3_lookNow_r1 _ (gm 22 rfl)) (al_c (ir_X3_lookNow_X3_lookNow_r1 _ (gm 23 rfl)) al_n)))))))))))))))))) ir_X3_lookNow_X30)) aw_X3_sunsNow
set_option maxRecDepth 20000 in
theorem gX3_lookNow_X3_sunsNow : GoodIn wsX3_lookNow (wsV RX3 177 RX3 yX3_sunsNow wsX3_sunsNow) := goodIn_app (goodIn_sub (al_c (ir_X3_lookNow_X3_lookNow_r1 _ (gm 2 rfl)) (al_c (ir_X3_lookNow_X3_lookNow_r1 _ (gm 3 rfl)) (al_c (ir_X3_lookNow_X3_lookNow_r1 _ (gm 4 rfl)) (al_c (ir_X3_lookNow_X3_lookNow_r1 _ (gm 5 rfl)) al_n)))) rfl) ggX3_lookNow_X3_sunsNow
set_option maxRecDepth 20000 in
theorem aw_X3_worstAt : wsX3_worstAt.all goodWord = true := by decide +kernel
set_option maxRecDepth 20000 in
theorem ggX3_lookNow_X3_worstAt : GoodIn wsX3_lookNow wsX3_worstAt := goodIn_sub (al_c (ir_X3_lookNow_X3_lookNow_r2 _ (gm 3 rfl)) (al_a (al_c (ir_X3_lookNow_X3_lookNow_r2 _ (gm 4 rfl)) (al_c (ir_X3_lookNow_X3_lookNow_r2 _ (gm 5 rfl)) (al_c (ir_X3_lookNow_X3_lookNow_r1 _ (gm 5 rfl)) (al_c (ir_X3_lookNow_X3_lookNow_r2 _ (gm 6 rfl)) (al_c (ir_X3_lookNow_X3_lookNow_r1 _ (gm 11 rfl)) (al_c (ir_X3_lookNow_X3_lookNow_r1 _ (gm 12 rfl)) (al_c (ir_X3_lookNow_X3_lookNow_r1 _ (gm 13 rfl)) (al_c (ir_X3_lookNow_X3_lookNow_r1 _ (gm 14 rfl)) (al_c (ir_X3_lookNow_X3_lookNow_r1 _ (gm 15 rfl)) (al_c (ir_X3_lookNow_X3_lookNow_r1 _ (gm 16 rfl)) (al_c (ir_X3_lookNow_X3_lookNow_r1 _ (gm 17 rfl)) (al_c (ir_X3_lookNow_X3_lookNow_r1 _ (gm 18 rfl)) (al_c (ir_X3_lookNow_X3_lookNow_r1 _ (gm 19 rfl)) (al_c (ir_X3_lookNow_X3_lookNow_r1 _ (gm 20 rfl)) (al_c (ir_X3_lookNow_X3_lookNow_r1 _ (gm 21 rfl)) (al_c (ir_X3_lookNow_X3_lookNow_r1 _ (gm 22 rfl)) (al_c (ir_X3_lookNow_X3_lookNow_r1 _ (gm 23 rfl)) al_n))))))))))))))))) ir_X3_lookNow_X30)) aw_X3_worstAt
set_option maxRecDepth 20000 in
theorem gX3_lookNow_X3_worstAt : GoodIn wsX3_lookNow (wsV RX3 181 RX3 yX3_worstAt wsX3_worstAt) := goodIn_app (goodIn_sub (al_c (ir_X3_lookNow_X3_lookNow_r2 _ (gm 0 rfl)) (al_c (ir_X3_lookNow_X3_lookNow_r2 _ (gm 1 rfl)) (al_c (ir_X3_lookNow_X3_lookNow_r2 _ (gm 2 rfl)) (al_c (ir_X3_lookNow_X3_lookNow_r1 _ (gm 5 rfl)) al_n)))) rfl) ggX3_lookNow_X3_worstAt
theorem ir_X3_look_X3_look_r1 : ∀ w ∈ wsX3_look_r1, w ∈ wsX3_look := fun _ h => List.mem_cons_of_mem _ (List.mem_append_left _ (List.mem_append_left _ (h)))
theorem ir_X3_look_X3_look_r2 : ∀ w ∈ wsX3_look_r2, w ∈ wsX3_look := fun _ h => List.mem_cons_of_mem _ (List.mem_append_left _ (List.mem_append_right _ (h)))
theorem ir_X3_look_X30 : ∀ w ∈ wsX30, w ∈ wsX3_look := fun _ h => List.mem_cons_of_mem _ (List.mem_append_right _ (h))
set_option maxRecDepth 20000 in
theorem aw_X3_lookNow : wsX3_lookNow.all goodWord = true := by decide +kernel
set_option maxRecDepth 20000 in
theorem ggX3_look_X3_lookNow : GoodIn wsX3_look wsX3_lookNow := goodIn_sub (al_c (ir_X3_look_X3_look_r1 _ (gm 5 rfl)) (al_a (al_a (al_c (ir_X3_look_X3_look_r1 _ (gm 6 rfl)) (al_c (ir_X3_look_X3_look_r1 _ (gm 0 rfl)) (al_c (ir_X3_look_X3_look_r1 _ (gm 7 rfl)) (al_c (ir_X3_look_X3_look_r1 _ (gm 8 rfl)) (al_c (ir_X3_look_X3_look_r1 _ (gm 9 rfl)) (al_c (ir_X3_look_X3_look_r1 _ (gm 4 rfl)) (al_c (ir_X3_look_X3_look_r1 _ (gm 10 rfl)) (al_c (ir_X3_look_X3_look_r1 _ (gm 11 rfl)) (al_c (ir_X3_look_X3_look_r1 _ (gm 12 rfl)) (al_c (ir_X3_look_X3_look_r1 _ (gm 13 rfl)) (al_c (ir_X3_look_X3_look_r1 _ (gm 14 rfl)) (al_c (ir_X3_look_X3_look_r1 _ (gm 15 rfl)) (al_c (ir_X3_look_X3_look_r1 _ (gm 16 rfl)) (al_c (ir_X3_look_X3_look_r1 _ (gm 17 rfl)) (al_c (ir_X3_look_X3_look_r1 _ (gm 18 rfl)) (al_c (ir_X3_look_X3_look_r1 _ (gm 19 rfl)) (al_c (ir_X3_look_X3_look_r1 _ (gm 20 rfl)) (al_c (ir_X3_look_X3_look_r1 _ (gm 21 rfl)) (al_c (ir_X3_look_X3_look_r1 _ (gm 22 rfl)) (al_c (ir_X3_look_X3_look_r1 _ (gm 23 rfl)) (al_c (ir_X3_look_X3_look_r2 _ (gm 0 rfl)) (al_c (ir_X3_look_X3_look_r2 _ (gm 1 rfl)) (al_c (ir_X3_look_X3_look_r2 _ (gm 2 rfl)) (al_c (ir_X3_look_X3_look_r2 _ (gm 3 rfl)) al_n)))))))))))))))))))))))) (al_c (ir_X3_look_X3_look_r2 _ (gm 4 rfl)) (al_c (ir_X3_look_X3_look_r2 _ (gm 5 rfl)) (al_c (ir_X3_look_X3_look_r2 _ (gm 6 rfl)) (al_c (ir_X3_look_X3_look_r2 _ (gm 7 rfl)) (al_c (ir_X3_look_X3_look_r2 _ (gm 8 rfl)) (al_c (ir_X3_look_X3_look_r2 _ (gm 9 rfl)) (al_c (ir_X3_look_X3_look_r2 _ (gm 10 rfl)) al_n)))))))) ir_X3_look_X30)) aw_X3_lookNow
set_option maxRecDepth 20000 in
theorem gX3_look_X3_lookNow : GoodIn wsX3_look (wsV RX3 184 RX3 yX3_lookNow wsX3_lookNow) := goodIn_app (goodIn_sub (al_c (ir_X3_look_X3_look_r1 _ (gm 1 rfl)) (al_c (ir_X3_look_X3_look_r1 _ (gm 2 rfl)) (al_c (ir_X3_look_X3_look_r1 _ (gm 3 rfl)) (al_c (ir_X3_look_X3_look_r1 _ (gm 4 rfl)) al_n)))) rfl) ggX3_look_X3_lookNow
theorem ir_X3_wintersNow_X3_wintersNow_r1 : ∀ w ∈ wsX3_wintersNow_r1, w ∈ wsX3_wintersNow := fun _ h => List.mem_cons_of_mem _ (List.mem_append_left _ (List.mem_append_left _ (h)))
theorem ir_X3_wintersNow_X3_wintersNow_r2 : ∀ w ∈ wsX3_wintersNow_r2, w ∈ wsX3_wintersNow := fun _ h => List.mem_cons_of_mem _ (List.mem_append_left _ (List.mem_append_right _ (h)))
theorem ir_X3_wintersNow_X30 : ∀ w ∈ wsX30, w ∈ wsX3_wintersNow := fun _ h => List.mem_cons_of_mem _ (List.mem_append_right _ (h))
set_option maxRecDepth 20000 in
theorem aw_X3_draw : wsX3_draw.all goodWord = true := by decide +kernel
set_option maxRecDepth 20000 in
theorem ggX3_wintersNow_X3_draw : GoodIn wsX3_wintersNow wsX3_draw := goodIn_sub (al_c (ir_X3_wintersNow_X3_wintersNow_r1 _ (gm 8 rfl)) (al_a (al_c (ir_X3_wintersNow_X3_wintersNow_r1 _ (gm 9 rfl)) (al_c (ir_X3_wintersNow_X3_wintersNow_r1 _ (gm 2 rfl)) (al_c (ir_X3_wintersNow_X3_wintersNow_r1 _ (gm 10 rfl)) (al_c (ir_X3_wintersNow_X3_wintersNow_r1 _ (gm 11 rfl)) (al_c (ir_X3_wintersNow_X3_wintersNow_r1 _ (gm 12 rfl)) al_n))))) ir_X3_wintersNow_X30)) aw_X3_draw
set_option maxRecDepth 20000 in
theorem gX3_wintersNow_X3_draw : GoodIn wsX3_wintersNow (wsV RX3 199 RX3 yX3_draw wsX3_draw) := goodIn_app (goodIn_sub (al_c (ir_X3_wintersNow_X3_wintersNow_r1 _ (gm 4 rfl)) (al_c (ir_X3_wintersNow_X3_wintersNow_r1 _ (gm 5 rfl)) (al_c (ir_X3_wintersNow_X3_wintersNow_r1 _ (gm 6 rfl)) (al_c (ir_X3_wintersNow_X3_wintersNow_r1 _ (gm 7 rfl)) al_n)))) rfl) ggX3_wintersNow_X3_draw
set_option maxRecDepth 20000 in
theorem ggX3_wintersNow_X3_atMost : GoodIn wsX3_wintersNow wsX3_atMost := goodIn_sub (al_c (ir_X3_wintersNow_X3_wintersNow_r1 _ (gm 15 rfl)) al_n) aw_X3_atMost
set_option maxRecDepth 20000 in
theorem gX3_wintersNow_X3_atMost : GoodIn wsX3_wintersNow (va_wsS RX3 133 yX3_atMost wsX3_atMost) := goodIn_app (goodIn_sub (al_c (ir_X3_wintersNow_X3_wintersNow_r1 _ (gm 13 rfl)) (al_c (ir_X3_wintersNow_X3_wintersNow_r1 _ (gm 14 rfl)) (al_c (ir_X3_wintersNow_X3_wintersNow_r1 _ (gm 7 rfl)) al_n))) rfl) ggX3_wintersNow_X3_atMost
set_option maxRecDepth 20000 in
theorem ggX3_wintersNow_X3_melt : GoodIn wsX3_wintersNow wsX3_melt := goodIn_sub (al_c (ir_X3_wintersNow_X3_wintersNow_r1 _ (gm 19 rfl)) (al_a (al_c (ir_X3_wintersNow_X3_wintersNow_r1 _ (gm 3 rfl)) (al_c (ir_X3_wintersNow_X3_wintersNow_r1 _ (gm 1 rfl)) (al_c (ir_X3_wintersNow_X3_wintersNow_r1 _ (gm 20 rfl)) (al_c (ir_X3_wintersNow_X3_wintersNow_r1 _ (gm 21 rfl)) (al_c (ir_X3_wintersNow_X3_wintersNow_r1 _ (gm 22 rfl)) (al_c (ir_X3_wintersNow_X3_wintersNow_r1 _ (gm 7 rfl)) (al_c (ir_X3_wintersNow_X3_wintersNow_r1 _ (gm 23 rfl)) (al_c (ir_X3_wintersNow_X3_wintersNow_r2 _ (gm 0 rfl)) (al_c (ir_X3_wintersNow_X3_wintersNow_r2 _ (gm 1 rfl)) (al_c (ir_X3_wintersNow_X3_wintersNow_r2 _ (gm 2 rfl)) (al_c (ir_X3_wintersNow_X3_wintersNow_r2 _ (gm 3 rfl)) (al_c (ir_X3_wintersNow_X3_wintersNow_r2 _ (gm 4 rfl)) al_n)))))))))))) ir_X3_wintersNow_X30)) aw_X3_melt
set_option maxRecDepth 20000 in
theorem gX3_wintersNow_X3_melt : GoodIn wsX3_wintersNow (wsV RX3 136 RX3 yX3_melt wsX3_melt) := goodIn_app (goodIn_sub (al_c (ir_X3_wintersNow_X3_wintersNow_r1 _ (gm 16 rfl)) (al_c (ir_X3_wintersNow_X3_wintersNow_r1 _ (gm 17 rfl)) (al_c (ir_X3_wintersNow_X3_wintersNow_r1 _ (gm 18 rfl)) (al_c (ir_X3_wintersNow_X3_wintersNow_r1 _ (gm 7 rfl)) al_n)))) rfl) ggX3_wintersNow_X3_melt
set_option maxRecDepth 20000 in
theorem ggX3_wintersNow_X3_keptNow : GoodIn wsX3_wintersNow wsX3_keptNow := goodIn_sub (al_c (ir_X3_wintersNow_X3_wintersNow_r2 _ (gm 8 rfl)) (al_a (al_c (ir_X3_wintersNow_X3_wintersNow_r1 _ (gm 3 rfl)) (al_c (ir_X3_wintersNow_X3_wintersNow_r1 _ (gm 1 rfl)) (al_c (ir_X3_wintersNow_X3_wintersNow_r2 _ (gm 9 rfl)) (al_c (ir_X3_wintersNow_X3_wintersNow_r2 _ (gm 10 rfl)) (al_c (ir_X3_wintersNow_X3_wintersNow_r2 _ (gm 11 rfl)) (al_c (ir_X3_wintersNow_X3_wintersNow_r1 _ (gm 7 rfl)) (al_c (ir_X3_wintersNow_X3_wintersNow_r2 _ (gm 12 rfl)) (al_c (ir_X3_wintersNow_X3_wintersNow_r2 _ (gm 13 rfl)) al_n)))))))) ir_X3_wintersNow_X30)) aw_X3_keptNow
set_option maxRecDepth 20000 in
theorem gX3_wintersNow_X3_keptNow : GoodIn wsX3_wintersNow (wsV RX3 140 RX3 yX3_keptNow wsX3_keptNow) := goodIn_app (goodIn_sub (al_c (ir_X3_wintersNow_X3_wintersNow_r2 _ (gm 5 rfl)) (al_c (ir_X3_wintersNow_X3_wintersNow_r2 _ (gm 6 rfl)) (al_c (ir_X3_wintersNow_X3_wintersNow_r2 _ (gm 7 rfl)) (al_c (ir_X3_wintersNow_X3_wintersNow_r1 _ (gm 7 rfl)) al_n)))) rfl) ggX3_wintersNow_X3_keptNow
set_option maxRecDepth 20000 in
theorem aw_X3_snowAll : wsX3_snowAll.all goodWord = true := by decide +kernel
set_option maxRecDepth 20000 in
theorem ggX3_wintersNow_X3_snowAll : GoodIn wsX3_wintersNow wsX3_snowAll := goodIn_sub (al_c (ir_X3_wintersNow_X3_wintersNow_r2 _ (gm 17 rfl)) (al_a (al_c (ir_X3_wintersNow_X3_wintersNow_r1 _ (gm 3 rfl)) (al_c (ir_X3_wintersNow_X3_wintersNow_r1 _ (gm 1 rfl)) al_n)) ir_X3_wintersNow_X30)) aw_X3_snowAll
set_option maxRecDepth 20000 in
theorem gX3_wintersNow_X3_snowAll : GoodIn wsX3_wintersNow (wsV RX3 202 RX3 yX3_snowAll wsX3_snowAll) := goodIn_app (goodIn_sub (al_c (ir_X3_wintersNow_X3_wintersNow_r2 _ (gm 14 rfl)) (al_c (ir_X3_wintersNow_X3_wintersNow_r2 _ (gm 15 rfl)) (al_c (ir_X3_wintersNow_X3_wintersNow_r2 _ (gm 16 rfl)) (al_c (ir_X3_wintersNow_X3_wintersNow_r1 _ (gm 7 rfl)) al_n)))) rfl) ggX3_wintersNow_X3_snowAll
theorem ir_X3_winters_X3_winters_r1 : ∀ w ∈ wsX3_winters_r1, w ∈ wsX3_winters := fun _ h => List.mem_cons_of_mem _ (List.mem_append_left _ (List.mem_append_left _ (h)))
theorem ir_X3_winters_X3_winters_r2 : ∀ w ∈ wsX3_winters_r2, w ∈ wsX3_winters := fun _ h => List.mem_cons_of_mem _ (List.mem_append_left _ (List.mem_append_right _ (List.mem_append_left _ (h))))
theorem ir_X3_winters_X3_winters_r3 : ∀ w ∈ wsX3_winters_r3, w ∈ wsX3_winters := fun _ h => List.mem_cons_of_mem _ (List.mem_append_left _ (List.mem_append_right _ (List.mem_append_right _ (h))))
theorem ir_X3_winters_X30 : ∀ w ∈ wsX30, w ∈ wsX3_winters := fun _ h => List.mem_cons_of_mem _ (List.mem_append_right _ (h))
set_option maxRecDepth 20000 in
theorem ggX3_winters_X3_within : GoodIn wsX3_winters wsX3_within := goodIn_sub (al_c (ir_X3_winters_X3_winters_r1 _ (gm 4 rfl)) al_n) aw_X3_within
set_option maxRecDepth 20000 in
theorem gX3_winters_X3_within : GoodIn wsX3_winters (va_wsS RX3 68 yX3_within wsX3_within) := goodIn_app (goodIn_sub (al_c (ir_X3_winters_X3_winters_r1 _ (gm 1 rfl)) (al_c (ir_X3_winters_X3_winters_r1 _ (gm 2 rfl)) (al_c (ir_X3_winters_X3_winters_r1 _ (gm 3 rfl)) al_n))) rfl) ggX3_winters_X3_within
set_option maxRecDepth 20000 in
theorem aw_X3_wintersNow : wsX3_wintersNow.all goodWord = true := by decide +kernel
set_option maxRecDepth 20000 in
theorem ggX3_winters_X3_wintersNow : GoodIn wsX3_winters wsX3_wintersNow := goodIn_sub (al_c (ir_X3_winters_X3_winters_r1 _ (gm 8 rfl)) (al_a (al_a (al_c (ir_X3_winters_X3_winters_r1 _ (gm 9 rfl)) (al_c (ir_X3_winters_X3_winters_r1 _ (gm 10 rfl)) (al_c (ir_X3_winters_X3_winters_r1 _ (gm 11 rfl)) (al_c (ir_X3_winters_X3_winters_r1 _ (gm 0 rfl)) (al_c (ir_X3_winters_X3_winters_r1 _ (gm 12 rfl)) (al_c (ir_X3_winters_X3_winters_r1 _ (gm 13 rfl)) (al_c (ir_X3_winters_X3_winters_r1 _ (gm 14 rfl)) (al_c (ir_X3_winters_X3_winters_r1 _ (gm 3 rfl)) (al_c (ir_X3_winters_X3_winters_r1 _ (gm 15 rfl)) (al_c (ir_X3_winters_X3_winters_r1 _ (gm 16 rfl)) (al_c (ir_X3_winters_X3_winters_r1 _ (gm 17 rfl)) (al_c (ir_X3_winters_X3_winters_r1 _ (gm 18 rfl)) (al_c (ir_X3_winters_X3_winters_r1 _ (gm 19 rfl)) (al_c (ir_X3_winters_X3_winters_r1 _ (gm 20 rfl)) (al_c (ir_X3_winters_X3_winters_r1 _ (gm 21 rfl)) (al_c (ir_X3_winters_X3_winters_r1 _ (gm 22 rfl)) (al_c (ir_X3_winters_X3_winters_r1 _ (gm 23 rfl)) (al_c (ir_X3_winters_X3_winters_r2 _ (gm 0 rfl)) (al_c (ir_X3_winters_X3_winters_r2 _ (gm 1 rfl)) (al_c (ir_X3_winters_X3_winters_r2 _ (gm 2 rfl)) (al_c (ir_X3_winters_X3_winters_r2 _ (gm 3 rfl)) (al_c (ir_X3_winters_X3_winters_r2 _ (gm 4 rfl)) (al_c (ir_X3_winters_X3_winters_r2 _ (gm 5 rfl)) (al_c (ir_X3_winters_X3_winters_r2 _ (gm 6 rfl)) al_n)))))))))))))))))))))))) (al_c (ir_X3_winters_X3_winters_r2 _ (gm 7 rfl)) (al_c (ir_X3_winters_X3_winters_r2 _ (gm 8 rfl)) (al_c (ir_X3_winters_X3_winters_r2 _ (gm 9 rfl)) (al_c (ir_X3_winters_X3_winters_r2 _ (gm 10 rfl)) (al_c (ir_X3_winters_X3_winters_r2 _ (gm 11 rfl)) (al_c (ir_X3_winters_X3_winters_r2 _ (gm 12 rfl)) (al_c (ir_X3_winters_X3_winters_r2 _ (gm 13 rfl)) (al_c (ir_X3_winters_X3_winters_r2 _ (gm 14 rfl)) (al_c (ir_X3_winters_X3_winters_r2 _ (gm 15 rfl)) (al_c (ir_X3_winters_X3_winters_r2 _ (gm 16 rfl)) (al_c (ir_X3_winters_X3_winters_r2 _ (gm 17 rfl)) (al_c (ir_X3_winters_X3_winters_r2 _ (gm 18 rfl)) (al_c (ir_X3_winters_X3_winters_r2 _ (gm 19 rfl)) (al_c (ir_X3_winters_X3_winters_r2 _ (gm 20 rfl)) (al_c (ir_X3_winters_X3_winters_r2 _ (gm 21 rfl)) (al_c (ir_X3_winters_X3_winters_r2 _ (gm 22 rfl)) (al_c (ir_X3_winters_X3_winters_r2 _ (gm 23 rfl)) (al_c (ir_X3_winters_X3_winters_r3 _ (gm 0 rfl)) al_n))))))))))))))))))) ir_X3_winters_X30)) aw_X3_wintersNow
set_option maxRecDepth 20000 in
theorem gX3_winters_X3_wintersNow : GoodIn wsX3_winters (wsV RX3 205 RX3 yX3_wintersNow wsX3_wintersNow) := goodIn_app (goodIn_sub (al_c (ir_X3_winters_X3_winters_r1 _ (gm 5 rfl)) (al_c (ir_X3_winters_X3_winters_r1 _ (gm 6 rfl)) (al_c (ir_X3_winters_X3_winters_r1 _ (gm 7 rfl)) (al_c (ir_X3_winters_X3_winters_r1 _ (gm 3 rfl)) al_n)))) rfl) ggX3_winters_X3_wintersNow
theorem ir_X3_howMany_X30 : ∀ w ∈ wsX30, w ∈ wsX3_howMany := fun _ h => List.mem_cons_of_mem _ (List.mem_append_right _ (h))
set_option maxRecDepth 20000 in
theorem ggX3_howMany_X3_snowAll : GoodIn wsX3_howMany wsX3_snowAll := goodIn_sub (al_c (gm 13 rfl) (al_a (al_c (gm 1 rfl) (al_c (gm 14 rfl) al_n)) ir_X3_howMany_X30)) aw_X3_snowAll
set_option maxRecDepth 20000 in
theorem gX3_howMany_X3_snowAll : GoodIn wsX3_howMany (wsV RX3 202 RX3 yX3_snowAll wsX3_snowAll) := goodIn_app (goodIn_sub (al_c (gm 9 rfl) (al_c (gm 10 rfl) (al_c (gm 11 rfl) (al_c (gm 12 rfl) al_n)))) rfl) ggX3_howMany_X3_snowAll
set_option maxRecDepth 20000 in
theorem ggX3_howMany_X3_keptNow : GoodIn wsX3_howMany wsX3_keptNow := goodIn_sub (al_c (gm 18 rfl) (al_a (al_c (gm 1 rfl) (al_c (gm 14 rfl) (al_c (gm 19 rfl) (al_c (gm 20 rfl) (al_c (gm 21 rfl) (al_c (gm 12 rfl) (al_c (gm 22 rfl) (al_c (gm 23 rfl) al_n)))))))) ir_X3_howMany_X30)) aw_X3_keptNow
set_option maxRecDepth 20000 in
theorem gX3_howMany_X3_keptNow : GoodIn wsX3_howMany (wsV RX3 140 RX3 yX3_keptNow wsX3_keptNow) := goodIn_app (goodIn_sub (al_c (gm 15 rfl) (al_c (gm 16 rfl) (al_c (gm 17 rfl) (al_c (gm 12 rfl) al_n)))) rfl) ggX3_howMany_X3_keptNow
theorem ir_X3_count_X3_count_r1 : ∀ w ∈ wsX3_count_r1, w ∈ wsX3_count := fun _ h => List.mem_cons_of_mem _ (List.mem_append_left _ (List.mem_append_left _ (h)))
theorem ir_X3_count_X3_count_r2 : ∀ w ∈ wsX3_count_r2, w ∈ wsX3_count := fun _ h => List.mem_cons_of_mem _ (List.mem_append_left _ (List.mem_append_right _ (h)))
theorem ir_X3_count_X30 : ∀ w ∈ wsX30, w ∈ wsX3_count := fun _ h => List.mem_cons_of_mem _ (List.mem_append_right _ (h))
set_option maxRecDepth 20000 in
theorem aw_X3_howMany : wsX3_howMany.all goodWord = true := by decide +kernel
set_option maxRecDepth 20000 in
theorem ggX3_count_X3_howMany : GoodIn wsX3_count wsX3_howMany := goodIn_sub (al_c (ir_X3_count_X3_count_r1 _ (gm 4 rfl)) (al_a (al_c (ir_X3_count_X3_count_r1 _ (gm 5 rfl)) (al_c (ir_X3_count_X3_count_r1 _ (gm 6 rfl)) (al_c (ir_X3_count_X3_count_r1 _ (gm 7 rfl)) (al_c (ir_X3_count_X3_count_r1 _ (gm 8 rfl)) (al_c (ir_X3_count_X3_count_r1 _ (gm 9 rfl)) (al_c (ir_X3_count_X3_count_r1 _ (gm 10 rfl)) (al_c (ir_X3_count_X3_count_r1 _ (gm 11 rfl)) (al_c (ir_X3_count_X3_count_r1 _ (gm 12 rfl)) (al_c (ir_X3_count_X3_count_r1 _ (gm 13 rfl)) (al_c (ir_X3_count_X3_count_r1 _ (gm 14 rfl)) (al_c (ir_X3_count_X3_count_r1 _ (gm 15 rfl)) (al_c (ir_X3_count_X3_count_r1 _ (gm 3 rfl)) (al_c (ir_X3_count_X3_count_r1 _ (gm 16 rfl)) (al_c (ir_X3_count_X3_count_r1 _ (gm 17 rfl)) (al_c (ir_X3_count_X3_count_r1 _ (gm 18 rfl)) (al_c (ir_X3_count_X3_count_r1 _ (gm 19 rfl)) (al_c (ir_X3_count_X3_count_r1 _ (gm 20 rfl)) (al_c (ir_X3_count_X3_count_r1 _ (gm 21 rfl)) (al_c (ir_X3_count_X3_count_r1 _ (gm 22 rfl)) (al_c (ir_X3_count_X3_count_r1 _ (gm 23 rfl)) (al_c (ir_X3_count_X3_count_r2 _ (gm 0 rfl)) (al_c (ir_X3_count_X3_count_r2 _ (gm 1 rfl)) (al_c (ir_X3_count_X3_count_r2 _ (gm 2 rfl)) al_n))))))))))))))))))))))) ir_X3_count_X30)) aw_X3_howMany
set_option maxRecDepth 20000 in
theorem gX3_count_X3_howMany : GoodIn wsX3_count (wsV RX3 229 RX3 yX3_howMany wsX3_howMany) := goodIn_app (goodIn_sub (al_c (ir_X3_count_X3_count_r1 _ (gm 0 rfl)) (al_c (ir_X3_count_X3_count_r1 _ (gm 1 rfl)) (al_c (ir_X3_count_X3_count_r1 _ (gm 2 rfl)) (al_c (ir_X3_count_X3_count_r1 _ (gm 3 rfl)) al_n)))) rfl) ggX3_count_X3_howMany
theorem ir_X3_digest_X3_digest_r1 : ∀ w ∈ wsX3_digest_r1, w ∈ wsX3_digest := fun _ h => List.mem_cons_of_mem _ (List.mem_append_left _ (List.mem_append_left _ (h)))
theorem ir_X3_digest_X3_digest_r2 : ∀ w ∈ wsX3_digest_r2, w ∈ wsX3_digest := fun _ h => List.mem_cons_of_mem _ (List.mem_append_left _ (List.mem_append_right _ (List.mem_append_left _ (h))))
theorem ir_X3_digest_X3_digest_r3 : ∀ w ∈ wsX3_digest_r3, w ∈ wsX3_digest := fun _ h => List.mem_cons_of_mem _ (List.mem_append_left _ (List.mem_append_right _ (List.mem_append_right _ (List.mem_append_left _ (h)))))
theorem ir_X3_digest_X3_digest_r4 : ∀ w ∈ wsX3_digest_r4, w ∈ wsX3_digest := fun _ h => List.mem_cons_of_mem _ (List.mem_append_left _ (List.mem_append_right _ (List.mem_append_right _ (List.mem_append_right _ (List.mem_append_left _ (h))))))
theorem ir_X3_digest_X3_digest_r5 : ∀ w ∈ wsX3_digest_r5, w ∈ wsX3_digest := fun _ h => List.mem_cons_of_mem _ (List.mem_append_left _ (List.mem_append_right _ (List.mem_append_right _ (List.mem_append_right _ (List.mem_append_right _ (h))))))
theorem ir_X3_digest_X30 : ∀ w ∈ wsX30, w ∈ wsX3_digest := fun _ h => List.mem_cons_of_mem _ (List.mem_append_right _ (h))
set_option maxRecDepth 20000 in
theorem ggX3_digest_X3_siteNow : GoodIn wsX3_digest wsX3_siteNow := goodIn_sub (al_c (ir_X3_digest_X3_digest_r1 _ (gm 9 rfl)) (al_a (al_c (ir_X3_digest_X3_digest_r1 _ (gm 10 rfl)) (al_c (ir_X3_digest_X3_digest_r1 _ (gm 11 rfl)) (al_c (ir_X3_digest_X3_digest_r1 _ (gm 12 rfl)) (al_c (ir_X3_digest_X3_digest_r1 _ (gm 13 rfl)) (al_c (ir_X3_digest_X3_digest_r1 _ (gm 14 rfl)) (al_c (ir_X3_digest_X3_digest_r1 _ (gm 15 rfl)) (al_c (ir_X3_digest_X3_digest_r1 _ (gm 16 rfl)) (al_c (ir_X3_digest_X3_digest_r1 _ (gm 17 rfl)) (al_c (ir_X3_digest_X3_digest_r1 _ (gm 18 rfl)) (al_c (ir_X3_digest_X3_digest_r1 _ (gm 8 rfl)) (al_c (ir_X3_digest_X3_digest_r1 _ (gm 19 rfl)) (al_c (ir_X3_digest_X3_digest_r1 _ (gm 20 rfl)) (al_c (ir_X3_digest_X3_digest_r1 _ (gm 21 rfl)) (al_c (ir_X3_digest_X3_digest_r1 _ (gm 22 rfl)) (al_c (ir_X3_digest_X3_digest_r1 _ (gm 23 rfl)) (al_c (ir_X3_digest_X3_digest_r2 _ (gm 0 rfl)) (al_c (ir_X3_digest_X3_digest_r2 _ (gm 1 rfl)) (al_c (ir_X3_digest_X3_digest_r2 _ (gm 2 rfl)) al_n)))))))))))))))))) ir_X3_digest_X30)) aw_X3_siteNow
set_option maxRecDepth 20000 in
theorem gX3_digest_X3_siteNow : GoodIn wsX3_digest (wsV RX3 130 RX3 yX3_siteNow wsX3_siteNow) := goodIn_app (goodIn_sub (al_c (ir_X3_digest_X3_digest_r1 _ (gm 5 rfl)) (al_c (ir_X3_digest_X3_digest_r1 _ (gm 6 rfl)) (al_c (ir_X3_digest_X3_digest_r1 _ (gm 7 rfl)) (al_c (ir_X3_digest_X3_digest_r1 _ (gm 8 rfl)) al_n)))) rfl) ggX3_digest_X3_siteNow
set_option maxRecDepth 20000 in
theorem aw_X3_mix : wsX3_mix.all goodWord = true := by decide +kernel
set_option maxRecDepth 20000 in
theorem ggX3_digest_X3_mix : GoodIn wsX3_digest wsX3_mix := goodIn_sub (al_c (ir_X3_digest_X3_digest_r2 _ (gm 6 rfl)) (al_a (al_c (ir_X3_digest_X3_digest_r2 _ (gm 7 rfl)) (al_c (ir_X3_digest_X3_digest_r1 _ (gm 1 rfl)) al_n)) ir_X3_digest_X30)) aw_X3_mix
set_option maxRecDepth 20000 in
theorem gX3_digest_X3_mix : GoodIn wsX3_digest (wsV RX3 239 RX3 yX3_mix wsX3_mix) := goodIn_app (goodIn_sub (al_c (ir_X3_digest_X3_digest_r2 _ (gm 3 rfl)) (al_c (ir_X3_digest_X3_digest_r2 _ (gm 4 rfl)) (al_c (ir_X3_digest_X3_digest_r2 _ (gm 5 rfl)) (al_c (ir_X3_digest_X3_digest_r1 _ (gm 8 rfl)) al_n)))) rfl) ggX3_digest_X3_mix
set_option maxRecDepth 20000 in
theorem ggX3_digest_X3_needOf : GoodIn wsX3_digest wsX3_needOf := goodIn_sub (al_c (ir_X3_digest_X3_digest_r2 _ (gm 11 rfl)) (al_a (al_c (ir_X3_digest_X3_digest_r2 _ (gm 12 rfl)) (al_c (ir_X3_digest_X3_digest_r2 _ (gm 13 rfl)) (al_c (ir_X3_digest_X3_digest_r2 _ (gm 14 rfl)) (al_c (ir_X3_digest_X3_digest_r1 _ (gm 8 rfl)) (al_c (ir_X3_digest_X3_digest_r2 _ (gm 15 rfl)) (al_c (ir_X3_digest_X3_digest_r1 _ (gm 12 rfl)) (al_c (ir_X3_digest_X3_digest_r1 _ (gm 14 rfl)) (al_c (ir_X3_digest_X3_digest_r2 _ (gm 16 rfl)) (al_c (ir_X3_digest_X3_digest_r2 _ (gm 17 rfl)) (al_c (ir_X3_digest_X3_digest_r2 _ (gm 18 rfl)) (al_c (ir_X3_digest_X3_digest_r1 _ (gm 23 rfl)) (al_c (ir_X3_digest_X3_digest_r2 _ (gm 0 rfl)) (al_c (ir_X3_digest_X3_digest_r2 _ (gm 1 rfl)) (al_c (ir_X3_digest_X3_digest_r2 _ (gm 2 rfl)) (al_c (ir_X3_digest_X3_digest_r1 _ (gm 11 rfl)) (al_c (ir_X3_digest_X3_digest_r1 _ (gm 16 rfl)) (al_c (ir_X3_digest_X3_digest_r1 _ (gm 17 rfl)) (al_c (ir_X3_digest_X3_digest_r1 _ (gm 18 rfl)) (al_c (ir_X3_digest_X3_digest_r1 _ (gm 19 rfl)) (al_c (ir_X3_digest_X3_digest_r1 _ (gm 13 rfl)) (al_c (ir_X3_digest_X3_digest_r1 _ (gm 10 rfl)) (al_c (ir_X3_digest_X3_digest_r1 _ (gm 20 rfl)) (al_c (ir_X3_digest_X3_digest_r1 _ (gm 21 rfl)) (al_c (ir_X3_digest_X3_digest_r1 _ (gm 22 rfl)) al_n)))))))))))))))))))))))) ir_X3_digest_X30)) aw_X3_needOf
set_option maxRecDepth 20000 in
theorem gX3_digest_X3_needOf : GoodIn wsX3_digest (wsV RX3 146 RX3 yX3_needOf wsX3_needOf) := goodIn_app (goodIn_sub (al_c (ir_X3_digest_X3_digest_r2 _ (gm 8 rfl)) (al_c (ir_X3_digest_X3_digest_r2 _ (gm 9 rfl)) (al_c (ir_X3_digest_X3_digest_r2 _ (gm 10 rfl)) (al_c (ir_X3_digest_X3_digest_r1 _ (gm 8 rfl)) al_n)))) rfl) ggX3_digest_X3_needOf
set_option maxRecDepth 20000 in
theorem ggX3_digest_X3_planNow : GoodIn wsX3_digest wsX3_planNow := goodIn_sub (al_c (ir_X3_digest_X3_digest_r2 _ (gm 22 rfl)) (al_a (al_a (al_c (ir_X3_digest_X3_digest_r1 _ (gm 2 rfl)) (al_c (ir_X3_digest_X3_digest_r2 _ (gm 23 rfl)) (al_c (ir_X3_digest_X3_digest_r3 _ (gm 0 rfl)) (al_c (ir_X3_digest_X3_digest_r3 _ (gm 1 rfl)) (al_c (ir_X3_digest_X3_digest_r2 _ (gm 8 rfl)) (al_c (ir_X3_digest_X3_digest_r2 _ (gm 9 rfl)) (al_c (ir_X3_digest_X3_digest_r2 _ (gm 10 rfl)) (al_c (ir_X3_digest_X3_digest_r1 _ (gm 8 rfl)) (al_c (ir_X3_digest_X3_digest_r2 _ (gm 11 rfl)) (al_c (ir_X3_digest_X3_digest_r2 _ (gm 12 rfl)) (al_c (ir_X3_digest_X3_digest_r2 _ (gm 13 rfl)) (al_c (ir_X3_digest_X3_digest_r2 _ (gm 14 rfl)) (al_c (ir_X3_digest_X3_digest_r2 _ (gm 15 rfl)) (al_c (ir_X3_digest_X3_digest_r1 _ (gm 12 rfl)) (al_c (ir_X3_digest_X3_digest_r1 _ (gm 14 rfl)) (al_c (ir_X3_digest_X3_digest_r2 _ (gm 16 rfl)) (al_c (ir_X3_digest_X3_digest_r2 _ (gm 17 rfl)) (al_c (ir_X3_digest_X3_digest_r2 _ (gm 18 rfl)) (al_c (ir_X3_digest_X3_digest_r1 _ (gm 23 rfl)) (al_c (ir_X3_digest_X3_digest_r2 _ (gm 0 rfl)) (al_c (ir_X3_digest_X3_digest_r2 _ (gm 1 rfl)) (al_c (ir_X3_digest_X3_digest_r2 _ (gm 2 rfl)) (al_c (ir_X3_digest_X3_digest_r1 _ (gm 11 rfl)) (al_c (ir_X3_digest_X3_digest_r1 _ (gm 16 rfl)) al_n)))))))))))))))))))))))) (al_c (ir_X3_digest_X3_digest_r1 _ (gm 17 rfl)) (al_c (ir_X3_digest_X3_digest_r1 _ (gm 18 rfl)) (al_c (ir_X3_digest_X3_digest_r1 _ (gm 19 rfl)) (al_c (ir_X3_digest_X3_digest_r1 _ (gm 13 rfl)) (al_c (ir_X3_digest_X3_digest_r1 _ (gm 10 rfl)) (al_c (ir_X3_digest_X3_digest_r1 _ (gm 20 rfl)) (al_c (ir_X3_digest_X3_digest_r1 _ (gm 21 rfl)) (al_c (ir_X3_digest_X3_digest_r1 _ (gm 22 rfl)) (al_c (ir_X3_digest_X3_digest_r3 _ (gm 2 rfl)) (al_c (ir_X3_digest_X3_digest_r3 _ (gm 3 rfl)) (al_c (ir_X3_digest_X3_digest_r3 _ (gm 4 rfl)) (al_c (ir_X3_digest_X3_digest_r3 _ (gm 5 rfl)) (al_c (ir_X3_digest_X3_digest_r3 _ (gm 6 rfl)) (al_c (ir_X3_digest_X3_digest_r3 _ (gm 7 rfl)) (al_c (ir_X3_digest_X3_digest_r3 _ (gm 8 rfl)) (al_c (ir_X3_digest_X3_digest_r3 _ (gm 9 rfl)) (al_c (ir_X3_digest_X3_digest_r3 _ (gm 10 rfl)) (al_c (ir_X3_digest_X3_digest_r3 _ (gm 11 rfl)) al_n))))))))))))))))))) ir_X3_digest_X30)) aw_X3_planNow
set_option maxRecDepth 20000 in
theorem gX3_digest_X3_planNow : GoodIn wsX3_digest (wsV RX3 164 RX3 yX3_planNow wsX3_planNow) := goodIn_app (goodIn_sub (al_c (ir_X3_digest_X3_digest_r2 _ (gm 19 rfl)) (al_c (ir_X3_digest_X3_digest_r2 _ (gm 20 rfl)) (al_c (ir_X3_digest_X3_digest_r2 _ (gm 21 rfl)) (al_c (ir_X3_digest_X3_digest_r1 _ (gm 8 rfl)) al_n)))) rfl) ggX3_digest_X3_planNow
set_option maxRecDepth 20000 in
theorem ggX3_digest_X3_errorNow : GoodIn wsX3_digest wsX3_errorNow := goodIn_sub (al_c (ir_X3_digest_X3_digest_r3 _ (gm 15 rfl)) (al_a (al_c (ir_X3_digest_X3_digest_r1 _ (gm 2 rfl)) (al_c (ir_X3_digest_X3_digest_r3 _ (gm 16 rfl)) (al_c (ir_X3_digest_X3_digest_r3 _ (gm 17 rfl)) (al_c (ir_X3_digest_X3_digest_r3 _ (gm 18 rfl)) (al_c (ir_X3_digest_X3_digest_r1 _ (gm 8 rfl)) (al_c (ir_X3_digest_X3_digest_r3 _ (gm 19 rfl)) (al_c (ir_X3_digest_X3_digest_r1 _ (gm 12 rfl)) (al_c (ir_X3_digest_X3_digest_r1 _ (gm 23 rfl)) (al_c (ir_X3_digest_X3_digest_r2 _ (gm 0 rfl)) (al_c (ir_X3_digest_X3_digest_r2 _ (gm 1 rfl)) (al_c (ir_X3_digest_X3_digest_r2 _ (gm 2 rfl)) (al_c (ir_X3_digest_X3_digest_r1 _ (gm 11 rfl)) (al_c (ir_X3_digest_X3_digest_r3 _ (gm 20 rfl)) (al_c (ir_X3_digest_X3_digest_r3 _ (gm 21 rfl)) (al_c (ir_X3_digest_X3_digest_r3 _ (gm 22 rfl)) (al_c (ir_X3_digest_X3_digest_r3 _ (gm 23 rfl)) (al_c (ir_X3_digest_X3_digest_r4 _ (gm 0 rfl)) (al_c (ir_X3_digest_X3_digest_r1 _ (gm 15 rfl)) (al_c (ir_X3_digest_X3_digest_r2 _ (gm 16 rfl)) (al_c (ir_X3_digest_X3_digest_r2 _ (gm 17 rfl)) (al_c (ir_X3_digest_X3_digest_r2 _ (gm 18 rfl)) al_n))))))))))))))))))))) ir_X3_digest_X30)) aw_X3_errorNow
set_option maxRecDepth 20000 in
theorem gX3_digest_X3_errorNow : GoodIn wsX3_digest (wsV RX3 171 RX3 yX3_errorNow wsX3_errorNow) := goodIn_app (goodIn_sub (al_c (ir_X3_digest_X3_digest_r3 _ (gm 12 rfl)) (al_c (ir_X3_digest_X3_digest_r3 _ (gm 13 rfl)) (al_c (ir_X3_digest_X3_digest_r3 _ (gm 14 rfl)) (al_c (ir_X3_digest_X3_digest_r1 _ (gm 8 rfl)) al_n)))) rfl) ggX3_digest_X3_errorNow
set_option maxRecDepth 20000 in
theorem ggX3_digest_X3_sunsNow : GoodIn wsX3_digest wsX3_sunsNow := goodIn_sub (al_c (ir_X3_digest_X3_digest_r4 _ (gm 4 rfl)) (al_a (al_c (ir_X3_digest_X3_digest_r4 _ (gm 5 rfl)) (al_c (ir_X3_digest_X3_digest_r4 _ (gm 6 rfl)) (al_c (ir_X3_digest_X3_digest_r4 _ (gm 7 rfl)) (al_c (ir_X3_digest_X3_digest_r4 _ (gm 8 rfl)) (al_c (ir_X3_digest_X3_digest_r4 _ (gm 9 rfl)) (al_c (ir_X3_digest_X3_digest_r4 _ (gm 10 rfl)) (al_c (ir_X3_digest_X3_digest_r4 _ (gm 11 rfl)) (al_c (ir_X3_digest_X3_digest_r1 _ (gm 8 rfl)) (al_c (ir_X3_digest_X3_digest_r4 _ (gm 12 rfl)) (al_c (ir_X3_digest_X3_digest_r1 _ (gm 16 rfl)) (al_c (ir_X3_digest_X3_digest_r1 _ (gm 17 rfl)) (al_c (ir_X3_digest_X3_digest_r1 _ (gm 18 rfl)) (al_c (ir_X3_digest_X3_digest_r1 _ (gm 19 rfl)) (al_c (ir_X3_digest_X3_digest_r1 _ (gm 13 rfl)) (al_c (ir_X3_digest_X3_digest_r1 _ (gm 10 rfl)) (al_c (ir_X3_digest_X3_digest_r1 _ (gm 20 rfl)) (al_c (ir_X3_digest_X3_digest_r1 _ (gm 21 rfl)) (al_c (ir_X3_digest_X3_digest_r1 _ (gm 22 rfl)) al_n)))))))))))))))))) ir_X3_digest_X30)) aw_X3_sunsNow
set_option maxRecDepth 20000 in
theorem gX3_digest_X3_sunsNow : GoodIn wsX3_digest (wsV RX3 177 RX3 yX3_sunsNow wsX3_sunsNow) := goodIn_app (goodIn_sub (al_c (ir_X3_digest_X3_digest_r4 _ (gm 1 rfl)) (al_c (ir_X3_digest_X3_digest_r4 _ (gm 2 rfl)) (al_c (ir_X3_digest_X3_digest_r4 _ (gm 3 rfl)) (al_c (ir_X3_digest_X3_digest_r1 _ (gm 8 rfl)) al_n)))) rfl) ggX3_digest_X3_sunsNow
set_option maxRecDepth 20000 in
theorem ggX3_digest_X3_lookNow : GoodIn wsX3_digest wsX3_lookNow := goodIn_sub (al_c (ir_X3_digest_X3_digest_r4 _ (gm 16 rfl)) (al_a (al_a (al_c (ir_X3_digest_X3_digest_r4 _ (gm 17 rfl)) (al_c (ir_X3_digest_X3_digest_r1 _ (gm 2 rfl)) (al_c (ir_X3_digest_X3_digest_r4 _ (gm 1 rfl)) (al_c (ir_X3_digest_X3_digest_r4 _ (gm 2 rfl)) (al_c (ir_X3_digest_X3_digest_r4 _ (gm 3 rfl)) (al_c (ir_X3_digest_X3_digest_r1 _ (gm 8 rfl)) (al_c (ir_X3_digest_X3_digest_r4 _ (gm 4 rfl)) (al_c (ir_X3_digest_X3_digest_r4 _ (gm 5 rfl)) (al_c (ir_X3_digest_X3_digest_r4 _ (gm 6 rfl)) (al_c (ir_X3_digest_X3_digest_r4 _ (gm 7 rfl)) (al_c (ir_X3_digest_X3_digest_r4 _ (gm 8 rfl)) (al_c (ir_X3_digest_X3_digest_r4 _ (gm 9 rfl)) (al_c (ir_X3_digest_X3_digest_r4 _ (gm 10 rfl)) (al_c (ir_X3_digest_X3_digest_r4 _ (gm 11 rfl)) (al_c (ir_X3_digest_X3_digest_r4 _ (gm 12 rfl)) (al_c (ir_X3_digest_X3_digest_r1 _ (gm 16 rfl)) (al_c (ir_X3_digest_X3_digest_r1 _ (gm 17 rfl)) (al_c (ir_X3_digest_X3_digest_r1 _ (gm 18 rfl)) (al_c (ir_X3_digest_X3_digest_r1 _ (gm 19 rfl)) (al_c (ir_X3_digest_X3_digest_r1 _ (gm 13 rfl)) (al_c (ir_X3_digest_X3_digest_r1 _ (gm 10 rfl)) (al_c (ir_X3_digest_X3_digest_r1 _ (gm 20 rfl)) (al_c (ir_X3_digest_X3_digest_r1 _ (gm 21 rfl)) (al_c (ir_X3_digest_X3_digest_r1 _ (gm 22 rfl)) al_n)))))))))))))))))))))))) (al_c (ir_X3_digest_X3_digest_r4 _ (gm 18 rfl)) (al_c (ir_X3_digest_X3_digest_r4 _ (gm 19 rfl)) (al_c (ir_X3_digest_X3_digest_r4 _ (gm 20 rfl)) (al_c (ir_X3_digest_X3_digest_r4 _ (gm 21 rfl)) (al_c (ir_X3_digest_X3_digest_r3 _ (gm 6 rfl)) (al_c (ir_X3_digest_X3_digest_r3 _ (gm 7 rfl)) (al_c (ir_X3_digest_X3_digest_r3 _ (gm 8 rfl)) al_n)))))))) ir_X3_digest_X30)) aw_X3_lookNow
set_option maxRecDepth 20000 in
theorem gX3_digest_X3_lookNow : GoodIn wsX3_digest (wsV RX3 184 RX3 yX3_lookNow wsX3_lookNow) := goodIn_app (goodIn_sub (al_c (ir_X3_digest_X3_digest_r4 _ (gm 13 rfl)) (al_c (ir_X3_digest_X3_digest_r4 _ (gm 14 rfl)) (al_c (ir_X3_digest_X3_digest_r4 _ (gm 15 rfl)) (al_c (ir_X3_digest_X3_digest_r1 _ (gm 8 rfl)) al_n)))) rfl) ggX3_digest_X3_lookNow
set_option maxRecDepth 20000 in
theorem ggX3_digest_X3_howMany : GoodIn wsX3_digest wsX3_howMany := goodIn_sub (al_c (ir_X3_digest_X3_digest_r5 _ (gm 1 rfl)) (al_a (al_c (ir_X3_digest_X3_digest_r1 _ (gm 2 rfl)) (al_c (ir_X3_digest_X3_digest_r1 _ (gm 14 rfl)) (al_c (ir_X3_digest_X3_digest_r5 _ (gm 2 rfl)) (al_c (ir_X3_digest_X3_digest_r5 _ (gm 3 rfl)) (al_c (ir_X3_digest_X3_digest_r5 _ (gm 4 rfl)) (al_c (ir_X3_digest_X3_digest_r4 _ (gm 5 rfl)) (al_c (ir_X3_digest_X3_digest_r1 _ (gm 3 rfl)) (al_c (ir_X3_digest_X3_digest_r5 _ (gm 5 rfl)) (al_c (ir_X3_digest_X3_digest_r5 _ (gm 6 rfl)) (al_c (ir_X3_digest_X3_digest_r5 _ (gm 7 rfl)) (al_c (ir_X3_digest_X3_digest_r5 _ (gm 8 rfl)) (al_c (ir_X3_digest_X3_digest_r1 _ (gm 8 rfl)) (al_c (ir_X3_digest_X3_digest_r5 _ (gm 9 rfl)) (al_c (ir_X3_digest_X3_digest_r1 _ (gm 12 rfl)) (al_c (ir_X3_digest_X3_digest_r3 _ (gm 16 rfl)) (al_c (ir_X3_digest_X3_digest_r3 _ (gm 17 rfl)) (al_c (ir_X3_digest_X3_digest_r3 _ (gm 18 rfl)) (al_c (ir_X3_digest_X3_digest_r3 _ (gm 19 rfl)) (al_c (ir_X3_digest_X3_digest_r1 _ (gm 23 rfl)) (al_c (ir_X3_digest_X3_digest_r2 _ (gm 0 rfl)) (al_c (ir_X3_digest_X3_digest_r2 _ (gm 1 rfl)) (al_c (ir_X3_digest_X3_digest_r2 _ (gm 2 rfl)) (al_c (ir_X3_digest_X3_digest_r1 _ (gm 11 rfl)) al_n))))))))))))))))))))))) ir_X3_digest_X30)) aw_X3_howMany
set_option maxRecDepth 20000 in
theorem gX3_digest_X3_howMany : GoodIn wsX3_digest (wsV RX3 229 RX3 yX3_howMany wsX3_howMany) := goodIn_app (goodIn_sub (al_c (ir_X3_digest_X3_digest_r4 _ (gm 22 rfl)) (al_c (ir_X3_digest_X3_digest_r4 _ (gm 23 rfl)) (al_c (ir_X3_digest_X3_digest_r5 _ (gm 0 rfl)) (al_c (ir_X3_digest_X3_digest_r1 _ (gm 8 rfl)) al_n)))) rfl) ggX3_digest_X3_howMany
