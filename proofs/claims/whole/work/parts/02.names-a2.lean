set_option maxRecDepth 20000 in
theorem gX6_weight_X6_isMeaning : GoodIn wsX6_weight (va_wsS RX6 59 yX6_isMeaning wsX6_isMeaning) := goodIn_app (goodIn_of _ (by decide +kernel)) ggX6_weight_X6_isMeaning
set_option maxRecDepth 20000 in
theorem ggX6_weight_X6_in : GoodIn wsX6_weight wsX6_in := goodIn_r _ [10] (by decide +kernel) (by decide +kernel)
set_option maxRecDepth 20000 in
theorem gX6_weight_X6_in : GoodIn wsX6_weight (va_wsS RX6 53 yX6_in wsX6_in) := goodIn_app (goodIn_of _ (by decide +kernel)) ggX6_weight_X6_in
set_option maxRecDepth 20000 in
theorem ggX6_set_X6_in : GoodIn wsX6_set wsX6_in := goodIn_r _ [10] (by decide +kernel) (by decide +kernel)
set_option maxRecDepth 20000 in
theorem gX6_set_X6_in : GoodIn wsX6_set (va_wsS RX6 53 yX6_in wsX6_in) := goodIn_app (goodIn_of _ (by decide +kernel)) ggX6_set_X6_in
set_option maxRecDepth 20000 in
theorem ggX6_set_X6_numberIs : GoodIn wsX6_set wsX6_numberIs := goodIn_r _ [14, 4, 5, 6, 15, 16, 17, 18, 19, 20, 21, 22, 23, 24, 25, 26, 27, 28, 29, 30, 31, 32, 33, 34] (by decide +kernel) (by decide +kernel)
set_option maxRecDepth 20000 in
theorem gX6_set_X6_numberIs : GoodIn wsX6_set (wsV RX6 70 RX6 yX6_numberIs wsX6_numberIs) := goodIn_app (goodIn_of _ (by decide +kernel)) ggX6_set_X6_numberIs
set_option maxRecDepth 20000 in
theorem ggX6_say_X6_in : GoodIn wsX6_say wsX6_in := goodIn_r _ [8] (by decide +kernel) (by decide +kernel)
set_option maxRecDepth 20000 in
theorem gX6_say_X6_in : GoodIn wsX6_say (va_wsS RX6 53 yX6_in wsX6_in) := goodIn_app (goodIn_of _ (by decide +kernel)) ggX6_say_X6_in
set_option maxRecDepth 20000 in
theorem ggX6_fault_X6_in : GoodIn wsX6_fault wsX6_in := goodIn_r _ [8] (by decide +kernel) (by decide +kernel)
set_option maxRecDepth 20000 in
theorem gX6_fault_X6_in : GoodIn wsX6_fault (va_wsS RX6 53 yX6_in wsX6_in) := goodIn_app (goodIn_of _ (by decide +kernel)) ggX6_fault_X6_in
set_option maxRecDepth 20000 in
theorem ggX6_before_X6_fault : GoodIn wsX6_before wsX6_fault := goodIn_r _ [9, 1, 4, 10, 11, 12, 13, 8, 14, 15, 16, 17, 18, 19, 20, 21, 22, 23, 24, 25, 26, 27, 28, 29, 30, 31, 32, 33, 34] (by decide +kernel) (by decide +kernel)
set_option maxRecDepth 20000 in
theorem gX6_before_X6_fault : GoodIn wsX6_before (wsV RX6 85 RX6 yX6_fault wsX6_fault) := goodIn_app (goodIn_of _ (by decide +kernel)) ggX6_before_X6_fault
set_option maxRecDepth 20000 in
theorem ggX6_number_X6_isTongue : GoodIn wsX6_number wsX6_isTongue := goodIn_r _ [4, 5, 6, 7, 3, 8] (by decide +kernel) (by decide +kernel)
set_option maxRecDepth 20000 in
theorem gX6_number_X6_isTongue : GoodIn wsX6_number (va_wsS RX6 92 yX6_isTongue wsX6_isTongue) := goodIn_app (goodIn_of _ (by decide +kernel)) ggX6_number_X6_isTongue
set_option maxRecDepth 20000 in
theorem ggX6_number_X6_beforehand : GoodIn wsX6_number wsX6_beforehand := goodIn_r _ [12, 13, 14, 15, 16, 17, 18, 19, 20, 21, 22, 23, 24, 25, 26, 27, 28, 29, 30, 31, 32, 33, 34] (by decide +kernel) (by decide +kernel)
set_option maxRecDepth 20000 in
theorem gX6_number_X6_beforehand : GoodIn wsX6_number (wsV RX6 95 RX6 yX6_beforehand wsX6_beforehand) := goodIn_app (goodIn_of _ (by decide +kernel)) ggX6_number_X6_beforehand
set_option maxRecDepth 20000 in
theorem ggX6_hear_X6_isMeaning : GoodIn wsX6_hear wsX6_isMeaning := goodIn_r _ [6, 7, 8, 9, 5, 10] (by decide +kernel) (by decide +kernel)
set_option maxRecDepth 20000 in
theorem gX6_hear_X6_isMeaning : GoodIn wsX6_hear (va_wsS RX6 59 yX6_isMeaning wsX6_isMeaning) := goodIn_app (goodIn_of _ (by decide +kernel)) ggX6_hear_X6_isMeaning
set_option maxRecDepth 20000 in
theorem ggX6_hear_X6_in : GoodIn wsX6_hear wsX6_in := goodIn_r _ [10] (by decide +kernel) (by decide +kernel)
set_option maxRecDepth 20000 in
theorem gX6_hear_X6_in : GoodIn wsX6_hear (va_wsS RX6 53 yX6_in wsX6_in) := goodIn_app (goodIn_of _ (by decide +kernel)) ggX6_hear_X6_in
set_option maxRecDepth 20000 in
theorem ggX6_likenessOf_X6_beforehand : GoodIn wsX6_likenessOf wsX6_beforehand := goodIn_r _ [8, 9, 10, 14, 15, 16, 17, 18, 19, 20, 21, 22, 23, 24, 25, 26, 27, 28, 29, 30, 31, 32, 33] (by decide +kernel) (by decide +kernel)
set_option maxRecDepth 20000 in
theorem gX6_likenessOf_X6_beforehand : GoodIn wsX6_likenessOf (wsV RX6 95 RX6 yX6_beforehand wsX6_beforehand) := goodIn_app (goodIn_of _ (by decide +kernel)) ggX6_likenessOf_X6_beforehand
set_option maxRecDepth 20000 in
theorem ggX6_likenessOf_X6_hasForm : GoodIn wsX6_likenessOf wsX6_hasForm := goodIn_r _ [13] (by decide +kernel) (by decide +kernel)
set_option maxRecDepth 20000 in
theorem gX6_likenessOf_X6_hasForm : GoodIn wsX6_likenessOf (va_wsS RX6 104 yX6_hasForm wsX6_hasForm) := goodIn_app (goodIn_of _ (by decide +kernel)) ggX6_likenessOf_X6_hasForm
set_option maxRecDepth 20000 in
theorem ggX6_likeness_X6_isTongue : GoodIn wsX6_likeness wsX6_isTongue := goodIn_r _ [5, 6, 7, 8, 4, 9] (by decide +kernel) (by decide +kernel)
set_option maxRecDepth 20000 in
theorem gX6_likeness_X6_isTongue : GoodIn wsX6_likeness (va_wsS RX6 92 yX6_isTongue wsX6_isTongue) := goodIn_app (goodIn_of _ (by decide +kernel)) ggX6_likeness_X6_isTongue
set_option maxRecDepth 20000 in
theorem ggX6_likeness_X6_layHeard : GoodIn wsX6_likeness wsX6_layHeard := goodIn_r _ [13, 14, 15, 16, 17, 32, 33, 34, 35, 36, 37, 38, 39, 40, 41, 42, 43, 44, 45, 46, 47, 48, 49, 50, 51] (by decide +kernel) (by decide +kernel)
set_option maxRecDepth 20000 in
theorem gX6_likeness_X6_layHeard : GoodIn wsX6_likeness (wsV RX6 110 RX6 yX6_layHeard wsX6_layHeard) := goodIn_app (goodIn_of _ (by decide +kernel)) ggX6_likeness_X6_layHeard
set_option maxRecDepth 20000 in
theorem ggX6_likeness_X6_likenessOf : GoodIn wsX6_likeness wsX6_likenessOf := goodIn_r _ [21, 17, 14, 22, 23, 24, 25, 4, 26, 27, 28, 29, 30, 31, 32, 33, 34, 35, 36, 37, 38, 39, 40, 41, 42, 43, 44, 45, 46, 47, 48, 49, 50, 51] (by decide +kernel) (by decide +kernel)
set_option maxRecDepth 20000 in
theorem gX6_likeness_X6_likenessOf : GoodIn wsX6_likeness (wsV RX6 113 RX6 yX6_likenessOf wsX6_likenessOf) := goodIn_app (goodIn_of _ (by decide +kernel)) ggX6_likeness_X6_likenessOf
set_option maxRecDepth 20000 in
theorem ggX6_thinks_X6_isTongue : GoodIn wsX6_thinks wsX6_isTongue := goodIn_r _ [6, 7, 8, 9, 5, 10] (by decide +kernel) (by decide +kernel)
set_option maxRecDepth 20000 in
theorem gX6_thinks_X6_isTongue : GoodIn wsX6_thinks (va_wsS RX6 92 yX6_isTongue wsX6_isTongue) := goodIn_app (goodIn_of _ (by decide +kernel)) ggX6_thinks_X6_isTongue
set_option maxRecDepth 20000 in
theorem ggX6_thinks_X6_isPart : GoodIn wsX6_thinks wsX6_isPart := goodIn_r _ [13, 8, 9, 5, 10] (by decide +kernel) (by decide +kernel)
set_option maxRecDepth 20000 in
theorem gX6_thinks_X6_isPart : GoodIn wsX6_thinks (va_wsS RX6 119 yX6_isPart wsX6_isPart) := goodIn_app (goodIn_of _ (by decide +kernel)) ggX6_thinks_X6_isPart
set_option maxRecDepth 20000 in
theorem ggX6_thinks_X6_layHeard : GoodIn wsX6_thinks wsX6_layHeard := goodIn_r _ [17, 18, 19, 20, 21, 39, 40, 41, 42, 43, 44, 45, 46, 47, 48, 49, 50, 51, 52, 53, 54, 55, 56, 57, 58] (by decide +kernel) (by decide +kernel)
set_option maxRecDepth 20000 in
theorem gX6_thinks_X6_layHeard : GoodIn wsX6_thinks (wsV RX6 110 RX6 yX6_layHeard wsX6_layHeard) := goodIn_app (goodIn_of _ (by decide +kernel)) ggX6_thinks_X6_layHeard
set_option maxRecDepth 20000 in
theorem ggX6_thinks_X6_likenessOf : GoodIn wsX6_thinks wsX6_likenessOf := goodIn_r _ [25, 21, 18, 26, 27, 28, 29, 5, 30, 31, 32, 33, 34, 35, 39, 40, 41, 42, 43, 44, 45, 46, 47, 48, 49, 50, 51, 52, 53, 54, 55, 56, 57, 58] (by decide +kernel) (by decide +kernel)
set_option maxRecDepth 20000 in
theorem gX6_thinks_X6_likenessOf : GoodIn wsX6_thinks (wsV RX6 113 RX6 yX6_likenessOf wsX6_likenessOf) := goodIn_app (goodIn_of _ (by decide +kernel)) ggX6_thinks_X6_likenessOf
set_option maxRecDepth 20000 in
theorem ggX6_thinks_X6_lowest : GoodIn wsX6_thinks wsX6_lowest := goodIn_r _ [38] (by decide +kernel) (by decide +kernel)
set_option maxRecDepth 20000 in
theorem gX6_thinks_X6_lowest : GoodIn wsX6_thinks (va_wsS RX6 124 yX6_lowest wsX6_lowest) := goodIn_app (goodIn_of _ (by decide +kernel)) ggX6_thinks_X6_lowest
set_option maxRecDepth 20000 in
theorem ggX6_hasAll_X6_hasForm : GoodIn wsX6_hasAll wsX6_hasForm := goodIn_r _ [6] (by decide +kernel) (by decide +kernel)
set_option maxRecDepth 20000 in
theorem gX6_hasAll_X6_hasForm : GoodIn wsX6_hasAll (va_wsS RX6 104 yX6_hasForm wsX6_hasForm) := goodIn_app (goodIn_of _ (by decide +kernel)) ggX6_hasAll_X6_hasForm
set_option maxRecDepth 20000 in
theorem ggX6_taken_X6_hasAll : GoodIn wsX6_taken wsX6_hasAll := goodIn_r _ [6, 7, 8, 9, 10, 5, 11, 26, 27, 28, 29, 30, 31, 32, 33, 34, 35, 36, 37, 38, 39, 40, 41, 42, 43, 44, 45] (by decide +kernel) (by decide +kernel)
set_option maxRecDepth 20000 in
theorem gX6_taken_X6_hasAll : GoodIn wsX6_taken (wsV RX6 128 RX6 yX6_hasAll wsX6_hasAll) := goodIn_app (goodIn_of _ (by decide +kernel)) ggX6_taken_X6_hasAll
set_option maxRecDepth 20000 in
theorem ggX6_taken_X6_likenessOf : GoodIn wsX6_taken wsX6_likenessOf := goodIn_r _ [15, 7, 8, 16, 17, 18, 19, 5, 20, 21, 22, 9, 10, 11, 26, 27, 28, 29, 30, 31, 32, 33, 34, 35, 36, 37, 38, 39, 40, 41, 42, 43, 44, 45] (by decide +kernel) (by decide +kernel)
set_option maxRecDepth 20000 in
theorem gX6_taken_X6_likenessOf : GoodIn wsX6_taken (wsV RX6 113 RX6 yX6_likenessOf wsX6_likenessOf) := goodIn_app (goodIn_of _ (by decide +kernel)) ggX6_taken_X6_likenessOf
set_option maxRecDepth 20000 in
theorem ggX6_taken_X6_ones : GoodIn wsX6_taken wsX6_ones := goodIn_r _ [25] (by decide +kernel) (by decide +kernel)
set_option maxRecDepth 20000 in
theorem gX6_taken_X6_ones : GoodIn wsX6_taken (va_wsS RX6 131 yX6_ones wsX6_ones) := goodIn_app (goodIn_of _ (by decide +kernel)) ggX6_taken_X6_ones
set_option maxRecDepth 20000 in
theorem ggX6_takes_X6_layHeard : GoodIn wsX6_takes wsX6_layHeard := goodIn_r _ [5, 6, 7, 8, 9, 36, 37, 38, 39, 40, 41, 42, 43, 44, 45, 46, 47, 48, 49, 50, 51, 52, 53, 54, 55] (by decide +kernel) (by decide +kernel)
set_option maxRecDepth 20000 in
theorem gX6_takes_X6_layHeard : GoodIn wsX6_takes (wsV RX6 110 RX6 yX6_layHeard wsX6_layHeard) := goodIn_app (goodIn_of _ (by decide +kernel)) ggX6_takes_X6_layHeard
set_option maxRecDepth 20000 in
theorem ggX6_takes_X6_taken : GoodIn wsX6_takes wsX6_taken := goodIn_r _ [13, 14, 15, 16, 17, 4, 18, 9, 6, 19, 20, 21, 22, 23, 24, 25, 26, 27, 28, 29, 30, 31, 32, 33, 34, 35, 36, 37, 38, 39, 40, 41, 42, 43, 44, 45, 46, 47, 48, 49, 50, 51, 52, 53, 54, 55] (by decide +kernel) (by decide +kernel)
set_option maxRecDepth 20000 in
theorem gX6_takes_X6_taken : GoodIn wsX6_takes (wsV RX6 134 RX6 yX6_taken wsX6_taken) := goodIn_app (goodIn_of _ (by decide +kernel)) ggX6_takes_X6_taken
set_option maxRecDepth 20000 in
theorem ggX6_oddsOf_X6_hasForm : GoodIn wsX6_oddsOf wsX6_hasForm := goodIn_r _ [7] (by decide +kernel) (by decide +kernel)
set_option maxRecDepth 20000 in
theorem gX6_oddsOf_X6_hasForm : GoodIn wsX6_oddsOf (va_wsS RX6 104 yX6_hasForm wsX6_hasForm) := goodIn_app (goodIn_of _ (by decide +kernel)) ggX6_oddsOf_X6_hasForm
set_option maxRecDepth 20000 in
theorem ggX6_findSteps_X6_lowerOf : GoodIn wsX6_findSteps wsX6_lowerOf := goodIn_r _ [10, 11, 12, 3, 43, 44, 45, 46, 47, 48, 49, 50, 51, 52, 53, 54, 55, 56, 57, 58, 59, 60, 61, 62] (by decide +kernel) (by decide +kernel)
set_option maxRecDepth 20000 in
theorem gX6_findSteps_X6_lowerOf : GoodIn wsX6_findSteps (wsV RX6 139 RX6 yX6_lowerOf wsX6_lowerOf) := goodIn_app (goodIn_of _ (by decide +kernel)) ggX6_findSteps_X6_lowerOf
set_option maxRecDepth 20000 in
theorem ggX6_findSteps_X6_taken : GoodIn wsX6_findSteps wsX6_taken := goodIn_r _ [16, 17, 18, 19, 20, 9, 21, 4, 5, 22, 23, 24, 25, 26, 27, 28, 29, 30, 31, 32, 33, 34, 35, 36, 37, 38, 43, 44, 45, 46, 47, 48, 49, 50, 51, 52, 53, 54, 55, 56, 57, 58, 59, 60, 61, 62] (by decide +kernel) (by decide +kernel)
set_option maxRecDepth 20000 in
theorem gX6_findSteps_X6_taken : GoodIn wsX6_findSteps (wsV RX6 134 RX6 yX6_taken wsX6_taken) := goodIn_app (goodIn_of _ (by decide +kernel)) ggX6_findSteps_X6_taken
set_option maxRecDepth 20000 in
theorem ggX6_findSteps_X6_oddsOf : GoodIn wsX6_findSteps wsX6_oddsOf := goodIn_r _ [42, 12, 11, 29, 22, 23, 9, 24, 43, 44, 45, 46, 47, 48, 49, 50, 51, 52, 53, 54, 55, 56, 57, 58, 59, 60, 61, 62] (by decide +kernel) (by decide +kernel)
set_option maxRecDepth 20000 in
theorem gX6_findSteps_X6_oddsOf : GoodIn wsX6_findSteps (wsV RX6 147 RX6 yX6_oddsOf wsX6_oddsOf) := goodIn_app (goodIn_of _ (by decide +kernel)) ggX6_findSteps_X6_oddsOf
set_option maxRecDepth 20000 in
theorem ggX6_step_X6_book : GoodIn wsX6_step wsX6_book := goodIn_r _ [5, 6, 7, 8, 9, 10, 11, 12, 4, 13, 14, 15, 16, 17, 18, 19, 20, 21, 22, 23, 24, 25, 26, 27, 28, 29, 30, 31, 32, 33, 34, 35, 36, 37, 38, 39, 40, 41, 42, 43, 44, 45, 46, 47, 48, 49, 50, 51, 52, 53, 54, 55, 56, 57, 58, 59, 60, 61, 62, 63, 64, 65, 66, 67, 68, 69, 70, 71, 72, 73, 74, 75, 76, 77, 78, 79, 80, 81, 82, 83, 84, 85] (by decide +kernel) (by decide +kernel)
set_option maxRecDepth 20000 in
theorem gX6_step_X6_book : GoodIn wsX6_step (wsV RX6 151 RX6 yX6_book wsX6_book) := goodIn_app (goodIn_of _ (by decide +kernel)) ggX6_step_X6_book
set_option maxRecDepth 20000 in
theorem ggX6_book_X6_isTongue : GoodIn wsX6_book wsX6_isTongue := goodIn_r _ [9, 10, 11, 12, 8, 13] (by decide +kernel) (by decide +kernel)
set_option maxRecDepth 20000 in
theorem gX6_book_X6_isTongue : GoodIn wsX6_book (va_wsS RX6 92 yX6_isTongue wsX6_isTongue) := goodIn_app (goodIn_of _ (by decide +kernel)) ggX6_book_X6_isTongue
set_option maxRecDepth 20000 in
theorem ggX6_book_X6_in : GoodIn wsX6_book wsX6_in := goodIn_r _ [13] (by decide +kernel) (by decide +kernel)
set_option maxRecDepth 20000 in
theorem gX6_book_X6_in : GoodIn wsX6_book (va_wsS RX6 53 yX6_in wsX6_in) := goodIn_app (goodIn_of _ (by decide +kernel)) ggX6_book_X6_in
set_option maxRecDepth 20000 in
theorem ggX6_book_X6_isPart : GoodIn wsX6_book wsX6_isPart := goodIn_r _ [16, 11, 12, 8, 13] (by decide +kernel) (by decide +kernel)
set_option maxRecDepth 20000 in
theorem gX6_book_X6_isPart : GoodIn wsX6_book (va_wsS RX6 119 yX6_isPart wsX6_isPart) := goodIn_app (goodIn_of _ (by decide +kernel)) ggX6_book_X6_isPart
set_option maxRecDepth 20000 in
theorem ggX6_book_X6_findSteps : GoodIn wsX6_book wsX6_findSteps := goodIn_r _ [20, 5, 4, 2, 21, 22, 23, 24, 25, 8, 26, 27, 28, 29, 30, 31, 32, 33, 34, 35, 36, 37, 38, 39, 40, 41, 42, 43, 44, 45, 46, 47, 48, 49, 50, 51, 52, 53, 54, 55, 56, 57, 58, 62, 63, 64, 65, 66, 67, 68, 69, 70, 71, 72, 73, 74, 75, 76, 77, 78, 79, 80, 81] (by decide +kernel) (by decide +kernel)
set_option maxRecDepth 20000 in
theorem gX6_book_X6_findSteps : GoodIn wsX6_book (wsV RX6 155 RX6 yX6_findSteps wsX6_findSteps) := goodIn_app (goodIn_of _ (by decide +kernel)) ggX6_book_X6_findSteps
set_option maxRecDepth 20000 in
theorem ggX6_book_X6_lowest : GoodIn wsX6_book wsX6_lowest := goodIn_r _ [61] (by decide +kernel) (by decide +kernel)
set_option maxRecDepth 20000 in
theorem gX6_book_X6_lowest : GoodIn wsX6_book (va_wsS RX6 124 yX6_lowest wsX6_lowest) := goodIn_app (goodIn_of _ (by decide +kernel)) ggX6_book_X6_lowest
set_option maxRecDepth 20000 in
theorem ggX6_isLives_X6_in : GoodIn wsX6_isLives wsX6_in := goodIn_r _ [5] (by decide +kernel) (by decide +kernel)
set_option maxRecDepth 20000 in
theorem gX6_isLives_X6_in : GoodIn wsX6_isLives (va_wsS RX6 53 yX6_in wsX6_in) := goodIn_app (goodIn_of _ (by decide +kernel)) ggX6_isLives_X6_in
set_option maxRecDepth 20000 in
theorem ggX6_after_X6_isTongue : GoodIn wsX6_after wsX6_isTongue := goodIn_r _ [10, 11, 12, 13, 9, 14] (by decide +kernel) (by decide +kernel)
set_option maxRecDepth 20000 in
theorem gX6_after_X6_isTongue : GoodIn wsX6_after (va_wsS RX6 92 yX6_isTongue wsX6_isTongue) := goodIn_app (goodIn_of _ (by decide +kernel)) ggX6_after_X6_isTongue
set_option maxRecDepth 20000 in
theorem ggX6_after_X6_isLives : GoodIn wsX6_after wsX6_isLives := goodIn_r _ [17, 18, 12, 13, 9, 14] (by decide +kernel) (by decide +kernel)
set_option maxRecDepth 20000 in
theorem gX6_after_X6_isLives : GoodIn wsX6_after (va_wsS RX6 162 yX6_isLives wsX6_isLives) := goodIn_app (goodIn_of _ (by decide +kernel)) ggX6_after_X6_isLives
set_option maxRecDepth 20000 in
theorem ggX6_after_X6_isPart : GoodIn wsX6_after wsX6_isPart := goodIn_r _ [21, 12, 13, 9, 14] (by decide +kernel) (by decide +kernel)
set_option maxRecDepth 20000 in
theorem gX6_after_X6_isPart : GoodIn wsX6_after (va_wsS RX6 119 yX6_isPart wsX6_isPart) := goodIn_app (goodIn_of _ (by decide +kernel)) ggX6_after_X6_isPart
set_option maxRecDepth 20000 in
theorem ggX6_after_X6_findSteps : GoodIn wsX6_after wsX6_findSteps := goodIn_r _ [25, 26, 27, 3, 28, 29, 30, 31, 32, 9, 33, 34, 35, 36, 37, 38, 39, 40, 41, 42, 43, 44, 45, 46, 47, 48, 49, 50, 51, 52, 53, 54, 55, 56, 57, 58, 59, 60, 61, 62, 63, 64, 65, 74, 75, 76, 77, 78, 79, 80, 81, 82, 83, 84, 85, 86, 87, 88, 89, 90, 91, 92, 93] (by decide +kernel) (by decide +kernel)
set_option maxRecDepth 20000 in
theorem gX6_after_X6_findSteps : GoodIn wsX6_after (wsV RX6 155 RX6 yX6_findSteps wsX6_findSteps) := goodIn_app (goodIn_of _ (by decide +kernel)) ggX6_after_X6_findSteps
set_option maxRecDepth 20000 in
theorem ggX6_after_X6_live : GoodIn wsX6_after wsX6_live := goodIn_r _ [69, 6, 5, 70, 27, 26, 74, 75, 76, 77, 78, 79, 80, 81, 82, 83, 84, 85, 86, 87, 88, 89, 90, 91, 92, 93] (by decide +kernel) (by decide +kernel)
set_option maxRecDepth 20000 in
theorem gX6_after_X6_live : GoodIn wsX6_after (wsV RX6 167 RX6 yX6_live wsX6_live) := goodIn_app (goodIn_of _ (by decide +kernel)) ggX6_after_X6_live
set_option maxRecDepth 20000 in
theorem ggX6_after_X6_lowest : GoodIn wsX6_after wsX6_lowest := goodIn_r _ [73] (by decide +kernel) (by decide +kernel)
set_option maxRecDepth 20000 in
theorem gX6_after_X6_lowest : GoodIn wsX6_after (va_wsS RX6 124 yX6_lowest wsX6_lowest) := goodIn_app (goodIn_of _ (by decide +kernel)) ggX6_after_X6_lowest
set_option maxRecDepth 20000 in
theorem ggX6_findLeads_X6_findSteps : GoodIn wsX6_findLeads wsX6_findSteps := goodIn_r _ [7, 8, 2, 9, 10, 11, 12, 13, 14, 6, 15, 16, 17, 18, 19, 20, 21, 22, 23, 24, 25, 26, 27, 28, 29, 30, 31, 32, 33, 34, 35, 36, 37, 38, 39, 40, 41, 42, 43, 44, 45, 46, 47, 48, 49, 50, 51, 52, 53, 54, 55, 56, 57, 58, 59, 60, 61, 62, 63, 64, 65, 66, 67] (by decide +kernel) (by decide +kernel)
set_option maxRecDepth 20000 in
theorem gX6_findLeads_X6_findSteps : GoodIn wsX6_findLeads (wsV RX6 155 RX6 yX6_findSteps wsX6_findSteps) := goodIn_app (goodIn_of _ (by decide +kernel)) ggX6_findLeads_X6_findSteps
set_option maxRecDepth 20000 in
theorem ggX6_leads_X6_isTongue : GoodIn wsX6_leads wsX6_isTongue := goodIn_r _ [5, 6, 7, 8, 4, 9] (by decide +kernel) (by decide +kernel)
set_option maxRecDepth 20000 in
theorem gX6_leads_X6_isTongue : GoodIn wsX6_leads (va_wsS RX6 92 yX6_isTongue wsX6_isTongue) := goodIn_app (goodIn_of _ (by decide +kernel)) ggX6_leads_X6_isTongue
set_option maxRecDepth 20000 in
theorem ggX6_leads_X6_findLeads : GoodIn wsX6_leads wsX6_findLeads := goodIn_r _ [13, 1, 14, 15, 16, 17, 4, 18, 19, 20, 21, 22, 23, 24, 25, 26, 27, 28, 29, 30, 31, 32, 33, 34, 35, 36, 37, 38, 39, 40, 41, 42, 43, 44, 45, 46, 47, 48, 49, 50, 51, 52, 53, 54, 55, 56, 57, 58, 59, 60, 61, 62, 63, 64, 65, 66, 67, 68, 69, 70, 71, 72, 73, 74, 75, 76, 77, 78] (by decide +kernel) (by decide +kernel)
set_option maxRecDepth 20000 in
theorem gX6_leads_X6_findLeads : GoodIn wsX6_leads (wsV RX6 170 RX6 yX6_findLeads wsX6_findLeads) := goodIn_app (goodIn_of _ (by decide +kernel)) ggX6_leads_X6_findLeads
set_option maxRecDepth 20000 in
theorem ggX6_lasts_X6_in : GoodIn wsX6_lasts wsX6_in := goodIn_r _ [8] (by decide +kernel) (by decide +kernel)
set_option maxRecDepth 20000 in
theorem gX6_lasts_X6_in : GoodIn wsX6_lasts (va_wsS RX6 53 yX6_in wsX6_in) := goodIn_app (goodIn_of _ (by decide +kernel)) ggX6_lasts_X6_in
set_option maxRecDepth 20000 in
theorem ggX6_lasts_X6_findLeads : GoodIn wsX6_lasts wsX6_findLeads := goodIn_r _ [12, 2, 3, 13, 14, 15, 7, 16, 4, 17, 18, 19, 20, 21, 22, 23, 24, 25, 26, 27, 28, 29, 30, 31, 32, 33, 34, 35, 36, 37, 38, 39, 40, 41, 42, 43, 44, 45, 46, 47, 48, 49, 50, 51, 52, 53, 54, 55, 60, 61, 62, 63, 64, 65, 66, 67, 68, 69, 70, 71, 72, 73, 74, 75, 76, 77, 78, 79] (by decide +kernel) (by decide +kernel)
set_option maxRecDepth 20000 in
theorem gX6_lasts_X6_findLeads : GoodIn wsX6_lasts (wsV RX6 170 RX6 yX6_findLeads wsX6_findLeads) := goodIn_app (goodIn_of _ (by decide +kernel)) ggX6_lasts_X6_findLeads
set_option maxRecDepth 20000 in
theorem ggX6_lasts_X6_doesLast : GoodIn wsX6_lasts wsX6_doesLast := goodIn_r _ [59, 2, 60, 61, 62, 63, 64, 65, 66, 67, 68, 69, 70, 71, 72, 73, 74, 75, 76, 77, 78, 79] (by decide +kernel) (by decide +kernel)
set_option maxRecDepth 20000 in
theorem gX6_lasts_X6_doesLast : GoodIn wsX6_lasts (wsV RX6 173 RX6 yX6_doesLast wsX6_doesLast) := goodIn_app (goodIn_of _ (by decide +kernel)) ggX6_lasts_X6_doesLast
set_option maxRecDepth 20000 in
theorem ggX6_lives_X6_isTongue : GoodIn wsX6_lives wsX6_isTongue := goodIn_r _ [10, 11, 12, 13, 9, 14] (by decide +kernel) (by decide +kernel)
set_option maxRecDepth 20000 in
theorem gX6_lives_X6_isTongue : GoodIn wsX6_lives (va_wsS RX6 92 yX6_isTongue wsX6_isTongue) := goodIn_app (goodIn_of _ (by decide +kernel)) ggX6_lives_X6_isTongue
set_option maxRecDepth 20000 in
theorem ggX6_lives_X6_isMeaning : GoodIn wsX6_lives wsX6_isMeaning := goodIn_r _ [17, 18, 12, 13, 9, 14] (by decide +kernel) (by decide +kernel)
set_option maxRecDepth 20000 in
theorem gX6_lives_X6_isMeaning : GoodIn wsX6_lives (va_wsS RX6 59 yX6_isMeaning wsX6_isMeaning) := goodIn_app (goodIn_of _ (by decide +kernel)) ggX6_lives_X6_isMeaning
set_option maxRecDepth 20000 in
theorem ggX6_lives_X6_in : GoodIn wsX6_lives wsX6_in := goodIn_r _ [14] (by decide +kernel) (by decide +kernel)
set_option maxRecDepth 20000 in
theorem gX6_lives_X6_in : GoodIn wsX6_lives (va_wsS RX6 53 yX6_in wsX6_in) := goodIn_app (goodIn_of _ (by decide +kernel)) ggX6_lives_X6_in
set_option maxRecDepth 20000 in
theorem ggX6_lives_X6_isLives : GoodIn wsX6_lives wsX6_isLives := goodIn_r _ [21, 22, 12, 13, 9, 14] (by decide +kernel) (by decide +kernel)
set_option maxRecDepth 20000 in
theorem gX6_lives_X6_isLives : GoodIn wsX6_lives (va_wsS RX6 162 yX6_isLives wsX6_isLives) := goodIn_app (goodIn_of _ (by decide +kernel)) ggX6_lives_X6_isLives
set_option maxRecDepth 20000 in
theorem ggX6_lives_X6_isPart : GoodIn wsX6_lives wsX6_isPart := goodIn_r _ [25, 12, 13, 9, 14] (by decide +kernel) (by decide +kernel)
set_option maxRecDepth 20000 in
theorem gX6_lives_X6_isPart : GoodIn wsX6_lives (va_wsS RX6 119 yX6_isPart wsX6_isPart) := goodIn_app (goodIn_of _ (by decide +kernel)) ggX6_lives_X6_isPart
set_option maxRecDepth 20000 in
theorem ggX6_lives_X6_findSteps : GoodIn wsX6_lives wsX6_findSteps := goodIn_r _ [29, 30, 31, 3, 32, 33, 34, 35, 36, 9, 37, 38, 39, 40, 41, 42, 43, 44, 45, 46, 47, 48, 49, 50, 51, 52, 53, 54, 55, 56, 57, 58, 59, 60, 61, 62, 63, 64, 65, 66, 67, 68, 69, 78, 79, 80, 81, 82, 83, 84, 85, 86, 87, 88, 89, 90, 91, 92, 93, 94, 95, 96, 97] (by decide +kernel) (by decide +kernel)
set_option maxRecDepth 20000 in
theorem gX6_lives_X6_findSteps : GoodIn wsX6_lives (wsV RX6 155 RX6 yX6_findSteps wsX6_findSteps) := goodIn_app (goodIn_of _ (by decide +kernel)) ggX6_lives_X6_findSteps
set_option maxRecDepth 20000 in
theorem ggX6_lives_X6_live : GoodIn wsX6_lives wsX6_live := goodIn_r _ [73, 6, 5, 74, 31, 30, 78, 79, 80, 81, 82, 83, 84, 85, 86, 87, 88, 89, 90, 91, 92, 93, 94, 95, 96, 97] (by decide +kernel) (by decide +kernel)
set_option maxRecDepth 20000 in
theorem gX6_lives_X6_live : GoodIn wsX6_lives (wsV RX6 167 RX6 yX6_live wsX6_live) := goodIn_app (goodIn_of _ (by decide +kernel)) ggX6_lives_X6_live
set_option maxRecDepth 20000 in
theorem ggX6_lives_X6_lowest : GoodIn wsX6_lives wsX6_lowest := goodIn_r _ [77] (by decide +kernel) (by decide +kernel)
set_option maxRecDepth 20000 in
theorem gX6_lives_X6_lowest : GoodIn wsX6_lives (va_wsS RX6 124 yX6_lowest wsX6_lowest) := goodIn_app (goodIn_of _ (by decide +kernel)) ggX6_lives_X6_lowest
set_option maxRecDepth 20000 in
theorem ggX6_often_X6_isTongue : GoodIn wsX6_often wsX6_isTongue := goodIn_r _ [8, 9, 10, 11, 7, 12] (by decide +kernel) (by decide +kernel)
set_option maxRecDepth 20000 in
theorem gX6_often_X6_isTongue : GoodIn wsX6_often (va_wsS RX6 92 yX6_isTongue wsX6_isTongue) := goodIn_app (goodIn_of _ (by decide +kernel)) ggX6_often_X6_isTongue
set_option maxRecDepth 20000 in
theorem ggX6_often_X6_isMeaning : GoodIn wsX6_often wsX6_isMeaning := goodIn_r _ [15, 16, 10, 11, 7, 12] (by decide +kernel) (by decide +kernel)
set_option maxRecDepth 20000 in
theorem gX6_often_X6_isMeaning : GoodIn wsX6_often (va_wsS RX6 59 yX6_isMeaning wsX6_isMeaning) := goodIn_app (goodIn_of _ (by decide +kernel)) ggX6_often_X6_isMeaning
set_option maxRecDepth 20000 in
theorem ggX6_often_X6_in : GoodIn wsX6_often wsX6_in := goodIn_r _ [12] (by decide +kernel) (by decide +kernel)
set_option maxRecDepth 20000 in
theorem gX6_often_X6_in : GoodIn wsX6_often (va_wsS RX6 53 yX6_in wsX6_in) := goodIn_app (goodIn_of _ (by decide +kernel)) ggX6_often_X6_in
set_option maxRecDepth 20000 in
theorem ggX6_often_X6_findSteps : GoodIn wsX6_often wsX6_findSteps := goodIn_r _ [20, 4, 3, 21, 22, 23, 24, 25, 26, 7, 27, 1, 2, 28, 29, 30, 31, 32, 33, 34, 35, 36, 37, 38, 39, 40, 41, 42, 43, 44, 45, 46, 47, 48, 49, 50, 51, 52, 53, 54, 55, 56, 57, 58, 59, 60, 61, 62, 63, 64, 65, 66, 67, 68, 69, 70, 71, 72, 73, 74, 75, 76, 77] (by decide +kernel) (by decide +kernel)
set_option maxRecDepth 20000 in
theorem gX6_often_X6_findSteps : GoodIn wsX6_often (wsV RX6 155 RX6 yX6_findSteps wsX6_findSteps) := goodIn_app (goodIn_of _ (by decide +kernel)) ggX6_often_X6_findSteps
set_option maxRecDepth 20000 in
theorem ggX6_choose_X6_taken : GoodIn wsX6_choose wsX6_taken := goodIn_r _ [8, 9, 10, 11, 12, 7, 13, 2, 3, 14, 15, 16, 17, 18, 19, 20, 21, 22, 23, 24, 25, 26, 27, 28, 29, 30, 31, 32, 33, 34, 35, 36, 37, 38, 39, 40, 41, 42, 43, 44, 45, 46, 47, 48, 49, 50] (by decide +kernel) (by decide +kernel)
set_option maxRecDepth 20000 in
theorem gX6_choose_X6_taken : GoodIn wsX6_choose (wsV RX6 134 RX6 yX6_taken wsX6_taken) := goodIn_app (goodIn_of _ (by decide +kernel)) ggX6_choose_X6_taken
set_option maxRecDepth 20000 in
theorem ggX6_chosen_X6_isTongue : GoodIn wsX6_chosen wsX6_isTongue := goodIn_r _ [5, 6, 7, 8, 4, 9] (by decide +kernel) (by decide +kernel)
set_option maxRecDepth 20000 in
theorem gX6_chosen_X6_isTongue : GoodIn wsX6_chosen (va_wsS RX6 92 yX6_isTongue wsX6_isTongue) := goodIn_app (goodIn_of _ (by decide +kernel)) ggX6_chosen_X6_isTongue
set_option maxRecDepth 20000 in
theorem ggX6_chosen_X6_choose : GoodIn wsX6_chosen wsX6_choose := goodIn_r _ [13, 1, 14, 15, 16, 17, 18, 4, 19, 20, 21, 22, 23, 24, 25, 26, 27, 28, 29, 30, 31, 32, 33, 34, 35, 36, 37, 38, 39, 40, 41, 42, 43, 44, 45, 46, 47, 48, 49, 50, 51, 52, 53, 54, 55, 56, 57, 58, 59, 60, 61] (by decide +kernel) (by decide +kernel)
set_option maxRecDepth 20000 in
theorem gX6_chosen_X6_choose : GoodIn wsX6_chosen (wsV RX6 176 RX6 yX6_choose wsX6_choose) := goodIn_app (goodIn_of _ (by decide +kernel)) ggX6_chosen_X6_choose
set_option maxRecDepth 20000 in
theorem ggX6_chosen_X6_in : GoodIn wsX6_chosen wsX6_in := goodIn_r _ [9] (by decide +kernel) (by decide +kernel)
set_option maxRecDepth 20000 in
theorem gX6_chosen_X6_in : GoodIn wsX6_chosen (va_wsS RX6 53 yX6_in wsX6_in) := goodIn_app (goodIn_of _ (by decide +kernel)) ggX6_chosen_X6_in
set_option maxRecDepth 20000 in
theorem ggX6_findCame_X6_findSteps : GoodIn wsX6_findCame wsX6_findSteps := goodIn_r _ [7, 8, 9, 10, 11, 12, 13, 14, 15, 6, 16, 17, 18, 19, 20, 21, 22, 23, 24, 25, 26, 27, 28, 29, 30, 31, 32, 33, 34, 35, 36, 37, 38, 39, 40, 41, 42, 43, 44, 45, 46, 47, 48, 55, 56, 57, 58, 59, 60, 61, 62, 63, 64, 65, 66, 67, 68, 69, 70, 71, 72, 73, 74] (by decide +kernel) (by decide +kernel)
set_option maxRecDepth 20000 in
theorem gX6_findCame_X6_findSteps : GoodIn wsX6_findCame (wsV RX6 155 RX6 yX6_findSteps wsX6_findSteps) := goodIn_app (goodIn_of _ (by decide +kernel)) ggX6_findCame_X6_findSteps
set_option maxRecDepth 20000 in
theorem ggX6_findCame_X6_live : GoodIn wsX6_findCame wsX6_live := goodIn_r _ [52, 53, 2, 54, 9, 8, 55, 56, 57, 58, 59, 60, 61, 62, 63, 64, 65, 66, 67, 68, 69, 70, 71, 72, 73, 74] (by decide +kernel) (by decide +kernel)
set_option maxRecDepth 20000 in
theorem gX6_findCame_X6_live : GoodIn wsX6_findCame (wsV RX6 167 RX6 yX6_live wsX6_live) := goodIn_app (goodIn_of _ (by decide +kernel)) ggX6_findCame_X6_live
set_option maxRecDepth 20000 in
theorem ggX6_back_X6_isTongue : GoodIn wsX6_back wsX6_isTongue := goodIn_r _ [9, 10, 11, 12, 8, 13] (by decide +kernel) (by decide +kernel)
set_option maxRecDepth 20000 in
theorem gX6_back_X6_isTongue : GoodIn wsX6_back (va_wsS RX6 92 yX6_isTongue wsX6_isTongue) := goodIn_app (goodIn_of _ (by decide +kernel)) ggX6_back_X6_isTongue
set_option maxRecDepth 20000 in
theorem ggX6_back_X6_isLives : GoodIn wsX6_back wsX6_isLives := goodIn_r _ [16, 17, 11, 12, 8, 13] (by decide +kernel) (by decide +kernel)
set_option maxRecDepth 20000 in
theorem gX6_back_X6_isLives : GoodIn wsX6_back (va_wsS RX6 162 yX6_isLives wsX6_isLives) := goodIn_app (goodIn_of _ (by decide +kernel)) ggX6_back_X6_isLives
set_option maxRecDepth 20000 in
theorem ggX6_back_X6_isPart : GoodIn wsX6_back wsX6_isPart := goodIn_r _ [20, 11, 12, 8, 13] (by decide +kernel) (by decide +kernel)
set_option maxRecDepth 20000 in
theorem gX6_back_X6_isPart : GoodIn wsX6_back (va_wsS RX6 119 yX6_isPart wsX6_isPart) := goodIn_app (goodIn_of _ (by decide +kernel)) ggX6_back_X6_isPart
set_option maxRecDepth 20000 in
theorem ggX6_back_X6_findCame : GoodIn wsX6_back wsX6_findCame := goodIn_r _ [24, 5, 25, 26, 27, 28, 8, 29, 30, 31, 3, 32, 33, 34, 35, 36, 37, 38, 39, 40, 41, 42, 43, 44, 45, 46, 47, 48, 49, 50, 51, 52, 53, 54, 55, 56, 57, 58, 59, 60, 61, 62, 63, 64, 65, 66, 67, 68, 69, 70, 71, 72, 73, 74, 75, 79, 80, 81, 82, 83, 84, 85, 86, 87, 88, 89, 90, 91, 92, 93, 94, 95, 96, 97, 98] (by decide +kernel) (by decide +kernel)
set_option maxRecDepth 20000 in
theorem gX6_back_X6_findCame : GoodIn wsX6_back (wsV RX6 179 RX6 yX6_findCame wsX6_findCame) := goodIn_app (goodIn_of _ (by decide +kernel)) ggX6_back_X6_findCame
set_option maxRecDepth 20000 in
theorem ggX6_back_X6_lowest : GoodIn wsX6_back wsX6_lowest := goodIn_r _ [78] (by decide +kernel) (by decide +kernel)
set_option maxRecDepth 20000 in
theorem gX6_back_X6_lowest : GoodIn wsX6_back (va_wsS RX6 124 yX6_lowest wsX6_lowest) := goodIn_app (goodIn_of _ (by decide +kernel)) ggX6_back_X6_lowest
set_option maxRecDepth 20000 in
theorem ggX6_guess_X6_isTongue : GoodIn wsX6_guess wsX6_isTongue := goodIn_r _ [6, 7, 8, 9, 5, 10] (by decide +kernel) (by decide +kernel)
set_option maxRecDepth 20000 in
theorem gX6_guess_X6_isTongue : GoodIn wsX6_guess (va_wsS RX6 92 yX6_isTongue wsX6_isTongue) := goodIn_app (goodIn_of _ (by decide +kernel)) ggX6_guess_X6_isTongue
set_option maxRecDepth 20000 in
theorem ggX6_guess_X6_isLives : GoodIn wsX6_guess wsX6_isLives := goodIn_r _ [13, 14, 8, 9, 5, 10] (by decide +kernel) (by decide +kernel)
set_option maxRecDepth 20000 in
theorem gX6_guess_X6_isLives : GoodIn wsX6_guess (va_wsS RX6 162 yX6_isLives wsX6_isLives) := goodIn_app (goodIn_of _ (by decide +kernel)) ggX6_guess_X6_isLives
set_option maxRecDepth 20000 in
theorem ggX6_guess_X6_in : GoodIn wsX6_guess wsX6_in := goodIn_r _ [10] (by decide +kernel) (by decide +kernel)
set_option maxRecDepth 20000 in
theorem gX6_guess_X6_in : GoodIn wsX6_guess (va_wsS RX6 53 yX6_in wsX6_in) := goodIn_app (goodIn_of _ (by decide +kernel)) ggX6_guess_X6_in
set_option maxRecDepth 20000 in
theorem ggX6_guess_X6_findCame : GoodIn wsX6_guess wsX6_findCame := goodIn_r _ [18, 2, 19, 20, 21, 22, 5, 23, 24, 25, 1, 26, 27, 28, 29, 30, 31, 32, 33, 34, 35, 36, 37, 38, 39, 40, 41, 42, 43, 44, 45, 46, 47, 48, 49, 50, 51, 52, 53, 54, 55, 56, 57, 58, 59, 60, 61, 62, 63, 64, 65, 66, 67, 68, 69, 70, 71, 72, 73, 74, 75, 76, 77, 78, 79, 80, 81, 82, 83, 84, 85, 86, 87, 88, 89] (by decide +kernel) (by decide +kernel)
set_option maxRecDepth 20000 in
theorem gX6_guess_X6_findCame : GoodIn wsX6_guess (wsV RX6 179 RX6 yX6_findCame wsX6_findCame) := goodIn_app (goodIn_of _ (by decide +kernel)) ggX6_guess_X6_findCame
set_option maxRecDepth 20000 in
theorem ggX6_told_X6_in : GoodIn wsX6_told wsX6_in := goodIn_r _ [10] (by decide +kernel) (by decide +kernel)
set_option maxRecDepth 20000 in
theorem gX6_told_X6_in : GoodIn wsX6_told (va_wsS RX6 53 yX6_in wsX6_in) := goodIn_app (goodIn_of _ (by decide +kernel)) ggX6_told_X6_in
set_option maxRecDepth 20000 in
theorem ggX6_told_X6_numberIs : GoodIn wsX6_told wsX6_numberIs := goodIn_r _ [14, 15, 16, 17, 18, 19, 20, 21, 22, 23, 24, 25, 26, 27, 28, 29, 30, 31, 32, 33, 34, 35, 36, 37] (by decide +kernel) (by decide +kernel)
set_option maxRecDepth 20000 in
theorem gX6_told_X6_numberIs : GoodIn wsX6_told (wsV RX6 70 RX6 yX6_numberIs wsX6_numberIs) := goodIn_app (goodIn_of _ (by decide +kernel)) ggX6_told_X6_numberIs
abbrev vwCl : List vw_C := [(RX0, TX0, 2), (RX1, TX1, 3), (RX2, TX2, 6), (RX3, TX3, 2), (RX4, TX4, 12), (RX5, TX5, 6), (RX6, TX6, 20)]
