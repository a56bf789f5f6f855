set_option maxRecDepth 20000 in
theorem ggX10_isReader_X10_in : GoodIn wsX10_isReader wsX10_in := goodIn_r _ [5] (by decide +kernel) (by decide +kernel)
set_option maxRecDepth 20000 in
theorem gX10_isReader_X10_in : GoodIn wsX10_isReader (va_wsS RX10 156 yX10_in wsX10_in) := goodIn_app (goodIn_of _ (by decide +kernel)) ggX10_isReader_X10_in
set_option maxRecDepth 20000 in
theorem ggX10_isBox_X10_in : GoodIn wsX10_isBox wsX10_in := goodIn_r _ [5] (by decide +kernel) (by decide +kernel)
set_option maxRecDepth 20000 in
theorem gX10_isBox_X10_in : GoodIn wsX10_isBox (va_wsS RX10 156 yX10_in wsX10_in) := goodIn_app (goodIn_of _ (by decide +kernel)) ggX10_isBox_X10_in
set_option maxRecDepth 20000 in
theorem ggX10_box_X10_in : GoodIn wsX10_box wsX10_in := goodIn_r _ [11] (by decide +kernel) (by decide +kernel)
set_option maxRecDepth 20000 in
theorem gX10_box_X10_in : GoodIn wsX10_box (va_wsS RX10 156 yX10_in wsX10_in) := goodIn_app (goodIn_of _ (by decide +kernel)) ggX10_box_X10_in
set_option maxRecDepth 20000 in
theorem ggX10_people_X10_in : GoodIn wsX10_people wsX10_in := goodIn_r _ [9] (by decide +kernel) (by decide +kernel)
set_option maxRecDepth 20000 in
theorem gX10_people_X10_in : GoodIn wsX10_people (va_wsS RX10 156 yX10_in wsX10_in) := goodIn_app (goodIn_of _ (by decide +kernel)) ggX10_people_X10_in
set_option maxRecDepth 20000 in
theorem ggX10_reader_X10_in : GoodIn wsX10_reader wsX10_in := goodIn_r _ [12] (by decide +kernel) (by decide +kernel)
set_option maxRecDepth 20000 in
theorem gX10_reader_X10_in : GoodIn wsX10_reader (va_wsS RX10 156 yX10_in wsX10_in) := goodIn_app (goodIn_of _ (by decide +kernel)) ggX10_reader_X10_in
set_option maxRecDepth 20000 in
theorem ggX10_canPlan_X10_isReader : GoodIn wsX10_canPlan wsX10_isReader := goodIn_r _ [7, 8, 9, 10, 6, 11, 12, 13, 14, 15, 16, 17, 18, 19, 20, 21, 22, 23, 24, 25, 26, 27, 28, 29, 30, 31, 32, 33, 34, 35, 36, 37, 38, 39, 40, 41, 42, 43, 44, 45, 46, 47, 48, 49, 50, 51, 52, 53, 54, 55, 56, 57, 58, 59, 60, 61, 62, 63, 64, 65, 66, 67, 68, 69] (by decide +kernel) (by decide +kernel)
set_option maxRecDepth 20000 in
theorem gX10_canPlan_X10_isReader : GoodIn wsX10_canPlan (wsV RX10 169 RX10 yX10_isReader wsX10_isReader) := goodIn_app (goodIn_of _ (by decide +kernel)) ggX10_canPlan_X10_isReader
set_option maxRecDepth 20000 in
theorem ggX10_canPlan_X10_in : GoodIn wsX10_canPlan wsX10_in := goodIn_r _ [11] (by decide +kernel) (by decide +kernel)
set_option maxRecDepth 20000 in
theorem gX10_canPlan_X10_in : GoodIn wsX10_canPlan (va_wsS RX10 156 yX10_in wsX10_in) := goodIn_app (goodIn_of _ (by decide +kernel)) ggX10_canPlan_X10_in
set_option maxRecDepth 20000 in
theorem ggX10_ask_X10_canPlan : GoodIn wsX10_ask wsX10_canPlan := goodIn_r _ [6, 7, 8, 9, 10, 11, 5, 12, 13, 14, 15, 16, 30, 31, 32, 33, 34, 35, 36, 37, 38, 39, 40, 41, 42, 43, 44, 45, 46, 47, 48, 49, 50, 51, 52, 53, 54, 55, 56, 57, 58, 59, 60, 61, 62, 63, 64, 65, 66, 67, 68, 69, 70, 71, 72, 73, 74, 75, 76, 77, 78, 79, 80, 81, 82, 83, 84, 85, 86, 87] (by decide +kernel) (by decide +kernel)
set_option maxRecDepth 20000 in
theorem gX10_ask_X10_canPlan : GoodIn wsX10_ask (wsV RX10 173 RX10 yX10_canPlan wsX10_canPlan) := goodIn_app (goodIn_of _ (by decide +kernel)) ggX10_ask_X10_canPlan
set_option maxRecDepth 20000 in
theorem ggX10_ask_X10_isBox : GoodIn wsX10_ask wsX10_isBox := goodIn_r _ [20, 21, 14, 15, 5, 16, 30, 31, 32, 33, 34, 35, 36, 37, 38, 39, 40, 41, 42, 43, 44, 45, 46, 47, 48, 49, 50, 51, 52, 53, 54, 55, 56, 57, 58, 59, 60, 61, 62, 63, 64, 65, 66, 67, 68, 69, 70, 71, 72, 73, 74, 75, 76, 77, 78, 79, 80, 81, 82, 83, 84, 85, 86, 87] (by decide +kernel) (by decide +kernel)
set_option maxRecDepth 20000 in
theorem gX10_ask_X10_isBox : GoodIn wsX10_ask (wsV RX10 176 RX10 yX10_isBox wsX10_isBox) := goodIn_app (goodIn_of _ (by decide +kernel)) ggX10_ask_X10_isBox
set_option maxRecDepth 20000 in
theorem ggX10_ask_X10_plans : GoodIn wsX10_ask wsX10_plans := goodIn_r _ [25, 7, 26, 27, 28, 29, 30, 31, 32, 33, 34, 35, 36, 37, 38, 39, 40, 41, 42, 43, 44, 45, 46, 47, 48, 49, 50, 51, 52, 53, 54, 55, 56, 57, 58, 59, 60, 61, 62, 63, 64, 65, 66, 67, 68, 69, 70, 71, 72, 73, 74, 75, 76, 77, 78, 79, 80, 81, 82, 83, 84, 85, 86, 87] (by decide +kernel) (by decide +kernel)
set_option maxRecDepth 20000 in
theorem gX10_ask_X10_plans : GoodIn wsX10_ask (wsV RX10 179 RX10 yX10_plans wsX10_plans) := goodIn_app (goodIn_of _ (by decide +kernel)) ggX10_ask_X10_plans
set_option maxRecDepth 20000 in
theorem ggX10_read_X10_canPlan : GoodIn wsX10_read wsX10_canPlan := goodIn_r _ [6, 7, 8, 9, 10, 11, 5, 12, 13, 14, 15, 16, 25, 26, 27, 28, 29, 30, 31, 32, 33, 34, 35, 36, 37, 38, 39, 40, 41, 42, 43, 44, 45, 46, 47, 48, 49, 50, 51, 52, 53, 54, 55, 56, 57, 58, 59, 60, 61, 62, 63, 64, 65, 66, 67, 68, 69, 70, 71, 72, 73, 74, 75, 76, 77, 78, 79, 80, 81, 82] (by decide +kernel) (by decide +kernel)
set_option maxRecDepth 20000 in
theorem gX10_read_X10_canPlan : GoodIn wsX10_read (wsV RX10 173 RX10 yX10_canPlan wsX10_canPlan) := goodIn_app (goodIn_of _ (by decide +kernel)) ggX10_read_X10_canPlan
set_option maxRecDepth 20000 in
theorem ggX10_read_X10_in : GoodIn wsX10_read wsX10_in := goodIn_r _ [16] (by decide +kernel) (by decide +kernel)
set_option maxRecDepth 20000 in
theorem gX10_read_X10_in : GoodIn wsX10_read (va_wsS RX10 156 yX10_in wsX10_in) := goodIn_app (goodIn_of _ (by decide +kernel)) ggX10_read_X10_in
set_option maxRecDepth 20000 in
theorem ggX10_read_X10_plans : GoodIn wsX10_read wsX10_plans := goodIn_r _ [20, 7, 21, 22, 23, 24, 25, 26, 27, 28, 29, 30, 31, 32, 33, 34, 35, 36, 37, 38, 39, 40, 41, 42, 43, 44, 45, 46, 47, 48, 49, 50, 51, 52, 53, 54, 55, 56, 57, 58, 59, 60, 61, 62, 63, 64, 65, 66, 67, 68, 69, 70, 71, 72, 73, 74, 75, 76, 77, 78, 79, 80, 81, 82] (by decide +kernel) (by decide +kernel)
set_option maxRecDepth 20000 in
theorem gX10_read_X10_plans : GoodIn wsX10_read (wsV RX10 179 RX10 yX10_plans wsX10_plans) := goodIn_app (goodIn_of _ (by decide +kernel)) ggX10_read_X10_plans
set_option maxRecDepth 20000 in
theorem ggX10_copy_X10_canPlan : GoodIn wsX10_copy wsX10_canPlan := goodIn_r _ [6, 7, 8, 9, 10, 11, 5, 12, 13, 14, 15, 16, 30, 31, 32, 33, 34, 35, 36, 37, 38, 39, 40, 41, 42, 43, 44, 45, 46, 47, 48, 49, 50, 51, 52, 53, 54, 55, 56, 57, 58, 59, 60, 61, 62, 63, 64, 65, 66, 67, 68, 69, 70, 71, 72, 73, 74, 75, 76, 77, 78, 79, 80, 81, 82, 83, 84, 85, 86, 87] (by decide +kernel) (by decide +kernel)
set_option maxRecDepth 20000 in
theorem gX10_copy_X10_canPlan : GoodIn wsX10_copy (wsV RX10 173 RX10 yX10_canPlan wsX10_canPlan) := goodIn_app (goodIn_of _ (by decide +kernel)) ggX10_copy_X10_canPlan
set_option maxRecDepth 20000 in
theorem ggX10_copy_X10_isBox : GoodIn wsX10_copy wsX10_isBox := goodIn_r _ [20, 21, 14, 15, 5, 16, 30, 31, 32, 33, 34, 35, 36, 37, 38, 39, 40, 41, 42, 43, 44, 45, 46, 47, 48, 49, 50, 51, 52, 53, 54, 55, 56, 57, 58, 59, 60, 61, 62, 63, 64, 65, 66, 67, 68, 69, 70, 71, 72, 73, 74, 75, 76, 77, 78, 79, 80, 81, 82, 83, 84, 85, 86, 87] (by decide +kernel) (by decide +kernel)
set_option maxRecDepth 20000 in
theorem gX10_copy_X10_isBox : GoodIn wsX10_copy (wsV RX10 176 RX10 yX10_isBox wsX10_isBox) := goodIn_app (goodIn_of _ (by decide +kernel)) ggX10_copy_X10_isBox
set_option maxRecDepth 20000 in
theorem ggX10_copy_X10_in : GoodIn wsX10_copy wsX10_in := goodIn_r _ [16] (by decide +kernel) (by decide +kernel)
set_option maxRecDepth 20000 in
theorem gX10_copy_X10_in : GoodIn wsX10_copy (va_wsS RX10 156 yX10_in wsX10_in) := goodIn_app (goodIn_of _ (by decide +kernel)) ggX10_copy_X10_in
set_option maxRecDepth 20000 in
theorem ggX10_copy_X10_plans : GoodIn wsX10_copy wsX10_plans := goodIn_r _ [25, 7, 26, 27, 28, 29, 30, 31, 32, 33, 34, 35, 36, 37, 38, 39, 40, 41, 42, 43, 44, 45, 46, 47, 48, 49, 50, 51, 52, 53, 54, 55, 56, 57, 58, 59, 60, 61, 62, 63, 64, 65, 66, 67, 68, 69, 70, 71, 72, 73, 74, 75, 76, 77, 78, 79, 80, 81, 82, 83, 84, 85, 86, 87] (by decide +kernel) (by decide +kernel)
set_option maxRecDepth 20000 in
theorem gX10_copy_X10_plans : GoodIn wsX10_copy (wsV RX10 179 RX10 yX10_plans wsX10_plans) := goodIn_app (goodIn_of _ (by decide +kernel)) ggX10_copy_X10_plans
set_option maxRecDepth 20000 in
theorem ggX10_back_X10_canPlan : GoodIn wsX10_back wsX10_canPlan := goodIn_r _ [6, 7, 8, 9, 10, 11, 5, 12, 13, 14, 15, 16, 30, 31, 32, 33, 34, 35, 36, 37, 38, 39, 40, 41, 42, 43, 44, 45, 46, 47, 48, 49, 50, 51, 52, 53, 54, 55, 56, 57, 58, 59, 60, 61, 62, 63, 64, 65, 66, 67, 68, 69, 70, 71, 72, 73, 74, 75, 76, 77, 78, 79, 80, 81, 82, 83, 84, 85, 86, 87] (by decide +kernel) (by decide +kernel)
set_option maxRecDepth 20000 in
theorem gX10_back_X10_canPlan : GoodIn wsX10_back (wsV RX10 173 RX10 yX10_canPlan wsX10_canPlan) := goodIn_app (goodIn_of _ (by decide +kernel)) ggX10_back_X10_canPlan
set_option maxRecDepth 20000 in
theorem ggX10_back_X10_isBox : GoodIn wsX10_back wsX10_isBox := goodIn_r _ [20, 21, 14, 15, 5, 16, 30, 31, 32, 33, 34, 35, 36, 37, 38, 39, 40, 41, 42, 43, 44, 45, 46, 47, 48, 49, 50, 51, 52, 53, 54, 55, 56, 57, 58, 59, 60, 61, 62, 63, 64, 65, 66, 67, 68, 69, 70, 71, 72, 73, 74, 75, 76, 77, 78, 79, 80, 81, 82, 83, 84, 85, 86, 87] (by decide +kernel) (by decide +kernel)
set_option maxRecDepth 20000 in
theorem gX10_back_X10_isBox : GoodIn wsX10_back (wsV RX10 176 RX10 yX10_isBox wsX10_isBox) := goodIn_app (goodIn_of _ (by decide +kernel)) ggX10_back_X10_isBox
set_option maxRecDepth 20000 in
theorem ggX10_back_X10_plans : GoodIn wsX10_back wsX10_plans := goodIn_r _ [25, 7, 26, 27, 28, 29, 30, 31, 32, 33, 34, 35, 36, 37, 38, 39, 40, 41, 42, 43, 44, 45, 46, 47, 48, 49, 50, 51, 52, 53, 54, 55, 56, 57, 58, 59, 60, 61, 62, 63, 64, 65, 66, 67, 68, 69, 70, 71, 72, 73, 74, 75, 76, 77, 78, 79, 80, 81, 82, 83, 84, 85, 86, 87] (by decide +kernel) (by decide +kernel)
set_option maxRecDepth 20000 in
theorem gX10_back_X10_plans : GoodIn wsX10_back (wsV RX10 179 RX10 yX10_plans wsX10_plans) := goodIn_app (goodIn_of _ (by decide +kernel)) ggX10_back_X10_plans
set_option maxRecDepth 20000 in
theorem ggX10_mishap_X10_in : GoodIn wsX10_mishap wsX10_in := goodIn_r _ [13] (by decide +kernel) (by decide +kernel)
set_option maxRecDepth 20000 in
theorem gX10_mishap_X10_in : GoodIn wsX10_mishap (va_wsS RX10 156 yX10_in wsX10_in) := goodIn_app (goodIn_of _ (by decide +kernel)) ggX10_mishap_X10_in
set_option maxRecDepth 20000 in
theorem ggX10_isHere_X10_in : GoodIn wsX10_isHere wsX10_in := goodIn_r _ [5] (by decide +kernel) (by decide +kernel)
set_option maxRecDepth 20000 in
theorem gX10_isHere_X10_in : GoodIn wsX10_isHere (va_wsS RX10 156 yX10_in wsX10_in) := goodIn_app (goodIn_of _ (by decide +kernel)) ggX10_isHere_X10_in
set_option maxRecDepth 20000 in
theorem ggX10_sentAway_X10_isLeft : GoodIn wsX10_sentAway wsX10_isLeft := goodIn_r _ [11, 4, 3, 28, 29, 30, 31, 32, 33, 34, 35, 36, 37, 38, 39, 40, 41, 42, 43, 44, 45, 46, 47, 48, 49, 50, 51, 52, 53, 54, 55, 56, 57, 58, 59, 60, 61, 62, 63, 64, 65, 66, 67, 68, 69, 70, 71, 72, 73, 74, 75, 76, 77, 78, 79, 80, 81, 82, 83, 84, 85] (by decide +kernel) (by decide +kernel)
set_option maxRecDepth 20000 in
theorem gX10_sentAway_X10_isLeft : GoodIn wsX10_sentAway (wsV RX10 189 RX10 yX10_isLeft wsX10_isLeft) := goodIn_app (goodIn_of _ (by decide +kernel)) ggX10_sentAway_X10_isLeft
set_option maxRecDepth 20000 in
theorem ggX10_sentAway_X10_freeDesk : GoodIn wsX10_sentAway wsX10_freeDesk := goodIn_r _ [15, 16, 17, 28, 29, 30, 31, 32, 33, 34, 35, 36, 37, 38, 39, 40, 41, 42, 43, 44, 45, 46, 47, 48, 49, 50, 51, 52, 53, 54, 55, 56, 57, 58, 59, 60, 61, 62, 63, 64, 65, 66, 67, 68, 69, 70, 71, 72, 73, 74, 75, 76, 77, 78, 79, 80, 81, 82, 83, 84, 85] (by decide +kernel) (by decide +kernel)
set_option maxRecDepth 20000 in
theorem gX10_sentAway_X10_freeDesk : GoodIn wsX10_sentAway (wsV RX10 193 RX10 yX10_freeDesk wsX10_freeDesk) := goodIn_app (goodIn_of _ (by decide +kernel)) ggX10_sentAway_X10_freeDesk
set_option maxRecDepth 20000 in
theorem ggX10_sentAway_X10_event : GoodIn wsX10_sentAway wsX10_event := goodIn_r _ [21, 22, 23, 24, 25, 26, 27, 28, 29, 30, 31, 32, 33, 34, 35, 36, 37, 38, 39, 40, 41, 42, 43, 44, 45, 46, 47, 48, 49, 50, 51, 52, 53, 54, 55, 56, 57, 58, 59, 60, 61, 62, 63, 64, 65, 66, 67, 68, 69, 70, 71, 72, 73, 74, 75, 76, 77, 78, 79, 80, 81, 82, 83, 84, 85] (by decide +kernel) (by decide +kernel)
set_option maxRecDepth 20000 in
theorem gX10_sentAway_X10_event : GoodIn wsX10_sentAway (wsV RX10 196 RX10 yX10_event wsX10_event) := goodIn_app (goodIn_of _ (by decide +kernel)) ggX10_sentAway_X10_event
set_option maxRecDepth 20000 in
theorem ggX10_mishapOf_X10_isHere : GoodIn wsX10_mishapOf wsX10_isHere := goodIn_r _ [10, 11, 12, 13, 9, 14, 42, 43, 44, 45, 46, 47, 48, 49, 50, 51, 52, 53, 54, 55, 56, 57, 58, 59, 60, 61, 62, 63, 64, 65, 66, 67, 68, 69, 70, 71, 72, 73, 74, 75, 76, 77, 78, 79, 80, 81, 82, 83, 84, 85, 86, 87, 88, 89, 90, 91, 92, 93, 94, 95, 96, 97, 98, 99] (by decide +kernel) (by decide +kernel)
set_option maxRecDepth 20000 in
theorem gX10_mishapOf_X10_isHere : GoodIn wsX10_mishapOf (wsV RX10 200 RX10 yX10_isHere wsX10_isHere) := goodIn_app (goodIn_of _ (by decide +kernel)) ggX10_mishapOf_X10_isHere
set_option maxRecDepth 20000 in
theorem ggX10_mishapOf_X10_sentAway : GoodIn wsX10_mishapOf wsX10_sentAway := goodIn_r _ [18, 19, 20, 5, 2, 21, 11, 22, 23, 24, 9, 25, 26, 27, 28, 29, 30, 31, 32, 33, 34, 35, 36, 37, 38, 39, 40, 41, 42, 43, 44, 45, 46, 47, 48, 49, 50, 51, 52, 53, 54, 55, 56, 57, 58, 59, 60, 61, 62, 63, 64, 65, 66, 67, 68, 69, 70, 71, 72, 73, 74, 75, 76, 77, 78, 79, 80, 81, 82, 83, 84, 85, 86, 87, 88, 89, 90, 91, 92, 93, 94, 95, 96, 97, 98, 99] (by decide +kernel) (by decide +kernel)
set_option maxRecDepth 20000 in
theorem gX10_mishapOf_X10_sentAway : GoodIn wsX10_mishapOf (wsV RX10 203 RX10 yX10_sentAway wsX10_sentAway) := goodIn_app (goodIn_of _ (by decide +kernel)) ggX10_mishapOf_X10_sentAway
set_option maxRecDepth 20000 in
theorem ggX10_doMishaps_X10_mishapOf : GoodIn wsX10_doMishaps wsX10_mishapOf := goodIn_r _ [10, 11, 12, 13, 14, 15, 16, 17, 18, 9, 19, 20, 21, 22, 23, 24, 25, 26, 27, 28, 29, 30, 31, 32, 33, 34, 35, 36, 37, 38, 39, 40, 41, 42, 43, 44, 45, 46, 3, 47, 48, 49, 50, 51, 52, 53, 54, 55, 56, 57, 58, 59, 60, 61, 62, 63, 64, 65, 66, 67, 68, 69, 70, 71, 72, 73, 74, 75, 76, 77, 78, 79, 80, 81, 82, 83, 84, 85, 86, 87, 88, 89, 90, 91, 92, 93, 94, 95, 96, 97, 98, 99, 100, 101, 102, 103, 104, 105, 106, 107] (by decide +kernel) (by decide +kernel)
set_option maxRecDepth 20000 in
theorem gX10_doMishaps_X10_mishapOf : GoodIn wsX10_doMishaps (wsV RX10 207 RX10 yX10_mishapOf wsX10_mishapOf) := goodIn_app (goodIn_of _ (by decide +kernel)) ggX10_doMishaps_X10_mishapOf
set_option maxRecDepth 20000 in
theorem ggX10_doBell_X10_event : GoodIn wsX10_doBell wsX10_event := goodIn_r _ [13, 14, 15, 1, 16, 17, 18, 44, 45, 46, 47, 48, 49, 50, 51, 52, 53, 54, 55, 56, 57, 58, 59, 60, 61, 62, 63, 64, 65, 66, 67, 68, 69, 70, 71, 72, 73, 74, 75, 76, 77, 78, 79, 80, 81, 82, 83, 84, 85, 86, 87, 88, 89, 90, 91, 92, 93, 94, 95, 96, 97, 98, 99, 100, 101] (by decide +kernel) (by decide +kernel)
set_option maxRecDepth 20000 in
theorem gX10_doBell_X10_event : GoodIn wsX10_doBell (wsV RX10 196 RX10 yX10_event wsX10_event) := goodIn_app (goodIn_of _ (by decide +kernel)) ggX10_doBell_X10_event
set_option maxRecDepth 20000 in
theorem ggX10_doBell_X10_isHere : GoodIn wsX10_doBell wsX10_isHere := goodIn_r _ [22, 4, 23, 24, 12, 25, 44, 45, 46, 47, 48, 49, 50, 51, 52, 53, 54, 55, 56, 57, 58, 59, 60, 61, 62, 63, 64, 65, 66, 67, 68, 69, 70, 71, 72, 73, 74, 75, 76, 77, 78, 79, 80, 81, 82, 83, 84, 85, 86, 87, 88, 89, 90, 91, 92, 93, 94, 95, 96, 97, 98, 99, 100, 101] (by decide +kernel) (by decide +kernel)
set_option maxRecDepth 20000 in
theorem gX10_doBell_X10_isHere : GoodIn wsX10_doBell (wsV RX10 200 RX10 yX10_isHere wsX10_isHere) := goodIn_app (goodIn_of _ (by decide +kernel)) ggX10_doBell_X10_isHere
