set_option maxRecDepth 20000 in
theorem ggX10_isReader_X10_in : GoodIn wsX10_isReader wsX10_in := goodIn_r _ [5] (by decide +kernel) (by decide +kernel)
set_option maxRecDepth 20000 in
theorem gX10_isReader_X10_in : GoodIn wsX10_isReader (va_wsS RX10 156 yX10_in wsX10_in) := goodIn_app (goodIn_of _ (by decide +kernel)) ggX10_isReader_X10_in
set_option maxRecDepth 20000 in
theorem ggX10_isBox_X10_in : GoodIn wsX10_isBox wsX10_in := goodIn_r _ [5] (by decide +kernel) (by decide +kernel)
set_option maxRecDepth 20000 in
theorem gX10_isBox_X10_in : GoodIn wsX10_isBox (va_wsS RX10 156 yX10_in wsX10_in) := goodIn_app (goodIn_of _ (by decide +kernel)) ggX10_isBox_X10_in
set_option maxRecDepth 20000 in
theorem ggX10_box_X10_in : GoodIn wsX10_box wsX10_in := goodIn_r _ [11] (by decide +kernel) (by decide +kernel)
set_option maxRecDepth 20000 in
theorem gX10_box_X10_in : GoodIn wsX10_box (va_wsS RX10 156 yX10_in wsX10_in) := goodIn_app (goodIn_of _ (by decide +kernel)) ggX10_box_X10_in
set_option maxRecDepth 20000 in
theorem ggX10_people_X10_in : GoodIn wsX10_people wsX10_in := goodIn_r _ [9] (by decide +kernel) (by decide +kernel)
set_option maxRecDepth 20000 in
theorem gX10_people_X10_in : GoodIn wsX10_people (va_wsS RX10 156 yX10_in wsX10_in) := goodIn_app (goodIn_of _ (by decide +kernel)) ggX10_people_X10_in
set_option maxRecDepth 20000 in
theorem ggX10_reader_X10_in : GoodIn wsX10_reader wsX10_in := goodIn_r _ [12] (by decide +kernel) (by decide +kernel)
set_option maxRecDepth 20000 in
theorem gX10_reader_X10_in : GoodIn wsX10_reader (va_wsS RX10 156 yX10_in wsX10_in) := goodIn_app (goodIn_of _ (by decide +kernel)) ggX10_reader_X10_in
set_option maxRecDepth 20000 in
theorem ggX10_canPlan_X10_isReader : GoodIn wsX10_canPlan wsX10_isReader := goodIn_r _ [7, 8, 9, 10, 6, 11, 12, 13, 14, 15, 16, 17, 18, 19, 20, 21, 22, 23, 24, 25, 26, 27, 28, 29, 30, 31, 32, 33, 34, 35, 36, 37, 38, 39, 40, 41, 42, 43, 44, 45, 46, 47, 48, 49, 50, 51, 52, 53, 54, 55, 56, 57, 58, 59, 60, 61, 62, 63, 64, 65, 66, 67, 68, 69] (by decide +kernel) (by decide +kernel)
set_option maxRecDepth 20000 in
theorem gX10_canPlan_X10_isReader : GoodIn wsX10_canPlan (wsV RX10 169 RX10 yX10_isReader wsX10_isReader) := goodIn_app (goodIn_of _ (by decide +kernel)) ggX10_canPlan_X10_isReader
set_option maxRecDepth 20000 in
theorem ggX10_canPlan_X10_in : GoodIn wsX10_canPlan wsX10_in := goodIn_r _ [11] (by decide +kernel) (by decide +kernel)
set_option maxRecDepth 20000 in
theorem gX10_canPlan_X10_in : GoodIn wsX10_canPlan (va_wsS RX10 156 yX10_in wsX10_in) := goodIn_app (goodIn_of _ (by decide +kernel)) ggX10_canPlan_X10_in
set_option maxRecDepth 20000 in
theorem ggX10_ask_X10_canPlan : GoodIn wsX10_ask wsX10_canPlan := goodIn_r _ [6, 7, 8, 9, 10, 11, 5, 12, 13, 14, 15, 16, 30, 31, 32, 33, 34, 35, 36, 37, 38, 39, 40, 41, 42, 43, 44, 45, 46, 47, 48, 49, 50, 51, 52, 53, 54, 55, 56, 57, 58, 59, 60, 61, 62, 63, 64, 65, 66, 67, 68, 69, 70, 71, 72, 73, 74, 75, 76, 77, 78, 79, 80, 81, 82, 83, 84, 85, 86, 87] (by decide +kernel) (by decide +kernel)
set_option maxRecDepth 20000 in
theorem gX10_ask_X10_canPlan : GoodIn wsX10_ask (wsV RX10 173 RX10 yX10_canPlan wsX10_canPlan) := goodIn_app (goodIn_of _ (by decide +kernel)) ggX10_ask_X10_canPlan
set_option maxRecDepth 20000 in
theorem ggX10_ask_X10_isBox : GoodIn wsX10_ask wsX10_isBox := goodIn_r _ [20, 21, 14, 15, 5, 16, 30, 31, 32, 33, 34, 35, 36, 37, 38, 39, 40, 41, 42, 43, 44, 45, 46, 47, 48, 49, 50, 51, 52, 53, 54, 55, 56, 57, 58, 59, 60, 61, 62, 63, 64, 65, 66, 67, 68, 69, 70, 71, 72, 73, 74, 75, 76, 77, 78, 79, 80, 81, 82, 83, 84, 85, 86, 87] (by decide +kernel) (by decide +kernel)
set_option maxRecDepth 20000 in
theorem gX10_ask_X10_isBox : GoodIn wsX10_ask (wsV RX10 176 RX10 yX10_isBox wsX10_isBox) := goodIn_app (goodIn_of _ (by decide +kernel)) ggX10_ask_X10_isBox
set_option maxRecDepth 20000 in
theorem ggX10_ask_X10_plans : GoodIn wsX10_ask wsX10_plans := goodIn_r _ [25, 7, 26, 27, 28, 29, 30, 31, 32, 33, 34, 35, 36, 37, 38, 39, 40, 41, 42, 43, 44, 45, 46, 47, 48, 49, 50, 51, 52, 53, 54, 55, 56, 57, 58, 59, 60, 61, 62, 63, 64, 65, 66, 67, 68, 69, 70, 71, 72, 73, 74, 75, 76, 77, 78, 79, 80, 81, 82, 83, 84, 85, 86, 87] (by decide +kernel) (by decide +kernel)
set_option maxRecDepth 20000 in
theorem gX10_ask_X10_plans : GoodIn wsX10_ask (wsV RX10 179 RX10 yX10_plans wsX10_plans) := goodIn_app (goodIn_of _ (by decide +kernel)) ggX10_ask_X10_plans
set_option maxRecDepth 20000 in
theorem ggX10_read_X10_canPlan : GoodIn wsX10_read wsX10_canPlan := goodIn_r _ [6, 7, 8, 9, 10, 11, 5, 12, 13, 14, 15, 16, 25, 26, 27, 28, 29, 30, 31, 32, 33, 34, 35, 36, 37, 38, 39, 40, 41, 42, 43, 44, 45, 46, 47, 48, 49, 50, 51, 52, 53, 54, 55, 56, 57, 58, 59, 60, 61, 62, 63, 64, 65, 66, 67, 68, 69, 70, 71, 72, 73, 74, 75, 76, 77, 78, 79, 80, 81, 82] (by decide +kernel) (by decide +kernel)
set_option maxRecDepth 20000 in
theorem gX10_read_X10_canPlan : GoodIn wsX10_read (wsV RX10 173 RX10 yX10_canPlan wsX10_canPlan) := goodIn_app (goodIn_of _ (by decide +kernel)) ggX10_read_X10_canPlan
set_option maxRecDepth 20000 in
theorem ggX10_read_X10_in : GoodIn wsX10_read wsX10_in := goodIn_r _ [16] (by decide +kernel) (by decide +kernel)
set_option maxRecDepth 20000 in
theorem gX10_read_X10_in : GoodIn wsX10_read (va_wsS RX10 156 yX10_in wsX10_in) := goodIn_app (goodIn_of _ (by decide +kernel)) ggX10_read_X10_in
set_option maxRecDepth 20000 in
theorem ggX10_read_X10_plans : GoodIn wsX10_read wsX10_plans := goodIn_r _ [20, 7, 21, 22, 23, 24, 25, 26, 27, 28, 29, 30, 31, 32, 33, 34, 35, 36, 37, 38, 39, 40, 41, 42, 43, 44, 45, 46, 47, 48, 49, 50, 51, 52, 53, 54, 55, 56, 57, 58, 59, 60, 61, 62, 63, 64, 65, 66, 67, 68, 69, 70, 71, 72, 73, 74, 75, 76, 77, 78, 79, 80, 81, 82] (by decide +kernel) (by decide +kernel)
set_option maxRecDepth 20000 in
theorem gX10_read_X10_plans : GoodIn wsX10_read (wsV RX10 179 RX10 yX10_plans wsX10_plans) := goodIn_app (goodIn_of _ (by decide +kernel)) ggX10_read_X10_plans
set_option maxRecDepth 20000 in
theorem ggX10_copy_X10_canPlan : GoodIn wsX10_copy wsX10_canPlan := goodIn_r _ [6, 7, 8, 9, 10, 11, 5, 12, 13, 14, 15, 16, 30, 31, 32, 33, 34, 35, 36, 37, 38, 39, 40, 41, 42, 43, 44, 45, 46, 47, 48, 49, 50, 51, 52, 53, 54, 55, 56, 57, 58, 59, 60, 61, 62, 63, 64, 65, 66, 67, 68, 69, 70, 71, 72, 73, 74, 75, 76, 77, 78, 79, 80, 81, 82, 83, 84, 85, 86, 87] (by decide +kernel) (by decide +kernel)
set_option maxRecDepth 20000 in
theorem gX10_copy_X10_canPlan : GoodIn wsX10_copy (wsV RX10 173 RX10 yX10_canPlan wsX10_canPlan) := goodIn_app (goodIn_of _ (by decide +kernel)) ggX10_copy_X10_canPlan
set_option maxRecDepth 20000 in
theorem ggX10_copy_X10_isBox : GoodIn wsX10_copy wsX10_isBox := goodIn_r _ [20, 21, 14, 15, 5, 16, 30, 31, 32, 33, 34, 35, 36, 37, 38, 39, 40, 41, 42, 43, 44, 45, 46, 47, 48, 49, 50, 51, 52, 53, 54, 55, 56, 57, 58, 59, 60, 61, 62, 63, 64, 65, 66, 67, 68, 69, 70, 71, 72, 73, 74, 75, 76, 77, 78, 79, 80, 81, 82, 83, 84, 85, 86, 87] (by decide +kernel) (by decide +kernel)
set_option maxRecDepth 20000 in
theorem gX10_copy_X10_isBox : GoodIn wsX10_copy (wsV RX10 176 RX10 yX10_isBox wsX10_isBox) := goodIn_app (goodIn_of _ (by decide +kernel)) ggX10_copy_X10_isBox
set_option maxRecDepth 20000 in
theorem ggX10_copy_X10_in : GoodIn wsX10_copy wsX10_in := goodIn_r _ [16] (by decide +kernel) (by decide +kernel)
set_option maxRecDepth 20000 in
theorem gX10_copy_X10_in : GoodIn wsX10_copy (va_wsS RX10 156 yX10_in wsX10_in) := goodIn_app (goodIn_of _ (by decide +kernel)) ggX10_copy_X10_in
set_option maxRecDepth 20000 in
theorem ggX10_copy_X10_plans : GoodIn wsX10_copy wsX10_plans := goodIn_r _ [25, 7, 26, 27, 28, 29, 30, 31, 32, 33, 34, 35, 36, 37, 38, 39, 40, 41, 42, 43, 44, 45, 46, 47, 48, 49, 50, 51, 52, 53, 54, 55, 56, 57, 58, 59, 60, 61, 62, 63, 64, 65, 66, 67, 68, 69, 70, 71, 72, 73, 74, 75, 76, 77, 78, 79, 80, 81, 82, 83, 84, 85, 86, 87] (by decide +kernel) (by decide +kernel)
set_option maxRecDepth 20000 in
theorem gX10_copy_X10_plans : GoodIn wsX10_copy (wsV RX10 179 RX10 yX10_plans wsX10_plans) := goodIn_app (goodIn_of _ (by decide +kernel)) ggX10_copy_X10_plans
set_option maxRecDepth 20000 in
theorem ggX10_back_X10_canPlan : GoodIn wsX10_back wsX10_canPlan := goodIn_r _ [6, 7, 8, 9, 10, 11, 5, 12, 13, 14, 15, 16, 30, 31, 32, 33, 34, 35, 36, 37, 38, 39, 40, 41, 42, 43, 44, 45, 46, 47, 48, 49, 50, 51, 52, 53, 54, 55, 56, 57, 58, 59, 60, 61, 62, 63, 64, 65, 66, 67, 68, 69, 70, 71, 72, 73, 74, 75, 76, 77, 78, 79, 80, 81, 82, 83, 84, 85, 86, 87] (by decide +kernel) (by decide +kernel)
set_option maxRecDepth 20000 in
theorem gX10_back_X10_canPlan : GoodIn wsX10_back (wsV RX10 173 RX10 yX10_canPlan wsX10_canPlan) := goodIn_app (goodIn_of _ (by decide +kernel)) ggX10_back_X10_canPlan
set_option maxRecDepth 20000 in
theorem ggX10_back_X10_isBox : GoodIn wsX10_back wsX10_isBox := goodIn_r _ [20, 21, 14, 15, 5, 16, 30, 31, 32, 33, 34, 35, 36, 37, 38, 39, 40, 41, 42, 43, 44, 45, 46, 47, 48, 49, 50, 51, 52, 53, 54, 55, 56, 57, 58, 59, 60, 61, 62, 63, 64, 65, 66, 67, 68, 69, 70, 71, 72, 73, 74, 75, 76, 77, 78, 79, 80, 81, 82, 83, 84, 85, 86, 87] (by decide +kernel) (by decide +kernel)
set_option maxRecDepth 20000 in
theorem gX10_back_X10_isBox : GoodIn wsX10_back (wsV RX10 176 RX10 yX10_isBox wsX10_isBox) := goodIn_app (goodIn_of _ (by decide +kernel)) ggX10_back_X10_isBox
set_option maxRecDepth 20000 in
theorem ggX10_back_X10_plans : GoodIn wsX10_back wsX10_plans := goodIn_r _ [25, 7, 26, 27, 28, 29, 30, 31, 32, 33, 34, 35, 36, 37, 38, 39, 40, 41, 42, 43, 44, 45, 46, 47, 48, 49, 50, 51, 52, 53, 54, 55, 56, 57, 58, 59, 60, 61, 62, 63, 64, 65, 66, 67, 68, 69, 70, 71, 72, 73, 74, 75, 76, 77, 78, 79, 80, 81, 82, 83, 84, 85, 86, 87] (by decide +kernel) (by decide +kernel)
set_option maxRecDepth 20000 in
theorem gX10_back_X10_plans : GoodIn wsX10_back (wsV RX10 179 RX10 yX10_plans wsX10_plans) := goodIn_app (goodIn_of _ (by decide +kernel)) ggX10_back_X10_plans
set_option maxRecDepth 20000 in
theorem ggX10_mishap_X10_in : GoodIn wsX10_mishap wsX10_in := goodIn_r _ [13] (by decide +kernel) (by decide +kernel)
set_option maxRecDepth 20000 in
theorem gX10_mishap_X10_in : GoodIn wsX10_mishap (va_wsS RX10 156 yX10_in wsX10_in) := goodIn_app (goodIn_of _ (by decide +kernel)) ggX10_mishap_X10_in
set_option maxRecDepth 20000 in
theorem ggX10_doMishaps_X10_mishapOf : GoodIn wsX10_doMishaps wsX10_mishapOf := goodIn_r _ [10, 11, 12, 13, 14, 15, 16, 17, 18, 9, 19, 20, 21, 22, 23, 24, 25, 26, 27, 28, 29, 30, 31, 32, 33, 34, 35, 36, 37, 38, 39, 40, 41, 42, 43, 44, 45, 46, 3, 47, 48, 49, 50, 51, 52, 53, 54, 55, 56, 57, 58, 59, 60, 61, 62, 63, 64, 65, 66, 67, 68, 69, 70, 71, 72, 73, 74, 75, 76, 77, 78, 79, 80, 81, 82, 83, 84, 85, 86, 87, 88, 89, 90, 91, 92, 93, 94, 95, 96, 97, 98, 99, 100, 101, 102, 103, 104, 105, 106, 107] (by decide +kernel) (by decide +kernel)
set_option maxRecDepth 20000 in
theorem gX10_doMishaps_X10_mishapOf : GoodIn wsX10_doMishaps (wsV RX10 207 RX10 yX10_mishapOf wsX10_mishapOf) := goodIn_app (goodIn_of _ (by decide +kernel)) ggX10_doMishaps_X10_mishapOf
set_option maxRecDepth 20000 in
theorem ggX10_doBell_X10_event : GoodIn wsX10_doBell wsX10_event := goodIn_r _ [13, 14, 15, 1, 16, 17, 18, 44, 45, 46, 47, 48, 49, 50, 51, 52, 53, 54, 55, 56, 57, 58, 59, 60, 61, 62, 63, 64, 65, 66, 67, 68, 69, 70, 71, 72, 73, 74, 75, 76, 77, 78, 79, 80, 81, 82, 83, 84, 85, 86, 87, 88, 89, 90, 91, 92, 93, 94, 95, 96, 97, 98, 99, 100, 101] (by decide +kernel) (by decide +kernel)
set_option maxRecDepth 20000 in
theorem gX10_doBell_X10_event : GoodIn wsX10_doBell (wsV RX10 196 RX10 yX10_event wsX10_event) := goodIn_app (goodIn_of _ (by decide +kernel)) ggX10_doBell_X10_event
set_option maxRecDepth 20000 in
theorem ggX10_doBell_X10_isHere : GoodIn wsX10_doBell wsX10_isHere := goodIn_r _ [22, 4, 23, 24, 12, 25, 44, 45, 46, 47, 48, 49, 50, 51, 52, 53, 54, 55, 56, 57, 58, 59, 60, 61, 62, 63, 64, 65, 66, 67, 68, 69, 70, 71, 72, 73, 74, 75, 76, 77, 78, 79, 80, 81, 82, 83, 84, 85, 86, 87, 88, 89, 90, 91, 92, 93, 94, 95, 96, 97, 98, 99, 100, 101] (by decide +kernel) (by decide +kernel)
set_option maxRecDepth 20000 in
theorem gX10_doBell_X10_isHere : GoodIn wsX10_doBell (wsV RX10 200 RX10 yX10_isHere wsX10_isHere) := goodIn_app (goodIn_of _ (by decide +kernel)) ggX10_doBell_X10_isHere
set_option maxRecDepth 20000 in
theorem ggX10_doBell_X10_sentAway : GoodIn wsX10_doBell wsX10_sentAway := goodIn_r _ [29, 30, 31, 32, 8, 33, 4, 34, 35, 36, 12, 37, 38, 39, 40, 41, 42, 43, 9, 10, 11, 13, 14, 15, 1, 16, 17, 18, 44, 45, 46, 47, 48, 49, 50, 51, 52, 53, 54, 55, 56, 57, 58, 59, 60, 61, 62, 63, 64, 65, 66, 67, 68, 69, 70, 71, 72, 73, 74, 75, 76, 77, 78, 79, 80, 81, 82, 83, 84, 85, 86, 87, 88, 89, 90, 91, 92, 93, 94, 95, 96, 97, 98, 99, 100, 101] (by decide +kernel) (by decide +kernel)
set_option maxRecDepth 20000 in
theorem gX10_doBell_X10_sentAway : GoodIn wsX10_doBell (wsV RX10 203 RX10 yX10_sentAway wsX10_sentAway) := goodIn_app (goodIn_of _ (by decide +kernel)) ggX10_doBell_X10_sentAway
set_option maxRecDepth 20000 in
theorem ggX10_doFetchers_X10_event : GoodIn wsX10_doFetchers wsX10_event := goodIn_r _ [13, 14, 15, 16, 17, 18, 19, 20, 21, 22, 23, 24, 25, 26, 27, 28, 29, 30, 31, 32, 33, 34, 35, 36, 37, 38, 39, 40, 41, 42, 43, 44, 45, 46, 47, 48, 49, 50, 51, 52, 53, 54, 55, 56, 57, 58, 59, 60, 61, 62, 63, 64, 65, 66, 67, 68, 69, 70, 71, 72, 73, 74, 75, 76, 77] (by decide +kernel) (by decide +kernel)
set_option maxRecDepth 20000 in
theorem gX10_doFetchers_X10_event : GoodIn wsX10_doFetchers (wsV RX10 196 RX10 yX10_event wsX10_event) := goodIn_app (goodIn_of _ (by decide +kernel)) ggX10_doFetchers_X10_event
set_option maxRecDepth 20000 in
theorem ggX10_doCopyists_X10_event : GoodIn wsX10_doCopyists wsX10_event := goodIn_r _ [13, 14, 15, 16, 17, 18, 19, 20, 21, 22, 23, 24, 25, 26, 27, 28, 29, 30, 31, 32, 33, 34, 35, 36, 37, 38, 39, 40, 41, 42, 43, 44, 45, 46, 47, 48, 49, 50, 51, 52, 53, 54, 55, 56, 57, 58, 59, 60, 61, 62, 63, 64, 65, 66, 67, 68, 69, 70, 71, 72, 73, 74, 75, 76, 77] (by decide +kernel) (by decide +kernel)
set_option maxRecDepth 20000 in
theorem gX10_doCopyists_X10_event : GoodIn wsX10_doCopyists (wsV RX10 196 RX10 yX10_event wsX10_event) := goodIn_app (goodIn_of _ (by decide +kernel)) ggX10_doCopyists_X10_event
set_option maxRecDepth 20000 in
theorem ggX10_findLine_X10_isAhead : GoodIn wsX10_findLine wsX10_isAhead := goodIn_r _ [9, 10, 11, 12, 13, 14, 15, 16, 17, 18, 19, 20, 21, 22, 23, 24, 25, 26, 27, 28, 29, 30, 31, 32, 33, 34, 35, 36, 37, 38, 39, 40, 41, 42, 43, 44, 45, 46, 47, 48, 49, 50, 51, 52, 53, 54, 55, 56, 57, 58, 59, 60, 61, 62, 63, 64, 65, 66, 67, 68, 69] (by decide +kernel) (by decide +kernel)
set_option maxRecDepth 20000 in
theorem gX10_findLine_X10_isAhead : GoodIn wsX10_findLine (wsV RX10 233 RX10 yX10_isAhead wsX10_isAhead) := goodIn_app (goodIn_of _ (by decide +kernel)) ggX10_findLine_X10_isAhead
set_option maxRecDepth 20000 in
theorem ggX10_doDesks_X10_findLine : GoodIn wsX10_doDesks wsX10_findLine := goodIn_r _ [13, 1, 6, 5, 2, 14, 15, 16, 12, 17, 18, 19, 37, 38, 39, 40, 41, 42, 43, 44, 45, 46, 47, 48, 49, 50, 51, 52, 53, 54, 55, 56, 57, 58, 59, 60, 61, 62, 63, 64, 65, 66, 67, 68, 69, 70, 71, 72, 73, 74, 75, 76, 77, 78, 79, 80, 81, 82, 83, 84, 85, 86, 87, 88, 89, 90, 91, 92, 93, 94] (by decide +kernel) (by decide +kernel)
set_option maxRecDepth 20000 in
theorem gX10_doDesks_X10_findLine : GoodIn wsX10_doDesks (wsV RX10 237 RX10 yX10_findLine wsX10_findLine) := goodIn_app (goodIn_of _ (by decide +kernel)) ggX10_doDesks_X10_findLine
set_option maxRecDepth 20000 in
theorem ggX10_doDesks_X10_deskFor : GoodIn wsX10_doDesks wsX10_deskFor := goodIn_r _ [23, 24, 3, 25, 26, 37, 38, 39, 40, 41, 42, 43, 44, 45, 46, 47, 48, 49, 50, 51, 52, 53, 54, 55, 56, 57, 58, 59, 60, 61, 62, 63, 64, 65, 66, 67, 68, 69, 70, 71, 72, 73, 74, 75, 76, 77, 78, 79, 80, 81, 82, 83, 84, 85, 86, 87, 88, 89, 90, 91, 92, 93, 94] (by decide +kernel) (by decide +kernel)
set_option maxRecDepth 20000 in
theorem gX10_doDesks_X10_deskFor : GoodIn wsX10_doDesks (wsV RX10 240 RX10 yX10_deskFor wsX10_deskFor) := goodIn_app (goodIn_of _ (by decide +kernel)) ggX10_doDesks_X10_deskFor
set_option maxRecDepth 20000 in
theorem ggX10_doDesks_X10_event : GoodIn wsX10_doDesks wsX10_event := goodIn_r _ [30, 31, 32, 33, 34, 35, 36, 37, 38, 39, 40, 41, 42, 43, 44, 45, 46, 47, 48, 49, 50, 51, 52, 53, 54, 55, 56, 57, 58, 59, 60, 61, 62, 63, 64, 65, 66, 67, 68, 69, 70, 71, 72, 73, 74, 75, 76, 77, 78, 79, 80, 81, 82, 83, 84, 85, 86, 87, 88, 89, 90, 91, 92, 93, 94] (by decide +kernel) (by decide +kernel)
set_option maxRecDepth 20000 in
theorem gX10_doDesks_X10_event : GoodIn wsX10_doDesks (wsV RX10 196 RX10 yX10_event wsX10_event) := goodIn_app (goodIn_of _ (by decide +kernel)) ggX10_doDesks_X10_event
set_option maxRecDepth 20000 in
theorem ggX10_doWays_X10_leftBox : GoodIn wsX10_doWays wsX10_leftBox := goodIn_r _ [13, 14, 3, 20, 21, 22, 23, 24, 25, 26, 27, 28, 29, 30, 31, 32, 33, 34, 35, 36, 37, 38, 39, 40, 41, 42, 43, 44, 45, 46, 47, 48, 49, 50, 51, 52, 53, 54, 55, 56, 57, 58, 59, 60, 61, 62, 63, 64, 65, 66, 67, 68, 69, 70, 71, 72, 73, 74, 75, 76, 77] (by decide +kernel) (by decide +kernel)
set_option maxRecDepth 20000 in
theorem gX10_doWays_X10_leftBox : GoodIn wsX10_doWays (wsV RX10 243 RX10 yX10_leftBox wsX10_leftBox) := goodIn_app (goodIn_of _ (by decide +kernel)) ggX10_doWays_X10_leftBox
set_option maxRecDepth 20000 in
theorem ggX10_doWays_X10_wantedBox : GoodIn wsX10_doWays wsX10_wantedBox := goodIn_r _ [18, 14, 3, 5, 19, 20, 21, 22, 23, 24, 25, 26, 27, 28, 29, 30, 31, 32, 33, 34, 35, 36, 37, 38, 39, 40, 41, 42, 43, 44, 45, 46, 47, 48, 49, 50, 51, 52, 53, 54, 55, 56, 57, 58, 59, 60, 61, 62, 63, 64, 65, 66, 67, 68, 69, 70, 71, 72, 73, 74, 75, 76, 77] (by decide +kernel) (by decide +kernel)
set_option maxRecDepth 20000 in
theorem gX10_doWays_X10_wantedBox : GoodIn wsX10_doWays (wsV RX10 247 RX10 yX10_wantedBox wsX10_wantedBox) := goodIn_app (goodIn_of _ (by decide +kernel)) ggX10_doWays_X10_wantedBox
set_option maxRecDepth 20000 in
theorem ggX10_doCopies_X10_copyBox : GoodIn wsX10_doCopies wsX10_copyBox := goodIn_r _ [16, 17, 9, 4, 18, 19, 20, 21, 22, 23, 24, 25, 26, 27, 28, 29, 30, 31, 32, 33, 34, 35, 36, 37, 38, 39, 40, 41, 42, 43, 44, 45, 46, 47, 48, 49, 50, 51, 52, 53, 54, 55, 56, 57, 58, 59, 60, 61, 62, 63, 64, 65, 66, 67, 68, 69, 70, 71, 72, 73, 74, 75, 76] (by decide +kernel) (by decide +kernel)
set_option maxRecDepth 20000 in
theorem gX10_doCopies_X10_copyBox : GoodIn wsX10_doCopies (wsV RX10 253 RX10 yX10_copyBox wsX10_copyBox) := goodIn_app (goodIn_of _ (by decide +kernel)) ggX10_doCopies_X10_copyBox
set_option maxRecDepth 20000 in
theorem ggX10_run_X10_in : GoodIn wsX10_run wsX10_in := goodIn_r _ [6] (by decide +kernel) (by decide +kernel)
set_option maxRecDepth 20000 in
theorem gX10_run_X10_in : GoodIn wsX10_run (va_wsS RX10 156 yX10_in wsX10_in) := goodIn_app (goodIn_of _ (by decide +kernel)) ggX10_run_X10_in
set_option maxRecDepth 20000 in
theorem ggX10_about_X10_isReader : GoodIn wsX10_about wsX10_isReader := goodIn_r _ [14, 15, 16, 17, 13, 18, 25, 26, 27, 28, 29, 30, 31, 32, 33, 34, 35, 36, 37, 38, 39, 40, 41, 42, 43, 44, 45, 46, 47, 48, 49, 50, 51, 52, 53, 54, 55, 56, 57, 58, 59, 60, 61, 62, 63, 64, 65, 66, 67, 68, 69, 70, 71, 72, 73, 74, 75, 76, 77, 78, 79, 80, 81, 82] (by decide +kernel) (by decide +kernel)
set_option maxRecDepth 20000 in
theorem gX10_about_X10_isReader : GoodIn wsX10_about (wsV RX10 169 RX10 yX10_isReader wsX10_isReader) := goodIn_app (goodIn_of _ (by decide +kernel)) ggX10_about_X10_isReader
set_option maxRecDepth 20000 in
theorem ggX10_about_X10_hasMany : GoodIn wsX10_about wsX10_hasMany := goodIn_r _ [22, 23, 24, 25, 26, 27, 28, 29, 30, 31, 32, 33, 34, 35, 36, 37, 38, 39, 40, 41, 42, 43, 44, 45, 46, 47, 48, 49, 50, 51, 52, 53, 54, 55, 56, 57, 58, 59, 60, 61, 62, 63, 64, 65, 66, 67, 68, 69, 70, 71, 72, 73, 74, 75, 76, 77, 78, 79, 80, 81, 82] (by decide +kernel) (by decide +kernel)
set_option maxRecDepth 20000 in
theorem gX10_about_X10_hasMany : GoodIn wsX10_about (wsV RX10 213 RX10 yX10_hasMany wsX10_hasMany) := goodIn_app (goodIn_of _ (by decide +kernel)) ggX10_about_X10_hasMany
set_option maxRecDepth 20000 in
theorem ggX10_held_X10_isReader : GoodIn wsX10_held wsX10_isReader := goodIn_r _ [8, 9, 10, 11, 7, 12, 13, 14, 15, 16, 17, 18, 19, 20, 21, 22, 23, 24, 25, 26, 27, 28, 29, 30, 31, 32, 33, 34, 35, 36, 37, 38, 39, 40, 41, 42, 43, 44, 45, 46, 47, 48, 49, 50, 51, 52, 53, 54, 55, 56, 57, 58, 59, 60, 61, 62, 63, 64, 65, 66, 67, 68, 69, 70] (by decide +kernel) (by decide +kernel)
set_option maxRecDepth 20000 in
theorem gX10_held_X10_isReader : GoodIn wsX10_held (wsV RX10 169 RX10 yX10_isReader wsX10_isReader) := goodIn_app (goodIn_of _ (by decide +kernel)) ggX10_held_X10_isReader
set_option maxRecDepth 20000 in
theorem ggX10_refused_X10_isReader : GoodIn wsX10_refused wsX10_isReader := goodIn_r _ [8, 9, 10, 11, 7, 12, 13, 14, 15, 16, 17, 18, 19, 20, 21, 22, 23, 24, 25, 26, 27, 28, 29, 30, 31, 32, 33, 34, 35, 36, 37, 38, 39, 40, 41, 42, 43, 44, 45, 46, 47, 48, 49, 50, 51, 52, 53, 54, 55, 56, 57, 58, 59, 60, 61, 62, 63, 64, 65, 66, 67, 68, 69, 70] (by decide +kernel) (by decide +kernel)
set_option maxRecDepth 20000 in
theorem gX10_refused_X10_isReader : GoodIn wsX10_refused (wsV RX10 169 RX10 yX10_isReader wsX10_isReader) := goodIn_app (goodIn_of _ (by decide +kernel)) ggX10_refused_X10_isReader
set_option maxRecDepth 20000 in
theorem ggX10_refused_X10_in : GoodIn wsX10_refused wsX10_in := goodIn_r _ [12] (by decide +kernel) (by decide +kernel)
set_option maxRecDepth 20000 in
theorem gX10_refused_X10_in : GoodIn wsX10_refused (va_wsS RX10 156 yX10_in wsX10_in) := goodIn_app (goodIn_of _ (by decide +kernel)) ggX10_refused_X10_in
set_option maxRecDepth 20000 in
theorem ggX10_place_X10_isBox : GoodIn wsX10_place wsX10_isBox := goodIn_r _ [7, 8, 9, 10, 6, 11, 12, 13, 14, 15, 16, 17, 18, 19, 20, 21, 22, 23, 24, 25, 26, 27, 28, 29, 30, 31, 32, 33, 34, 35, 36, 37, 38, 39, 40, 41, 42, 43, 44, 45, 46, 47, 48, 49, 50, 51, 52, 53, 54, 55, 56, 57, 58, 59, 60, 61, 62, 63, 64, 65, 66, 67, 68, 69] (by decide +kernel) (by decide +kernel)
set_option maxRecDepth 20000 in
theorem gX10_place_X10_isBox : GoodIn wsX10_place (wsV RX10 176 RX10 yX10_isBox wsX10_isBox) := goodIn_app (goodIn_of _ (by decide +kernel)) ggX10_place_X10_isBox
set_option maxRecDepth 20000 in
theorem ggX10_whose_X10_isBox : GoodIn wsX10_whose wsX10_isBox := goodIn_r _ [8, 9, 10, 11, 7, 12, 13, 14, 15, 16, 17, 18, 19, 20, 21, 22, 23, 24, 25, 26, 27, 28, 29, 30, 31, 32, 33, 34, 35, 36, 37, 38, 39, 40, 41, 42, 43, 44, 45, 46, 47, 48, 49, 50, 51, 52, 53, 54, 55, 56, 57, 58, 59, 60, 61, 62, 63, 64, 65, 66, 67, 68, 69, 70] (by decide +kernel) (by decide +kernel)
set_option maxRecDepth 20000 in
theorem gX10_whose_X10_isBox : GoodIn wsX10_whose (wsV RX10 176 RX10 yX10_isBox wsX10_isBox) := goodIn_app (goodIn_of _ (by decide +kernel)) ggX10_whose_X10_isBox
set_option maxRecDepth 20000 in
theorem ggX10_seated_X10_in : GoodIn wsX10_seated wsX10_in := goodIn_r _ [7] (by decide +kernel) (by decide +kernel)
set_option maxRecDepth 20000 in
theorem gX10_seated_X10_in : GoodIn wsX10_seated (va_wsS RX10 156 yX10_in wsX10_in) := goodIn_app (goodIn_of _ (by decide +kernel)) ggX10_seated_X10_in
set_option maxRecDepth 20000 in
theorem ggX10_worker_X10_in : GoodIn wsX10_worker wsX10_in := goodIn_r _ [11] (by decide +kernel) (by decide +kernel)
set_option maxRecDepth 20000 in
theorem gX10_worker_X10_in : GoodIn wsX10_worker (va_wsS RX10 156 yX10_in wsX10_in) := goodIn_app (goodIn_of _ (by decide +kernel)) ggX10_worker_X10_in
set_option maxRecDepth 20000 in
theorem ggX10_queue_X10_in : GoodIn wsX10_queue wsX10_in := goodIn_r _ [14] (by decide +kernel) (by decide +kernel)
set_option maxRecDepth 20000 in
theorem gX10_queue_X10_in : GoodIn wsX10_queue (va_wsS RX10 156 yX10_in wsX10_in) := goodIn_app (goodIn_of _ (by decide +kernel)) ggX10_queue_X10_in
set_option maxRecDepth 20000 in
theorem ggX10_queue_X10_findLine : GoodIn wsX10_queue wsX10_findLine := goodIn_r _ [18, 2, 19, 20, 3, 21, 22, 23, 13, 24, 25, 26, 27, 28, 29, 30, 31, 32, 33, 34, 35, 36, 37, 38, 39, 40, 41, 42, 43, 44, 45, 46, 47, 48, 49, 50, 51, 52, 53, 54, 55, 56, 57, 58, 59, 60, 61, 62, 63, 64, 65, 66, 67, 68, 69, 70, 71, 72, 73, 74, 75, 76, 77, 78, 79, 80, 81, 82, 83, 84] (by decide +kernel) (by decide +kernel)
set_option maxRecDepth 20000 in
theorem gX10_queue_X10_findLine : GoodIn wsX10_queue (wsV RX10 237 RX10 yX10_findLine wsX10_findLine) := goodIn_app (goodIn_of _ (by decide +kernel)) ggX10_queue_X10_findLine
set_option maxRecDepth 20000 in
theorem ggX10_event__X10_in : GoodIn wsX10_event_ wsX10_in := goodIn_r _ [10] (by decide +kernel) (by decide +kernel)
set_option maxRecDepth 20000 in
theorem gX10_event__X10_in : GoodIn wsX10_event_ (va_wsS RX10 156 yX10_in wsX10_in) := goodIn_app (goodIn_of _ (by decide +kernel)) ggX10_event__X10_in
set_option maxRecDepth 20000 in
theorem ggX10_isQuiet_X10_in : GoodIn wsX10_isQuiet wsX10_in := goodIn_r _ [7] (by decide +kernel) (by decide +kernel)
set_option maxRecDepth 20000 in
theorem gX10_isQuiet_X10_in : GoodIn wsX10_isQuiet (va_wsS RX10 156 yX10_in wsX10_in) := goodIn_app (goodIn_of _ (by decide +kernel)) ggX10_isQuiet_X10_in
set_option maxRecDepth 20000 in
theorem ggX10_isQuiet_X10_home : GoodIn wsX10_isQuiet wsX10_home := goodIn_r _ [11, 3, 12, 13, 14, 15, 16, 17, 18, 19, 20, 21, 22, 23, 24, 25, 26, 27, 28, 29, 30, 31, 32, 33, 34, 35, 36, 37, 38, 39, 40, 41, 42, 43, 44, 45, 46, 47, 48, 49, 50, 51, 52, 53, 54, 55, 56, 57, 58, 59, 60, 61, 62, 63, 64, 65, 66, 67, 68, 69, 70] (by decide +kernel) (by decide +kernel)
set_option maxRecDepth 20000 in
theorem gX10_isQuiet_X10_home : GoodIn wsX10_isQuiet (wsV RX10 292 RX10 yX10_home wsX10_home) := goodIn_app (goodIn_of _ (by decide +kernel)) ggX10_isQuiet_X10_home
set_option maxRecDepth 20000 in
theorem ggX10_count_X10_home : GoodIn wsX10_count wsX10_home := goodIn_r _ [17, 4, 18, 27, 28, 29, 30, 31, 32, 33, 34, 35, 36, 37, 38, 39, 40, 41, 42, 43, 44, 45, 46, 47, 48, 49, 50, 51, 52, 53, 54, 55, 56, 57, 58, 59, 60, 61, 62, 63, 64, 65, 66, 67, 68, 69, 70, 71, 72, 73, 74, 75, 76, 77, 78, 79, 80, 81, 82, 83, 84] (by decide +kernel) (by decide +kernel)
set_option maxRecDepth 20000 in
theorem gX10_count_X10_home : GoodIn wsX10_count (wsV RX10 292 RX10 yX10_home wsX10_home) := goodIn_app (goodIn_of _ (by decide +kernel)) ggX10_count_X10_home
set_option maxRecDepth 20000 in
theorem ggX10_count_X10_isQuiet : GoodIn wsX10_count wsX10_isQuiet := goodIn_r _ [22, 5, 23, 4, 24, 25, 16, 26, 13, 14, 15, 17, 18, 27, 28, 29, 30, 31, 32, 33, 34, 35, 36, 37, 38, 39, 40, 41, 42, 43, 44, 45, 46, 47, 48, 49, 50, 51, 52, 53, 54, 55, 56, 57, 58, 59, 60, 61, 62, 63, 64, 65, 66, 67, 68, 69, 70, 71, 72, 73, 74, 75, 76, 77, 78, 79, 80, 81, 82, 83, 84] (by decide +kernel) (by decide +kernel)
set_option maxRecDepth 20000 in
theorem gX10_count_X10_isQuiet : GoodIn wsX10_count (wsV RX10 295 RX10 yX10_isQuiet wsX10_isQuiet) := goodIn_app (goodIn_of _ (by decide +kernel)) ggX10_count_X10_isQuiet
