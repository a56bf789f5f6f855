set_option maxRecDepth 20000 in
theorem gX10_oneTurn_X10_event : GoodIn wsX10_oneTurn (wsV RX10 196 RX10 yX10_event wsX10_event) := goodIn_app (goodIn_of _ (by decide +kernel)) ggX10_oneTurn_X10_event
set_option maxRecDepth 20000 in
theorem ggX10_oneTurn_X10_doDesks : GoodIn wsX10_oneTurn wsX10_doDesks := goodIn_r _ [116, 117, 118, 48, 47, 3, 2, 6, 119, 120, 121, 122, 11, 123, 124, 125, 126, 127, 128, 5, 129, 130, 131, 132, 133, 101, 134, 49, 50, 51, 52, 53, 54, 1, 55, 56, 57, 162, 163, 164, 165, 166, 167, 168, 169, 170, 171, 172, 173, 174, 175, 176, 177, 178, 179, 180, 181, 182, 183, 184, 185, 186, 187, 188, 189, 190, 191, 192, 193, 194, 195, 196, 197, 198, 199, 200, 201, 202, 203, 204, 205, 206, 207, 208, 209, 210, 211, 212, 213, 214, 215, 216, 217, 218, 219] (by decide +kernel) (by decide +kernel)
set_option maxRecDepth 20000 in
theorem gX10_oneTurn_X10_doDesks : GoodIn wsX10_oneTurn (wsV RX10 280 RX10 yX10_doDesks wsX10_doDesks) := goodIn_app (goodIn_of _ (by decide +kernel)) ggX10_oneTurn_X10_doDesks
set_option maxRecDepth 20000 in
theorem ggX10_oneTurn_X10_doWays : GoodIn wsX10_oneTurn wsX10_doWays := goodIn_r _ [138, 63, 21, 22, 23, 38, 68, 139, 140, 141, 142, 143, 11, 144, 37, 145, 146, 147, 148, 89, 162, 163, 164, 165, 166, 167, 168, 169, 170, 171, 172, 173, 174, 175, 176, 177, 178, 179, 180, 181, 182, 183, 184, 185, 186, 187, 188, 189, 190, 191, 192, 193, 194, 195, 196, 197, 198, 199, 200, 201, 202, 203, 204, 205, 206, 207, 208, 209, 210, 211, 212, 213, 214, 215, 216, 217, 218, 219] (by decide +kernel) (by decide +kernel)
set_option maxRecDepth 20000 in
theorem gX10_oneTurn_X10_doWays : GoodIn wsX10_oneTurn (wsV RX10 283 RX10 yX10_doWays wsX10_doWays) := goodIn_app (goodIn_of _ (by decide +kernel)) ggX10_oneTurn_X10_doWays
set_option maxRecDepth 20000 in
theorem ggX10_oneTurn_X10_doCopies : GoodIn wsX10_oneTurn wsX10_doCopies := goodIn_r _ [152, 73, 24, 153, 94, 154, 155, 156, 157, 22, 74, 93, 158, 159, 160, 11, 161, 37, 92, 162, 163, 164, 165, 166, 167, 168, 169, 170, 171, 172, 173, 174, 175, 176, 177, 178, 179, 180, 181, 182, 183, 184, 185, 186, 187, 188, 189, 190, 191, 192, 193, 194, 195, 196, 197, 198, 199, 200, 201, 202, 203, 204, 205, 206, 207, 208, 209, 210, 211, 212, 213, 214, 215, 216, 217, 218, 219] (by decide +kernel) (by decide +kernel)
set_option maxRecDepth 20000 in
theorem gX10_oneTurn_X10_doCopies : GoodIn wsX10_oneTurn (wsV RX10 286 RX10 yX10_doCopies wsX10_doCopies) := goodIn_app (goodIn_of _ (by decide +kernel)) ggX10_oneTurn_X10_doCopies
set_option maxRecDepth 20000 in
theorem ggX10_run_X10_in : GoodIn wsX10_run wsX10_in := goodIn_r _ [6] (by decide +kernel) (by decide +kernel)
set_option maxRecDepth 20000 in
theorem gX10_run_X10_in : GoodIn wsX10_run (va_wsS RX10 156 yX10_in wsX10_in) := goodIn_app (goodIn_of _ (by decide +kernel)) ggX10_run_X10_in
set_option maxRecDepth 20000 in
theorem gc_wsX10_run_wsX100 : GoodIn wsX10_run wsX100 := goodIn_sub (fun _ h => List.mem_cons_of_mem _ (List.mem_append_right _ h)) (by decide +kernel)
set_option maxRecDepth 20000 in
theorem ggX10_run_X10_oneTurn_c : GoodIn wsX10_run [.code yX10_oneTurn cX10_oneTurn 3 none] := goodIn_r _ [10] (by decide +kernel) (by decide +kernel)
set_option maxRecDepth 20000 in
theorem ggX10_run_X10_oneTurn_wsX10_oneTurn_r1 : GoodIn wsX10_run wsX10_oneTurn_r1 := goodIn_r _ [2, 11, 12, 13, 14, 15, 16, 17, 18, 19, 5, 20, 21, 22, 23, 24, 25, 26, 27, 28, 29, 30, 31, 32] (by decide +kernel) (by decide +kernel)
set_option maxRecDepth 20000 in
theorem ggX10_run_X10_oneTurn_wsX10_oneTurn_r2 : GoodIn wsX10_run wsX10_oneTurn_r2 := goodIn_r _ [33, 34, 35, 36, 37, 3, 4, 6, 38, 39, 40, 41, 42, 43, 44, 45, 46, 47, 48, 49, 50, 51, 52, 53] (by decide +kernel) (by decide +kernel)
set_option maxRecDepth 20000 in
theorem ggX10_run_X10_oneTurn_wsX10_oneTurn_r3 : GoodIn wsX10_run wsX10_oneTurn_r3 := goodIn_r _ [54, 55, 56, 57, 58, 59, 60, 61, 62, 63, 64, 65, 66, 67, 68, 69, 70, 71, 72, 73, 74, 75, 76, 77] (by decide +kernel) (by decide +kernel)
set_option maxRecDepth 20000 in
theorem ggX10_run_X10_oneTurn_wsX10_oneTurn_r4 : GoodIn wsX10_run wsX10_oneTurn_r4 := goodIn_r _ [78, 79, 80, 81, 82, 83, 84, 85, 86, 87, 88, 89, 90, 91, 92, 93, 94, 95, 96, 97, 98, 99, 100, 101] (by decide +kernel) (by decide +kernel)
set_option maxRecDepth 20000 in
theorem ggX10_run_X10_oneTurn_wsX10_oneTurn_r5 : GoodIn wsX10_run wsX10_oneTurn_r5 := goodIn_r _ [102, 103, 104, 105, 106, 107, 108, 109, 110, 111, 112, 113, 114, 115, 116, 117, 118, 119, 120, 121, 122, 123, 124, 125] (by decide +kernel) (by decide +kernel)
set_option maxRecDepth 20000 in
theorem ggX10_run_X10_oneTurn_wsX10_oneTurn_r6 : GoodIn wsX10_run wsX10_oneTurn_r6 := goodIn_r _ [126, 127, 128, 129, 130, 131, 132, 133, 134, 135, 136, 137, 138, 139, 140, 141, 142, 143, 144, 145, 146, 147, 148, 149] (by decide +kernel) (by decide +kernel)
set_option maxRecDepth 20000 in
theorem ggX10_run_X10_oneTurn_wsX10_oneTurn_r7 : GoodIn wsX10_run wsX10_oneTurn_r7 := goodIn_r _ [150, 151, 152, 153, 154, 155, 156, 157, 158, 159, 160, 161, 162, 163, 164, 165, 166] (by decide +kernel) (by decide +kernel)
theorem ggX10_run_X10_oneTurn : GoodIn wsX10_run wsX10_oneTurn := fun w h => (List.mem_cons.mp h).elim (fun e => ggX10_run_X10_oneTurn_c w (List.mem_singleton.mpr e)) (fun h => (goodIn_app (goodIn_app ggX10_run_X10_oneTurn_wsX10_oneTurn_r1 (goodIn_app ggX10_run_X10_oneTurn_wsX10_oneTurn_r2 (goodIn_app ggX10_run_X10_oneTurn_wsX10_oneTurn_r3 (goodIn_app ggX10_run_X10_oneTurn_wsX10_oneTurn_r4 (goodIn_app ggX10_run_X10_oneTurn_wsX10_oneTurn_r5 (goodIn_app ggX10_run_X10_oneTurn_wsX10_oneTurn_r6 ggX10_run_X10_oneTurn_wsX10_oneTurn_r7)))))) gc_wsX10_run_wsX100) w h)
set_option maxRecDepth 20000 in
theorem gX10_run_X10_oneTurn : GoodIn wsX10_run (wsV RX10 289 RX10 yX10_oneTurn wsX10_oneTurn) := goodIn_app (goodIn_of _ (by decide +kernel)) ggX10_run_X10_oneTurn
set_option maxRecDepth 20000 in
theorem ggX10_about_X10_isReader : GoodIn wsX10_about wsX10_isReader := goodIn_r _ [14, 15, 16, 17, 13, 18, 25, 26, 27, 28, 29, 30, 31, 32, 33, 34, 35, 36, 37, 38, 39, 40, 41, 42, 43, 44, 45, 46, 47, 48, 49, 50, 51, 52, 53, 54, 55, 56, 57, 58, 59, 60, 61, 62, 63, 64, 65, 66, 67, 68, 69, 70, 71, 72, 73, 74, 75, 76, 77, 78, 79, 80, 81, 82] (by decide +kernel) (by decide +kernel)
set_option maxRecDepth 20000 in
theorem gX10_about_X10_isReader : GoodIn wsX10_about (wsV RX10 169 RX10 yX10_isReader wsX10_isReader) := goodIn_app (goodIn_of _ (by decide +kernel)) ggX10_about_X10_isReader
set_option maxRecDepth 20000 in
theorem ggX10_about_X10_hasMany : GoodIn wsX10_about wsX10_hasMany := goodIn_r _ [22, 23, 24, 25, 26, 27, 28, 29, 30, 31, 32, 33, 34, 35, 36, 37, 38, 39, 40, 41, 42, 43, 44, 45, 46, 47, 48, 49, 50, 51, 52, 53, 54, 55, 56, 57, 58, 59, 60, 61, 62, 63, 64, 65, 66, 67, 68, 69, 70, 71, 72, 73, 74, 75, 76, 77, 78, 79, 80, 81, 82] (by decide +kernel) (by decide +kernel)
set_option maxRecDepth 20000 in
theorem gX10_about_X10_hasMany : GoodIn wsX10_about (wsV RX10 213 RX10 yX10_hasMany wsX10_hasMany) := goodIn_app (goodIn_of _ (by decide +kernel)) ggX10_about_X10_hasMany
set_option maxRecDepth 20000 in
theorem ggX10_held_X10_isReader : GoodIn wsX10_held wsX10_isReader := goodIn_r _ [8, 9, 10, 11, 7, 12, 13, 14, 15, 16, 17, 18, 19, 20, 21, 22, 23, 24, 25, 26, 27, 28, 29, 30, 31, 32, 33, 34, 35, 36, 37, 38, 39, 40, 41, 42, 43, 44, 45, 46, 47, 48, 49, 50, 51, 52, 53, 54, 55, 56, 57, 58, 59, 60, 61, 62, 63, 64, 65, 66, 67, 68, 69, 70] (by decide +kernel) (by decide +kernel)
set_option maxRecDepth 20000 in
theorem gX10_held_X10_isReader : GoodIn wsX10_held (wsV RX10 169 RX10 yX10_isReader wsX10_isReader) := goodIn_app (goodIn_of _ (by decide +kernel)) ggX10_held_X10_isReader
set_option maxRecDepth 20000 in
theorem ggX10_refused_X10_isReader : GoodIn wsX10_refused wsX10_isReader := goodIn_r _ [8, 9, 10, 11, 7, 12, 13, 14, 15, 16, 17, 18, 19, 20, 21, 22, 23, 24, 25, 26, 27, 28, 29, 30, 31, 32, 33, 34, 35, 36, 37, 38, 39, 40, 41, 42, 43, 44, 45, 46, 47, 48, 49, 50, 51, 52, 53, 54, 55, 56, 57, 58, 59, 60, 61, 62, 63, 64, 65, 66, 67, 68, 69, 70] (by decide +kernel) (by decide +kernel)
set_option maxRecDepth 20000 in
theorem gX10_refused_X10_isReader : GoodIn wsX10_refused (wsV RX10 169 RX10 yX10_isReader wsX10_isReader) := goodIn_app (goodIn_of _ (by decide +kernel)) ggX10_refused_X10_isReader
set_option maxRecDepth 20000 in
theorem ggX10_refused_X10_in : GoodIn wsX10_refused wsX10_in := goodIn_r _ [12] (by decide +kernel) (by decide +kernel)
set_option maxRecDepth 20000 in
theorem gX10_refused_X10_in : GoodIn wsX10_refused (va_wsS RX10 156 yX10_in wsX10_in) := goodIn_app (goodIn_of _ (by decide +kernel)) ggX10_refused_X10_in
set_option maxRecDepth 20000 in
theorem ggX10_place_X10_isBox : GoodIn wsX10_place wsX10_isBox := goodIn_r _ [7, 8, 9, 10, 6, 11, 12, 13, 14, 15, 16, 17, 18, 19, 20, 21, 22, 23, 24, 25, 26, 27, 28, 29, 30, 31, 32, 33, 34, 35, 36, 37, 38, 39, 40, 41, 42, 43, 44, 45, 46, 47, 48, 49, 50, 51, 52, 53, 54, 55, 56, 57, 58, 59, 60, 61, 62, 63, 64, 65, 66, 67, 68, 69] (by decide +kernel) (by decide +kernel)
set_option maxRecDepth 20000 in
theorem gX10_place_X10_isBox : GoodIn wsX10_place (wsV RX10 176 RX10 yX10_isBox wsX10_isBox) := goodIn_app (goodIn_of _ (by decide +kernel)) ggX10_place_X10_isBox
set_option maxRecDepth 20000 in
theorem ggX10_whose_X10_isBox : GoodIn wsX10_whose wsX10_isBox := goodIn_r _ [8, 9, 10, 11, 7, 12, 13, 14, 15, 16, 17, 18, 19, 20, 21, 22, 23, 24, 25, 26, 27, 28, 29, 30, 31, 32, 33, 34, 35, 36, 37, 38, 39, 40, 41, 42, 43, 44, 45, 46, 47, 48, 49, 50, 51, 52, 53, 54, 55, 56, 57, 58, 59, 60, 61, 62, 63, 64, 65, 66, 67, 68, 69, 70] (by decide +kernel) (by decide +kernel)
set_option maxRecDepth 20000 in
theorem gX10_whose_X10_isBox : GoodIn wsX10_whose (wsV RX10 176 RX10 yX10_isBox wsX10_isBox) := goodIn_app (goodIn_of _ (by decide +kernel)) ggX10_whose_X10_isBox
set_option maxRecDepth 20000 in
theorem ggX10_seated_X10_in : GoodIn wsX10_seated wsX10_in := goodIn_r _ [7] (by decide +kernel) (by decide +kernel)
set_option maxRecDepth 20000 in
theorem gX10_seated_X10_in : GoodIn wsX10_seated (va_wsS RX10 156 yX10_in wsX10_in) := goodIn_app (goodIn_of _ (by decide +kernel)) ggX10_seated_X10_in
set_option maxRecDepth 20000 in
theorem ggX10_worker_X10_in : GoodIn wsX10_worker wsX10_in := goodIn_r _ [11] (by decide +kernel) (by decide +kernel)
set_option maxRecDepth 20000 in
theorem gX10_worker_X10_in : GoodIn wsX10_worker (va_wsS RX10 156 yX10_in wsX10_in) := goodIn_app (goodIn_of _ (by decide +kernel)) ggX10_worker_X10_in
set_option maxRecDepth 20000 in
theorem ggX10_queue_X10_in : GoodIn wsX10_queue wsX10_in := goodIn_r _ [14] (by decide +kernel) (by decide +kernel)
set_option maxRecDepth 20000 in
theorem gX10_queue_X10_in : GoodIn wsX10_queue (va_wsS RX10 156 yX10_in wsX10_in) := goodIn_app (goodIn_of _ (by decide +kernel)) ggX10_queue_X10_in
set_option maxRecDepth 20000 in
theorem ggX10_queue_X10_findLine : GoodIn wsX10_queue wsX10_findLine := goodIn_r _ [18, 2, 19, 20, 3, 21, 22, 23, 13, 24, 25, 26, 27, 28, 29, 30, 31, 32, 33, 34, 35, 36, 37, 38, 39, 40, 41, 42, 43, 44, 45, 46, 47, 48, 49, 50, 51, 52, 53, 54, 55, 56, 57, 58, 59, 60, 61, 62, 63, 64, 65, 66, 67, 68, 69, 70, 71, 72, 73, 74, 75, 76, 77, 78, 79, 80, 81, 82, 83, 84] (by decide +kernel) (by decide +kernel)
set_option maxRecDepth 20000 in
theorem gX10_queue_X10_findLine : GoodIn wsX10_queue (wsV RX10 237 RX10 yX10_findLine wsX10_findLine) := goodIn_app (goodIn_of _ (by decide +kernel)) ggX10_queue_X10_findLine
set_option maxRecDepth 20000 in
theorem ggX10_event__X10_in : GoodIn wsX10_event_ wsX10_in := goodIn_r _ [10] (by decide +kernel) (by decide +kernel)
set_option maxRecDepth 20000 in
theorem gX10_event__X10_in : GoodIn wsX10_event_ (va_wsS RX10 156 yX10_in wsX10_in) := goodIn_app (goodIn_of _ (by decide +kernel)) ggX10_event__X10_in
set_option maxRecDepth 20000 in
theorem ggX10_isQuiet_X10_in : GoodIn wsX10_isQuiet wsX10_in := goodIn_r _ [7] (by decide +kernel) (by decide +kernel)
set_option maxRecDepth 20000 in
theorem gX10_isQuiet_X10_in : GoodIn wsX10_isQuiet (va_wsS RX10 156 yX10_in wsX10_in) := goodIn_app (goodIn_of _ (by decide +kernel)) ggX10_isQuiet_X10_in
set_option maxRecDepth 20000 in
theorem ggX10_isQuiet_X10_home : GoodIn wsX10_isQuiet wsX10_home := goodIn_r _ [11, 3, 12, 13, 14, 15, 16, 17, 18, 19, 20, 21, 22, 23, 24, 25, 26, 27, 28, 29, 30, 31, 32, 33, 34, 35, 36, 37, 38, 39, 40, 41, 42, 43, 44, 45, 46, 47, 48, 49, 50, 51, 52, 53, 54, 55, 56, 57, 58, 59, 60, 61, 62, 63, 64, 65, 66, 67, 68, 69, 70] (by decide +kernel) (by decide +kernel)
set_option maxRecDepth 20000 in
theorem gX10_isQuiet_X10_home : GoodIn wsX10_isQuiet (wsV RX10 292 RX10 yX10_home wsX10_home) := goodIn_app (goodIn_of _ (by decide +kernel)) ggX10_isQuiet_X10_home
set_option maxRecDepth 20000 in
theorem ggX10_count_X10_home : GoodIn wsX10_count wsX10_home := goodIn_r _ [17, 4, 18, 27, 28, 29, 30, 31, 32, 33, 34, 35, 36, 37, 38, 39, 40, 41, 42, 43, 44, 45, 46, 47, 48, 49, 50, 51, 52, 53, 54, 55, 56, 57, 58, 59, 60, 61, 62, 63, 64, 65, 66, 67, 68, 69, 70, 71, 72, 73, 74, 75, 76, 77, 78, 79, 80, 81, 82, 83, 84] (by decide +kernel) (by decide +kernel)
set_option maxRecDepth 20000 in
theorem gX10_count_X10_home : GoodIn wsX10_count (wsV RX10 292 RX10 yX10_home wsX10_home) := goodIn_app (goodIn_of _ (by decide +kernel)) ggX10_count_X10_home
set_option maxRecDepth 20000 in
theorem ggX10_count_X10_isQuiet : GoodIn wsX10_count wsX10_isQuiet := goodIn_r _ [22, 5, 23, 4, 24, 25, 16, 26, 13, 14, 15, 17, 18, 27, 28, 29, 30, 31, 32, 33, 34, 35, 36, 37, 38, 39, 40, 41, 42, 43, 44, 45, 46, 47, 48, 49, 50, 51, 52, 53, 54, 55, 56, 57, 58, 59, 60, 61, 62, 63, 64, 65, 66, 67, 68, 69, 70, 71, 72, 73, 74, 75, 76, 77, 78, 79, 80, 81, 82, 83, 84] (by decide +kernel) (by decide +kernel)
set_option maxRecDepth 20000 in
theorem gX10_count_X10_isQuiet : GoodIn wsX10_count (wsV RX10 295 RX10 yX10_isQuiet wsX10_isQuiet) := goodIn_app (goodIn_of _ (by decide +kernel)) ggX10_count_X10_isQuiet
