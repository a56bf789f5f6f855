set_option maxRecDepth 20000 in
theorem ggX9_init_X1_init : GoodIn wsX9_init wsX1_init := goodIn_r _ [39, 40, 2, 3, 41, 120, 121, 122] (by decide +kernel) (by decide +kernel)
set_option maxRecDepth 20000 in
theorem gX9_init_X1_init : GoodIn wsX9_init (wsX1_init) := ggX9_init_X1_init
set_option maxRecDepth 20000 in
theorem ggX9_init_X0_init : GoodIn wsX9_init wsX0_init := goodIn_r _ [44, 45, 2, 3, 46, 123, 124, 125, 126, 127, 128] (by decide +kernel) (by decide +kernel)
set_option maxRecDepth 20000 in
theorem gX9_init_X0_init : GoodIn wsX9_init (wsX0_init) := ggX9_init_X0_init
set_option maxRecDepth 20000 in
theorem ggX9_init_X6_init : GoodIn wsX9_init wsX6_init := goodIn_r _ [49, 50, 2, 3, 51, 52, 53, 54, 55, 56, 57, 58, 59, 60, 61, 62, 63, 64, 65, 66, 129, 130, 131, 132, 133, 134, 135, 136, 137, 138, 139, 140, 141, 142, 143, 144, 145, 156, 157, 158, 159, 160, 161, 162, 163] (by decide +kernel) (by decide +kernel)
set_option maxRecDepth 20000 in
theorem gX9_init_X6_init : GoodIn wsX9_init (wsX6_init) := ggX9_init_X6_init
set_option maxRecDepth 20000 in
theorem ggX9_init_X7_init : GoodIn wsX9_init wsX7_init := goodIn_r _ [69, 70, 2, 3, 71, 72, 73, 74, 75, 76, 77, 78, 79, 80, 81, 82, 146, 147, 164, 165, 166] (by decide +kernel) (by decide +kernel)
set_option maxRecDepth 20000 in
theorem gX9_init_X7_init : GoodIn wsX9_init (wsX7_init) := ggX9_init_X7_init
set_option maxRecDepth 20000 in
theorem ggX9_init_X3_init : GoodIn wsX9_init wsX3_init := goodIn_r _ [85, 86, 2, 3, 87, 88, 148, 149] (by decide +kernel) (by decide +kernel)
set_option maxRecDepth 20000 in
theorem gX9_init_X3_init : GoodIn wsX9_init (wsX3_init) := ggX9_init_X3_init
set_option maxRecDepth 20000 in
theorem ggX9_init_X4_init : GoodIn wsX9_init wsX4_init := goodIn_r _ [91, 92, 2, 3, 60, 93, 94, 95, 150, 151, 152, 153] (by decide +kernel) (by decide +kernel)
set_option maxRecDepth 20000 in
theorem gX9_init_X4_init : GoodIn wsX9_init (wsX4_init) := ggX9_init_X4_init
set_option maxRecDepth 20000 in
theorem ggX9_init_X2_init : GoodIn wsX9_init wsX2_init := goodIn_r _ [98, 99, 2, 3, 60, 100, 154, 155] (by decide +kernel) (by decide +kernel)
set_option maxRecDepth 20000 in
theorem gX9_init_X2_init : GoodIn wsX9_init (wsX2_init) := ggX9_init_X2_init
set_option maxRecDepth 20000 in
theorem ggX9_box_X9_isWithin : GoodIn wsX9_box wsX9_isWithin := goodIn_r _ [9] (by decide +kernel) (by decide +kernel)
set_option maxRecDepth 20000 in
theorem gX9_box_X9_isWithin : GoodIn wsX9_box (va_wsS RX9 91 yX9_isWithin wsX9_isWithin) := goodIn_app (goodIn_of _ (by decide +kernel)) ggX9_box_X9_isWithin
set_option maxRecDepth 20000 in
theorem ggX9_people_X9_isWithin : GoodIn wsX9_people wsX9_isWithin := goodIn_r _ [9] (by decide +kernel) (by decide +kernel)
set_option maxRecDepth 20000 in
theorem gX9_people_X9_isWithin : GoodIn wsX9_people (va_wsS RX9 91 yX9_isWithin wsX9_isWithin) := goodIn_app (goodIn_of _ (by decide +kernel)) ggX9_people_X9_isWithin
set_option maxRecDepth 20000 in
theorem ggX9_reader_X9_isWithin : GoodIn wsX9_reader wsX9_isWithin := goodIn_r _ [9] (by decide +kernel) (by decide +kernel)
set_option maxRecDepth 20000 in
theorem gX9_reader_X9_isWithin : GoodIn wsX9_reader (va_wsS RX9 91 yX9_isWithin wsX9_isWithin) := goodIn_app (goodIn_of _ (by decide +kernel)) ggX9_reader_X9_isWithin
set_option maxRecDepth 20000 in
theorem ggX9_reader_X9_bellHasBeen : GoodIn wsX9_reader wsX9_bellHasBeen := goodIn_r _ [13, 14, 15, 16, 17, 18, 19, 20, 21, 22, 23, 24, 25, 26, 27, 28, 29, 30, 31, 32, 33, 34] (by decide +kernel) (by decide +kernel)
set_option maxRecDepth 20000 in
theorem gX9_reader_X9_bellHasBeen : GoodIn wsX9_reader (wsV RX9 107 RX9 yX9_bellHasBeen wsX9_bellHasBeen) := goodIn_app (goodIn_of _ (by decide +kernel)) ggX9_reader_X9_bellHasBeen
set_option maxRecDepth 20000 in
theorem ggX9_ask_X9_isBox : GoodIn wsX9_ask wsX9_isBox := goodIn_r _ [5, 6, 32, 33, 34, 35, 36, 37, 38, 39, 40, 41, 42, 43, 44, 45, 46, 47, 48, 49, 50] (by decide +kernel) (by decide +kernel)
set_option maxRecDepth 20000 in
theorem gX9_ask_X9_isBox : GoodIn wsX9_ask (wsV RX9 120 RX9 yX9_isBox wsX9_isBox) := goodIn_app (goodIn_of _ (by decide +kernel)) ggX9_ask_X9_isBox
set_option maxRecDepth 20000 in
theorem ggX9_ask_X9_addStep : GoodIn wsX9_ask wsX9_addStep := goodIn_r _ [10, 11, 12, 13, 14, 15, 4, 16, 17, 18, 19, 20, 21, 22, 23, 24, 25, 26, 27, 28, 29, 30, 31, 32, 33, 34, 35, 36, 37, 38, 39, 40, 41, 42, 43, 44, 45, 46, 47, 48, 49, 50, 51, 52, 53, 54, 55, 56, 57, 58, 59, 60, 61, 62, 63, 64, 65, 66, 67, 68, 69, 70, 71, 72, 73, 74, 75] (by decide +kernel) (by decide +kernel)
set_option maxRecDepth 20000 in
theorem gX9_ask_X9_addStep : GoodIn wsX9_ask (wsV RX9 124 RX9 yX9_addStep wsX9_addStep) := goodIn_app (goodIn_of _ (by decide +kernel)) ggX9_ask_X9_addStep
set_option maxRecDepth 20000 in
theorem ggX9_read_X9_isWithin : GoodIn wsX9_read wsX9_isWithin := goodIn_r _ [4] (by decide +kernel) (by decide +kernel)
set_option maxRecDepth 20000 in
theorem gX9_read_X9_isWithin : GoodIn wsX9_read (va_wsS RX9 91 yX9_isWithin wsX9_isWithin) := goodIn_app (goodIn_of _ (by decide +kernel)) ggX9_read_X9_isWithin
set_option maxRecDepth 20000 in
theorem ggX9_read_X9_addStep : GoodIn wsX9_read wsX9_addStep := goodIn_r _ [8, 9, 10, 11, 12, 13, 3, 14, 15, 16, 17, 18, 19, 20, 21, 22, 23, 24, 25, 26, 27, 28, 29, 30, 31, 32, 33, 34, 35, 36, 37, 38, 39, 40, 41, 42, 43, 44, 45, 46, 47, 48, 49, 50, 51, 52, 53, 54, 55, 56, 57, 58, 59, 60, 61, 62, 63, 64, 65, 66, 67, 68, 69, 70, 71, 72, 73] (by decide +kernel) (by decide +kernel)
set_option maxRecDepth 20000 in
theorem gX9_read_X9_addStep : GoodIn wsX9_read (wsV RX9 124 RX9 yX9_addStep wsX9_addStep) := goodIn_app (goodIn_of _ (by decide +kernel)) ggX9_read_X9_addStep
set_option maxRecDepth 20000 in
theorem ggX9_copy_X9_isBox : GoodIn wsX9_copy wsX9_isBox := goodIn_r _ [5, 6, 35, 36, 37, 38, 39, 40, 41, 42, 43, 44, 45, 46, 47, 48, 49, 50, 51, 52, 53] (by decide +kernel) (by decide +kernel)
set_option maxRecDepth 20000 in
theorem gX9_copy_X9_isBox : GoodIn wsX9_copy (wsV RX9 120 RX9 yX9_isBox wsX9_isBox) := goodIn_app (goodIn_of _ (by decide +kernel)) ggX9_copy_X9_isBox
set_option maxRecDepth 20000 in
theorem ggX9_copy_X9_isWithin : GoodIn wsX9_copy wsX9_isWithin := goodIn_r _ [9] (by decide +kernel) (by decide +kernel)
set_option maxRecDepth 20000 in
theorem gX9_copy_X9_isWithin : GoodIn wsX9_copy (va_wsS RX9 91 yX9_isWithin wsX9_isWithin) := goodIn_app (goodIn_of _ (by decide +kernel)) ggX9_copy_X9_isWithin
set_option maxRecDepth 20000 in
theorem ggX9_copy_X9_addStep : GoodIn wsX9_copy wsX9_addStep := goodIn_r _ [13, 14, 15, 16, 17, 18, 4, 19, 20, 21, 22, 23, 24, 25, 26, 27, 28, 29, 30, 31, 32, 33, 34, 35, 36, 37, 38, 39, 40, 41, 42, 43, 44, 45, 46, 47, 48, 49, 50, 51, 52, 53, 54, 55, 56, 57, 58, 59, 60, 61, 62, 63, 64, 65, 66, 67, 68, 69, 70, 71, 72, 73, 74, 75, 76, 77, 78] (by decide +kernel) (by decide +kernel)
set_option maxRecDepth 20000 in
theorem gX9_copy_X9_addStep : GoodIn wsX9_copy (wsV RX9 124 RX9 yX9_addStep wsX9_addStep) := goodIn_app (goodIn_of _ (by decide +kernel)) ggX9_copy_X9_addStep
set_option maxRecDepth 20000 in
theorem ggX9_back_X9_isBox : GoodIn wsX9_back wsX9_isBox := goodIn_r _ [5, 6, 32, 33, 34, 35, 36, 37, 38, 39, 40, 41, 42, 43, 44, 45, 46, 47, 48, 49, 50] (by decide +kernel) (by decide +kernel)
set_option maxRecDepth 20000 in
theorem gX9_back_X9_isBox : GoodIn wsX9_back (wsV RX9 120 RX9 yX9_isBox wsX9_isBox) := goodIn_app (goodIn_of _ (by decide +kernel)) ggX9_back_X9_isBox
set_option maxRecDepth 20000 in
theorem ggX9_back_X9_addStep : GoodIn wsX9_back wsX9_addStep := goodIn_r _ [10, 11, 12, 13, 14, 15, 4, 16, 17, 18, 19, 20, 21, 22, 23, 24, 25, 26, 27, 28, 29, 30, 31, 32, 33, 34, 35, 36, 37, 38, 39, 40, 41, 42, 43, 44, 45, 46, 47, 48, 49, 50, 51, 52, 53, 54, 55, 56, 57, 58, 59, 60, 61, 62, 63, 64, 65, 66, 67, 68, 69, 70, 71, 72, 73, 74, 75] (by decide +kernel) (by decide +kernel)
set_option maxRecDepth 20000 in
theorem gX9_back_X9_addStep : GoodIn wsX9_back (wsV RX9 124 RX9 yX9_addStep wsX9_addStep) := goodIn_app (goodIn_of _ (by decide +kernel)) ggX9_back_X9_addStep
set_option maxRecDepth 20000 in
theorem ggX9_addStep_X9_isReader : GoodIn wsX9_addStep wsX9_isReader := goodIn_r _ [7, 8, 23, 24, 25, 26, 27, 28, 29, 30, 31, 32, 33, 34, 35, 36, 37, 38, 39, 40, 41] (by decide +kernel) (by decide +kernel)
set_option maxRecDepth 20000 in
theorem gX9_addStep_X9_isReader : GoodIn wsX9_addStep (wsV RX9 128 RX9 yX9_isReader wsX9_isReader) := goodIn_app (goodIn_of _ (by decide +kernel)) ggX9_addStep_X9_isReader
set_option maxRecDepth 20000 in
theorem ggX9_addStep_X9_isAway : GoodIn wsX9_addStep wsX9_isAway := goodIn_r _ [11, 12, 42, 43, 44, 45, 46, 47, 48, 49, 50, 51, 52, 53, 54, 55, 56, 57, 58] (by decide +kernel) (by decide +kernel)
set_option maxRecDepth 20000 in
theorem gX9_addStep_X9_isAway : GoodIn wsX9_addStep (va_wsS RX9 131 yX9_isAway wsX9_isAway) := goodIn_app (goodIn_of _ (by decide +kernel)) ggX9_addStep_X9_isAway
set_option maxRecDepth 20000 in
theorem ggX9_addStep_X5_append : GoodIn wsX9_addStep wsX5_append := goodIn_r _ [17, 18, 19, 20, 21, 22, 59, 60, 61, 62, 63, 64, 65, 66] (by decide +kernel) (by decide +kernel)
set_option maxRecDepth 20000 in
theorem gX9_addStep_X5_append : GoodIn wsX9_addStep (wsV RX9 139 RX5 yX5_append wsX5_append) := goodIn_app (goodIn_of _ (by decide +kernel)) ggX9_addStep_X5_append
set_option maxRecDepth 20000 in
theorem ggX9_mishap_X9_isPerson : GoodIn wsX9_mishap wsX9_isPerson := goodIn_r _ [7, 8, 9, 10, 11, 12, 6, 13, 14, 15, 16, 17, 18, 19, 20, 21, 31, 32, 33, 34, 35, 36, 37, 38, 39, 40, 41, 42, 43, 44, 45, 46, 47, 48, 49, 50, 51] (by decide +kernel) (by decide +kernel)
set_option maxRecDepth 20000 in
theorem gX9_mishap_X9_isPerson : GoodIn wsX9_mishap (wsV RX9 145 RX9 yX9_isPerson wsX9_isPerson) := goodIn_app (goodIn_of _ (by decide +kernel)) ggX9_mishap_X9_isPerson
set_option maxRecDepth 20000 in
theorem ggX9_mishap_X4_append : GoodIn wsX9_mishap wsX4_append := goodIn_r _ [26, 27, 28, 29, 30, 52, 53, 54, 55] (by decide +kernel) (by decide +kernel)
set_option maxRecDepth 20000 in
theorem gX9_mishap_X4_append : GoodIn wsX9_mishap (wsV RX9 149 RX4 yX4_append wsX4_append) := goodIn_app (goodIn_of _ (by decide +kernel)) ggX9_mishap_X4_append
set_option maxRecDepth 20000 in
theorem ggX9_isPerson_X9_isReader : GoodIn wsX9_isPerson wsX9_isReader := goodIn_r _ [7, 8, 16, 17, 18, 19, 20, 21, 22, 23, 24, 25, 26, 27, 28, 29, 30, 31, 32, 33, 34] (by decide +kernel) (by decide +kernel)
set_option maxRecDepth 20000 in
theorem gX9_isPerson_X9_isReader : GoodIn wsX9_isPerson (wsV RX9 128 RX9 yX9_isReader wsX9_isReader) := goodIn_app (goodIn_of _ (by decide +kernel)) ggX9_isPerson_X9_isReader
set_option maxRecDepth 20000 in
theorem ggX9_isPerson_X7_hasWorker : GoodIn wsX9_isPerson wsX7_hasWorker := goodIn_r _ [13, 14, 15, 35, 36] (by decide +kernel) (by decide +kernel)
set_option maxRecDepth 20000 in
theorem gX9_isPerson_X7_hasWorker : GoodIn wsX9_isPerson (wsV RX9 151 RX7 yX7_hasWorker wsX7_hasWorker) := goodIn_app (goodIn_of _ (by decide +kernel)) ggX9_isPerson_X7_hasWorker
set_option maxRecDepth 20000 in
theorem ggX9_run_X9_isWithin : GoodIn wsX9_run wsX9_isWithin := goodIn_r _ [5] (by decide +kernel) (by decide +kernel)
set_option maxRecDepth 20000 in
theorem gX9_run_X9_isWithin : GoodIn wsX9_run (va_wsS RX9 91 yX9_isWithin wsX9_isWithin) := goodIn_app (goodIn_of _ (by decide +kernel)) ggX9_run_X9_isWithin
set_option maxRecDepth 20000 in
theorem gc_wsX9_run_wsX90 : GoodIn wsX9_run wsX90 := goodIn_sub (fun _ h => List.mem_cons_of_mem _ (List.mem_append_left _ (List.mem_append_left _ (List.mem_append_left _ (List.mem_append_left _ (List.mem_append_left _ (List.mem_append_left _ (List.mem_append_left _ (List.mem_append_left _ (List.mem_append_left _ (List.mem_append_right _ h))))))))))) (by decide +kernel)
set_option maxRecDepth 20000 in
theorem gc_wsX9_run_wsX40 : GoodIn wsX9_run wsX40 := goodIn_sub (fun _ h => List.mem_cons_of_mem _ (List.mem_append_left _ (List.mem_append_left _ (List.mem_append_left _ (List.mem_append_left _ (List.mem_append_left _ (List.mem_append_left _ (List.mem_append_left _ (List.mem_append_left _ (List.mem_append_right _ h)))))))))) (by decide +kernel)
set_option maxRecDepth 20000 in
theorem gc_wsX9_run_wsX70 : GoodIn wsX9_run wsX70 := goodIn_sub (fun _ h => List.mem_cons_of_mem _ (List.mem_append_left _ (List.mem_append_left _ (List.mem_append_left _ (List.mem_append_left _ (List.mem_append_left _ (List.mem_append_left _ (List.mem_append_left _ (List.mem_append_right _ h))))))))) (by decide +kernel)
set_option maxRecDepth 20000 in
theorem gc_wsX9_run_wsX60 : GoodIn wsX9_run wsX60 := goodIn_sub (fun _ h => List.mem_cons_of_mem _ (List.mem_append_left _ (List.mem_append_left _ (List.mem_append_left _ (List.mem_append_left _ (List.mem_append_left _ (List.mem_append_left _ (List.mem_append_right _ h)))))))) (by decide +kernel)
set_option maxRecDepth 20000 in
theorem gc_wsX9_run_wsX00 : GoodIn wsX9_run wsX00 := goodIn_sub (fun _ h => List.mem_cons_of_mem _ (List.mem_append_left _ (List.mem_append_left _ (List.mem_append_left _ (List.mem_append_left _ (List.mem_append_left _ (List.mem_append_right _ h))))))) (by decide +kernel)
set_option maxRecDepth 20000 in
theorem gc_wsX9_run_wsX10 : GoodIn wsX9_run wsX10 := goodIn_sub (fun _ h => List.mem_cons_of_mem _ (List.mem_append_left _ (List.mem_append_left _ (List.mem_append_left _ (List.mem_append_left _ (List.mem_append_right _ h)))))) (by decide +kernel)
set_option maxRecDepth 20000 in
theorem gc_wsX9_run_wsX30 : GoodIn wsX9_run wsX30 := goodIn_sub (fun _ h => List.mem_cons_of_mem _ (List.mem_append_left _ (List.mem_append_left _ (List.mem_append_left _ (List.mem_append_right _ h))))) (by decide +kernel)
set_option maxRecDepth 20000 in
theorem gc_wsX9_run_wsX20 : GoodIn wsX9_run wsX20 := goodIn_sub (fun _ h => List.mem_cons_of_mem _ (List.mem_append_left _ (List.mem_append_left _ (List.mem_append_right _ h)))) (by decide +kernel)
set_option maxRecDepth 20000 in
theorem gc_wsX9_run_wsX80 : GoodIn wsX9_run wsX80 := goodIn_sub (fun _ h => List.mem_cons_of_mem _ (List.mem_append_left _ (List.mem_append_right _ h))) (by decide +kernel)
set_option maxRecDepth 20000 in
theorem gc_wsX9_run_wsX50 : GoodIn wsX9_run wsX50 := goodIn_sub (fun _ h => List.mem_cons_of_mem _ (List.mem_append_right _ h)) (by decide +kernel)
set_option maxRecDepth 20000 in
theorem ggX9_run_X9_passTurn_c : GoodIn wsX9_run [.code yX9_passTurn cX9_passTurn 1 none] := goodIn_r _ [9] (by decide +kernel) (by decide +kernel)
set_option maxRecDepth 20000 in
theorem ggX9_run_X9_passTurn_wsX9_passTurn_r1 : GoodIn wsX9_run wsX9_passTurn_r1 := goodIn_r _ [1, 10, 11, 12, 13, 4, 14, 15, 16, 17, 18, 19, 20, 21, 22, 23, 24, 25, 26, 27, 28, 29, 30, 31] (by decide +kernel) (by decide +kernel)
set_option maxRecDepth 20000 in
theorem ggX9_run_X9_passTurn_wsX9_passTurn_r2 : GoodIn wsX9_run wsX9_passTurn_r2 := goodIn_r _ [32, 33, 34, 35, 36, 37, 38, 39, 40, 41, 42, 43, 44, 45, 46, 47, 48, 49, 50, 51, 52, 53, 54, 55] (by decide +kernel) (by decide +kernel)
set_option maxRecDepth 20000 in
theorem ggX9_run_X9_passTurn_wsX9_passTurn_r3 : GoodIn wsX9_run wsX9_passTurn_r3 := goodIn_r _ [56, 57, 58, 59, 60, 61, 62, 63, 64, 65, 66, 67, 68, 69, 70, 71, 72, 73, 74, 75, 76, 77, 78, 79] (by decide +kernel) (by decide +kernel)
set_option maxRecDepth 20000 in
theorem ggX9_run_X9_passTurn_wsX9_passTurn_r4 : GoodIn wsX9_run wsX9_passTurn_r4 := goodIn_r _ [80, 81, 82, 83, 84, 85, 86, 87, 88, 89, 90, 91, 92, 93, 94, 95, 96, 97, 98, 99, 100, 101, 102, 103] (by decide +kernel) (by decide +kernel)
set_option maxRecDepth 20000 in
theorem ggX9_run_X9_passTurn_wsX9_passTurn_r5 : GoodIn wsX9_run wsX9_passTurn_r5 := goodIn_r _ [104, 105, 106, 107, 108, 109, 110, 111, 112, 113, 114, 115, 116, 117, 118, 119, 120, 121, 122, 123, 124, 125, 126, 127] (by decide +kernel) (by decide +kernel)
set_option maxRecDepth 20000 in
theorem ggX9_run_X9_passTurn_wsX9_passTurn_r6 : GoodIn wsX9_run wsX9_passTurn_r6 := goodIn_r _ [128, 129, 130, 131, 132, 133, 134, 135, 136, 137, 138, 139, 140, 141, 142, 143, 144, 145, 146, 147, 148, 149, 150, 151] (by decide +kernel) (by decide +kernel)
set_option maxRecDepth 20000 in
theorem ggX9_run_X9_passTurn_wsX9_passTurn_r7 : GoodIn wsX9_run wsX9_passTurn_r7 := goodIn_r _ [152, 153, 154, 155, 156, 157, 158, 159, 160, 161, 162, 163, 164, 165, 166, 167, 168, 169, 170, 171, 172, 173, 174, 175] (by decide +kernel) (by decide +kernel)
set_option maxRecDepth 20000 in
theorem ggX9_run_X9_passTurn_wsX9_passTurn_r8 : GoodIn wsX9_run wsX9_passTurn_r8 := goodIn_r _ [176, 177, 178, 179, 180, 181, 182, 183, 184, 185, 186, 187, 188, 189, 190, 191, 192, 193, 194, 195, 196, 197, 198, 199] (by decide +kernel) (by decide +kernel)
set_option maxRecDepth 20000 in
theorem ggX9_run_X9_passTurn_wsX9_passTurn_r9 : GoodIn wsX9_run wsX9_passTurn_r9 := goodIn_r _ [200, 201, 202, 203, 204, 205, 206, 207, 208, 209, 210, 211, 212, 213, 214, 215, 216, 217, 218, 219, 220, 221, 222, 223] (by decide +kernel) (by decide +kernel)
set_option maxRecDepth 20000 in
theorem ggX9_run_X9_passTurn_wsX9_passTurn_r10 : GoodIn wsX9_run wsX9_passTurn_r10 := goodIn_r _ [224, 225, 226, 227, 228, 229, 230, 231, 232, 233, 234, 235, 236, 237, 238, 239, 240, 241, 242, 243, 244, 245, 246, 247] (by decide +kernel) (by decide +kernel)
set_option maxRecDepth 20000 in
theorem ggX9_run_X9_passTurn_wsX9_passTurn_r11 : GoodIn wsX9_run wsX9_passTurn_r11 := goodIn_r _ [248, 249, 250, 251, 252, 253, 254, 255, 256, 257, 258, 259, 260, 261, 262, 263, 264, 265, 266, 267, 268, 269, 270, 271] (by decide +kernel) (by decide +kernel)
set_option maxRecDepth 20000 in
theorem ggX9_run_X9_passTurn_wsX9_passTurn_r12 : GoodIn wsX9_run wsX9_passTurn_r12 := goodIn_r _ [272, 273, 274, 275, 276, 277, 278, 279, 280, 281, 282, 283, 284, 285, 286, 287, 288, 289, 290, 291, 292, 293, 294, 295] (by decide +kernel) (by decide +kernel)
set_option maxRecDepth 20000 in
theorem ggX9_run_X9_passTurn_wsX9_passTurn_r13 : GoodIn wsX9_run wsX9_passTurn_r13 := goodIn_r _ [296, 297, 298, 299, 300, 301, 302, 303, 304, 305, 306, 307, 308, 309, 310] (by decide +kernel) (by decide +kernel)
theorem ggX9_run_X9_passTurn : GoodIn wsX9_run wsX9_passTurn := fun w h => (List.mem_cons.mp h).elim (fun e => ggX9_run_X9_passTurn_c w (List.mem_singleton.mpr e)) (fun h => (goodIn_app (goodIn_app (goodIn_app (goodIn_app (goodIn_app (goodIn_app (goodIn_app (goodIn_app (goodIn_app (goodIn_app (goodIn_app ggX9_run_X9_passTurn_wsX9_passTurn_r1 (goodIn_app ggX9_run_X9_passTurn_wsX9_passTurn_r2 (goodIn_app ggX9_run_X9_passTurn_wsX9_passTurn_r3 (goodIn_app ggX9_run_X9_passTurn_wsX9_passTurn_r4 (goodIn_app ggX9_run_X9_passTurn_wsX9_passTurn_r5 (goodIn_app ggX9_run_X9_passTurn_wsX9_passTurn_r6 (goodIn_app ggX9_run_X9_passTurn_wsX9_passTurn_r7 (goodIn_app ggX9_run_X9_passTurn_wsX9_passTurn_r8 (goodIn_app ggX9_run_X9_passTurn_wsX9_passTurn_r9 (goodIn_app ggX9_run_X9_passTurn_wsX9_passTurn_r10 (goodIn_app ggX9_run_X9_passTurn_wsX9_passTurn_r11 (goodIn_app ggX9_run_X9_passTurn_wsX9_passTurn_r12 ggX9_run_X9_passTurn_wsX9_passTurn_r13)))))))))))) gc_wsX9_run_wsX90) gc_wsX9_run_wsX40) gc_wsX9_run_wsX70) gc_wsX9_run_wsX60) gc_wsX9_run_wsX00) gc_wsX9_run_wsX10) gc_wsX9_run_wsX30) gc_wsX9_run_wsX20) gc_wsX9_run_wsX80) gc_wsX9_run_wsX50) w h)
set_option maxRecDepth 20000 in
theorem gX9_run_X9_passTurn : GoodIn wsX9_run (wsV RX9 154 RX9 yX9_passTurn wsX9_passTurn) := goodIn_app (goodIn_of _ (by decide +kernel)) ggX9_run_X9_passTurn
set_option maxRecDepth 20000 in
theorem gc_wsX9_passTurn_wsX90 : GoodIn wsX9_passTurn wsX90 := goodIn_sub (fun _ h => List.mem_cons_of_mem _ (List.mem_append_left _ (List.mem_append_left _ (List.mem_append_left _ (List.mem_append_left _ (List.mem_append_left _ (List.mem_append_left _ (List.mem_append_left _ (List.mem_append_left _ (List.mem_append_left _ (List.mem_append_right _ h))))))))))) (by decide +kernel)
set_option maxRecDepth 20000 in
theorem gc_wsX9_passTurn_wsX40 : GoodIn wsX9_passTurn wsX40 := goodIn_sub (fun _ h => List.mem_cons_of_mem _ (List.mem_append_left _ (List.mem_append_left _ (List.mem_append_left _ (List.mem_append_left _ (List.mem_append_left _ (List.mem_append_left _ (List.mem_append_left _ (List.mem_append_left _ (List.mem_append_right _ h)))))))))) (by decide +kernel)
set_option maxRecDepth 20000 in
theorem gc_wsX9_passTurn_wsX70 : GoodIn wsX9_passTurn wsX70 := goodIn_sub (fun _ h => List.mem_cons_of_mem _ (List.mem_append_left _ (List.mem_append_left _ (List.mem_append_left _ (List.mem_append_left _ (List.mem_append_left _ (List.mem_append_left _ (List.mem_append_left _ (List.mem_append_right _ h))))))))) (by decide +kernel)
set_option maxRecDepth 20000 in
theorem gc_wsX9_passTurn_wsX60 : GoodIn wsX9_passTurn wsX60 := goodIn_sub (fun _ h => List.mem_cons_of_mem _ (List.mem_append_left _ (List.mem_append_left _ (List.mem_append_left _ (List.mem_append_left _ (List.mem_append_left _ (List.mem_append_left _ (List.mem_append_right _ h)))))))) (by decide +kernel)
set_option maxRecDepth 20000 in
theorem gc_wsX9_passTurn_wsX00 : GoodIn wsX9_passTurn wsX00 := goodIn_sub (fun _ h => List.mem_cons_of_mem _ (List.mem_append_left _ (List.mem_append_left _ (List.mem_append_left _ (List.mem_append_left _ (List.mem_append_left _ (List.mem_append_right _ h))))))) (by decide +kernel)
set_option maxRecDepth 20000 in
theorem gc_wsX9_passTurn_wsX10 : GoodIn wsX9_passTurn wsX10 := goodIn_sub (fun _ h => List.mem_cons_of_mem _ (List.mem_append_left _ (List.mem_append_left _ (List.mem_append_left _ (List.mem_append_left _ (List.mem_append_right _ h)))))) (by decide +kernel)
set_option maxRecDepth 20000 in
theorem gc_wsX9_passTurn_wsX30 : GoodIn wsX9_passTurn wsX30 := goodIn_sub (fun _ h => List.mem_cons_of_mem _ (List.mem_append_left _ (List.mem_append_left _ (List.mem_append_left _ (List.mem_append_right _ h))))) (by decide +kernel)
set_option maxRecDepth 20000 in
theorem gc_wsX9_passTurn_wsX20 : GoodIn wsX9_passTurn wsX20 := goodIn_sub (fun _ h => List.mem_cons_of_mem _ (List.mem_append_left _ (List.mem_append_left _ (List.mem_append_right _ h)))) (by decide +kernel)
set_option maxRecDepth 20000 in
theorem gc_wsX9_passTurn_wsX80 : GoodIn wsX9_passTurn wsX80 := goodIn_sub (fun _ h => List.mem_cons_of_mem _ (List.mem_append_left _ (List.mem_append_right _ h))) (by decide +kernel)
set_option maxRecDepth 20000 in
theorem ggX9_passTurn_X9_sufferMishaps_c : GoodIn wsX9_passTurn [.code yX9_sufferMishaps cX9_sufferMishaps 2 none] := goodIn_r _ [7] (by decide +kernel) (by decide +kernel)
set_option maxRecDepth 20000 in
theorem ggX9_passTurn_X9_sufferMishaps_wsX9_sufferMishaps_r1 : GoodIn wsX9_passTurn wsX9_sufferMishaps_r1 := goodIn_r _ [8, 9, 10, 1, 11, 12, 13, 14, 15, 6, 16, 17, 18, 19, 20, 21, 22, 23, 24, 25, 26, 27, 28, 29] (by decide +kernel) (by decide +kernel)
set_option maxRecDepth 20000 in
theorem ggX9_passTurn_X9_sufferMishaps_wsX9_sufferMishaps_r2 : GoodIn wsX9_passTurn wsX9_sufferMishaps_r2 := goodIn_r _ [30, 31, 32, 33, 34, 35, 36, 37, 38, 39, 40, 41, 42, 43, 44, 45, 46, 47, 48, 49, 50, 51, 52, 53] (by decide +kernel) (by decide +kernel)
set_option maxRecDepth 20000 in
theorem ggX9_passTurn_X9_sufferMishaps_wsX9_sufferMishaps_r3 : GoodIn wsX9_passTurn wsX9_sufferMishaps_r3 := goodIn_r _ [54, 55, 56, 57, 58, 59, 60, 61, 62, 63, 64, 65, 66, 67, 68, 69, 70, 71, 72, 73, 74, 75, 76, 77] (by decide +kernel) (by decide +kernel)
set_option maxRecDepth 20000 in
theorem ggX9_passTurn_X9_sufferMishaps_wsX9_sufferMishaps_r4 : GoodIn wsX9_passTurn wsX9_sufferMishaps_r4 := goodIn_r _ [78, 79, 80, 81, 82, 83, 84, 85, 86, 87, 88, 89, 90, 91, 92, 93, 94, 95, 96, 97, 98, 99, 100, 101] (by decide +kernel) (by decide +kernel)
set_option maxRecDepth 20000 in
theorem ggX9_passTurn_X9_sufferMishaps_wsX9_sufferMishaps_r5 : GoodIn wsX9_passTurn wsX9_sufferMishaps_r5 := goodIn_r _ [102, 103, 104] (by decide +kernel) (by decide +kernel)
theorem ggX9_passTurn_X9_sufferMishaps : GoodIn wsX9_passTurn wsX9_sufferMishaps := fun w h => (List.mem_cons.mp h).elim (fun e => ggX9_passTurn_X9_sufferMishaps_c w (List.mem_singleton.mpr e)) (fun h => (goodIn_app (goodIn_app (goodIn_app (goodIn_app (goodIn_app (goodIn_app (goodIn_app (goodIn_app (goodIn_app (goodIn_app ggX9_passTurn_X9_sufferMishaps_wsX9_sufferMishaps_r1 (goodIn_app ggX9_passTurn_X9_sufferMishaps_wsX9_sufferMishaps_r2 (goodIn_app ggX9_passTurn_X9_sufferMishaps_wsX9_sufferMishaps_r3 (goodIn_app ggX9_passTurn_X9_sufferMishaps_wsX9_sufferMishaps_r4 ggX9_passTurn_X9_sufferMishaps_wsX9_sufferMishaps_r5)))) gc_wsX9_passTurn_wsX90) gc_wsX9_passTurn_wsX40) gc_wsX9_passTurn_wsX70) gc_wsX9_passTurn_wsX60) gc_wsX9_passTurn_wsX00) gc_wsX9_passTurn_wsX10) gc_wsX9_passTurn_wsX30) gc_wsX9_passTurn_wsX20) gc_wsX9_passTurn_wsX80) w h)
set_option maxRecDepth 20000 in
theorem gX9_passTurn_X9_sufferMishaps : GoodIn wsX9_passTurn (wsV RX9 157 RX9 yX9_sufferMishaps wsX9_sufferMishaps) := goodIn_app (goodIn_of _ (by decide +kernel)) ggX9_passTurn_X9_sufferMishaps
set_option maxRecDepth 20000 in
theorem ggX9_passTurn_X9_ringBell_c : GoodIn wsX9_passTurn [.code yX9_ringBell cX9_ringBell 3 none] := goodIn_r _ [108] (by decide +kernel) (by decide +kernel)
set_option maxRecDepth 20000 in
theorem ggX9_passTurn_X9_ringBell_wsX9_ringBell_r1 : GoodIn wsX9_passTurn wsX9_ringBell_r1 := goodIn_r _ [29, 17, 18, 109, 19, 83, 52, 41, 42, 6, 43, 40, 44, 45, 46, 47, 48, 49, 50, 51, 53, 54, 55, 1] (by decide +kernel) (by decide +kernel)
