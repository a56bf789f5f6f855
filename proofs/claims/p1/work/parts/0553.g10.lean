set_option maxRecDepth 20000 in
theorem gz_c : GoodIn wsX10_run [.code yX10_oneTurn cX10_oneTurn 3 none] := goodIn_r _ [10] (by decide +kernel) (by decide +kernel)
set_option maxRecDepth 20000 in
theorem gz_wsX10_oneTurn_r1 : GoodIn wsX10_run wsX10_oneTurn_r1 := goodIn_r _ [2, 11, 12, 13, 14, 15, 16, 17, 18, 19, 5, 20, 21, 22, 23, 24, 25, 26, 27, 28, 29, 30, 31, 32] (by decide +kernel) (by decide +kernel)
set_option maxRecDepth 20000 in
theorem gz_wsX10_oneTurn_r2 : GoodIn wsX10_run wsX10_oneTurn_r2 := goodIn_r _ [33, 34, 35, 36, 37, 3, 4, 6, 38, 39, 40, 41, 42, 43, 44, 45, 46, 47, 48, 49, 50, 51, 52, 53] (by decide +kernel) (by decide +kernel)
set_option maxRecDepth 20000 in
theorem gz_wsX10_oneTurn_r3 : GoodIn wsX10_run wsX10_oneTurn_r3 := goodIn_r _ [54, 55, 56, 57, 58, 59, 60, 61, 62, 63, 64, 65, 66, 67, 68, 69, 70, 71, 72, 73, 74, 75, 76, 77] (by decide +kernel) (by decide +kernel)
set_option maxRecDepth 20000 in
theorem gz_wsX10_oneTurn_r4 : GoodIn wsX10_run wsX10_oneTurn_r4 := goodIn_r _ [78, 79, 80, 81, 82, 83, 84, 85, 86, 87, 88, 89, 90, 91, 92, 93, 94, 95, 96, 97, 98, 99, 100, 101] (by decide +kernel) (by decide +kernel)
set_option maxRecDepth 20000 in
theorem gz_wsX10_oneTurn_r5 : GoodIn wsX10_run wsX10_oneTurn_r5 := goodIn_r _ [102, 103, 104, 105, 106, 107, 108, 109, 110, 111, 112, 113, 114, 115, 116, 117, 118, 119, 120, 121, 122, 123, 124, 125] (by decide +kernel) (by decide +kernel)
set_option maxRecDepth 20000 in
theorem gz_wsX10_oneTurn_r6 : GoodIn wsX10_run wsX10_oneTurn_r6 := goodIn_r _ [126, 127, 128, 129, 130, 131, 132, 133, 134, 135, 136, 137, 138, 139, 140, 141, 142, 143, 144, 145, 146, 147, 148, 149] (by decide +kernel) (by decide +kernel)
set_option maxRecDepth 20000 in
theorem gz_wsX10_oneTurn_r7 : GoodIn wsX10_run wsX10_oneTurn_r7 := goodIn_r _ [150, 151, 152, 153, 154, 155, 156, 157, 158, 159, 160, 161, 162, 163, 164, 165, 166] (by decide +kernel) (by decide +kernel)
set_option maxRecDepth 20000 in
theorem gz_x : GoodIn wsX10_run wsX100 := goodIn_sub (fun _ h => List.mem_cons_of_mem _ (List.mem_append_right _ h)) (by decide +kernel)
theorem ggX10_run_X10_oneTurn : GoodIn wsX10_run wsX10_oneTurn := fun w h => (List.mem_cons.mp h).elim (fun e => gz_c w (List.mem_singleton.mpr e)) (fun h => goodIn_app (goodIn_app gz_wsX10_oneTurn_r1 (goodIn_app gz_wsX10_oneTurn_r2 (goodIn_app gz_wsX10_oneTurn_r3 (goodIn_app gz_wsX10_oneTurn_r4 (goodIn_app gz_wsX10_oneTurn_r5 (goodIn_app gz_wsX10_oneTurn_r6 gz_wsX10_oneTurn_r7)))))) gz_x w h)
set_option maxRecDepth 20000 in
theorem gX10_run_X10_oneTurn : GoodIn wsX10_run (wsV RX10 289 RX10 yX10_oneTurn wsX10_oneTurn) := goodIn_app (goodIn_of _ (by decide +kernel)) ggX10_run_X10_oneTurn
