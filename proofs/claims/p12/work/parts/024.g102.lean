set_option maxRecDepth 20000 in
theorem gX10_oneTurn_X10_event : GoodIn wsX10_oneTurn (wsV RX10 196 RX10 yX10_event wsX10_event) := goodIn_app (goodIn_s sg_wsX10_oneTurn si_wsX10_oneTurn _ [(3, 0), (3, 1), (3, 2), (1, 10)] rfl (by decide +kernel)) ggX10_oneTurn_X10_event
set_option maxRecDepth 20000 in
theorem ggX10_oneTurn_X10_doDesks : GoodIn wsX10_oneTurn wsX10_doDesks := goodIn_s sg_wsX10_oneTurn si_wsX10_oneTurn _ [(5, 19), (5, 20), (5, 21), (2, 23), (2, 22), (1, 2), (1, 1), (1, 5), (5, 22), (5, 23), (6, 0), (6, 1), (1, 10), (6, 2), (6, 3), (6, 4), (6, 5), (6, 6), (6, 7), (1, 4), (6, 8), (6, 9), (6, 10), (6, 11), (6, 12), (5, 4), (6, 13), (3, 0), (3, 1), (3, 2), (3, 3), (3, 4), (3, 5), (1, 0), (3, 6), (3, 7), (3, 8), (8, 0), (8, 1), (8, 2), (8, 3), (8, 4), (8, 5), (8, 6), (8, 7), (8, 8), (8, 9), (8, 10), (8, 11), (8, 12), (8, 13), (8, 14), (8, 15), (8, 16), (8, 17), (8, 18), (8, 19), (8, 20), (8, 21), (8, 22), (8, 23), (8, 24), (8, 25), (8, 26), (8, 27), (8, 28), (8, 29), (8, 30), (8, 31), (8, 32), (8, 33), (8, 34), (8, 35), (8, 36), (8, 37), (8, 38), (8, 39), (8, 40), (8, 41), (8, 42), (8, 43), (8, 44), (8, 45), (8, 46), (8, 47), (8, 48), (8, 49), (8, 50), (8, 51), (8, 52), (8, 53), (8, 54), (8, 55), (8, 56), (8, 57)] rfl (by decide +kernel)
set_option maxRecDepth 20000 in
theorem gX10_oneTurn_X10_doDesks : GoodIn wsX10_oneTurn (wsV RX10 280 RX10 yX10_doDesks wsX10_doDesks) := goodIn_app (goodIn_s sg_wsX10_oneTurn si_wsX10_oneTurn _ [(5, 16), (5, 17), (5, 18), (1, 10)] rfl (by decide +kernel)) ggX10_oneTurn_X10_doDesks
set_option maxRecDepth 20000 in
theorem ggX10_oneTurn_X10_doWays : GoodIn wsX10_oneTurn wsX10_doWays := goodIn_s sg_wsX10_oneTurn si_wsX10_oneTurn _ [(6, 17), (3, 14), (1, 20), (1, 21), (1, 22), (2, 13), (3, 19), (6, 18), (6, 19), (6, 20), (6, 21), (6, 22), (1, 10), (6, 23), (2, 12), (7, 0), (7, 1), (7, 2), (7, 3), (4, 16), (8, 0), (8, 1), (8, 2), (8, 3), (8, 4), (8, 5), (8, 6), (8, 7), (8, 8), (8, 9), (8, 10), (8, 11), (8, 12), (8, 13), (8, 14), (8, 15), (8, 16), (8, 17), (8, 18), (8, 19), (8, 20), (8, 21), (8, 22), (8, 23), (8, 24), (8, 25), (8, 26), (8, 27), (8, 28), (8, 29), (8, 30), (8, 31), (8, 32), (8, 33), (8, 34), (8, 35), (8, 36), (8, 37), (8, 38), (8, 39), (8, 40), (8, 41), (8, 42), (8, 43), (8, 44), (8, 45), (8, 46), (8, 47), (8, 48), (8, 49), (8, 50), (8, 51), (8, 52), (8, 53), (8, 54), (8, 55), (8, 56), (8, 57)] rfl (by decide +kernel)
set_option maxRecDepth 20000 in
theorem gX10_oneTurn_X10_doWays : GoodIn wsX10_oneTurn (wsV RX10 283 RX10 yX10_doWays wsX10_doWays) := goodIn_app (goodIn_s sg_wsX10_oneTurn si_wsX10_oneTurn _ [(6, 14), (6, 15), (6, 16), (1, 10)] rfl (by decide +kernel)) ggX10_oneTurn_X10_doWays
set_option maxRecDepth 20000 in
theorem ggX10_oneTurn_X10_doCopies : GoodIn wsX10_oneTurn wsX10_doCopies := goodIn_s sg_wsX10_oneTurn si_wsX10_oneTurn _ [(7, 7), (4, 0), (1, 23), (7, 8), (4, 21), (7, 9), (7, 10), (7, 11), (7, 12), (1, 21), (4, 1), (4, 20), (7, 13), (7, 14), (7, 15), (1, 10), (7, 16), (2, 12), (4, 19), (8, 0), (8, 1), (8, 2), (8, 3), (8, 4), (8, 5), (8, 6), (8, 7), (8, 8), (8, 9), (8, 10), (8, 11), (8, 12), (8, 13), (8, 14), (8, 15), (8, 16), (8, 17), (8, 18), (8, 19), (8, 20), (8, 21), (8, 22), (8, 23), (8, 24), (8, 25), (8, 26), (8, 27), (8, 28), (8, 29), (8, 30), (8, 31), (8, 32), (8, 33), (8, 34), (8, 35), (8, 36), (8, 37), (8, 38), (8, 39), (8, 40), (8, 41), (8, 42), (8, 43), (8, 44), (8, 45), (8, 46), (8, 47), (8, 48), (8, 49), (8, 50), (8, 51), (8, 52), (8, 53), (8, 54), (8, 55), (8, 56), (8, 57)] rfl (by decide +kernel)
set_option maxRecDepth 20000 in
theorem gX10_oneTurn_X10_doCopies : GoodIn wsX10_oneTurn (wsV RX10 286 RX10 yX10_doCopies wsX10_doCopies) := goodIn_app (goodIn_s sg_wsX10_oneTurn si_wsX10_oneTurn _ [(7, 4), (7, 5), (7, 6), (1, 10)] rfl (by decide +kernel)) ggX10_oneTurn_X10_doCopies
noncomputable def sg_wsX10_run : List (List Cond) := [[.code yX10_run cX10_run 3 (some .int)], wsX10_run_r1, wsX10_run_r2, wsX10_run_r3, wsX10_run_r4, wsX10_run_r5, wsX10_run_r6, wsX10_run_r7, wsX100]
theorem si_wsX10_run : ∀ l ∈ sg_wsX10_run, ∀ w ∈ l, w ∈ wsX10_run := List.forall_mem_cons.mpr ⟨fun _ h => (List.mem_cons.mpr (Or.inl (List.mem_singleton.mp h))), List.forall_mem_cons.mpr ⟨fun _ h => (List.mem_cons_of_mem _ (List.mem_append_left _ (List.mem_append_left _ h))), List.forall_mem_cons.mpr ⟨fun _ h => (List.mem_cons_of_mem _ (List.mem_append_left _ (List.mem_append_right _ (List.mem_append_left _ h)))), List.forall_mem_cons.mpr ⟨fun _ h => (List.mem_cons_of_mem _ (List.mem_append_left _ (List.mem_append_right _ (List.mem_append_right _ (List.mem_append_left _ h))))), List.forall_mem_cons.mpr ⟨fun _ h => (List.mem_cons_of_mem _ (List.mem_append_left _ (List.mem_append_right _ (List.mem_append_right _ (List.mem_append_right _ (List.mem_append_left _ h)))))), List.forall_mem_cons.mpr ⟨fun _ h => (List.mem_cons_of_mem _ (List.mem_append_left _ (List.mem_append_right _ (List.mem_append_right _ (List.mem_append_right _ (List.mem_append_right _ (List.mem_append_left _ h))))))), List.forall_mem_cons.mpr ⟨fun _ h => (List.mem_cons_of_mem _ (List.mem_append_left _ (List.mem_append_right _ (List.mem_append_right _ (List.mem_append_right _ (List.mem_append_right _ (List.mem_append_right _ (List.mem_append_left _ h)))))))), List.forall_mem_cons.mpr ⟨fun _ h => (List.mem_cons_of_mem _ (List.mem_append_left _ (List.mem_append_right _ (List.mem_append_right _ (List.mem_append_right _ (List.mem_append_right _ (List.mem_append_right _ (List.mem_append_right _ h)))))))), List.forall_mem_cons.mpr ⟨fun _ h => (List.mem_cons_of_mem _ (List.mem_append_right _ h)), fun _ h => absurd h List.not_mem_nil⟩⟩⟩⟩⟩⟩⟩⟩⟩
set_option maxRecDepth 20000 in
theorem ggX10_run_X10_in : GoodIn wsX10_run wsX10_in := goodIn_s sg_wsX10_run si_wsX10_run _ [(1, 5)] rfl (by decide +kernel)
set_option maxRecDepth 20000 in
theorem gX10_run_X10_in : GoodIn wsX10_run (va_wsS RX10 156 yX10_in wsX10_in) := goodIn_app (goodIn_of _ (by decide +kernel)) ggX10_run_X10_in
set_option maxRecDepth 20000 in
theorem gc_wsX10_run_wsX100 : GoodIn wsX10_run wsX100 := goodIn_sub (fun _ h => List.mem_cons_of_mem _ (List.mem_append_right _ h)) (by decide +kernel)
set_option maxRecDepth 20000 in
theorem ggX10_run_X10_oneTurn_c : GoodIn wsX10_run [.code yX10_oneTurn cX10_oneTurn 3 none] := goodIn_s sg_wsX10_run si_wsX10_run _ [(1, 9)] rfl (by decide +kernel)
set_option maxRecDepth 20000 in
theorem ggX10_run_X10_oneTurn_wsX10_oneTurn_r1 : GoodIn wsX10_run wsX10_oneTurn_r1 := goodIn_s sg_wsX10_run si_wsX10_run _ [(1, 1), (1, 10), (1, 11), (1, 12), (1, 13), (1, 14), (1, 15), (1, 16), (1, 17), (1, 18), (1, 4), (1, 19), (1, 20), (1, 21), (1, 22), (1, 23), (2, 0), (2, 1), (2, 2), (2, 3), (2, 4), (2, 5), (2, 6), (2, 7)] rfl (by decide +kernel)
set_option maxRecDepth 20000 in
theorem ggX10_run_X10_oneTurn_wsX10_oneTurn_r2 : GoodIn wsX10_run wsX10_oneTurn_r2 := goodIn_s sg_wsX10_run si_wsX10_run _ [(2, 8), (2, 9), (2, 10), (2, 11), (2, 12), (1, 2), (1, 3), (1, 5), (2, 13), (2, 14), (2, 15), (2, 16), (2, 17), (2, 18), (2, 19), (2, 20), (2, 21), (2, 22), (2, 23), (3, 0), (3, 1), (3, 2), (3, 3), (3, 4)] rfl (by decide +kernel)
set_option maxRecDepth 20000 in
theorem ggX10_run_X10_oneTurn_wsX10_oneTurn_r3 : GoodIn wsX10_run wsX10_oneTurn_r3 := goodIn_s sg_wsX10_run si_wsX10_run _ [(3, 5), (3, 6), (3, 7), (3, 8), (3, 9), (3, 10), (3, 11), (3, 12), (3, 13), (3, 14), (3, 15), (3, 16), (3, 17), (3, 18), (3, 19), (3, 20), (3, 21), (3, 22), (3, 23), (4, 0), (4, 1), (4, 2), (4, 3), (4, 4)] rfl (by decide +kernel)
set_option maxRecDepth 20000 in
theorem ggX10_run_X10_oneTurn_wsX10_oneTurn_r4 : GoodIn wsX10_run wsX10_oneTurn_r4 := goodIn_s sg_wsX10_run si_wsX10_run _ [(4, 5), (4, 6), (4, 7), (4, 8), (4, 9), (4, 10), (4, 11), (4, 12), (4, 13), (4, 14), (4, 15), (4, 16), (4, 17), (4, 18), (4, 19), (4, 20), (4, 21), (4, 22), (4, 23), (5, 0), (5, 1), (5, 2), (5, 3), (5, 4)] rfl (by decide +kernel)
set_option maxRecDepth 20000 in
theorem ggX10_run_X10_oneTurn_wsX10_oneTurn_r5 : GoodIn wsX10_run wsX10_oneTurn_r5 := goodIn_s sg_wsX10_run si_wsX10_run _ [(5, 5), (5, 6), (5, 7), (5, 8), (5, 9), (5, 10), (5, 11), (5, 12), (5, 13), (5, 14), (5, 15), (5, 16), (5, 17), (5, 18), (5, 19), (5, 20), (5, 21), (5, 22), (5, 23), (6, 0), (6, 1), (6, 2), (6, 3), (6, 4)] rfl (by decide +kernel)
set_option maxRecDepth 20000 in
theorem ggX10_run_X10_oneTurn_wsX10_oneTurn_r6 : GoodIn wsX10_run wsX10_oneTurn_r6 := goodIn_s sg_wsX10_run si_wsX10_run _ [(6, 5), (6, 6), (6, 7), (6, 8), (6, 9), (6, 10), (6, 11), (6, 12), (6, 13), (6, 14), (6, 15), (6, 16), (6, 17), (6, 18), (6, 19), (6, 20), (6, 21), (6, 22), (6, 23), (7, 0), (7, 1), (7, 2), (7, 3), (7, 4)] rfl (by decide +kernel)
set_option maxRecDepth 20000 in
theorem ggX10_run_X10_oneTurn_wsX10_oneTurn_r7 : GoodIn wsX10_run wsX10_oneTurn_r7 := goodIn_s sg_wsX10_run si_wsX10_run _ [(7, 5), (7, 6), (7, 7), (7, 8), (7, 9), (7, 10), (7, 11), (7, 12), (7, 13), (7, 14), (7, 15), (7, 16), (7, 17), (7, 18), (7, 19), (7, 20), (7, 21)] rfl (by decide +kernel)
theorem ggX10_run_X10_oneTurn : GoodIn wsX10_run wsX10_oneTurn := fun w h => (List.mem_cons.mp h).elim (fun e => ggX10_run_X10_oneTurn_c w (List.mem_singleton.mpr e)) (fun h => (goodIn_app (goodIn_app ggX10_run_X10_oneTurn_wsX10_oneTurn_r1 (goodIn_app ggX10_run_X10_oneTurn_wsX10_oneTurn_r2 (goodIn_app ggX10_run_X10_oneTurn_wsX10_oneTurn_r3 (goodIn_app ggX10_run_X10_oneTurn_wsX10_oneTurn_r4 (goodIn_app ggX10_run_X10_oneTurn_wsX10_oneTurn_r5 (goodIn_app ggX10_run_X10_oneTurn_wsX10_oneTurn_r6 ggX10_run_X10_oneTurn_wsX10_oneTurn_r7)))))) gc_wsX10_run_wsX100) w h)
set_option maxRecDepth 20000 in
theorem gX10_run_X10_oneTurn : GoodIn wsX10_run (wsV RX10 289 RX10 yX10_oneTurn wsX10_oneTurn) := goodIn_app (goodIn_s sg_wsX10_run si_wsX10_run _ [(1, 6), (1, 7), (1, 8), (1, 4)] rfl (by decide +kernel)) ggX10_run_X10_oneTurn
set_option maxRecDepth 20000 in
theorem ggX10_about_X10_isReader : GoodIn wsX10_about wsX10_isReader := goodIn_r _ [14, 15, 16, 17, 13, 18, 25, 26, 27, 28, 29, 30, 31, 32, 33, 34, 35, 36, 37, 38, 39, 40, 41, 42, 43, 44, 45, 46, 47, 48, 49, 50, 51, 52, 53, 54, 55, 56, 57, 58, 59, 60, 61, 62, 63, 64, 65, 66, 67, 68, 69, 70, 71, 72, 73, 74, 75, 76, 77, 78, 79, 80, 81, 82] rfl (by decide +kernel)
set_option maxRecDepth 20000 in
theorem gX10_about_X10_isReader : GoodIn wsX10_about (wsV RX10 169 RX10 yX10_isReader wsX10_isReader) := goodIn_app (goodIn_r _ [10, 11, 12, 13] rfl (by decide +kernel)) ggX10_about_X10_isReader
set_option maxRecDepth 20000 in
theorem ggX10_about_X10_hasMany : GoodIn wsX10_about wsX10_hasMany := goodIn_r _ [22, 23, 24, 25, 26, 27, 28, 29, 30, 31, 32, 33, 34, 35, 36, 37, 38, 39, 40, 41, 42, 43, 44, 45, 46, 47, 48, 49, 50, 51, 52, 53, 54, 55, 56, 57, 58, 59, 60, 61, 62, 63, 64, 65, 66, 67, 68, 69, 70, 71, 72, 73, 74, 75, 76, 77, 78, 79, 80, 81, 82] rfl (by decide +kernel)
set_option maxRecDepth 20000 in
theorem gX10_about_X10_hasMany : GoodIn wsX10_about (wsV RX10 213 RX10 yX10_hasMany wsX10_hasMany) := goodIn_app (goodIn_r _ [19, 20, 21, 13] rfl (by decide +kernel)) ggX10_about_X10_hasMany
set_option maxRecDepth 20000 in
theorem ggX10_held_X10_isReader : GoodIn wsX10_held wsX10_isReader := goodIn_r _ [8, 9, 10, 11, 7, 12, 13, 14, 15, 16, 17, 18, 19, 20, 21, 22, 23, 24, 25, 26, 27, 28, 29, 30, 31, 32, 33, 34, 35, 36, 37, 38, 39, 40, 41, 42, 43, 44, 45, 46, 47, 48, 49, 50, 51, 52, 53, 54, 55, 56, 57, 58, 59, 60, 61, 62, 63, 64, 65, 66, 67, 68, 69, 70] rfl (by decide +kernel)
set_option maxRecDepth 20000 in
theorem gX10_held_X10_isReader : GoodIn wsX10_held (wsV RX10 169 RX10 yX10_isReader wsX10_isReader) := goodIn_app (goodIn_r _ [4, 5, 6, 7] rfl (by decide +kernel)) ggX10_held_X10_isReader
set_option maxRecDepth 20000 in
theorem ggX10_refused_X10_isReader : GoodIn wsX10_refused wsX10_isReader := goodIn_r _ [8, 9, 10, 11, 7, 12, 13, 14, 15, 16, 17, 18, 19, 20, 21, 22, 23, 24, 25, 26, 27, 28, 29, 30, 31, 32, 33, 34, 35, 36, 37, 38, 39, 40, 41, 42, 43, 44, 45, 46, 47, 48, 49, 50, 51, 52, 53, 54, 55, 56, 57, 58, 59, 60, 61, 62, 63, 64, 65, 66, 67, 68, 69, 70] rfl (by decide +kernel)
set_option maxRecDepth 20000 in
theorem gX10_refused_X10_isReader : GoodIn wsX10_refused (wsV RX10 169 RX10 yX10_isReader wsX10_isReader) := goodIn_app (goodIn_r _ [4, 5, 6, 7] rfl (by decide +kernel)) ggX10_refused_X10_isReader
set_option maxRecDepth 20000 in
theorem ggX10_refused_X10_in : GoodIn wsX10_refused wsX10_in := goodIn_r _ [12] rfl (by decide +kernel)
set_option maxRecDepth 20000 in
theorem gX10_refused_X10_in : GoodIn wsX10_refused (va_wsS RX10 156 yX10_in wsX10_in) := goodIn_app (goodIn_of _ (by decide +kernel)) ggX10_refused_X10_in
set_option maxRecDepth 20000 in
theorem ggX10_place_X10_isBox : GoodIn wsX10_place wsX10_isBox := goodIn_r _ [7, 8, 9, 10, 6, 11, 12, 13, 14, 15, 16, 17, 18, 19, 20, 21, 22, 23, 24, 25, 26, 27, 28, 29, 30, 31, 32, 33, 34, 35, 36, 37, 38, 39, 40, 41, 42, 43, 44, 45, 46, 47, 48, 49, 50, 51, 52, 53, 54, 55, 56, 57, 58, 59, 60, 61, 62, 63, 64, 65, 66, 67, 68, 69] rfl (by decide +kernel)
set_option maxRecDepth 20000 in
theorem gX10_place_X10_isBox : GoodIn wsX10_place (wsV RX10 176 RX10 yX10_isBox wsX10_isBox) := goodIn_app (goodIn_r _ [3, 4, 5, 6] rfl (by decide +kernel)) ggX10_place_X10_isBox
set_option maxRecDepth 20000 in
theorem ggX10_whose_X10_isBox : GoodIn wsX10_whose wsX10_isBox := goodIn_r _ [8, 9, 10, 11, 7, 12, 13, 14, 15, 16, 17, 18, 19, 20, 21, 22, 23, 24, 25, 26, 27, 28, 29, 30, 31, 32, 33, 34, 35, 36, 37, 38, 39, 40, 41, 42, 43, 44, 45, 46, 47, 48, 49, 50, 51, 52, 53, 54, 55, 56, 57, 58, 59, 60, 61, 62, 63, 64, 65, 66, 67, 68, 69, 70] rfl (by decide +kernel)
set_option maxRecDepth 20000 in
theorem gX10_whose_X10_isBox : GoodIn wsX10_whose (wsV RX10 176 RX10 yX10_isBox wsX10_isBox) := goodIn_app (goodIn_r _ [4, 5, 6, 7] rfl (by decide +kernel)) ggX10_whose_X10_isBox
set_option maxRecDepth 20000 in
theorem ggX10_seated_X10_in : GoodIn wsX10_seated wsX10_in := goodIn_r _ [7] rfl (by decide +kernel)
set_option maxRecDepth 20000 in
theorem gX10_seated_X10_in : GoodIn wsX10_seated (va_wsS RX10 156 yX10_in wsX10_in) := goodIn_app (goodIn_of _ (by decide +kernel)) ggX10_seated_X10_in
set_option maxRecDepth 20000 in
theorem ggX10_worker_X10_in : GoodIn wsX10_worker wsX10_in := goodIn_r _ [11] rfl (by decide +kernel)
set_option maxRecDepth 20000 in
theorem gX10_worker_X10_in : GoodIn wsX10_worker (va_wsS RX10 156 yX10_in wsX10_in) := goodIn_app (goodIn_of _ (by decide +kernel)) ggX10_worker_X10_in
noncomputable def sg_wsX10_queue : List (List Cond) := [[.code yX10_queue cX10_queue 7 (some .int)], wsX10_queue_r1, wsX10_queue_r2, wsX100]
theorem si_wsX10_queue : ∀ l ∈ sg_wsX10_queue, ∀ w ∈ l, w ∈ wsX10_queue := List.forall_mem_cons.mpr ⟨fun _ h => (List.mem_cons.mpr (Or.inl (List.mem_singleton.mp h))), List.forall_mem_cons.mpr ⟨fun _ h => (List.mem_cons_of_mem _ (List.mem_append_left _ (List.mem_append_left _ h))), List.forall_mem_cons.mpr ⟨fun _ h => (List.mem_cons_of_mem _ (List.mem_append_left _ (List.mem_append_right _ h))), List.forall_mem_cons.mpr ⟨fun _ h => (List.mem_cons_of_mem _ (List.mem_append_right _ h)), fun _ h => absurd h List.not_mem_nil⟩⟩⟩⟩
set_option maxRecDepth 20000 in
theorem ggX10_queue_X10_in : GoodIn wsX10_queue wsX10_in := goodIn_s sg_wsX10_queue si_wsX10_queue _ [(1, 13)] rfl (by decide +kernel)
set_option maxRecDepth 20000 in
theorem gX10_queue_X10_in : GoodIn wsX10_queue (va_wsS RX10 156 yX10_in wsX10_in) := goodIn_app (goodIn_of _ (by decide +kernel)) ggX10_queue_X10_in
set_option maxRecDepth 20000 in
theorem ggX10_queue_X10_findLine : GoodIn wsX10_queue wsX10_findLine := goodIn_s sg_wsX10_queue si_wsX10_queue _ [(1, 17), (1, 1), (1, 18), (1, 19), (1, 2), (1, 20), (1, 21), (1, 22), (1, 12), (1, 23), (2, 0), (2, 1), (3, 0), (3, 1), (3, 2), (3, 3), (3, 4), (3, 5), (3, 6), (3, 7), (3, 8), (3, 9), (3, 10), (3, 11), (3, 12), (3, 13), (3, 14), (3, 15), (3, 16), (3, 17), (3, 18), (3, 19), (3, 20), (3, 21), (3, 22), (3, 23), (3, 24), (3, 25), (3, 26), (3, 27), (3, 28), (3, 29), (3, 30), (3, 31), (3, 32), (3, 33), (3, 34), (3, 35), (3, 36), (3, 37), (3, 38), (3, 39), (3, 40), (3, 41), (3, 42), (3, 43), (3, 44), (3, 45), (3, 46), (3, 47), (3, 48), (3, 49), (3, 50), (3, 51), (3, 52), (3, 53), (3, 54), (3, 55), (3, 56), (3, 57)] rfl (by decide +kernel)
set_option maxRecDepth 20000 in
theorem gX10_queue_X10_findLine : GoodIn wsX10_queue (wsV RX10 237 RX10 yX10_findLine wsX10_findLine) := goodIn_app (goodIn_s sg_wsX10_queue si_wsX10_queue _ [(1, 14), (1, 15), (1, 16), (1, 12)] rfl (by decide +kernel)) ggX10_queue_X10_findLine
set_option maxRecDepth 20000 in
theorem ggX10_event__X10_in : GoodIn wsX10_event_ wsX10_in := goodIn_r _ [10] rfl (by decide +kernel)
set_option maxRecDepth 20000 in
theorem gX10_event__X10_in : GoodIn wsX10_event_ (va_wsS RX10 156 yX10_in wsX10_in) := goodIn_app (goodIn_of _ (by decide +kernel)) ggX10_event__X10_in
set_option maxRecDepth 20000 in
theorem ggX10_isQuiet_X10_in : GoodIn wsX10_isQuiet wsX10_in := goodIn_r _ [7] rfl (by decide +kernel)
set_option maxRecDepth 20000 in
theorem gX10_isQuiet_X10_in : GoodIn wsX10_isQuiet (va_wsS RX10 156 yX10_in wsX10_in) := goodIn_app (goodIn_of _ (by decide +kernel)) ggX10_isQuiet_X10_in
set_option maxRecDepth 20000 in
theorem ggX10_isQuiet_X10_home : GoodIn wsX10_isQuiet wsX10_home := goodIn_r _ [11, 3, 12, 13, 14, 15, 16, 17, 18, 19, 20, 21, 22, 23, 24, 25, 26, 27, 28, 29, 30, 31, 32, 33, 34, 35, 36, 37, 38, 39, 40, 41, 42, 43, 44, 45, 46, 47, 48, 49, 50, 51, 52, 53, 54, 55, 56, 57, 58, 59, 60, 61, 62, 63, 64, 65, 66, 67, 68, 69, 70] rfl (by decide +kernel)
set_option maxRecDepth 20000 in
theorem gX10_isQuiet_X10_home : GoodIn wsX10_isQuiet (wsV RX10 292 RX10 yX10_home wsX10_home) := goodIn_app (goodIn_r _ [8, 9, 10, 6] rfl (by decide +kernel)) ggX10_isQuiet_X10_home
noncomputable def sg_wsX10_count : List (List Cond) := [[.code yX10_count cX10_count 4 (some .int)], wsX10_count_r1, wsX10_count_r2, wsX100]
theorem si_wsX10_count : ∀ l ∈ sg_wsX10_count, ∀ w ∈ l, w ∈ wsX10_count := List.forall_mem_cons.mpr ⟨fun _ h => (List.mem_cons.mpr (Or.inl (List.mem_singleton.mp h))), List.forall_mem_cons.mpr ⟨fun _ h => (List.mem_cons_of_mem _ (List.mem_append_left _ (List.mem_append_left _ h))), List.forall_mem_cons.mpr ⟨fun _ h => (List.mem_cons_of_mem _ (List.mem_append_left _ (List.mem_append_right _ h))), List.forall_mem_cons.mpr ⟨fun _ h => (List.mem_cons_of_mem _ (List.mem_append_right _ h)), fun _ h => absurd h List.not_mem_nil⟩⟩⟩⟩
set_option maxRecDepth 20000 in
theorem ggX10_count_X10_home : GoodIn wsX10_count wsX10_home := goodIn_s sg_wsX10_count si_wsX10_count _ [(1, 16), (1, 3), (1, 17), (3, 0), (3, 1), (3, 2), (3, 3), (3, 4), (3, 5), (3, 6), (3, 7), (3, 8), (3, 9), (3, 10), (3, 11), (3, 12), (3, 13), (3, 14), (3, 15), (3, 16), (3, 17), (3, 18), (3, 19), (3, 20), (3, 21), (3, 22), (3, 23), (3, 24), (3, 25), (3, 26), (3, 27), (3, 28), (3, 29), (3, 30), (3, 31), (3, 32), (3, 33), (3, 34), (3, 35), (3, 36), (3, 37), (3, 38), (3, 39), (3, 40), (3, 41), (3, 42), (3, 43), (3, 44), (3, 45), (3, 46), (3, 47), (3, 48), (3, 49), (3, 50), (3, 51), (3, 52), (3, 53), (3, 54), (3, 55), (3, 56), (3, 57)] rfl (by decide +kernel)
set_option maxRecDepth 20000 in
theorem gX10_count_X10_home : GoodIn wsX10_count (wsV RX10 292 RX10 yX10_home wsX10_home) := goodIn_app (goodIn_s sg_wsX10_count si_wsX10_count _ [(1, 12), (1, 13), (1, 14), (1, 15)] rfl (by decide +kernel)) ggX10_count_X10_home
set_option maxRecDepth 20000 in
theorem ggX10_count_X10_isQuiet : GoodIn wsX10_count wsX10_isQuiet := goodIn_s sg_wsX10_count si_wsX10_count _ [(1, 21), (1, 4), (1, 22), (1, 3), (1, 23), (2, 0), (1, 15), (2, 1), (1, 12), (1, 13), (1, 14), (1, 16), (1, 17), (3, 0), (3, 1), (3, 2), (3, 3), (3, 4), (3, 5), (3, 6), (3, 7), (3, 8), (3, 9), (3, 10), (3, 11), (3, 12), (3, 13), (3, 14), (3, 15), (3, 16), (3, 17), (3, 18), (3, 19), (3, 20), (3, 21), (3, 22), (3, 23), (3, 24), (3, 25), (3, 26), (3, 27), (3, 28), (3, 29), (3, 30), (3, 31), (3, 32), (3, 33), (3, 34), (3, 35), (3, 36), (3, 37), (3, 38), (3, 39), (3, 40), (3, 41), (3, 42), (3, 43), (3, 44), (3, 45), (3, 46), (3, 47), (3, 48), (3, 49), (3, 50), (3, 51), (3, 52), (3, 53), (3, 54), (3, 55), (3, 56), (3, 57)] rfl (by decide +kernel)
set_option maxRecDepth 20000 in
theorem gX10_count_X10_isQuiet : GoodIn wsX10_count (wsV RX10 295 RX10 yX10_isQuiet wsX10_isQuiet) := goodIn_app (goodIn_s sg_wsX10_count si_wsX10_count _ [(1, 18), (1, 19), (1, 20), (1, 15)] rfl (by decide +kernel)) ggX10_count_X10_isQuiet
