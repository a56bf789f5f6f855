set_option maxRecDepth 20000 in
theorem gL_law_X10_about : GoodIn wsL_law0 (wsV RL 74 RX10 yX10_about wsX10_about) := goodIn_app (goodIn_s segsL segsL_in _ [(28, 11), (28, 12), (28, 13), (0, 5)] rfl (by decide +kernel)) ggL_law_X10_about
set_option maxRecDepth 20000 in
theorem ggL_law_X9_held_c : GoodIn wsL_law0 [.code yX9_held cX9_held 5 (some .int)] := goodIn_s segsL segsL_in _ [(28, 18)] rfl (by decide +kernel)
set_option maxRecDepth 20000 in
theorem ggL_law_X9_held_l : GoodIn wsL_law0 [.fieldLink RX9 88 "FondsRoom" "boxCount" "I", .fieldLink RX9 20 "FondsRoom" "boxes" "[LFondsRoom$Box;", .fieldLink RX9 239 "FondsRoom$Box" "holder" "LFondsRoom$Reader;", .fieldLink RX9 27 "FondsRoom" "readers" "[LFondsRoom$Reader;", .methodLink RX9 128 yX9_isReader, .instanceMethod yX9_isReader, .selects RX9 yX9_isReader yX9_isReader, .initialized RX9, .code yX9_isReader cX9_isReader 2 (some .boolean), .fieldLink RX9 104 "FondsRoom" "readerCount" "I"] := goodIn_s segsL segsL_in _ [(7, 10), (0, 18), (14, 10), (0, 22), (9, 15), (9, 16), (9, 17), (0, 2), (9, 18), (8, 13)] rfl (by decide +kernel)
theorem ggL_law_X9_held : GoodIn wsL_law0 wsX9_held := fun w h => (List.mem_cons.mp h).elim (fun e => ggL_law_X9_held_c w (List.mem_singleton.mpr e)) (fun h => (goodIn_app (goodIn_app ggL_law_X9_held_l gW_wsX90) gW_wsX00) w h)
set_option maxRecDepth 20000 in
theorem gL_law_X9_held : GoodIn wsL_law0 (wsV RL 75 RX9 yX9_held wsX9_held) := goodIn_app (goodIn_s segsL segsL_in _ [(28, 15), (28, 16), (28, 17), (0, 2)] rfl (by decide +kernel)) ggL_law_X9_held
set_option maxRecDepth 20000 in
theorem ggL_law_X10_held_c : GoodIn wsL_law0 [.code yX10_held cX10_held 5 (some .int)] := goodIn_s segsL segsL_in _ [(28, 22)] rfl (by decide +kernel)
set_option maxRecDepth 20000 in
theorem ggL_law_X10_held_l : GoodIn wsL_law0 [.fieldLink RX10 150 "FondsRoomModel" "thrown" "I", .fieldLink RX10 160 "FondsRoomModel" "boxes" "I", .fieldLink RX10 39 "FondsRoomModel" "has" "[I", .methodLink RX10 169 yX10_isReader, .instanceMethod yX10_isReader, .selects RX10 yX10_isReader yX10_isReader, .initialized RX10, .code yX10_isReader cX10_isReader 2 (some .boolean), .fieldLink RX10 153 "FondsRoomModel" "readers" "I", .methodLink RX10 156 yX10_in, .static yX10_in, .code yX10_in cX10_in 3 (some .boolean)] := goodIn_s segsL segsL_in _ [(7, 3), (7, 20), (5, 3), (10, 12), (10, 13), (10, 14), (0, 5), (10, 15), (9, 1), (7, 21), (7, 22), (7, 23)] rfl (by decide +kernel)
theorem ggL_law_X10_held : GoodIn wsL_law0 wsX10_held := fun w h => (List.mem_cons.mp h).elim (fun e => ggL_law_X10_held_c w (List.mem_singleton.mpr e)) (fun h => (goodIn_app ggL_law_X10_held_l gW_wsX100) w h)
set_option maxRecDepth 20000 in
theorem gL_law_X10_held : GoodIn wsL_law0 (wsV RL 78 RX10 yX10_held wsX10_held) := goodIn_app (goodIn_s segsL segsL_in _ [(28, 19), (28, 20), (28, 21), (0, 5)] rfl (by decide +kernel)) ggL_law_X10_held
set_option maxRecDepth 20000 in
theorem ggL_law_X9_refused_c : GoodIn wsL_law0 [.code yX9_refused cX9_refused 3 (some .int)] := goodIn_s segsL segsL_in _ [(29, 2)] rfl (by decide +kernel)
set_option maxRecDepth 20000 in
theorem ggL_law_X9_refused_l : GoodIn wsL_law0 [.fieldLink RX9 27 "FondsRoom" "readers" "[LFondsRoom$Reader;", .fieldLink RX9 135 "FondsRoom$Reader" "plan" "LFondsRoom$Plan;", .methodLink RX9 128 yX9_isReader, .instanceMethod yX9_isReader, .selects RX9 yX9_isReader yX9_isReader, .initialized RX9, .code yX9_isReader cX9_isReader 2 (some .boolean), .fieldLink RX9 104 "FondsRoom" "readerCount" "I", .methodLink RX9 433 yX5_refusalRule, .instanceMethod yX5_refusalRule, .selects RX5 yX5_refusalRule yX5_refusalRule, .initialized RX5, .code yX5_refusalRule cX5_refusalRule 2 (some .int), .fieldLink RX5 32 "FondsRoom$Plan" "refusals" "I", .fieldLink RX5 25 "FondsRoom$Plan" "rules" "[I"] := goodIn_s segsL segsL_in _ [(0, 22), (9, 14), (9, 15), (9, 16), (9, 17), (0, 2), (9, 18), (8, 13), (29, 3), (29, 4), (29, 5), (2, 15), (29, 6), (18, 23), (3, 3)] rfl (by decide +kernel)
theorem ggL_law_X9_refused : GoodIn wsL_law0 wsX9_refused := fun w h => (List.mem_cons.mp h).elim (fun e => ggL_law_X9_refused_c w (List.mem_singleton.mpr e)) (fun h => (goodIn_app (goodIn_app (goodIn_app ggL_law_X9_refused_l gW_wsX90) gW_wsX60) gW_wsX50) w h)
set_option maxRecDepth 20000 in
theorem gL_law_X9_refused : GoodIn wsL_law0 (wsV RL 79 RX9 yX9_refused wsX9_refused) := goodIn_app (goodIn_s segsL segsL_in _ [(28, 23), (29, 0), (29, 1), (0, 2)] rfl (by decide +kernel)) ggL_law_X9_refused
set_option maxRecDepth 20000 in
theorem ggL_law_X10_refused_c : GoodIn wsL_law0 [.code yX10_refused cX10_refused 3 (some .int)] := goodIn_s segsL segsL_in _ [(29, 10)] rfl (by decide +kernel)
set_option maxRecDepth 20000 in
theorem ggL_law_X10_refused_l : GoodIn wsL_law0 [.fieldLink RX10 150 "FondsRoomModel" "thrown" "I", .fieldLink RX10 90 "FondsRoomModel" "refusals" "[I", .fieldLink RX10 93 "FondsRoomModel" "rules" "[I", .methodLink RX10 169 yX10_isReader, .instanceMethod yX10_isReader, .selects RX10 yX10_isReader yX10_isReader, .initialized RX10, .code yX10_isReader cX10_isReader 2 (some .boolean), .fieldLink RX10 153 "FondsRoomModel" "readers" "I", .methodLink RX10 156 yX10_in, .static yX10_in, .code yX10_in cX10_in 3 (some .boolean)] := goodIn_s segsL segsL_in _ [(7, 3), (5, 20), (5, 21), (10, 12), (10, 13), (10, 14), (0, 5), (10, 15), (9, 1), (7, 21), (7, 22), (7, 23)] rfl (by decide +kernel)
theorem ggL_law_X10_refused : GoodIn wsL_law0 wsX10_refused := fun w h => (List.mem_cons.mp h).elim (fun e => ggL_law_X10_refused_c w (List.mem_singleton.mpr e)) (fun h => (goodIn_app ggL_law_X10_refused_l gW_wsX100) w h)
set_option maxRecDepth 20000 in
theorem gL_law_X10_refused : GoodIn wsL_law0 (wsV RL 82 RX10 yX10_refused wsX10_refused) := goodIn_app (goodIn_s segsL segsL_in _ [(29, 7), (29, 8), (29, 9), (0, 5)] rfl (by decide +kernel)) ggL_law_X10_refused
set_option maxRecDepth 20000 in
theorem ggL_law_X9_place_c : GoodIn wsL_law0 [.code yX9_place cX9_place 2 (some .int)] := goodIn_s segsL segsL_in _ [(29, 14)] rfl (by decide +kernel)
set_option maxRecDepth 20000 in
theorem ggL_law_X9_place_l : GoodIn wsL_law0 [.fieldLink RX9 20 "FondsRoom" "boxes" "[LFondsRoom$Box;", .fieldLink RX9 233 "FondsRoom$Box" "place" "I", .methodLink RX9 120 yX9_isBox, .instanceMethod yX9_isBox, .selects RX9 yX9_isBox yX9_isBox, .initialized RX9, .code yX9_isBox cX9_isBox 2 (some .boolean), .fieldLink RX9 88 "FondsRoom" "boxCount" "I"] := goodIn_s segsL segsL_in _ [(0, 18), (14, 11), (9, 6), (9, 7), (9, 8), (0, 2), (9, 9), (7, 10)] rfl (by decide +kernel)
theorem ggL_law_X9_place : GoodIn wsL_law0 wsX9_place := fun w h => (List.mem_cons.mp h).elim (fun e => ggL_law_X9_place_c w (List.mem_singleton.mpr e)) (fun h => (goodIn_app (goodIn_app ggL_law_X9_place_l gW_wsX90) gW_wsX00) w h)
set_option maxRecDepth 20000 in
theorem gL_law_X9_place : GoodIn wsL_law0 (wsV RL 83 RX9 yX9_place wsX9_place) := goodIn_app (goodIn_s segsL segsL_in _ [(29, 11), (29, 12), (29, 13), (0, 2)] rfl (by decide +kernel)) ggL_law_X9_place
set_option maxRecDepth 20000 in
theorem ggL_law_X10_place_c : GoodIn wsL_law0 [.code yX10_place cX10_place 2 (some .int)] := goodIn_s segsL segsL_in _ [(29, 18)] rfl (by decide +kernel)
set_option maxRecDepth 20000 in
theorem ggL_law_X10_place_l : GoodIn wsL_law0 [.fieldLink RX10 150 "FondsRoomModel" "thrown" "I", .fieldLink RX10 36 "FondsRoomModel" "place" "[I", .methodLink RX10 176 yX10_isBox, .instanceMethod yX10_isBox, .selects RX10 yX10_isBox yX10_isBox, .initialized RX10, .code yX10_isBox cX10_isBox 2 (some .boolean), .fieldLink RX10 160 "FondsRoomModel" "boxes" "I", .methodLink RX10 156 yX10_in, .static yX10_in, .code yX10_in cX10_in 3 (some .boolean)] := goodIn_s segsL segsL_in _ [(7, 3), (5, 2), (10, 16), (10, 17), (10, 18), (0, 5), (10, 19), (7, 20), (7, 21), (7, 22), (7, 23)] rfl (by decide +kernel)
theorem ggL_law_X10_place : GoodIn wsL_law0 wsX10_place := fun w h => (List.mem_cons.mp h).elim (fun e => ggL_law_X10_place_c w (List.mem_singleton.mpr e)) (fun h => (goodIn_app ggL_law_X10_place_l gW_wsX100) w h)
set_option maxRecDepth 20000 in
theorem gL_law_X10_place : GoodIn wsL_law0 (wsV RL 86 RX10 yX10_place wsX10_place) := goodIn_app (goodIn_s segsL segsL_in _ [(29, 15), (29, 16), (29, 17), (0, 5)] rfl (by decide +kernel)) ggL_law_X10_place
set_option maxRecDepth 20000 in
theorem ggL_law_X9_whose_c : GoodIn wsL_law0 [.code yX9_whose cX9_whose 3 (some .int)] := goodIn_s segsL segsL_in _ [(29, 22)] rfl (by decide +kernel)
set_option maxRecDepth 20000 in
theorem ggL_law_X9_whose_l : GoodIn wsL_law0 [.fieldLink RX9 20 "FondsRoom" "boxes" "[LFondsRoom$Box;", .fieldLink RX9 239 "FondsRoom$Box" "holder" "LFondsRoom$Reader;", .fieldLink RX9 260 "FondsRoom$Box" "wanter" "LFondsRoom$Reader;", .methodLink RX9 120 yX9_isBox, .instanceMethod yX9_isBox, .selects RX9 yX9_isBox yX9_isBox, .initialized RX9, .code yX9_isBox cX9_isBox 2 (some .boolean), .fieldLink RX9 88 "FondsRoom" "boxCount" "I", .methodLink RX9 437 yX9_numberOf, .static yX9_numberOf, .code yX9_numberOf cX9_numberOf 1 (some .int), .fieldLink RX9 273 "FondsRoom$Reader" "number" "I"] := goodIn_s segsL segsL_in _ [(0, 18), (14, 10), (15, 1), (9, 6), (9, 7), (9, 8), (0, 2), (9, 9), (7, 10), (29, 23), (30, 0), (30, 1), (14, 14)] rfl (by decide +kernel)
theorem ggL_law_X9_whose : GoodIn wsL_law0 wsX9_whose := fun w h => (List.mem_cons.mp h).elim (fun e => ggL_law_X9_whose_c w (List.mem_singleton.mpr e)) (fun h => (goodIn_app (goodIn_app (goodIn_app ggL_law_X9_whose_l gW_wsX90) gW_wsX00) gW_wsX60) w h)
set_option maxRecDepth 20000 in
theorem gL_law_X9_whose : GoodIn wsL_law0 (wsV RL 87 RX9 yX9_whose wsX9_whose) := goodIn_app (goodIn_s segsL segsL_in _ [(29, 19), (29, 20), (29, 21), (0, 2)] rfl (by decide +kernel)) ggL_law_X9_whose
set_option maxRecDepth 20000 in
theorem ggL_law_X10_whose_c : GoodIn wsL_law0 [.code yX10_whose cX10_whose 2 (some .int)] := goodIn_s segsL segsL_in _ [(30, 5)] rfl (by decide +kernel)
set_option maxRecDepth 20000 in
theorem ggL_law_X10_whose_l : GoodIn wsL_law0 [.fieldLink RX10 150 "FondsRoomModel" "thrown" "I", .fieldLink RX10 39 "FondsRoomModel" "has" "[I", .fieldLink RX10 42 "FondsRoomModel" "ticket" "[I", .methodLink RX10 176 yX10_isBox, .instanceMethod yX10_isBox, .selects RX10 yX10_isBox yX10_isBox, .initialized RX10, .code yX10_isBox cX10_isBox 2 (some .boolean), .fieldLink RX10 160 "FondsRoomModel" "boxes" "I", .methodLink RX10 156 yX10_in, .static yX10_in, .code yX10_in cX10_in 3 (some .boolean)] := goodIn_s segsL segsL_in _ [(7, 3), (5, 3), (5, 4), (10, 16), (10, 17), (10, 18), (0, 5), (10, 19), (7, 20), (7, 21), (7, 22), (7, 23)] rfl (by decide +kernel)
theorem ggL_law_X10_whose : GoodIn wsL_law0 wsX10_whose := fun w h => (List.mem_cons.mp h).elim (fun e => ggL_law_X10_whose_c w (List.mem_singleton.mpr e)) (fun h => (goodIn_app ggL_law_X10_whose_l gW_wsX100) w h)
set_option maxRecDepth 20000 in
theorem gL_law_X10_whose : GoodIn wsL_law0 (wsV RL 90 RX10 yX10_whose wsX10_whose) := goodIn_app (goodIn_s segsL segsL_in _ [(30, 2), (30, 3), (30, 4), (0, 5)] rfl (by decide +kernel)) ggL_law_X10_whose
set_option maxRecDepth 20000 in
theorem ggL_law_X9_seated_c : GoodIn wsL_law0 [.code yX9_seated cX9_seated 2 (some .int)] := goodIn_s segsL segsL_in _ [(30, 9)] rfl (by decide +kernel)
set_option maxRecDepth 20000 in
theorem ggL_law_X9_seated_l : GoodIn wsL_law0 [.fieldLink RX9 81 "FondsRoom" "deskCount" "I", .fieldLink RX9 11 "FondsRoom" "desks" "[LFondsRoom$Desk;", .fieldLink RX9 348 "FondsRoom$Desk" "sitter" "LFondsRoom$Reader;", .methodLink RX9 91 yX9_isWithin, .static yX9_isWithin, .initialized RX9, .code yX9_isWithin cX9_isWithin 3 (some .boolean), .methodLink RX9 437 yX9_numberOf, .static yX9_numberOf, .code yX9_numberOf cX9_numberOf 1 (some .int), .fieldLink RX9 273 "FondsRoom$Reader" "number" "I"] := goodIn_s segsL segsL_in _ [(6, 21), (0, 14), (14, 13), (7, 13), (7, 14), (0, 2), (7, 15), (29, 23), (30, 0), (30, 1), (14, 14)] rfl (by decide +kernel)
theorem ggL_law_X9_seated : GoodIn wsL_law0 wsX9_seated := fun w h => (List.mem_cons.mp h).elim (fun e => ggL_law_X9_seated_c w (List.mem_singleton.mpr e)) (fun h => (goodIn_app (goodIn_app (goodIn_app ggL_law_X9_seated_l gW_wsX90) gW_wsX10) gW_wsX60) w h)
set_option maxRecDepth 20000 in
theorem gL_law_X9_seated : GoodIn wsL_law0 (wsV RL 91 RX9 yX9_seated wsX9_seated) := goodIn_app (goodIn_s segsL segsL_in _ [(30, 6), (30, 7), (30, 8), (0, 2)] rfl (by decide +kernel)) ggL_law_X9_seated
set_option maxRecDepth 20000 in
theorem ggL_law_X10_seated_c : GoodIn wsL_law0 [.code yX10_seated cX10_seated 2 (some .int)] := goodIn_s segsL segsL_in _ [(30, 13)] rfl (by decide +kernel)
set_option maxRecDepth 20000 in
theorem ggL_law_X10_seated_l : GoodIn wsL_law0 [.fieldLink RX10 150 "FondsRoomModel" "thrown" "I", .fieldLink RX10 166 "FondsRoomModel" "desks" "I", .fieldLink RX10 26 "FondsRoomModel" "sitter" "[I", .methodLink RX10 156 yX10_in, .static yX10_in, .initialized RX10, .code yX10_in cX10_in 3 (some .boolean)] := goodIn_s segsL segsL_in _ [(7, 3), (7, 5), (4, 23), (7, 21), (7, 22), (0, 5), (7, 23)] rfl (by decide +kernel)
theorem ggL_law_X10_seated : GoodIn wsL_law0 wsX10_seated := fun w h => (List.mem_cons.mp h).elim (fun e => ggL_law_X10_seated_c w (List.mem_singleton.mpr e)) (fun h => (goodIn_app ggL_law_X10_seated_l gW_wsX100) w h)
set_option maxRecDepth 20000 in
theorem gL_law_X10_seated : GoodIn wsL_law0 (wsV RL 94 RX10 yX10_seated wsX10_seated) := goodIn_app (goodIn_s segsL segsL_in _ [(30, 10), (30, 11), (30, 12), (0, 5)] rfl (by decide +kernel)) ggL_law_X10_seated
set_option maxRecDepth 20000 in
theorem ggL_law_X9_worker_c : GoodIn wsL_law0 [.code yX9_worker cX9_worker 5 (some .int)] := goodIn_s segsL segsL_in _ [(30, 17)] rfl (by decide +kernel)
set_option maxRecDepth 20000 in
theorem ggL_law_X9_worker_l : GoodIn wsL_law0 [.fieldLink RX9 37 "FondsRoom" "fetchers" "LFondsRoom$Staff;", .fieldLink RX9 216 "FondsRoom$Staff" "workers" "[LFondsRoom$Worker;", .fieldLink RX9 41 "FondsRoom" "copyists" "LFondsRoom$Staff;", .fieldLink RX9 227 "FondsRoom$Worker" "box" "LFondsRoom$Box;", .fieldLink RX9 253 "FondsRoom$Box" "number" "I", .fieldLink RX9 243 "FondsRoom$Worker" "left" "I", .methodLink RX9 145 yX9_isPerson, .instanceMethod yX9_isPerson, .selects RX9 yX9_isPerson yX9_isPerson, .initialized RX9, .code yX9_isPerson cX9_isPerson 3 (some .boolean), .methodLink RX9 128 yX9_isReader, .instanceMethod yX9_isReader, .selects RX9 yX9_isReader yX9_isReader, .code yX9_isReader cX9_isReader 2 (some .boolean), .fieldLink RX9 104 "FondsRoom" "readerCount" "I", .methodLink RX9 151 yX7_hasWorker, .instanceMethod yX7_hasWorker, .selects RX7 yX7_hasWorker yX7_hasWorker, .initialized RX7, .code yX7_hasWorker cX7_hasWorker 2 (some .boolean), .fieldLink RX7 22 "FondsRoom$Staff" "hired" "I", .fieldLink RX7 15 "FondsRoom$Staff" "workers" "[LFondsRoom$Worker;"] := goodIn_s segsL segsL_in _ [(1, 4), (14, 2), (1, 5), (15, 11), (16, 17), (16, 11), (12, 12), (12, 13), (12, 14), (0, 2), (12, 15), (9, 15), (9, 16), (9, 17), (9, 18), (8, 13), (12, 16), (12, 17), (12, 18), (1, 3), (12, 19), (3, 16), (3, 13)] rfl (by decide +kernel)
theorem ggL_law_X9_worker : GoodIn wsL_law0 wsX9_worker := fun w h => (List.mem_cons.mp h).elim (fun e => ggL_law_X9_worker_c w (List.mem_singleton.mpr e)) (fun h => (goodIn_app (goodIn_app (goodIn_app (goodIn_app ggL_law_X9_worker_l gW_wsX90) gW_wsX70) gW_wsX80) gW_wsX00) w h)
set_option maxRecDepth 20000 in
theorem gL_law_X9_worker : GoodIn wsL_law0 (wsV RL 95 RX9 yX9_worker wsX9_worker) := goodIn_app (goodIn_s segsL segsL_in _ [(30, 14), (30, 15), (30, 16), (0, 2)] rfl (by decide +kernel)) ggL_law_X9_worker
set_option maxRecDepth 20000 in
theorem ggL_law_X10_worker_c : GoodIn wsL_law0 [.code yX10_worker cX10_worker 5 (some .int)] := goodIn_s segsL segsL_in _ [(30, 21)] rfl (by decide +kernel)
set_option maxRecDepth 20000 in
theorem ggL_law_X10_worker_l : GoodIn wsL_law0 [.fieldLink RX10 150 "FondsRoomModel" "thrown" "I", .fieldLink RX10 16 "FondsRoomModel" "fetchers" "I", .fieldLink RX10 19 "FondsRoomModel" "copyists" "I", .fieldLink RX10 111 "FondsRoomModel" "fBox" "[I", .fieldLink RX10 120 "FondsRoomModel" "cBox" "[I", .fieldLink RX10 114 "FondsRoomModel" "fLeft" "[I", .fieldLink RX10 123 "FondsRoomModel" "cLeft" "[I", .methodLink RX10 156 yX10_in, .static yX10_in, .initialized RX10, .code yX10_in cX10_in 3 (some .boolean)] := goodIn_s segsL segsL_in _ [(7, 3), (4, 20), (4, 21), (6, 3), (6, 6), (6, 4), (6, 7), (7, 21), (7, 22), (0, 5), (7, 23)] rfl (by decide +kernel)
theorem ggL_law_X10_worker : GoodIn wsL_law0 wsX10_worker := fun w h => (List.mem_cons.mp h).elim (fun e => ggL_law_X10_worker_c w (List.mem_singleton.mpr e)) (fun h => (goodIn_app ggL_law_X10_worker_l gW_wsX100) w h)
set_option maxRecDepth 20000 in
theorem gL_law_X10_worker : GoodIn wsL_law0 (wsV RL 99 RX10 yX10_worker wsX10_worker) := goodIn_app (goodIn_s segsL segsL_in _ [(30, 18), (30, 19), (30, 20), (0, 5)] rfl (by decide +kernel)) ggL_law_X10_worker
set_option maxRecDepth 20000 in
theorem ggL_law_X9_queue_c : GoodIn wsL_law0 [.code yX9_queue cX9_queue 7 (some .int)] := goodIn_s segsL segsL_in _ [(31, 1)] rfl (by decide +kernel)
set_option maxRecDepth 20000 in
theorem ggL_law_X9_queue_wsX9_queue_r1 : GoodIn wsL_law0 wsX9_queue_r1 := goodIn_s segsL segsL_in _ [(21, 1), (14, 14), (31, 2), (31, 3), (31, 4), (0, 2), (31, 5), (1, 9), (1, 10), (1, 11), (20, 9), (20, 10), (20, 11), (1, 8), (20, 12), (14, 19), (4, 1), (31, 6), (31, 7), (31, 8), (31, 9), (22, 6), (22, 7), (22, 8)] rfl (by decide +kernel)
set_option maxRecDepth 20000 in
theorem ggL_law_X9_queue_wsX9_queue_r2 : GoodIn wsL_law0 wsX9_queue_r2 := goodIn_s segsL segsL_in _ [(1, 0), (22, 9), (22, 10), (22, 11)] rfl (by decide +kernel)
theorem ggL_law_X9_queue : GoodIn wsL_law0 wsX9_queue := fun w h => (List.mem_cons.mp h).elim (fun e => ggL_law_X9_queue_c w (List.mem_singleton.mpr e)) (fun h => (goodIn_app (goodIn_app (goodIn_app (goodIn_app (goodIn_app ggL_law_X9_queue_wsX9_queue_r1 ggL_law_X9_queue_wsX9_queue_r2) gW_wsX30) gW_wsX60) gW_wsX90) gW_wsX00) w h)
set_option maxRecDepth 20000 in
theorem gL_law_X9_queue : GoodIn wsL_law0 (wsV RL 100 RX9 yX9_queue wsX9_queue) := goodIn_app (goodIn_s segsL segsL_in _ [(30, 22), (30, 23), (31, 0), (0, 2)] rfl (by decide +kernel)) ggL_law_X9_queue
set_option maxRecDepth 20000 in
theorem ggL_law_X10_queue_c : GoodIn wsL_law0 [.code yX10_queue cX10_queue 7 (some .int)] := goodIn_s segsL segsL_in _ [(31, 13)] rfl (by decide +kernel)
set_option maxRecDepth 20000 in
theorem ggL_law_X10_queue_wsX10_queue_r1 : GoodIn wsL_law0 wsX10_queue_r1 := goodIn_s segsL segsL_in _ [(7, 3), (26, 18), (6, 15), (26, 1), (7, 20), (5, 4), (5, 5), (5, 2), (5, 6), (5, 3), (7, 21), (7, 22), (0, 5), (7, 23), (26, 19), (26, 20), (26, 21), (26, 22), (9, 1), (5, 12), (26, 23), (27, 0), (27, 1), (27, 2)] rfl (by decide +kernel)
set_option maxRecDepth 20000 in
theorem ggL_law_X10_queue_wsX10_queue_r2 : GoodIn wsL_law0 wsX10_queue_r2 := goodIn_s segsL segsL_in _ [(5, 10), (5, 9)] rfl (by decide +kernel)
theorem ggL_law_X10_queue : GoodIn wsL_law0 wsX10_queue := fun w h => (List.mem_cons.mp h).elim (fun e => ggL_law_X10_queue_c w (List.mem_singleton.mpr e)) (fun h => (goodIn_app (goodIn_app ggL_law_X10_queue_wsX10_queue_r1 ggL_law_X10_queue_wsX10_queue_r2) gW_wsX100) w h)
set_option maxRecDepth 20000 in
theorem gL_law_X10_queue : GoodIn wsL_law0 (wsV RL 103 RX10 yX10_queue wsX10_queue) := goodIn_app (goodIn_s segsL segsL_in _ [(31, 10), (31, 11), (31, 12), (0, 5)] rfl (by decide +kernel)) ggL_law_X10_queue
set_option maxRecDepth 20000 in
theorem ggL_law_X10_event__c : GoodIn wsL_law0 [.code yX10_event_ cX10_event_ 3 (some .int)] := goodIn_s segsL segsL_in _ [(32, 13)] rfl (by decide +kernel)
set_option maxRecDepth 20000 in
theorem ggL_law_X10_event__l : GoodIn wsL_law0 [.fieldLink RX10 186 "FondsRoomModel" "events" "I", .fieldLink RX10 150 "FondsRoomModel" "thrown" "I", .fieldLink RX10 126 "FondsRoomModel" "eTurn" "[I", .fieldLink RX10 129 "FondsRoomModel" "eReader" "[I", .fieldLink RX10 132 "FondsRoomModel" "eWhat" "[I", .fieldLink RX10 135 "FondsRoomModel" "eNumber" "[I", .methodLink RX10 156 yX10_in, .static yX10_in, .initialized RX10, .code yX10_in cX10_in 3 (some .boolean)] := goodIn_s segsL segsL_in _ [(25, 3), (7, 3), (6, 8), (6, 9), (6, 10), (6, 11), (7, 21), (7, 22), (0, 5), (7, 23)] rfl (by decide +kernel)
theorem ggL_law_X10_event_ : GoodIn wsL_law0 wsX10_event_ := fun w h => (List.mem_cons.mp h).elim (fun e => ggL_law_X10_event__c w (List.mem_singleton.mpr e)) (fun h => (goodIn_app ggL_law_X10_event__l gW_wsX100) w h)
set_option maxRecDepth 20000 in
theorem gL_law_X10_event_ : GoodIn wsL_law0 (wsV RL 109 RX10 yX10_event_ wsX10_event_) := goodIn_app (goodIn_s segsL segsL_in _ [(32, 10), (32, 11), (32, 12), (0, 5)] rfl (by decide +kernel)) ggL_law_X10_event_
set_option maxRecDepth 20000 in
theorem ggL_law_X9_count_c : GoodIn wsL_law0 [.code yX9_count cX9_count 2 (some .int)] := goodIn_s segsL segsL_in _ [(32, 17)] rfl (by decide +kernel)
set_option maxRecDepth 20000 in
theorem ggL_law_X9_count_wsX9_count_r1 : GoodIn wsL_law0 wsX9_count_r1 := goodIn_s segsL segsL_in _ [(6, 20), (6, 21), (7, 10), (8, 13), (1, 19), (32, 18), (17, 2), (21, 17), (1, 21), (1, 15), (13, 18), (22, 20), (32, 19), (32, 20), (32, 21), (0, 2), (32, 22), (0, 18), (14, 11), (32, 23), (33, 0), (33, 1), (33, 2), (0, 22)] rfl (by decide +kernel)
set_option maxRecDepth 20000 in
theorem ggL_law_X9_count_wsX9_count_r2 : GoodIn wsL_law0 wsX9_count_r2 := goodIn_s segsL segsL_in _ [(9, 19), (9, 20), (9, 21), (9, 22), (33, 3), (33, 4), (33, 5), (33, 6), (23, 12), (23, 13), (23, 14), (33, 7), (3, 9), (3, 10), (3, 11)] rfl (by decide +kernel)
theorem ggL_law_X9_count : GoodIn wsL_law0 wsX9_count := fun w h => (List.mem_cons.mp h).elim (fun e => ggL_law_X9_count_c w (List.mem_singleton.mpr e)) (fun h => (goodIn_app (goodIn_app (goodIn_app (goodIn_app (goodIn_app (goodIn_app ggL_law_X9_count_wsX9_count_r1 ggL_law_X9_count_wsX9_count_r2) gW_wsX90) gW_wsX20) gW_wsX40) gW_wsX00) gW_wsX60) w h)
set_option maxRecDepth 20000 in
theorem gL_law_X9_count : GoodIn wsL_law0 (wsV RL 110 RX9 yX9_count wsX9_count) := goodIn_app (goodIn_s segsL segsL_in _ [(32, 14), (32, 15), (32, 16), (0, 2)] rfl (by decide +kernel)) ggL_law_X9_count
set_option maxRecDepth 20000 in
theorem ggL_law_X10_count_c : GoodIn wsL_law0 [.code yX10_count cX10_count 4 (some .int)] := goodIn_s segsL segsL_in _ [(33, 11)] rfl (by decide +kernel)
set_option maxRecDepth 20000 in
theorem ggL_law_X10_count_wsX10_count_r1 : GoodIn wsL_law0 wsX10_count_r1 := goodIn_s segsL segsL_in _ [(7, 3), (7, 4), (7, 5), (7, 20), (9, 1), (25, 3), (5, 22), (25, 16), (27, 11), (4, 18), (13, 5), (28, 0), (33, 12), (33, 13), (33, 14), (0, 5), (33, 15), (5, 2), (33, 16), (33, 17), (33, 18), (33, 19), (5, 12), (7, 21)] rfl (by decide +kernel)
set_option maxRecDepth 20000 in
theorem ggL_law_X10_count_wsX10_count_r2 : GoodIn wsL_law0 wsX10_count_r2 := goodIn_s segsL segsL_in _ [(7, 22), (7, 23)] rfl (by decide +kernel)
theorem ggL_law_X10_count : GoodIn wsL_law0 wsX10_count := fun w h => (List.mem_cons.mp h).elim (fun e => ggL_law_X10_count_c w (List.mem_singleton.mpr e)) (fun h => (goodIn_app (goodIn_app ggL_law_X10_count_wsX10_count_r1 ggL_law_X10_count_wsX10_count_r2) gW_wsX100) w h)
set_option maxRecDepth 20000 in
theorem gL_law_X10_count : GoodIn wsL_law0 (wsV RL 113 RX10 yX10_count wsX10_count) := goodIn_app (goodIn_s segsL segsL_in _ [(33, 8), (33, 9), (33, 10), (0, 5)] rfl (by decide +kernel)) ggL_law_X10_count
