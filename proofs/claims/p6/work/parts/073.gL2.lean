set_option maxRecDepth 20000 in
theorem gL_law_X10_about : GoodIn wsL_law0 (wsV RL 74 RX10 yX10_about wsX10_about) := goodIn_app (goodIn_of _ (by decide +kernel)) ggL_law_X10_about
set_option maxRecDepth 20000 in
theorem ggL_law_X9_held_c : GoodIn wsL_law0 [.code yX9_held cX9_held 5 (some .int)] := goodIn_r _ [690] (by decide +kernel) (by decide +kernel)
set_option maxRecDepth 20000 in
theorem ggL_law_X9_held_l : GoodIn wsL_law0 [.fieldLink RX9 88 "FondsRoom" "boxCount" "I", .fieldLink RX9 20 "FondsRoom" "boxes" "[LFondsRoom$Box;", .fieldLink RX9 239 "FondsRoom$Box" "holder" "LFondsRoom$Reader;", .fieldLink RX9 27 "FondsRoom" "readers" "[LFondsRoom$Reader;", .methodLink RX9 128 yX9_isReader, .instanceMethod yX9_isReader, .selects RX9 yX9_isReader yX9_isReader, .initialized RX9, .code yX9_isReader cX9_isReader 2 (some .boolean), .fieldLink RX9 104 "FondsRoom" "readerCount" "I"] := goodIn_r _ [178, 18, 346, 22, 231, 232, 233, 2, 234, 205] (by decide +kernel) (by decide +kernel)
theorem ggL_law_X9_held : GoodIn wsL_law0 wsX9_held := fun w h => (List.mem_cons.mp h).elim (fun e => ggL_law_X9_held_c w (List.mem_singleton.mpr e)) (fun h => (goodIn_app (goodIn_app ggL_law_X9_held_l gW_wsX90) gW_wsX00) w h)
set_option maxRecDepth 20000 in
theorem gL_law_X9_held : GoodIn wsL_law0 (wsV RL 75 RX9 yX9_held wsX9_held) := goodIn_app (goodIn_of _ (by decide +kernel)) ggL_law_X9_held
set_option maxRecDepth 20000 in
theorem ggL_law_X10_held_c : GoodIn wsL_law0 [.code yX10_held cX10_held 5 (some .int)] := goodIn_r _ [694] (by decide +kernel) (by decide +kernel)
set_option maxRecDepth 20000 in
theorem ggL_law_X10_held_l : GoodIn wsL_law0 [.fieldLink RX10 150 "FondsRoomModel" "thrown" "I", .fieldLink RX10 160 "FondsRoomModel" "boxes" "I", .fieldLink RX10 39 "FondsRoomModel" "has" "[I", .methodLink RX10 169 yX10_isReader, .instanceMethod yX10_isReader, .selects RX10 yX10_isReader yX10_isReader, .initialized RX10, .code yX10_isReader cX10_isReader 2 (some .boolean), .fieldLink RX10 153 "FondsRoomModel" "readers" "I", .methodLink RX10 156 yX10_in, .static yX10_in, .code yX10_in cX10_in 3 (some .boolean)] := goodIn_r _ [171, 188, 123, 252, 253, 254, 5, 255, 217, 189, 190, 191] (by decide +kernel) (by decide +kernel)
theorem ggL_law_X10_held : GoodIn wsL_law0 wsX10_held := fun w h => (List.mem_cons.mp h).elim (fun e => ggL_law_X10_held_c w (List.mem_singleton.mpr e)) (fun h => (goodIn_app ggL_law_X10_held_l gW_wsX100) w h)
set_option maxRecDepth 20000 in
theorem gL_law_X10_held : GoodIn wsL_law0 (wsV RL 78 RX10 yX10_held wsX10_held) := goodIn_app (goodIn_of _ (by decide +kernel)) ggL_law_X10_held
set_option maxRecDepth 20000 in
theorem ggL_law_X9_refused_c : GoodIn wsL_law0 [.code yX9_refused cX9_refused 3 (some .int)] := goodIn_r _ [698] (by decide +kernel) (by decide +kernel)
set_option maxRecDepth 20000 in
theorem ggL_law_X9_refused_l : GoodIn wsL_law0 [.fieldLink RX9 27 "FondsRoom" "readers" "[LFondsRoom$Reader;", .fieldLink RX9 135 "FondsRoom$Reader" "plan" "LFondsRoom$Plan;", .methodLink RX9 128 yX9_isReader, .instanceMethod yX9_isReader, .selects RX9 yX9_isReader yX9_isReader, .initialized RX9, .code yX9_isReader cX9_isReader 2 (some .boolean), .fieldLink RX9 104 "FondsRoom" "readerCount" "I", .methodLink RX9 433 yX5_refusalRule, .instanceMethod yX5_refusalRule, .selects RX5 yX5_refusalRule yX5_refusalRule, .initialized RX5, .code yX5_refusalRule cX5_refusalRule 2 (some .int), .fieldLink RX5 32 "FondsRoom$Plan" "refusals" "I", .fieldLink RX5 25 "FondsRoom$Plan" "rules" "[I"] := goodIn_r _ [22, 230, 231, 232, 233, 2, 234, 205, 699, 700, 701, 63, 702, 455, 75] (by decide +kernel) (by decide +kernel)
theorem ggL_law_X9_refused : GoodIn wsL_law0 wsX9_refused := fun w h => (List.mem_cons.mp h).elim (fun e => ggL_law_X9_refused_c w (List.mem_singleton.mpr e)) (fun h => (goodIn_app (goodIn_app (goodIn_app ggL_law_X9_refused_l gW_wsX90) gW_wsX60) gW_wsX50) w h)
set_option maxRecDepth 20000 in
theorem gL_law_X9_refused : GoodIn wsL_law0 (wsV RL 79 RX9 yX9_refused wsX9_refused) := goodIn_app (goodIn_of _ (by decide +kernel)) ggL_law_X9_refused
set_option maxRecDepth 20000 in
theorem ggL_law_X10_refused_c : GoodIn wsL_law0 [.code yX10_refused cX10_refused 3 (some .int)] := goodIn_r _ [706] (by decide +kernel) (by decide +kernel)
set_option maxRecDepth 20000 in
theorem ggL_law_X10_refused_l : GoodIn wsL_law0 [.fieldLink RX10 150 "FondsRoomModel" "thrown" "I", .fieldLink RX10 90 "FondsRoomModel" "refusals" "[I", .fieldLink RX10 93 "FondsRoomModel" "rules" "[I", .methodLink RX10 169 yX10_isReader, .instanceMethod yX10_isReader, .selects RX10 yX10_isReader yX10_isReader, .initialized RX10, .code yX10_isReader cX10_isReader 2 (some .boolean), .fieldLink RX10 153 "FondsRoomModel" "readers" "I", .methodLink RX10 156 yX10_in, .static yX10_in, .code yX10_in cX10_in 3 (some .boolean)] := goodIn_r _ [171, 140, 141, 252, 253, 254, 5, 255, 217, 189, 190, 191] (by decide +kernel) (by decide +kernel)
theorem ggL_law_X10_refused : GoodIn wsL_law0 wsX10_refused := fun w h => (List.mem_cons.mp h).elim (fun e => ggL_law_X10_refused_c w (List.mem_singleton.mpr e)) (fun h => (goodIn_app ggL_law_X10_refused_l gW_wsX100) w h)
set_option maxRecDepth 20000 in
theorem gL_law_X10_refused : GoodIn wsL_law0 (wsV RL 82 RX10 yX10_refused wsX10_refused) := goodIn_app (goodIn_of _ (by decide +kernel)) ggL_law_X10_refused
set_option maxRecDepth 20000 in
theorem ggL_law_X9_place_c : GoodIn wsL_law0 [.code yX9_place cX9_place 2 (some .int)] := goodIn_r _ [710] (by decide +kernel) (by decide +kernel)
set_option maxRecDepth 20000 in
theorem ggL_law_X9_place_l : GoodIn wsL_law0 [.fieldLink RX9 20 "FondsRoom" "boxes" "[LFondsRoom$Box;", .fieldLink RX9 233 "FondsRoom$Box" "place" "I", .methodLink RX9 120 yX9_isBox, .instanceMethod yX9_isBox, .selects RX9 yX9_isBox yX9_isBox, .initialized RX9, .code yX9_isBox cX9_isBox 2 (some .boolean), .fieldLink RX9 88 "FondsRoom" "boxCount" "I"] := goodIn_r _ [18, 347, 222, 223, 224, 2, 225, 178] (by decide +kernel) (by decide +kernel)
theorem ggL_law_X9_place : GoodIn wsL_law0 wsX9_place := fun w h => (List.mem_cons.mp h).elim (fun e => ggL_law_X9_place_c w (List.mem_singleton.mpr e)) (fun h => (goodIn_app (goodIn_app ggL_law_X9_place_l gW_wsX90) gW_wsX00) w h)
set_option maxRecDepth 20000 in
theorem gL_law_X9_place : GoodIn wsL_law0 (wsV RL 83 RX9 yX9_place wsX9_place) := goodIn_app (goodIn_of _ (by decide +kernel)) ggL_law_X9_place
set_option maxRecDepth 20000 in
theorem ggL_law_X10_place_c : GoodIn wsL_law0 [.code yX10_place cX10_place 2 (some .int)] := goodIn_r _ [714] (by decide +kernel) (by decide +kernel)
set_option maxRecDepth 20000 in
theorem ggL_law_X10_place_l : GoodIn wsL_law0 [.fieldLink RX10 150 "FondsRoomModel" "thrown" "I", .fieldLink RX10 36 "FondsRoomModel" "place" "[I", .methodLink RX10 176 yX10_isBox, .instanceMethod yX10_isBox, .selects RX10 yX10_isBox yX10_isBox, .initialized RX10, .code yX10_isBox cX10_isBox 2 (some .boolean), .fieldLink RX10 160 "FondsRoomModel" "boxes" "I", .methodLink RX10 156 yX10_in, .static yX10_in, .code yX10_in cX10_in 3 (some .boolean)] := goodIn_r _ [171, 122, 256, 257, 258, 5, 259, 188, 189, 190, 191] (by decide +kernel) (by decide +kernel)
theorem ggL_law_X10_place : GoodIn wsL_law0 wsX10_place := fun w h => (List.mem_cons.mp h).elim (fun e => ggL_law_X10_place_c w (List.mem_singleton.mpr e)) (fun h => (goodIn_app ggL_law_X10_place_l gW_wsX100) w h)
set_option maxRecDepth 20000 in
theorem gL_law_X10_place : GoodIn wsL_law0 (wsV RL 86 RX10 yX10_place wsX10_place) := goodIn_app (goodIn_of _ (by decide +kernel)) ggL_law_X10_place
set_option maxRecDepth 20000 in
theorem ggL_law_X9_whose_c : GoodIn wsL_law0 [.code yX9_whose cX9_whose 3 (some .int)] := goodIn_r _ [718] (by decide +kernel) (by decide +kernel)
set_option maxRecDepth 20000 in
theorem ggL_law_X9_whose_l : GoodIn wsL_law0 [.fieldLink RX9 20 "FondsRoom" "boxes" "[LFondsRoom$Box;", .fieldLink RX9 239 "FondsRoom$Box" "holder" "LFondsRoom$Reader;", .fieldLink RX9 260 "FondsRoom$Box" "wanter" "LFondsRoom$Reader;", .methodLink RX9 120 yX9_isBox, .instanceMethod yX9_isBox, .selects RX9 yX9_isBox yX9_isBox, .initialized RX9, .code yX9_isBox cX9_isBox 2 (some .boolean), .fieldLink RX9 88 "FondsRoom" "boxCount" "I", .methodLink RX9 437 yX9_numberOf, .static yX9_numberOf, .code yX9_numberOf cX9_numberOf 1 (some .int), .fieldLink RX9 273 "FondsRoom$Reader" "number" "I"] := goodIn_r _ [18, 346, 361, 222, 223, 224, 2, 225, 178, 719, 720, 721, 350] (by decide +kernel) (by decide +kernel)
theorem ggL_law_X9_whose : GoodIn wsL_law0 wsX9_whose := fun w h => (List.mem_cons.mp h).elim (fun e => ggL_law_X9_whose_c w (List.mem_singleton.mpr e)) (fun h => (goodIn_app (goodIn_app (goodIn_app ggL_law_X9_whose_l gW_wsX90) gW_wsX00) gW_wsX60) w h)
set_option maxRecDepth 20000 in
theorem gL_law_X9_whose : GoodIn wsL_law0 (wsV RL 87 RX9 yX9_whose wsX9_whose) := goodIn_app (goodIn_of _ (by decide +kernel)) ggL_law_X9_whose
set_option maxRecDepth 20000 in
theorem ggL_law_X10_whose_c : GoodIn wsL_law0 [.code yX10_whose cX10_whose 2 (some .int)] := goodIn_r _ [725] (by decide +kernel) (by decide +kernel)
set_option maxRecDepth 20000 in
theorem ggL_law_X10_whose_l : GoodIn wsL_law0 [.fieldLink RX10 150 "FondsRoomModel" "thrown" "I", .fieldLink RX10 39 "FondsRoomModel" "has" "[I", .fieldLink RX10 42 "FondsRoomModel" "ticket" "[I", .methodLink RX10 176 yX10_isBox, .instanceMethod yX10_isBox, .selects RX10 yX10_isBox yX10_isBox, .initialized RX10, .code yX10_isBox cX10_isBox 2 (some .boolean), .fieldLink RX10 160 "FondsRoomModel" "boxes" "I", .methodLink RX10 156 yX10_in, .static yX10_in, .code yX10_in cX10_in 3 (some .boolean)] := goodIn_r _ [171, 123, 124, 256, 257, 258, 5, 259, 188, 189, 190, 191] (by decide +kernel) (by decide +kernel)
theorem ggL_law_X10_whose : GoodIn wsL_law0 wsX10_whose := fun w h => (List.mem_cons.mp h).elim (fun e => ggL_law_X10_whose_c w (List.mem_singleton.mpr e)) (fun h => (goodIn_app ggL_law_X10_whose_l gW_wsX100) w h)
set_option maxRecDepth 20000 in
theorem gL_law_X10_whose : GoodIn wsL_law0 (wsV RL 90 RX10 yX10_whose wsX10_whose) := goodIn_app (goodIn_of _ (by decide +kernel)) ggL_law_X10_whose
set_option maxRecDepth 20000 in
theorem ggL_law_X9_seated_c : GoodIn wsL_law0 [.code yX9_seated cX9_seated 2 (some .int)] := goodIn_r _ [729] (by decide +kernel) (by decide +kernel)
set_option maxRecDepth 20000 in
theorem ggL_law_X9_seated_l : GoodIn wsL_law0 [.fieldLink RX9 81 "FondsRoom" "deskCount" "I", .fieldLink RX9 11 "FondsRoom" "desks" "[LFondsRoom$Desk;", .fieldLink RX9 348 "FondsRoom$Desk" "sitter" "LFondsRoom$Reader;", .methodLink RX9 91 yX9_isWithin, .static yX9_isWithin, .initialized RX9, .code yX9_isWithin cX9_isWithin 3 (some .boolean), .methodLink RX9 437 yX9_numberOf, .static yX9_numberOf, .code yX9_numberOf cX9_numberOf 1 (some .int), .fieldLink RX9 273 "FondsRoom$Reader" "number" "I"] := goodIn_r _ [165, 14, 349, 181, 182, 2, 183, 719, 720, 721, 350] (by decide +kernel) (by decide +kernel)
theorem ggL_law_X9_seated : GoodIn wsL_law0 wsX9_seated := fun w h => (List.mem_cons.mp h).elim (fun e => ggL_law_X9_seated_c w (List.mem_singleton.mpr e)) (fun h => (goodIn_app (goodIn_app (goodIn_app ggL_law_X9_seated_l gW_wsX90) gW_wsX10) gW_wsX60) w h)
set_option maxRecDepth 20000 in
theorem gL_law_X9_seated : GoodIn wsL_law0 (wsV RL 91 RX9 yX9_seated wsX9_seated) := goodIn_app (goodIn_of _ (by decide +kernel)) ggL_law_X9_seated
set_option maxRecDepth 20000 in
theorem ggL_law_X10_seated_c : GoodIn wsL_law0 [.code yX10_seated cX10_seated 2 (some .int)] := goodIn_r _ [733] (by decide +kernel) (by decide +kernel)
set_option maxRecDepth 20000 in
theorem ggL_law_X10_seated_l : GoodIn wsL_law0 [.fieldLink RX10 150 "FondsRoomModel" "thrown" "I", .fieldLink RX10 166 "FondsRoomModel" "desks" "I", .fieldLink RX10 26 "FondsRoomModel" "sitter" "[I", .methodLink RX10 156 yX10_in, .static yX10_in, .initialized RX10, .code yX10_in cX10_in 3 (some .boolean)] := goodIn_r _ [171, 173, 119, 189, 190, 5, 191] (by decide +kernel) (by decide +kernel)
theorem ggL_law_X10_seated : GoodIn wsL_law0 wsX10_seated := fun w h => (List.mem_cons.mp h).elim (fun e => ggL_law_X10_seated_c w (List.mem_singleton.mpr e)) (fun h => (goodIn_app ggL_law_X10_seated_l gW_wsX100) w h)
set_option maxRecDepth 20000 in
theorem gL_law_X10_seated : GoodIn wsL_law0 (wsV RL 94 RX10 yX10_seated wsX10_seated) := goodIn_app (goodIn_of _ (by decide +kernel)) ggL_law_X10_seated
set_option maxRecDepth 20000 in
theorem ggL_law_X9_worker_c : GoodIn wsL_law0 [.code yX9_worker cX9_worker 5 (some .int)] := goodIn_r _ [737] (by decide +kernel) (by decide +kernel)
set_option maxRecDepth 20000 in
theorem ggL_law_X9_worker_l : GoodIn wsL_law0 [.fieldLink RX9 37 "FondsRoom" "fetchers" "LFondsRoom$Staff;", .fieldLink RX9 216 "FondsRoom$Staff" "workers" "[LFondsRoom$Worker;", .fieldLink RX9 41 "FondsRoom" "copyists" "LFondsRoom$Staff;", .fieldLink RX9 227 "FondsRoom$Worker" "box" "LFondsRoom$Box;", .fieldLink RX9 253 "FondsRoom$Box" "number" "I", .fieldLink RX9 243 "FondsRoom$Worker" "left" "I", .methodLink RX9 145 yX9_isPerson, .instanceMethod yX9_isPerson, .selects RX9 yX9_isPerson yX9_isPerson, .initialized RX9, .code yX9_isPerson cX9_isPerson 3 (some .boolean), .methodLink RX9 128 yX9_isReader, .instanceMethod yX9_isReader, .selects RX9 yX9_isReader yX9_isReader, .code yX9_isReader cX9_isReader 2 (some .boolean), .fieldLink RX9 104 "FondsRoom" "readerCount" "I", .methodLink RX9 151 yX7_hasWorker, .instanceMethod yX7_hasWorker, .selects RX7 yX7_hasWorker yX7_hasWorker, .initialized RX7, .code yX7_hasWorker cX7_hasWorker 2 (some .boolean), .fieldLink RX7 22 "FondsRoom$Staff" "hired" "I", .fieldLink RX7 15 "FondsRoom$Staff" "workers" "[LFondsRoom$Worker;"] := goodIn_r _ [28, 338, 29, 371, 401, 395, 300, 301, 302, 2, 303, 231, 232, 233, 234, 205, 304, 305, 306, 27, 307, 88, 85] (by decide +kernel) (by decide +kernel)
theorem ggL_law_X9_worker : GoodIn wsL_law0 wsX9_worker := fun w h => (List.mem_cons.mp h).elim (fun e => ggL_law_X9_worker_c w (List.mem_singleton.mpr e)) (fun h => (goodIn_app (goodIn_app (goodIn_app (goodIn_app ggL_law_X9_worker_l gW_wsX90) gW_wsX70) gW_wsX80) gW_wsX00) w h)
set_option maxRecDepth 20000 in
theorem gL_law_X9_worker : GoodIn wsL_law0 (wsV RL 95 RX9 yX9_worker wsX9_worker) := goodIn_app (goodIn_of _ (by decide +kernel)) ggL_law_X9_worker
set_option maxRecDepth 20000 in
theorem ggL_law_X10_worker_c : GoodIn wsL_law0 [.code yX10_worker cX10_worker 5 (some .int)] := goodIn_r _ [741] (by decide +kernel) (by decide +kernel)
set_option maxRecDepth 20000 in
theorem ggL_law_X10_worker_l : GoodIn wsL_law0 [.fieldLink RX10 150 "FondsRoomModel" "thrown" "I", .fieldLink RX10 16 "FondsRoomModel" "fetchers" "I", .fieldLink RX10 19 "FondsRoomModel" "copyists" "I", .fieldLink RX10 111 "FondsRoomModel" "fBox" "[I", .fieldLink RX10 120 "FondsRoomModel" "cBox" "[I", .fieldLink RX10 114 "FondsRoomModel" "fLeft" "[I", .fieldLink RX10 123 "FondsRoomModel" "cLeft" "[I", .methodLink RX10 156 yX10_in, .static yX10_in, .initialized RX10, .code yX10_in cX10_in 3 (some .boolean)] := goodIn_r _ [171, 116, 117, 147, 150, 148, 151, 189, 190, 5, 191] (by decide +kernel) (by decide +kernel)
theorem ggL_law_X10_worker : GoodIn wsL_law0 wsX10_worker := fun w h => (List.mem_cons.mp h).elim (fun e => ggL_law_X10_worker_c w (List.mem_singleton.mpr e)) (fun h => (goodIn_app ggL_law_X10_worker_l gW_wsX100) w h)
set_option maxRecDepth 20000 in
theorem gL_law_X10_worker : GoodIn wsL_law0 (wsV RL 99 RX10 yX10_worker wsX10_worker) := goodIn_app (goodIn_of _ (by decide +kernel)) ggL_law_X10_worker
set_option maxRecDepth 20000 in
theorem ggL_law_X9_queue_c : GoodIn wsL_law0 [.code yX9_queue cX9_queue 7 (some .int)] := goodIn_r _ [745] (by decide +kernel) (by decide +kernel)
set_option maxRecDepth 20000 in
theorem ggL_law_X9_queue_wsX9_queue_r1 : GoodIn wsL_law0 wsX9_queue_r1 := goodIn_r _ [505, 350, 746, 747, 748, 2, 749, 33, 34, 35, 489, 490, 491, 32, 492, 355, 97, 750, 751, 752, 753, 534, 535, 536] (by decide +kernel) (by decide +kernel)
set_option maxRecDepth 20000 in
theorem ggL_law_X9_queue_wsX9_queue_r2 : GoodIn wsL_law0 wsX9_queue_r2 := goodIn_r _ [24, 537, 538, 539] (by decide +kernel) (by decide +kernel)
theorem ggL_law_X9_queue : GoodIn wsL_law0 wsX9_queue := fun w h => (List.mem_cons.mp h).elim (fun e => ggL_law_X9_queue_c w (List.mem_singleton.mpr e)) (fun h => (goodIn_app (goodIn_app (goodIn_app (goodIn_app (goodIn_app ggL_law_X9_queue_wsX9_queue_r1 ggL_law_X9_queue_wsX9_queue_r2) gW_wsX30) gW_wsX60) gW_wsX90) gW_wsX00) w h)
set_option maxRecDepth 20000 in
theorem gL_law_X9_queue : GoodIn wsL_law0 (wsV RL 100 RX9 yX9_queue wsX9_queue) := goodIn_app (goodIn_of _ (by decide +kernel)) ggL_law_X9_queue
set_option maxRecDepth 20000 in
theorem ggL_law_X10_queue_c : GoodIn wsL_law0 [.code yX10_queue cX10_queue 7 (some .int)] := goodIn_r _ [757] (by decide +kernel) (by decide +kernel)
set_option maxRecDepth 20000 in
theorem ggL_law_X10_queue_wsX10_queue_r1 : GoodIn wsL_law0 wsX10_queue_r1 := goodIn_r _ [171, 642, 159, 625, 188, 124, 125, 122, 126, 123, 189, 190, 5, 191, 643, 644, 645, 646, 217, 132, 647, 648, 649, 650] (by decide +kernel) (by decide +kernel)
set_option maxRecDepth 20000 in
theorem ggL_law_X10_queue_wsX10_queue_r2 : GoodIn wsL_law0 wsX10_queue_r2 := goodIn_r _ [130, 129] (by decide +kernel) (by decide +kernel)
theorem ggL_law_X10_queue : GoodIn wsL_law0 wsX10_queue := fun w h => (List.mem_cons.mp h).elim (fun e => ggL_law_X10_queue_c w (List.mem_singleton.mpr e)) (fun h => (goodIn_app (goodIn_app ggL_law_X10_queue_wsX10_queue_r1 ggL_law_X10_queue_wsX10_queue_r2) gW_wsX100) w h)
set_option maxRecDepth 20000 in
theorem gL_law_X10_queue : GoodIn wsL_law0 (wsV RL 103 RX10 yX10_queue wsX10_queue) := goodIn_app (goodIn_of _ (by decide +kernel)) ggL_law_X10_queue
set_option maxRecDepth 20000 in
theorem ggL_law_X10_event__c : GoodIn wsL_law0 [.code yX10_event_ cX10_event_ 3 (some .int)] := goodIn_r _ [781] (by decide +kernel) (by decide +kernel)
set_option maxRecDepth 20000 in
theorem ggL_law_X10_event__l : GoodIn wsL_law0 [.fieldLink RX10 186 "FondsRoomModel" "events" "I", .fieldLink RX10 150 "FondsRoomModel" "thrown" "I", .fieldLink RX10 126 "FondsRoomModel" "eTurn" "[I", .fieldLink RX10 129 "FondsRoomModel" "eReader" "[I", .fieldLink RX10 132 "FondsRoomModel" "eWhat" "[I", .fieldLink RX10 135 "FondsRoomModel" "eNumber" "[I", .methodLink RX10 156 yX10_in, .static yX10_in, .initialized RX10, .code yX10_in cX10_in 3 (some .boolean)] := goodIn_r _ [603, 171, 152, 153, 154, 155, 189, 190, 5, 191] (by decide +kernel) (by decide +kernel)
theorem ggL_law_X10_event_ : GoodIn wsL_law0 wsX10_event_ := fun w h => (List.mem_cons.mp h).elim (fun e => ggL_law_X10_event__c w (List.mem_singleton.mpr e)) (fun h => (goodIn_app ggL_law_X10_event__l gW_wsX100) w h)
set_option maxRecDepth 20000 in
theorem gL_law_X10_event_ : GoodIn wsL_law0 (wsV RL 109 RX10 yX10_event_ wsX10_event_) := goodIn_app (goodIn_of _ (by decide +kernel)) ggL_law_X10_event_
set_option maxRecDepth 20000 in
theorem ggL_law_X9_count_c : GoodIn wsL_law0 [.code yX9_count cX9_count 2 (some .int)] := goodIn_r _ [785] (by decide +kernel) (by decide +kernel)
set_option maxRecDepth 20000 in
theorem ggL_law_X9_count_wsX9_count_r1 : GoodIn wsL_law0 wsX9_count_r1 := goodIn_r _ [164, 165, 178, 205, 43, 786, 410, 521, 45, 39, 330, 548, 787, 788, 789, 2, 790, 18, 347, 791, 792, 793, 794, 22] (by decide +kernel) (by decide +kernel)
set_option maxRecDepth 20000 in
theorem ggL_law_X9_count_wsX9_count_r2 : GoodIn wsL_law0 wsX9_count_r2 := goodIn_r _ [235, 236, 237, 238, 795, 796, 797, 798, 564, 565, 566, 799, 81, 82, 83] (by decide +kernel) (by decide +kernel)
theorem ggL_law_X9_count : GoodIn wsL_law0 wsX9_count := fun w h => (List.mem_cons.mp h).elim (fun e => ggL_law_X9_count_c w (List.mem_singleton.mpr e)) (fun h => (goodIn_app (goodIn_app (goodIn_app (goodIn_app (goodIn_app (goodIn_app ggL_law_X9_count_wsX9_count_r1 ggL_law_X9_count_wsX9_count_r2) gW_wsX90) gW_wsX20) gW_wsX40) gW_wsX00) gW_wsX60) w h)
set_option maxRecDepth 20000 in
theorem gL_law_X9_count : GoodIn wsL_law0 (wsV RL 110 RX9 yX9_count wsX9_count) := goodIn_app (goodIn_of _ (by decide +kernel)) ggL_law_X9_count
set_option maxRecDepth 20000 in
theorem ggL_law_X10_count_c : GoodIn wsL_law0 [.code yX10_count cX10_count 4 (some .int)] := goodIn_r _ [803] (by decide +kernel) (by decide +kernel)
set_option maxRecDepth 20000 in
theorem ggL_law_X10_count_wsX10_count_r1 : GoodIn wsL_law0 wsX10_count_r1 := goodIn_r _ [171, 172, 173, 188, 217, 603, 142, 616, 659, 114, 317, 672, 804, 805, 806, 5, 807, 122, 808, 809, 810, 811, 132, 189] (by decide +kernel) (by decide +kernel)
set_option maxRecDepth 20000 in
theorem ggL_law_X10_count_wsX10_count_r2 : GoodIn wsL_law0 wsX10_count_r2 := goodIn_r _ [190, 191] (by decide +kernel) (by decide +kernel)
theorem ggL_law_X10_count : GoodIn wsL_law0 wsX10_count := fun w h => (List.mem_cons.mp h).elim (fun e => ggL_law_X10_count_c w (List.mem_singleton.mpr e)) (fun h => (goodIn_app (goodIn_app ggL_law_X10_count_wsX10_count_r1 ggL_law_X10_count_wsX10_count_r2) gW_wsX100) w h)
set_option maxRecDepth 20000 in
theorem gL_law_X10_count : GoodIn wsL_law0 (wsV RL 113 RX10 yX10_count wsX10_count) := goodIn_app (goodIn_of _ (by decide +kernel)) ggL_law_X10_count
