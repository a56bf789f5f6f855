set_option maxRecDepth 20000 in
theorem ggL_law_X9_init_c : GoodIn wsL_law0 [.code yX9_init cX9_init 2 none] := goodIn_s segsL segsL_in _ [(0, 9)] rfl (by decide +kernel)
set_option maxRecDepth 20000 in
theorem ggL_law_X9_init_wsX9_init_r1 : GoodIn wsL_law0 wsX9_init_r1 := goodIn_s segsL segsL_in _ [(0, 10), (0, 11), (0, 12), (0, 13), (0, 14), (0, 15), (0, 16), (0, 17), (0, 18), (0, 19), (0, 20), (0, 21), (0, 22), (0, 23), (1, 0), (1, 1), (1, 2), (1, 3), (1, 4), (1, 5), (1, 6), (1, 7), (1, 8), (1, 9)] rfl (by decide +kernel)
set_option maxRecDepth 20000 in
theorem ggL_law_X9_init_wsX9_init_r2 : GoodIn wsL_law0 wsX9_init_r2 := goodIn_s segsL segsL_in _ [(1, 10), (1, 11), (1, 12), (1, 13), (1, 14), (1, 15), (1, 16), (1, 17), (1, 18), (1, 19), (1, 20), (1, 21), (1, 22), (1, 23), (2, 0), (2, 1), (2, 2), (2, 3), (2, 4), (2, 5), (2, 6), (2, 7), (2, 8), (2, 9)] rfl (by decide +kernel)
set_option maxRecDepth 20000 in
theorem ggL_law_X9_init_wsX9_init_r3 : GoodIn wsL_law0 wsX9_init_r3 := goodIn_s segsL segsL_in _ [(2, 10), (2, 11), (2, 12), (2, 13), (2, 14), (2, 15), (2, 16), (2, 17), (2, 18), (2, 19), (2, 20), (2, 21), (2, 22), (2, 23), (3, 0), (3, 1), (3, 2), (3, 3), (3, 4), (3, 5), (3, 6), (3, 7), (3, 8), (3, 9)] rfl (by decide +kernel)
set_option maxRecDepth 20000 in
theorem ggL_law_X9_init_wsX9_init_r4 : GoodIn wsL_law0 wsX9_init_r4 := goodIn_s segsL segsL_in _ [(3, 10), (3, 11), (3, 12), (3, 13), (3, 14), (3, 15), (3, 16), (3, 17), (3, 18), (3, 19), (3, 20), (3, 21), (3, 22), (3, 23), (4, 0), (4, 1), (4, 2), (4, 3), (4, 4), (4, 5), (4, 6), (4, 7), (4, 8), (4, 9)] rfl (by decide +kernel)
set_option maxRecDepth 20000 in
theorem ggL_law_X9_init_wsX9_init_r5 : GoodIn wsL_law0 wsX9_init_r5 := goodIn_s segsL segsL_in _ [(4, 10), (4, 11), (4, 12), (4, 13)] rfl (by decide +kernel)
theorem ggL_law_X9_init : GoodIn wsL_law0 wsX9_init := fun w h => (List.mem_cons.mp h).elim (fun e => ggL_law_X9_init_c w (List.mem_singleton.mpr e)) (fun h => (goodIn_app (goodIn_app (goodIn_app (goodIn_app (goodIn_app (goodIn_app (goodIn_app (goodIn_app (goodIn_app (goodIn_app (goodIn_app ggL_law_X9_init_wsX9_init_r1 (goodIn_app ggL_law_X9_init_wsX9_init_r2 (goodIn_app ggL_law_X9_init_wsX9_init_r3 (goodIn_app ggL_law_X9_init_wsX9_init_r4 ggL_law_X9_init_wsX9_init_r5)))) gW_wsX90) gW_wsX10) gW_wsX00) gW_wsX60) gW_wsX70) gW_wsX30) gW_wsX40) gW_wsX20) gW_wsX50) gW_wsX80) w h)
set_option maxRecDepth 20000 in
theorem gL_law_X9_init : GoodIn wsL_law0 (wsX9_init) := ggL_law_X9_init
set_option maxRecDepth 20000 in
theorem ggL_law_X10_init_c : GoodIn wsL_law0 [.code yX10_init cX10_init 1 none] := goodIn_s segsL segsL_in _ [(4, 16)] rfl (by decide +kernel)
set_option maxRecDepth 20000 in
theorem ggL_law_X10_init_wsX10_init_r1 : GoodIn wsL_law0 wsX10_init_r1 := goodIn_s segsL segsL_in _ [(4, 17), (0, 11), (0, 12), (4, 18), (4, 19), (4, 20), (4, 21), (3, 1), (4, 22), (2, 21), (4, 23), (5, 0), (5, 1), (5, 2), (5, 3), (5, 4), (5, 5), (5, 6), (5, 7), (5, 8), (5, 9), (5, 10), (5, 11), (5, 12)] rfl (by decide +kernel)
set_option maxRecDepth 20000 in
theorem ggL_law_X10_init_wsX10_init_r2 : GoodIn wsL_law0 wsX10_init_r2 := goodIn_s segsL segsL_in _ [(5, 13), (5, 14), (5, 15), (5, 16), (5, 17), (5, 18), (5, 19), (5, 20), (5, 21), (5, 22), (5, 23), (6, 0), (6, 1), (6, 2), (6, 3), (6, 4), (6, 5), (6, 6), (6, 7), (6, 8), (6, 9), (6, 10), (6, 11), (6, 12)] rfl (by decide +kernel)
set_option maxRecDepth 20000 in
theorem ggL_law_X10_init_wsX10_init_r3 : GoodIn wsL_law0 wsX10_init_r3 := goodIn_s segsL segsL_in _ [(6, 13), (6, 14), (6, 15)] rfl (by decide +kernel)
theorem ggL_law_X10_init : GoodIn wsL_law0 wsX10_init := fun w h => (List.mem_cons.mp h).elim (fun e => ggL_law_X10_init_c w (List.mem_singleton.mpr e)) (fun h => (goodIn_app (goodIn_app ggL_law_X10_init_wsX10_init_r1 (goodIn_app ggL_law_X10_init_wsX10_init_r2 ggL_law_X10_init_wsX10_init_r3)) gW_wsX100) w h)
set_option maxRecDepth 20000 in
theorem gL_law_X10_init : GoodIn wsL_law0 (wsX10_init) := ggL_law_X10_init
set_option maxRecDepth 20000 in
theorem ggL_law_X9_desk_c : GoodIn wsL_law0 [.code yX9_desk cX9_desk 3 (some .int)] := goodIn_s segsL segsL_in _ [(6, 19)] rfl (by decide +kernel)
set_option maxRecDepth 20000 in
theorem ggL_law_X9_desk_l : GoodIn wsL_law0 [.fieldLink RX9 78 "FondsRoom" "turn" "I", .fieldLink RX9 81 "FondsRoom" "deskCount" "I", .fieldLink RX9 11 "FondsRoom" "desks" "[LFondsRoom$Desk;", .fieldLink RX9 84 "FondsRoom$Desk" "watched" "Z"] := goodIn_s segsL segsL_in _ [(6, 20), (6, 21), (0, 14), (6, 22)] rfl (by decide +kernel)
theorem ggL_law_X9_desk : GoodIn wsL_law0 wsX9_desk := fun w h => (List.mem_cons.mp h).elim (fun e => ggL_law_X9_desk_c w (List.mem_singleton.mpr e)) (fun h => (goodIn_app (goodIn_app ggL_law_X9_desk_l gW_wsX90) gW_wsX10) w h)
set_option maxRecDepth 20000 in
theorem gL_law_X9_desk : GoodIn wsL_law0 (wsV RL 19 RX9 yX9_desk wsX9_desk) := goodIn_app (goodIn_s segsL segsL_in _ [(6, 16), (6, 17), (6, 18), (0, 2)] rfl (by decide +kernel)) ggL_law_X9_desk
set_option maxRecDepth 20000 in
theorem ggL_law_X10_desk_c : GoodIn wsL_law0 [.code yX10_desk cX10_desk 2 (some .int)] := goodIn_s segsL segsL_in _ [(7, 2)] rfl (by decide +kernel)
set_option maxRecDepth 20000 in
theorem ggL_law_X10_desk_l : GoodIn wsL_law0 [.fieldLink RX10 150 "FondsRoomModel" "thrown" "I", .fieldLink RX10 163 "FondsRoomModel" "turn" "I", .fieldLink RX10 166 "FondsRoomModel" "desks" "I", .fieldLink RX10 22 "FondsRoomModel" "isWatched" "[Z", .fieldLink RX10 26 "FondsRoomModel" "sitter" "[I"] := goodIn_s segsL segsL_in _ [(7, 3), (7, 4), (7, 5), (4, 22), (4, 23)] rfl (by decide +kernel)
theorem ggL_law_X10_desk : GoodIn wsL_law0 wsX10_desk := fun w h => (List.mem_cons.mp h).elim (fun e => ggL_law_X10_desk_c w (List.mem_singleton.mpr e)) (fun h => (goodIn_app ggL_law_X10_desk_l gW_wsX100) w h)
set_option maxRecDepth 20000 in
theorem gL_law_X10_desk : GoodIn wsL_law0 (wsV RL 23 RX10 yX10_desk wsX10_desk) := goodIn_app (goodIn_s segsL segsL_in _ [(6, 23), (7, 0), (7, 1), (0, 5)] rfl (by decide +kernel)) ggL_law_X10_desk
set_option maxRecDepth 20000 in
theorem ggL_law_X9_box_c : GoodIn wsL_law0 [.code yX9_box cX9_box 4 (some .int)] := goodIn_s segsL segsL_in _ [(7, 9)] rfl (by decide +kernel)
set_option maxRecDepth 20000 in
theorem ggL_law_X9_box_l : GoodIn wsL_law0 [.fieldLink RX9 78 "FondsRoom" "turn" "I", .fieldLink RX9 88 "FondsRoom" "boxCount" "I", .fieldLink RX9 20 "FondsRoom" "boxes" "[LFondsRoom$Box;", .fieldLink RX9 95 "FondsRoom$Box" "fonds" "I", .fieldLink RX9 98 "FondsRoom$Box" "precious" "Z", .methodLink RX9 91 yX9_isWithin, .static yX9_isWithin, .initialized RX9, .code yX9_isWithin cX9_isWithin 3 (some .boolean)] := goodIn_s segsL segsL_in _ [(6, 20), (7, 10), (0, 18), (7, 11), (7, 12), (7, 13), (7, 14), (0, 2), (7, 15)] rfl (by decide +kernel)
theorem ggL_law_X9_box : GoodIn wsL_law0 wsX9_box := fun w h => (List.mem_cons.mp h).elim (fun e => ggL_law_X9_box_c w (List.mem_singleton.mpr e)) (fun h => (goodIn_app (goodIn_app ggL_law_X9_box_l gW_wsX90) gW_wsX00) w h)
set_option maxRecDepth 20000 in
theorem gL_law_X9_box : GoodIn wsL_law0 (wsV RL 24 RX9 yX9_box wsX9_box) := goodIn_app (goodIn_s segsL segsL_in _ [(7, 6), (7, 7), (7, 8), (0, 2)] rfl (by decide +kernel)) ggL_law_X9_box
set_option maxRecDepth 20000 in
theorem ggL_law_X10_box_c : GoodIn wsL_law0 [.code yX10_box cX10_box 3 (some .int)] := goodIn_s segsL segsL_in _ [(7, 19)] rfl (by decide +kernel)
set_option maxRecDepth 20000 in
theorem ggL_law_X10_box_l : GoodIn wsL_law0 [.fieldLink RX10 150 "FondsRoomModel" "thrown" "I", .fieldLink RX10 163 "FondsRoomModel" "turn" "I", .fieldLink RX10 160 "FondsRoomModel" "boxes" "I", .fieldLink RX10 30 "FondsRoomModel" "fonds" "[I", .fieldLink RX10 33 "FondsRoomModel" "isPrecious" "[Z", .fieldLink RX10 39 "FondsRoomModel" "has" "[I", .fieldLink RX10 42 "FondsRoomModel" "ticket" "[I", .methodLink RX10 156 yX10_in, .static yX10_in, .initialized RX10, .code yX10_in cX10_in 3 (some .boolean)] := goodIn_s segsL segsL_in _ [(7, 3), (7, 4), (7, 20), (5, 0), (5, 1), (5, 3), (5, 4), (7, 21), (7, 22), (0, 5), (7, 23)] rfl (by decide +kernel)
theorem ggL_law_X10_box : GoodIn wsL_law0 wsX10_box := fun w h => (List.mem_cons.mp h).elim (fun e => ggL_law_X10_box_c w (List.mem_singleton.mpr e)) (fun h => (goodIn_app ggL_law_X10_box_l gW_wsX100) w h)
set_option maxRecDepth 20000 in
theorem gL_law_X10_box : GoodIn wsL_law0 (wsV RL 28 RX10 yX10_box wsX10_box) := goodIn_app (goodIn_s segsL segsL_in _ [(7, 16), (7, 17), (7, 18), (0, 5)] rfl (by decide +kernel)) ggL_law_X10_box
set_option maxRecDepth 20000 in
theorem ggL_law_X9_people_c : GoodIn wsL_law0 [.code yX9_people cX9_people 4 (some .boolean)] := goodIn_s segsL segsL_in _ [(8, 3)] rfl (by decide +kernel)
set_option maxRecDepth 20000 in
theorem ggL_law_X9_people_l : GoodIn wsL_law0 [.fieldLink RX9 78 "FondsRoom" "turn" "I", .fieldLink RX9 37 "FondsRoom" "fetchers" "LFondsRoom$Staff;", .fieldLink RX9 101 "FondsRoom$Staff" "hired" "I", .fieldLink RX9 41 "FondsRoom" "copyists" "LFondsRoom$Staff;", .fieldLink RX9 71 "FondsRoom" "way" "I", .methodLink RX9 91 yX9_isWithin, .static yX9_isWithin, .initialized RX9, .code yX9_isWithin cX9_isWithin 3 (some .boolean)] := goodIn_s segsL segsL_in _ [(6, 20), (1, 4), (8, 4), (1, 5), (1, 20), (7, 13), (7, 14), (0, 2), (7, 15)] rfl (by decide +kernel)
theorem ggL_law_X9_people : GoodIn wsL_law0 wsX9_people := fun w h => (List.mem_cons.mp h).elim (fun e => ggL_law_X9_people_c w (List.mem_singleton.mpr e)) (fun h => (goodIn_app (goodIn_app ggL_law_X9_people_l gW_wsX90) gW_wsX70) w h)
set_option maxRecDepth 20000 in
theorem gL_law_X9_people : GoodIn wsL_law0 (wsV RL 29 RX9 yX9_people wsX9_people) := goodIn_app (goodIn_s segsL segsL_in _ [(8, 0), (8, 1), (8, 2), (0, 2)] rfl (by decide +kernel)) ggL_law_X9_people
set_option maxRecDepth 20000 in
theorem ggL_law_X10_people_c : GoodIn wsL_law0 [.code yX10_people cX10_people 4 (some .boolean)] := goodIn_s segsL segsL_in _ [(8, 8)] rfl (by decide +kernel)
set_option maxRecDepth 20000 in
theorem ggL_law_X10_people_l : GoodIn wsL_law0 [.fieldLink RX10 150 "FondsRoomModel" "thrown" "I", .fieldLink RX10 163 "FondsRoomModel" "turn" "I", .fieldLink RX10 16 "FondsRoomModel" "fetchers" "I", .fieldLink RX10 19 "FondsRoomModel" "copyists" "I", .fieldLink RX10 13 "FondsRoomModel" "way" "I", .methodLink RX10 156 yX10_in, .static yX10_in, .initialized RX10, .code yX10_in cX10_in 3 (some .boolean)] := goodIn_s segsL segsL_in _ [(7, 3), (7, 4), (4, 20), (4, 21), (4, 19), (7, 21), (7, 22), (0, 5), (7, 23)] rfl (by decide +kernel)
theorem ggL_law_X10_people : GoodIn wsL_law0 wsX10_people := fun w h => (List.mem_cons.mp h).elim (fun e => ggL_law_X10_people_c w (List.mem_singleton.mpr e)) (fun h => (goodIn_app ggL_law_X10_people_l gW_wsX100) w h)
set_option maxRecDepth 20000 in
theorem gL_law_X10_people : GoodIn wsL_law0 (wsV RL 33 RX10 yX10_people wsX10_people) := goodIn_app (goodIn_s segsL segsL_in _ [(8, 5), (8, 6), (8, 7), (0, 5)] rfl (by decide +kernel)) ggL_law_X10_people
set_option maxRecDepth 20000 in
theorem ggL_law_X9_reader_c : GoodIn wsL_law0 [.code yX9_reader cX9_reader 6 (some .int)] := goodIn_s segsL segsL_in _ [(8, 12)] rfl (by decide +kernel)
set_option maxRecDepth 20000 in
theorem ggL_law_X9_reader_l : GoodIn wsL_law0 [.fieldLink RX9 104 "FondsRoom" "readerCount" "I", .fieldLink RX9 27 "FondsRoom" "readers" "[LFondsRoom$Reader;", .fieldLink RX9 111 "FondsRoom$Reader" "arrival" "I", .fieldLink RX9 114 "FondsRoom$Reader" "rank" "I", .fieldLink RX9 117 "FondsRoom$Reader" "needsWatched" "Z", .methodLink RX9 91 yX9_isWithin, .static yX9_isWithin, .initialized RX9, .code yX9_isWithin cX9_isWithin 3 (some .boolean), .methodLink RX9 107 yX9_bellHasBeen, .instanceMethod yX9_bellHasBeen, .selects RX9 yX9_bellHasBeen yX9_bellHasBeen, .code yX9_bellHasBeen cX9_bellHasBeen 1 (some .boolean), .fieldLink RX9 75 "FondsRoom" "bellTurn" "I", .fieldLink RX9 78 "FondsRoom" "turn" "I"] := goodIn_s segsL segsL_in _ [(8, 13), (0, 22), (8, 14), (8, 15), (8, 16), (7, 13), (7, 14), (0, 2), (7, 15), (8, 17), (8, 18), (8, 19), (8, 20), (1, 21), (6, 20)] rfl (by decide +kernel)
theorem ggL_law_X9_reader : GoodIn wsL_law0 wsX9_reader := fun w h => (List.mem_cons.mp h).elim (fun e => ggL_law_X9_reader_c w (List.mem_singleton.mpr e)) (fun h => (goodIn_app (goodIn_app ggL_law_X9_reader_l gW_wsX90) gW_wsX60) w h)
set_option maxRecDepth 20000 in
theorem gL_law_X9_reader : GoodIn wsL_law0 (wsV RL 34 RX9 yX9_reader wsX9_reader) := goodIn_app (goodIn_s segsL segsL_in _ [(8, 9), (8, 10), (8, 11), (0, 2)] rfl (by decide +kernel)) ggL_law_X9_reader
set_option maxRecDepth 20000 in
theorem ggL_law_X10_reader_c : GoodIn wsL_law0 [.code yX10_reader cX10_reader 4 (some .int)] := goodIn_s segsL segsL_in _ [(9, 0)] rfl (by decide +kernel)
set_option maxRecDepth 20000 in
theorem ggL_law_X10_reader_l : GoodIn wsL_law0 [.fieldLink RX10 150 "FondsRoomModel" "thrown" "I", .fieldLink RX10 153 "FondsRoomModel" "readers" "I", .fieldLink RX10 9 "FondsRoomModel" "bellTurn" "I", .fieldLink RX10 163 "FondsRoomModel" "turn" "I", .fieldLink RX10 57 "FondsRoomModel" "arrival" "[I", .fieldLink RX10 60 "FondsRoomModel" "rank" "[I", .fieldLink RX10 63 "FondsRoomModel" "needsWatched" "[Z", .fieldLink RX10 69 "FondsRoomModel" "desk" "[I", .methodLink RX10 156 yX10_in, .static yX10_in, .initialized RX10, .code yX10_in cX10_in 3 (some .boolean)] := goodIn_s segsL segsL_in _ [(7, 3), (9, 1), (4, 18), (7, 4), (5, 9), (5, 10), (5, 11), (5, 13), (7, 21), (7, 22), (0, 5), (7, 23)] rfl (by decide +kernel)
theorem ggL_law_X10_reader : GoodIn wsL_law0 wsX10_reader := fun w h => (List.mem_cons.mp h).elim (fun e => ggL_law_X10_reader_c w (List.mem_singleton.mpr e)) (fun h => (goodIn_app ggL_law_X10_reader_l gW_wsX100) w h)
set_option maxRecDepth 20000 in
theorem gL_law_X10_reader : GoodIn wsL_law0 (wsV RL 38 RX10 yX10_reader wsX10_reader) := goodIn_app (goodIn_s segsL segsL_in _ [(8, 21), (8, 22), (8, 23), (0, 5)] rfl (by decide +kernel)) ggL_law_X10_reader
set_option maxRecDepth 20000 in
theorem ggL_law_X9_ask_c : GoodIn wsL_law0 [.code yX9_ask cX9_ask 3 (some .boolean)] := goodIn_s segsL segsL_in _ [(9, 5)] rfl (by decide +kernel)
set_option maxRecDepth 20000 in
theorem ggL_law_X9_ask_wsX9_ask_r1 : GoodIn wsL_law0 wsX9_ask_r1 := goodIn_s segsL segsL_in _ [(9, 6), (9, 7), (9, 8), (0, 2), (9, 9), (7, 10), (9, 10), (9, 11), (9, 12), (9, 13), (0, 22), (9, 14), (9, 15), (9, 16), (9, 17), (9, 18), (8, 13), (9, 19), (9, 20), (9, 21), (9, 22), (9, 23), (10, 0), (10, 1)] rfl (by decide +kernel)
set_option maxRecDepth 20000 in
theorem ggL_law_X9_ask_wsX9_ask_r2 : GoodIn wsL_law0 wsX9_ask_r2 := goodIn_s segsL segsL_in _ [(2, 15), (10, 2), (10, 3), (2, 22), (2, 23), (3, 0), (3, 2)] rfl (by decide +kernel)
theorem ggL_law_X9_ask : GoodIn wsL_law0 wsX9_ask := fun w h => (List.mem_cons.mp h).elim (fun e => ggL_law_X9_ask_c w (List.mem_singleton.mpr e)) (fun h => (goodIn_app (goodIn_app (goodIn_app (goodIn_app ggL_law_X9_ask_wsX9_ask_r1 ggL_law_X9_ask_wsX9_ask_r2) gW_wsX90) gW_wsX60) gW_wsX50) w h)
set_option maxRecDepth 20000 in
theorem gL_law_X9_ask : GoodIn wsL_law0 (wsV RL 39 RX9 yX9_ask wsX9_ask) := goodIn_app (goodIn_s segsL segsL_in _ [(9, 2), (9, 3), (9, 4), (0, 2)] rfl (by decide +kernel)) ggL_law_X9_ask
set_option maxRecDepth 20000 in
theorem ggL_law_X10_ask_c : GoodIn wsL_law0 [.code yX10_ask cX10_ask 3 (some .boolean)] := goodIn_s segsL segsL_in _ [(10, 7)] rfl (by decide +kernel)
set_option maxRecDepth 20000 in
theorem ggL_law_X10_ask_wsX10_ask_r1 : GoodIn wsL_law0 wsX10_ask_r1 := goodIn_s segsL segsL_in _ [(7, 3), (10, 8), (10, 9), (10, 10), (0, 5), (10, 11), (5, 14), (5, 12), (10, 12), (10, 13), (10, 14), (10, 15), (9, 1), (7, 21), (7, 22), (7, 23), (10, 16), (10, 17), (10, 18), (10, 19), (7, 20), (10, 20), (10, 21), (10, 22)] rfl (by decide +kernel)
set_option maxRecDepth 20000 in
theorem ggL_law_X10_ask_wsX10_ask_r2 : GoodIn wsL_law0 wsX10_ask_r2 := goodIn_s segsL segsL_in _ [(10, 23), (5, 23), (6, 0), (6, 1), (6, 2)] rfl (by decide +kernel)
theorem ggL_law_X10_ask : GoodIn wsL_law0 wsX10_ask := fun w h => (List.mem_cons.mp h).elim (fun e => ggL_law_X10_ask_c w (List.mem_singleton.mpr e)) (fun h => (goodIn_app (goodIn_app ggL_law_X10_ask_wsX10_ask_r1 ggL_law_X10_ask_wsX10_ask_r2) gW_wsX100) w h)
set_option maxRecDepth 20000 in
theorem gL_law_X10_ask : GoodIn wsL_law0 (wsV RL 43 RX10 yX10_ask wsX10_ask) := goodIn_app (goodIn_s segsL segsL_in _ [(10, 4), (10, 5), (10, 6), (0, 5)] rfl (by decide +kernel)) ggL_law_X10_ask
set_option maxRecDepth 20000 in
theorem ggL_law_X9_read_c : GoodIn wsL_law0 [.code yX9_read cX9_read 3 (some .boolean)] := goodIn_s segsL segsL_in _ [(11, 3)] rfl (by decide +kernel)
set_option maxRecDepth 20000 in
theorem ggL_law_X9_read_wsX9_read_r1 : GoodIn wsL_law0 wsX9_read_r1 := goodIn_s segsL segsL_in _ [(7, 13), (7, 14), (0, 2), (7, 15), (9, 10), (9, 11), (9, 12), (9, 13), (0, 22), (9, 14), (9, 15), (9, 16), (9, 17), (9, 18), (8, 13), (9, 19), (9, 20), (9, 21), (9, 22), (9, 23), (10, 0), (10, 1), (2, 15), (10, 2)] rfl (by decide +kernel)
set_option maxRecDepth 20000 in
theorem ggL_law_X9_read_wsX9_read_r2 : GoodIn wsL_law0 wsX9_read_r2 := goodIn_s segsL segsL_in _ [(10, 3), (2, 22), (2, 23), (3, 0), (3, 2)] rfl (by decide +kernel)
theorem ggL_law_X9_read : GoodIn wsL_law0 wsX9_read := fun w h => (List.mem_cons.mp h).elim (fun e => ggL_law_X9_read_c w (List.mem_singleton.mpr e)) (fun h => (goodIn_app (goodIn_app (goodIn_app (goodIn_app ggL_law_X9_read_wsX9_read_r1 ggL_law_X9_read_wsX9_read_r2) gW_wsX90) gW_wsX60) gW_wsX50) w h)
set_option maxRecDepth 20000 in
theorem gL_law_X9_read : GoodIn wsL_law0 (wsV RL 44 RX9 yX9_read wsX9_read) := goodIn_app (goodIn_s segsL segsL_in _ [(11, 0), (11, 1), (11, 2), (0, 2)] rfl (by decide +kernel)) ggL_law_X9_read
set_option maxRecDepth 20000 in
theorem ggL_law_X10_read_c : GoodIn wsL_law0 [.code yX10_read cX10_read 3 (some .boolean)] := goodIn_s segsL segsL_in _ [(11, 7)] rfl (by decide +kernel)
set_option maxRecDepth 20000 in
theorem ggL_law_X10_read_l : GoodIn wsL_law0 [.fieldLink RX10 150 "FondsRoomModel" "thrown" "I", .methodLink RX10 173 yX10_canPlan, .instanceMethod yX10_canPlan, .selects RX10 yX10_canPlan yX10_canPlan, .initialized RX10, .code yX10_canPlan cX10_canPlan 2 (some .boolean), .fieldLink RX10 72 "FondsRoomModel" "steps" "[I", .fieldLink RX10 66 "FondsRoomModel" "state" "[I", .methodLink RX10 169 yX10_isReader, .instanceMethod yX10_isReader, .selects RX10 yX10_isReader yX10_isReader, .code yX10_isReader cX10_isReader 2 (some .boolean), .fieldLink RX10 153 "FondsRoomModel" "readers" "I", .methodLink RX10 156 yX10_in, .static yX10_in, .code yX10_in cX10_in 3 (some .boolean), .methodLink RX10 179 yX10_plans, .instanceMethod yX10_plans, .selects RX10 yX10_plans yX10_plans, .code yX10_plans cX10_plans 7 (some .boolean), .fieldLink RX10 99 "FondsRoomModel" "sKind" "[I", .fieldLink RX10 102 "FondsRoomModel" "sBox" "[I", .fieldLink RX10 105 "FondsRoomModel" "sMany" "[I", .fieldLink RX10 108 "FondsRoomModel" "sUrgent" "[Z"] := goodIn_s segsL segsL_in _ [(7, 3), (10, 8), (10, 9), (10, 10), (0, 5), (10, 11), (5, 14), (5, 12), (10, 12), (10, 13), (10, 14), (10, 15), (9, 1), (7, 21), (7, 22), (7, 23), (10, 20), (10, 21), (10, 22), (10, 23), (5, 23), (6, 0), (6, 1), (6, 2)] rfl (by decide +kernel)
theorem ggL_law_X10_read : GoodIn wsL_law0 wsX10_read := fun w h => (List.mem_cons.mp h).elim (fun e => ggL_law_X10_read_c w (List.mem_singleton.mpr e)) (fun h => (goodIn_app ggL_law_X10_read_l gW_wsX100) w h)
set_option maxRecDepth 20000 in
theorem gL_law_X10_read : GoodIn wsL_law0 (wsV RL 47 RX10 yX10_read wsX10_read) := goodIn_app (goodIn_s segsL segsL_in _ [(11, 4), (11, 5), (11, 6), (0, 5)] rfl (by decide +kernel)) ggL_law_X10_read
set_option maxRecDepth 20000 in
theorem ggL_law_X9_copy_c : GoodIn wsL_law0 [.code yX9_copy cX9_copy 5 (some .boolean)] := goodIn_s segsL segsL_in _ [(11, 11)] rfl (by decide +kernel)
set_option maxRecDepth 20000 in
theorem ggL_law_X9_copy_wsX9_copy_r1 : GoodIn wsL_law0 wsX9_copy_r1 := goodIn_s segsL segsL_in _ [(9, 6), (9, 7), (9, 8), (0, 2), (9, 9), (7, 10), (7, 13), (7, 14), (7, 15), (9, 10), (9, 11), (9, 12), (9, 13), (0, 22), (9, 14), (9, 15), (9, 16), (9, 17), (9, 18), (8, 13), (9, 19), (9, 20), (9, 21), (9, 22)] rfl (by decide +kernel)
set_option maxRecDepth 20000 in
theorem ggL_law_X9_copy_wsX9_copy_r2 : GoodIn wsL_law0 wsX9_copy_r2 := goodIn_s segsL segsL_in _ [(9, 23), (10, 0), (10, 1), (2, 15), (10, 2), (10, 3), (2, 22), (2, 23), (3, 0), (3, 2)] rfl (by decide +kernel)
theorem ggL_law_X9_copy : GoodIn wsL_law0 wsX9_copy := fun w h => (List.mem_cons.mp h).elim (fun e => ggL_law_X9_copy_c w (List.mem_singleton.mpr e)) (fun h => (goodIn_app (goodIn_app (goodIn_app (goodIn_app ggL_law_X9_copy_wsX9_copy_r1 ggL_law_X9_copy_wsX9_copy_r2) gW_wsX90) gW_wsX60) gW_wsX50) w h)
set_option maxRecDepth 20000 in
theorem gL_law_X9_copy : GoodIn wsL_law0 (wsV RL 48 RX9 yX9_copy wsX9_copy) := goodIn_app (goodIn_s segsL segsL_in _ [(11, 8), (11, 9), (11, 10), (0, 2)] rfl (by decide +kernel)) ggL_law_X9_copy
