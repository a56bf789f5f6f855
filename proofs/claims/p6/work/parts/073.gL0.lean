set_option maxRecDepth 20000 in
theorem ggL_law_X9_init_c : GoodIn wsL_law0 [.code yX9_init cX9_init 2 none] := goodIn_r _ [9] (by decide +kernel) (by decide +kernel)
set_option maxRecDepth 20000 in
theorem ggL_law_X9_init_wsX9_init_r1 : GoodIn wsL_law0 wsX9_init_r1 := goodIn_r _ [10, 11, 12, 13, 14, 15, 16, 17, 18, 19, 20, 21, 22, 23, 24, 25, 26, 27, 28, 29, 30, 31, 32, 33] (by decide +kernel) (by decide +kernel)
set_option maxRecDepth 20000 in
theorem ggL_law_X9_init_wsX9_init_r2 : GoodIn wsL_law0 wsX9_init_r2 := goodIn_r _ [34, 35, 36, 37, 38, 39, 40, 41, 42, 43, 44, 45, 46, 47, 48, 49, 50, 51, 52, 53, 54, 55, 56, 57] (by decide +kernel) (by decide +kernel)
set_option maxRecDepth 20000 in
theorem ggL_law_X9_init_wsX9_init_r3 : GoodIn wsL_law0 wsX9_init_r3 := goodIn_r _ [58, 59, 60, 61, 62, 63, 64, 65, 66, 67, 68, 69, 70, 71, 72, 73, 74, 75, 76, 77, 78, 79, 80, 81] (by decide +kernel) (by decide +kernel)
set_option maxRecDepth 20000 in
theorem ggL_law_X9_init_wsX9_init_r4 : GoodIn wsL_law0 wsX9_init_r4 := goodIn_r _ [82, 83, 84, 85, 86, 87, 88, 89, 90, 91, 92, 93, 94, 95, 96, 97, 98, 99, 100, 101, 102, 103, 104, 105] (by decide +kernel) (by decide +kernel)
set_option maxRecDepth 20000 in
theorem ggL_law_X9_init_wsX9_init_r5 : GoodIn wsL_law0 wsX9_init_r5 := goodIn_r _ [106, 107, 108, 109] (by decide +kernel) (by decide +kernel)
theorem ggL_law_X9_init : GoodIn wsL_law0 wsX9_init := fun w h => (List.mem_cons.mp h).elim (fun e => ggL_law_X9_init_c w (List.mem_singleton.mpr e)) (fun h => (goodIn_app (goodIn_app (goodIn_app (goodIn_app (goodIn_app (goodIn_app (goodIn_app (goodIn_app (goodIn_app (goodIn_app (goodIn_app ggL_law_X9_init_wsX9_init_r1 (goodIn_app ggL_law_X9_init_wsX9_init_r2 (goodIn_app ggL_law_X9_init_wsX9_init_r3 (goodIn_app ggL_law_X9_init_wsX9_init_r4 ggL_law_X9_init_wsX9_init_r5)))) gW_wsX90) gW_wsX10) gW_wsX00) gW_wsX60) gW_wsX70) gW_wsX30) gW_wsX40) gW_wsX20) gW_wsX50) gW_wsX80) w h)
set_option maxRecDepth 20000 in
theorem gL_law_X9_init : GoodIn wsL_law0 (wsX9_init) := ggL_law_X9_init
set_option maxRecDepth 20000 in
theorem ggL_law_X10_init_c : GoodIn wsL_law0 [.code yX10_init cX10_init 1 none] := goodIn_r _ [112] (by decide +kernel) (by decide +kernel)
set_option maxRecDepth 20000 in
theorem ggL_law_X10_init_wsX10_init_r1 : GoodIn wsL_law0 wsX10_init_r1 := goodIn_r _ [113, 11, 12, 114, 115, 116, 117, 73, 118, 69, 119, 120, 121, 122, 123, 124, 125, 126, 127, 128, 129, 130, 131, 132] (by decide +kernel) (by decide +kernel)
set_option maxRecDepth 20000 in
theorem ggL_law_X10_init_wsX10_init_r2 : GoodIn wsL_law0 wsX10_init_r2 := goodIn_r _ [133, 134, 135, 136, 137, 138, 139, 140, 141, 142, 143, 144, 145, 146, 147, 148, 149, 150, 151, 152, 153, 154, 155, 156] (by decide +kernel) (by decide +kernel)
set_option maxRecDepth 20000 in
theorem ggL_law_X10_init_wsX10_init_r3 : GoodIn wsL_law0 wsX10_init_r3 := goodIn_r _ [157, 158, 159] (by decide +kernel) (by decide +kernel)
theorem ggL_law_X10_init : GoodIn wsL_law0 wsX10_init := fun w h => (List.mem_cons.mp h).elim (fun e => ggL_law_X10_init_c w (List.mem_singleton.mpr e)) (fun h => (goodIn_app (goodIn_app ggL_law_X10_init_wsX10_init_r1 (goodIn_app ggL_law_X10_init_wsX10_init_r2 ggL_law_X10_init_wsX10_init_r3)) gW_wsX100) w h)
set_option maxRecDepth 20000 in
theorem gL_law_X10_init : GoodIn wsL_law0 (wsX10_init) := ggL_law_X10_init
set_option maxRecDepth 20000 in
theorem ggL_law_X9_desk_c : GoodIn wsL_law0 [.code yX9_desk cX9_desk 3 (some .int)] := goodIn_r _ [163] (by decide +kernel) (by decide +kernel)
set_option maxRecDepth 20000 in
theorem ggL_law_X9_desk_l : GoodIn wsL_law0 [.fieldLink RX9 78 "FondsRoom" "turn" "I", .fieldLink RX9 81 "FondsRoom" "deskCount" "I", .fieldLink RX9 11 "FondsRoom" "desks" "[LFondsRoom$Desk;", .fieldLink RX9 84 "FondsRoom$Desk" "watched" "Z"] := goodIn_r _ [164, 165, 14, 166] (by decide +kernel) (by decide +kernel)
theorem ggL_law_X9_desk : GoodIn wsL_law0 wsX9_desk := fun w h => (List.mem_cons.mp h).elim (fun e => ggL_law_X9_desk_c w (List.mem_singleton.mpr e)) (fun h => (goodIn_app (goodIn_app ggL_law_X9_desk_l gW_wsX90) gW_wsX10) w h)
set_option maxRecDepth 20000 in
theorem gL_law_X9_desk : GoodIn wsL_law0 (wsV RL 19 RX9 yX9_desk wsX9_desk) := goodIn_app (goodIn_of _ (by decide +kernel)) ggL_law_X9_desk
set_option maxRecDepth 20000 in
theorem ggL_law_X10_desk_c : GoodIn wsL_law0 [.code yX10_desk cX10_desk 2 (some .int)] := goodIn_r _ [170] (by decide +kernel) (by decide +kernel)
set_option maxRecDepth 20000 in
theorem ggL_law_X10_desk_l : GoodIn wsL_law0 [.fieldLink RX10 150 "FondsRoomModel" "thrown" "I", .fieldLink RX10 163 "FondsRoomModel" "turn" "I", .fieldLink RX10 166 "FondsRoomModel" "desks" "I", .fieldLink RX10 22 "FondsRoomModel" "isWatched" "[Z", .fieldLink RX10 26 "FondsRoomModel" "sitter" "[I"] := goodIn_r _ [171, 172, 173, 118, 119] (by decide +kernel) (by decide +kernel)
theorem ggL_law_X10_desk : GoodIn wsL_law0 wsX10_desk := fun w h => (List.mem_cons.mp h).elim (fun e => ggL_law_X10_desk_c w (List.mem_singleton.mpr e)) (fun h => (goodIn_app ggL_law_X10_desk_l gW_wsX100) w h)
set_option maxRecDepth 20000 in
theorem gL_law_X10_desk : GoodIn wsL_law0 (wsV RL 23 RX10 yX10_desk wsX10_desk) := goodIn_app (goodIn_of _ (by decide +kernel)) ggL_law_X10_desk
set_option maxRecDepth 20000 in
theorem ggL_law_X9_box_c : GoodIn wsL_law0 [.code yX9_box cX9_box 4 (some .int)] := goodIn_r _ [177] (by decide +kernel) (by decide +kernel)
set_option maxRecDepth 20000 in
theorem ggL_law_X9_box_l : GoodIn wsL_law0 [.fieldLink RX9 78 "FondsRoom" "turn" "I", .fieldLink RX9 88 "FondsRoom" "boxCount" "I", .fieldLink RX9 20 "FondsRoom" "boxes" "[LFondsRoom$Box;", .fieldLink RX9 95 "FondsRoom$Box" "fonds" "I", .fieldLink RX9 98 "FondsRoom$Box" "precious" "Z", .methodLink RX9 91 yX9_isWithin, .static yX9_isWithin, .initialized RX9, .code yX9_isWithin cX9_isWithin 3 (some .boolean)] := goodIn_r _ [164, 178, 18, 179, 180, 181, 182, 2, 183] (by decide +kernel) (by decide +kernel)
theorem ggL_law_X9_box : GoodIn wsL_law0 wsX9_box := fun w h => (List.mem_cons.mp h).elim (fun e => ggL_law_X9_box_c w (List.mem_singleton.mpr e)) (fun h => (goodIn_app (goodIn_app ggL_law_X9_box_l gW_wsX90) gW_wsX00) w h)
set_option maxRecDepth 20000 in
theorem gL_law_X9_box : GoodIn wsL_law0 (wsV RL 24 RX9 yX9_box wsX9_box) := goodIn_app (goodIn_of _ (by decide +kernel)) ggL_law_X9_box
set_option maxRecDepth 20000 in
theorem ggL_law_X10_box_c : GoodIn wsL_law0 [.code yX10_box cX10_box 3 (some .int)] := goodIn_r _ [187] (by decide +kernel) (by decide +kernel)
set_option maxRecDepth 20000 in
theorem ggL_law_X10_box_l : GoodIn wsL_law0 [.fieldLink RX10 150 "FondsRoomModel" "thrown" "I", .fieldLink RX10 163 "FondsRoomModel" "turn" "I", .fieldLink RX10 160 "FondsRoomModel" "boxes" "I", .fieldLink RX10 30 "FondsRoomModel" "fonds" "[I", .fieldLink RX10 33 "FondsRoomModel" "isPrecious" "[Z", .fieldLink RX10 39 "FondsRoomModel" "has" "[I", .fieldLink RX10 42 "FondsRoomModel" "ticket" "[I", .methodLink RX10 156 yX10_in, .static yX10_in, .initialized RX10, .code yX10_in cX10_in 3 (some .boolean)] := goodIn_r _ [171, 172, 188, 120, 121, 123, 124, 189, 190, 5, 191] (by decide +kernel) (by decide +kernel)
theorem ggL_law_X10_box : GoodIn wsL_law0 wsX10_box := fun w h => (List.mem_cons.mp h).elim (fun e => ggL_law_X10_box_c w (List.mem_singleton.mpr e)) (fun h => (goodIn_app ggL_law_X10_box_l gW_wsX100) w h)
set_option maxRecDepth 20000 in
theorem gL_law_X10_box : GoodIn wsL_law0 (wsV RL 28 RX10 yX10_box wsX10_box) := goodIn_app (goodIn_of _ (by decide +kernel)) ggL_law_X10_box
set_option maxRecDepth 20000 in
theorem ggL_law_X9_people_c : GoodIn wsL_law0 [.code yX9_people cX9_people 4 (some .boolean)] := goodIn_r _ [195] (by decide +kernel) (by decide +kernel)
set_option maxRecDepth 20000 in
theorem ggL_law_X9_people_l : GoodIn wsL_law0 [.fieldLink RX9 78 "FondsRoom" "turn" "I", .fieldLink RX9 37 "FondsRoom" "fetchers" "LFondsRoom$Staff;", .fieldLink RX9 101 "FondsRoom$Staff" "hired" "I", .fieldLink RX9 41 "FondsRoom" "copyists" "LFondsRoom$Staff;", .fieldLink RX9 71 "FondsRoom" "way" "I", .methodLink RX9 91 yX9_isWithin, .static yX9_isWithin, .initialized RX9, .code yX9_isWithin cX9_isWithin 3 (some .boolean)] := goodIn_r _ [164, 28, 196, 29, 44, 181, 182, 2, 183] (by decide +kernel) (by decide +kernel)
theorem ggL_law_X9_people : GoodIn wsL_law0 wsX9_people := fun w h => (List.mem_cons.mp h).elim (fun e => ggL_law_X9_people_c w (List.mem_singleton.mpr e)) (fun h => (goodIn_app (goodIn_app ggL_law_X9_people_l gW_wsX90) gW_wsX70) w h)
set_option maxRecDepth 20000 in
theorem gL_law_X9_people : GoodIn wsL_law0 (wsV RL 29 RX9 yX9_people wsX9_people) := goodIn_app (goodIn_of _ (by decide +kernel)) ggL_law_X9_people
set_option maxRecDepth 20000 in
theorem ggL_law_X10_people_c : GoodIn wsL_law0 [.code yX10_people cX10_people 4 (some .boolean)] := goodIn_r _ [200] (by decide +kernel) (by decide +kernel)
set_option maxRecDepth 20000 in
theorem ggL_law_X10_people_l : GoodIn wsL_law0 [.fieldLink RX10 150 "FondsRoomModel" "thrown" "I", .fieldLink RX10 163 "FondsRoomModel" "turn" "I", .fieldLink RX10 16 "FondsRoomModel" "fetchers" "I", .fieldLink RX10 19 "FondsRoomModel" "copyists" "I", .fieldLink RX10 13 "FondsRoomModel" "way" "I", .methodLink RX10 156 yX10_in, .static yX10_in, .initialized RX10, .code yX10_in cX10_in 3 (some .boolean)] := goodIn_r _ [171, 172, 116, 117, 115, 189, 190, 5, 191] (by decide +kernel) (by decide +kernel)
theorem ggL_law_X10_people : GoodIn wsL_law0 wsX10_people := fun w h => (List.mem_cons.mp h).elim (fun e => ggL_law_X10_people_c w (List.mem_singleton.mpr e)) (fun h => (goodIn_app ggL_law_X10_people_l gW_wsX100) w h)
set_option maxRecDepth 20000 in
theorem gL_law_X10_people : GoodIn wsL_law0 (wsV RL 33 RX10 yX10_people wsX10_people) := goodIn_app (goodIn_of _ (by decide +kernel)) ggL_law_X10_people
set_option maxRecDepth 20000 in
theorem ggL_law_X9_reader_c : GoodIn wsL_law0 [.code yX9_reader cX9_reader 6 (some .int)] := goodIn_r _ [204] (by decide +kernel) (by decide +kernel)
set_option maxRecDepth 20000 in
theorem ggL_law_X9_reader_l : GoodIn wsL_law0 [.fieldLink RX9 104 "FondsRoom" "readerCount" "I", .fieldLink RX9 27 "FondsRoom" "readers" "[LFondsRoom$Reader;", .fieldLink RX9 111 "FondsRoom$Reader" "arrival" "I", .fieldLink RX9 114 "FondsRoom$Reader" "rank" "I", .fieldLink RX9 117 "FondsRoom$Reader" "needsWatched" "Z", .methodLink RX9 91 yX9_isWithin, .static yX9_isWithin, .initialized RX9, .code yX9_isWithin cX9_isWithin 3 (some .boolean), .methodLink RX9 107 yX9_bellHasBeen, .instanceMethod yX9_bellHasBeen, .selects RX9 yX9_bellHasBeen yX9_bellHasBeen, .code yX9_bellHasBeen cX9_bellHasBeen 1 (some .boolean), .fieldLink RX9 75 "FondsRoom" "bellTurn" "I", .fieldLink RX9 78 "FondsRoom" "turn" "I"] := goodIn_r _ [205, 22, 206, 207, 208, 181, 182, 2, 183, 209, 210, 211, 212, 45, 164] (by decide +kernel) (by decide +kernel)
theorem ggL_law_X9_reader : GoodIn wsL_law0 wsX9_reader := fun w h => (List.mem_cons.mp h).elim (fun e => ggL_law_X9_reader_c w (List.mem_singleton.mpr e)) (fun h => (goodIn_app (goodIn_app ggL_law_X9_reader_l gW_wsX90) gW_wsX60) w h)
set_option maxRecDepth 20000 in
theorem gL_law_X9_reader : GoodIn wsL_law0 (wsV RL 34 RX9 yX9_reader wsX9_reader) := goodIn_app (goodIn_of _ (by decide +kernel)) ggL_law_X9_reader
set_option maxRecDepth 20000 in
theorem ggL_law_X10_reader_c : GoodIn wsL_law0 [.code yX10_reader cX10_reader 4 (some .int)] := goodIn_r _ [216] (by decide +kernel) (by decide +kernel)
set_option maxRecDepth 20000 in
theorem ggL_law_X10_reader_l : GoodIn wsL_law0 [.fieldLink RX10 150 "FondsRoomModel" "thrown" "I", .fieldLink RX10 153 "FondsRoomModel" "readers" "I", .fieldLink RX10 9 "FondsRoomModel" "bellTurn" "I", .fieldLink RX10 163 "FondsRoomModel" "turn" "I", .fieldLink RX10 57 "FondsRoomModel" "arrival" "[I", .fieldLink RX10 60 "FondsRoomModel" "rank" "[I", .fieldLink RX10 63 "FondsRoomModel" "needsWatched" "[Z", .fieldLink RX10 69 "FondsRoomModel" "desk" "[I", .methodLink RX10 156 yX10_in, .static yX10_in, .initialized RX10, .code yX10_in cX10_in 3 (some .boolean)] := goodIn_r _ [171, 217, 114, 172, 129, 130, 131, 133, 189, 190, 5, 191] (by decide +kernel) (by decide +kernel)
theorem ggL_law_X10_reader : GoodIn wsL_law0 wsX10_reader := fun w h => (List.mem_cons.mp h).elim (fun e => ggL_law_X10_reader_c w (List.mem_singleton.mpr e)) (fun h => (goodIn_app ggL_law_X10_reader_l gW_wsX100) w h)
set_option maxRecDepth 20000 in
theorem gL_law_X10_reader : GoodIn wsL_law0 (wsV RL 38 RX10 yX10_reader wsX10_reader) := goodIn_app (goodIn_of _ (by decide +kernel)) ggL_law_X10_reader
set_option maxRecDepth 20000 in
theorem ggL_law_X9_ask_c : GoodIn wsL_law0 [.code yX9_ask cX9_ask 3 (some .boolean)] := goodIn_r _ [221] (by decide +kernel) (by decide +kernel)
set_option maxRecDepth 20000 in
theorem ggL_law_X9_ask_wsX9_ask_r1 : GoodIn wsL_law0 wsX9_ask_r1 := goodIn_r _ [222, 223, 224, 2, 225, 178, 226, 227, 228, 229, 22, 230, 231, 232, 233, 234, 205, 235, 236, 237, 238, 239, 240, 241] (by decide +kernel) (by decide +kernel)
set_option maxRecDepth 20000 in
theorem ggL_law_X9_ask_wsX9_ask_r2 : GoodIn wsL_law0 wsX9_ask_r2 := goodIn_r _ [63, 242, 243, 70, 71, 72, 74] (by decide +kernel) (by decide +kernel)
theorem ggL_law_X9_ask : GoodIn wsL_law0 wsX9_ask := fun w h => (List.mem_cons.mp h).elim (fun e => ggL_law_X9_ask_c w (List.mem_singleton.mpr e)) (fun h => (goodIn_app (goodIn_app (goodIn_app (goodIn_app ggL_law_X9_ask_wsX9_ask_r1 ggL_law_X9_ask_wsX9_ask_r2) gW_wsX90) gW_wsX60) gW_wsX50) w h)
set_option maxRecDepth 20000 in
theorem gL_law_X9_ask : GoodIn wsL_law0 (wsV RL 39 RX9 yX9_ask wsX9_ask) := goodIn_app (goodIn_of _ (by decide +kernel)) ggL_law_X9_ask
set_option maxRecDepth 20000 in
theorem ggL_law_X10_ask_c : GoodIn wsL_law0 [.code yX10_ask cX10_ask 3 (some .boolean)] := goodIn_r _ [247] (by decide +kernel) (by decide +kernel)
set_option maxRecDepth 20000 in
theorem ggL_law_X10_ask_wsX10_ask_r1 : GoodIn wsL_law0 wsX10_ask_r1 := goodIn_r _ [171, 248, 249, 250, 5, 251, 134, 132, 252, 253, 254, 255, 217, 189, 190, 191, 256, 257, 258, 259, 188, 260, 261, 262] (by decide +kernel) (by decide +kernel)
set_option maxRecDepth 20000 in
theorem ggL_law_X10_ask_wsX10_ask_r2 : GoodIn wsL_law0 wsX10_ask_r2 := goodIn_r _ [263, 143, 144, 145, 146] (by decide +kernel) (by decide +kernel)
theorem ggL_law_X10_ask : GoodIn wsL_law0 wsX10_ask := fun w h => (List.mem_cons.mp h).elim (fun e => ggL_law_X10_ask_c w (List.mem_singleton.mpr e)) (fun h => (goodIn_app (goodIn_app ggL_law_X10_ask_wsX10_ask_r1 ggL_law_X10_ask_wsX10_ask_r2) gW_wsX100) w h)
set_option maxRecDepth 20000 in
theorem gL_law_X10_ask : GoodIn wsL_law0 (wsV RL 43 RX10 yX10_ask wsX10_ask) := goodIn_app (goodIn_of _ (by decide +kernel)) ggL_law_X10_ask
set_option maxRecDepth 20000 in
theorem ggL_law_X9_read_c : GoodIn wsL_law0 [.code yX9_read cX9_read 3 (some .boolean)] := goodIn_r _ [267] (by decide +kernel) (by decide +kernel)
set_option maxRecDepth 20000 in
theorem ggL_law_X9_read_wsX9_read_r1 : GoodIn wsL_law0 wsX9_read_r1 := goodIn_r _ [181, 182, 2, 183, 226, 227, 228, 229, 22, 230, 231, 232, 233, 234, 205, 235, 236, 237, 238, 239, 240, 241, 63, 242] (by decide +kernel) (by decide +kernel)
set_option maxRecDepth 20000 in
theorem ggL_law_X9_read_wsX9_read_r2 : GoodIn wsL_law0 wsX9_read_r2 := goodIn_r _ [243, 70, 71, 72, 74] (by decide +kernel) (by decide +kernel)
theorem ggL_law_X9_read : GoodIn wsL_law0 wsX9_read := fun w h => (List.mem_cons.mp h).elim (fun e => ggL_law_X9_read_c w (List.mem_singleton.mpr e)) (fun h => (goodIn_app (goodIn_app (goodIn_app (goodIn_app ggL_law_X9_read_wsX9_read_r1 ggL_law_X9_read_wsX9_read_r2) gW_wsX90) gW_wsX60) gW_wsX50) w h)
set_option maxRecDepth 20000 in
theorem gL_law_X9_read : GoodIn wsL_law0 (wsV RL 44 RX9 yX9_read wsX9_read) := goodIn_app (goodIn_of _ (by decide +kernel)) ggL_law_X9_read
set_option maxRecDepth 20000 in
theorem ggL_law_X10_read_c : GoodIn wsL_law0 [.code yX10_read cX10_read 3 (some .boolean)] := goodIn_r _ [271] (by decide +kernel) (by decide +kernel)
set_option maxRecDepth 20000 in
theorem ggL_law_X10_read_l : GoodIn wsL_law0 [.fieldLink RX10 150 "FondsRoomModel" "thrown" "I", .methodLink RX10 173 yX10_canPlan, .instanceMethod yX10_canPlan, .selects RX10 yX10_canPlan yX10_canPlan, .initialized RX10, .code yX10_canPlan cX10_canPlan 2 (some .boolean), .fieldLink RX10 72 "FondsRoomModel" "steps" "[I", .fieldLink RX10 66 "FondsRoomModel" "state" "[I", .methodLink RX10 169 yX10_isReader, .instanceMethod yX10_isReader, .selects RX10 yX10_isReader yX10_isReader, .code yX10_isReader cX10_isReader 2 (some .boolean), .fieldLink RX10 153 "FondsRoomModel" "readers" "I", .methodLink RX10 156 yX10_in, .static yX10_in, .code yX10_in cX10_in 3 (some .boolean), .methodLink RX10 179 yX10_plans, .instanceMethod yX10_plans, .selects RX10 yX10_plans yX10_plans, .code yX10_plans cX10_plans 7 (some .boolean), .fieldLink RX10 99 "FondsRoomModel" "sKind" "[I", .fieldLink RX10 102 "FondsRoomModel" "sBox" "[I", .fieldLink RX10 105 "FondsRoomModel" "sMany" "[I", .fieldLink RX10 108 "FondsRoomModel" "sUrgent" "[Z"] := goodIn_r _ [171, 248, 249, 250, 5, 251, 134, 132, 252, 253, 254, 255, 217, 189, 190, 191, 260, 261, 262, 263, 143, 144, 145, 146] (by decide +kernel) (by decide +kernel)
theorem ggL_law_X10_read : GoodIn wsL_law0 wsX10_read := fun w h => (List.mem_cons.mp h).elim (fun e => ggL_law_X10_read_c w (List.mem_singleton.mpr e)) (fun h => (goodIn_app ggL_law_X10_read_l gW_wsX100) w h)
set_option maxRecDepth 20000 in
theorem gL_law_X10_read : GoodIn wsL_law0 (wsV RL 47 RX10 yX10_read wsX10_read) := goodIn_app (goodIn_of _ (by decide +kernel)) ggL_law_X10_read
set_option maxRecDepth 20000 in
theorem ggL_law_X9_copy_c : GoodIn wsL_law0 [.code yX9_copy cX9_copy 5 (some .boolean)] := goodIn_r _ [275] (by decide +kernel) (by decide +kernel)
set_option maxRecDepth 20000 in
theorem ggL_law_X9_copy_wsX9_copy_r1 : GoodIn wsL_law0 wsX9_copy_r1 := goodIn_r _ [222, 223, 224, 2, 225, 178, 181, 182, 183, 226, 227, 228, 229, 22, 230, 231, 232, 233, 234, 205, 235, 236, 237, 238] (by decide +kernel) (by decide +kernel)
set_option maxRecDepth 20000 in
theorem ggL_law_X9_copy_wsX9_copy_r2 : GoodIn wsL_law0 wsX9_copy_r2 := goodIn_r _ [239, 240, 241, 63, 242, 243, 70, 71, 72, 74] (by decide +kernel) (by decide +kernel)
theorem ggL_law_X9_copy : GoodIn wsL_law0 wsX9_copy := fun w h => (List.mem_cons.mp h).elim (fun e => ggL_law_X9_copy_c w (List.mem_singleton.mpr e)) (fun h => (goodIn_app (goodIn_app (goodIn_app (goodIn_app ggL_law_X9_copy_wsX9_copy_r1 ggL_law_X9_copy_wsX9_copy_r2) gW_wsX90) gW_wsX60) gW_wsX50) w h)
set_option maxRecDepth 20000 in
theorem gL_law_X9_copy : GoodIn wsL_law0 (wsV RL 48 RX9 yX9_copy wsX9_copy) := goodIn_app (goodIn_of _ (by decide +kernel)) ggL_law_X9_copy
