set_option maxRecDepth 20000 in
theorem ggX9_passTurn_X9_ringBell_wsX9_ringBell_r2 : GoodIn wsX9_passTurn wsX9_ringBell_r2 := goodIn_r _ [56, 57, 58, 59, 60, 61, 62, 63, 64, 65, 66, 67, 68, 69, 70, 71, 72, 73, 74, 75, 76, 77, 78, 79] (by decide +kernel) (by decide +kernel)
set_option maxRecDepth 20000 in
theorem ggX9_passTurn_X9_ringBell_wsX9_ringBell_r3 : GoodIn wsX9_passTurn wsX9_ringBell_r3 := goodIn_r _ [80, 81, 82, 84, 85, 86, 87, 88, 89, 90, 91] (by decide +kernel) (by decide +kernel)
theorem ggX9_passTurn_X9_ringBell : GoodIn wsX9_passTurn wsX9_ringBell := fun w h => (List.mem_cons.mp h).elim (fun e => ggX9_passTurn_X9_ringBell_c w (List.mem_singleton.mpr e)) (fun h => (goodIn_app (goodIn_app (goodIn_app (goodIn_app (goodIn_app (goodIn_app (goodIn_app (goodIn_app (goodIn_app ggX9_passTurn_X9_ringBell_wsX9_ringBell_r1 (goodIn_app ggX9_passTurn_X9_ringBell_wsX9_ringBell_r2 ggX9_passTurn_X9_ringBell_wsX9_ringBell_r3)) gc_wsX9_passTurn_wsX90) gc_wsX9_passTurn_wsX70) gc_wsX9_passTurn_wsX80) gc_wsX9_passTurn_wsX00) gc_wsX9_passTurn_wsX60) gc_wsX9_passTurn_wsX10) gc_wsX9_passTurn_wsX30) gc_wsX9_passTurn_wsX20) w h)
set_option maxRecDepth 20000 in
theorem gX9_passTurn_X9_ringBell : GoodIn wsX9_passTurn (wsV RX9 160 RX9 yX9_ringBell wsX9_ringBell) := goodIn_app (goodIn_of _ (by decide +kernel)) ggX9_passTurn_X9_ringBell
set_option maxRecDepth 20000 in
theorem ggX9_passTurn_X9_fetchersWalk : GoodIn wsX9_passTurn wsX9_fetchersWalk := goodIn_r _ [113, 18, 109, 19, 83, 114, 115, 116, 117, 118, 6, 119, 52, 55, 1, 120, 71, 68, 51, 70, 40, 56, 72, 73, 74, 75, 76, 77, 78, 57, 58, 59, 60, 61, 62, 63, 84, 85, 86, 87, 88, 89, 90, 91, 304, 305, 306, 307, 308, 309, 310, 311, 312, 313, 314, 315, 316, 317, 318, 319, 320, 321, 322, 327, 328, 359, 360, 361, 346, 347, 348, 349, 350, 351, 329, 330, 331, 332, 333, 334, 335, 336, 337, 338, 339, 340, 341, 342, 343, 344, 345, 357, 358, 355, 356] (by decide +kernel) (by decide +kernel)
set_option maxRecDepth 20000 in
theorem gX9_passTurn_X9_fetchersWalk : GoodIn wsX9_passTurn (wsV RX9 163 RX9 yX9_fetchersWalk wsX9_fetchersWalk) := goodIn_app (goodIn_of _ (by decide +kernel)) ggX9_passTurn_X9_fetchersWalk
set_option maxRecDepth 20000 in
theorem ggX9_passTurn_X9_copyistsWork : GoodIn wsX9_passTurn wsX9_copyistsWork := goodIn_r _ [124, 20, 109, 19, 83, 114, 125, 126, 127, 6, 128, 129, 51, 52, 69, 70, 40, 130, 55, 1, 56, 120, 57, 58, 59, 60, 61, 62, 63, 72, 73, 74, 75, 76, 77, 78, 84, 85, 86, 87, 88, 89, 90, 91, 304, 305, 306, 307, 308, 309, 310, 311, 312, 313, 314, 315, 316, 317, 318, 319, 320, 321, 322, 327, 328, 359, 360, 361, 346, 347, 348, 349, 350, 351, 329, 330, 331, 332, 333, 334, 335, 336, 337, 338, 339, 340, 341, 342, 343, 344, 345, 355, 356, 357, 358] (by decide +kernel) (by decide +kernel)
set_option maxRecDepth 20000 in
theorem gX9_passTurn_X9_copyistsWork : GoodIn wsX9_passTurn (wsV RX9 166 RX9 yX9_copyistsWork wsX9_copyistsWork) := goodIn_app (goodIn_of _ (by decide +kernel)) ggX9_passTurn_X9_copyistsWork
set_option maxRecDepth 20000 in
theorem ggX9_passTurn_X9_readersRead : GoodIn wsX9_passTurn wsX9_readersRead := goodIn_r _ [134, 29, 17, 40, 135, 304, 305, 306, 307, 308, 309, 310, 311, 312, 313, 314, 315, 316, 317, 318, 319, 320, 321, 322, 329, 330, 331, 332, 333, 334, 335, 336, 337, 338, 339, 340, 341, 342, 343, 344, 345] (by decide +kernel) (by decide +kernel)
set_option maxRecDepth 20000 in
theorem gX9_passTurn_X9_readersRead : GoodIn wsX9_passTurn (wsV RX9 169 RX9 yX9_readersRead wsX9_readersRead) := goodIn_app (goodIn_of _ (by decide +kernel)) ggX9_passTurn_X9_readersRead
set_option maxRecDepth 20000 in
theorem gc_wsX9_passTurn_wsX50 : GoodIn wsX9_passTurn wsX50 := goodIn_sub (fun _ h => List.mem_cons_of_mem _ (List.mem_append_right _ h)) (by decide +kernel)
set_option maxRecDepth 20000 in
theorem ggX9_passTurn_X9_readersGoOn_c : GoodIn wsX9_passTurn [.code yX9_readersGoOn cX9_readersGoOn 2 none] := goodIn_r _ [139] (by decide +kernel) (by decide +kernel)
set_option maxRecDepth 20000 in
theorem ggX9_passTurn_X9_readersGoOn_wsX9_readersGoOn_r1 : GoodIn wsX9_passTurn wsX9_readersGoOn_r1 := goodIn_r _ [29, 17, 40, 140, 141, 142, 6, 143, 144, 145, 146, 147, 50, 148, 135, 149, 150, 151, 152, 153, 154, 49, 155, 156] (by decide +kernel) (by decide +kernel)
set_option maxRecDepth 20000 in
theorem ggX9_passTurn_X9_readersGoOn_wsX9_readersGoOn_r2 : GoodIn wsX9_passTurn wsX9_readersGoOn_r2 := goodIn_r _ [157, 158, 55, 1, 56, 120, 71, 70, 68, 72, 73, 74, 75, 76, 77, 78, 159, 160, 161, 162, 163, 53, 164, 51] (by decide +kernel) (by decide +kernel)
set_option maxRecDepth 20000 in
theorem ggX9_passTurn_X9_readersGoOn_wsX9_readersGoOn_r3 : GoodIn wsX9_passTurn wsX9_readersGoOn_r3 := goodIn_r _ [165, 166, 167, 168, 169, 170, 171, 172, 173, 174, 175, 176, 177, 178, 179, 180, 181, 182, 183, 184, 185, 186, 187, 60] (by decide +kernel) (by decide +kernel)
set_option maxRecDepth 20000 in
theorem ggX9_passTurn_X9_readersGoOn_wsX9_readersGoOn_r4 : GoodIn wsX9_passTurn wsX9_readersGoOn_r4 := goodIn_r _ [188, 62, 63, 189, 190, 191, 192, 52, 193, 194, 69, 195, 196, 197, 198, 44, 45, 46, 47, 48, 54, 57, 58, 59] (by decide +kernel) (by decide +kernel)
set_option maxRecDepth 20000 in
theorem ggX9_passTurn_X9_readersGoOn_wsX9_readersGoOn_r5 : GoodIn wsX9_passTurn wsX9_readersGoOn_r5 := goodIn_r _ [61, 64, 65, 66, 67] (by decide +kernel) (by decide +kernel)
theorem ggX9_passTurn_X9_readersGoOn : GoodIn wsX9_passTurn wsX9_readersGoOn := fun w h => (List.mem_cons.mp h).elim (fun e => ggX9_passTurn_X9_readersGoOn_c w (List.mem_singleton.mpr e)) (fun h => (goodIn_app (goodIn_app (goodIn_app (goodIn_app (goodIn_app (goodIn_app (goodIn_app (goodIn_app ggX9_passTurn_X9_readersGoOn_wsX9_readersGoOn_r1 (goodIn_app ggX9_passTurn_X9_readersGoOn_wsX9_readersGoOn_r2 (goodIn_app ggX9_passTurn_X9_readersGoOn_wsX9_readersGoOn_r3 (goodIn_app ggX9_passTurn_X9_readersGoOn_wsX9_readersGoOn_r4 ggX9_passTurn_X9_readersGoOn_wsX9_readersGoOn_r5)))) gc_wsX9_passTurn_wsX90) gc_wsX9_passTurn_wsX60) gc_wsX9_passTurn_wsX50) gc_wsX9_passTurn_wsX00) gc_wsX9_passTurn_wsX20) gc_wsX9_passTurn_wsX10) gc_wsX9_passTurn_wsX30) w h)
set_option maxRecDepth 20000 in
theorem gX9_passTurn_X9_readersGoOn : GoodIn wsX9_passTurn (wsV RX9 172 RX9 yX9_readersGoOn wsX9_readersGoOn) := goodIn_app (goodIn_of _ (by decide +kernel)) ggX9_passTurn_X9_readersGoOn
set_option maxRecDepth 20000 in
theorem ggX9_passTurn_X9_readersCome : GoodIn wsX9_passTurn wsX9_readersCome := goodIn_r _ [202, 29, 17, 40, 203, 1, 204, 48, 55, 56, 205, 206, 207, 60, 208, 62, 63, 209, 210, 211, 212, 213, 214, 215, 216, 72, 73, 74, 75, 76, 77, 78, 304, 305, 306, 307, 308, 309, 310, 311, 312, 313, 314, 315, 316, 317, 318, 319, 320, 321, 322, 329, 330, 331, 332, 333, 334, 335, 336, 337, 338, 339, 340, 341, 342, 343, 344, 345, 355, 356, 357, 358] (by decide +kernel) (by decide +kernel)
set_option maxRecDepth 20000 in
theorem gX9_passTurn_X9_readersCome : GoodIn wsX9_passTurn (wsV RX9 175 RX9 yX9_readersCome wsX9_readersCome) := goodIn_app (goodIn_of _ (by decide +kernel)) ggX9_passTurn_X9_readersCome
set_option maxRecDepth 20000 in
theorem ggX9_passTurn_X9_giveDesks : GoodIn wsX9_passTurn wsX9_giveDesks := goodIn_r _ [220, 29, 48, 221, 222, 223, 60, 224, 62, 63, 225, 226, 227, 6, 228, 229, 230, 231, 232, 233, 234, 235, 54, 164, 236, 237, 238, 239, 53, 40, 240, 241, 55, 1, 56, 242, 57, 58, 59, 61, 243, 244, 245, 212, 246, 247, 216, 72, 73, 74, 75, 76, 77, 78, 304, 305, 306, 307, 308, 309, 310, 311, 312, 313, 314, 315, 316, 317, 318, 319, 320, 321, 322, 355, 356, 329, 330, 331, 332, 333, 334, 335, 336, 337, 338, 339, 340, 341, 342, 343, 344, 345, 352, 353, 354, 357, 358] (by decide +kernel) (by decide +kernel)
set_option maxRecDepth 20000 in
theorem gX9_passTurn_X9_giveDesks : GoodIn wsX9_passTurn (wsV RX9 178 RX9 yX9_giveDesks wsX9_giveDesks) := goodIn_app (goodIn_of _ (by decide +kernel)) ggX9_passTurn_X9_giveDesks
set_option maxRecDepth 20000 in
theorem ggX9_passTurn_X9_sendFetchers : GoodIn wsX9_passTurn wsX9_sendFetchers := goodIn_r _ [251, 18, 109, 19, 83, 252, 253, 254, 6, 255, 52, 256, 257, 70, 258, 259, 260, 261, 49, 50, 262, 263, 264, 87, 265, 89, 90, 91, 266, 267, 268, 269, 68, 240, 221, 222, 223, 60, 224, 62, 63, 270, 271, 272, 212, 273, 274, 275, 304, 305, 306, 307, 308, 309, 310, 311, 312, 313, 314, 315, 316, 317, 318, 319, 320, 321, 322, 327, 328, 359, 360, 361, 346, 347, 348, 349, 350, 351, 329, 330, 331, 332, 333, 334, 335, 336, 337, 338, 339, 340, 341, 342, 343, 344, 345, 355, 356] (by decide +kernel) (by decide +kernel)
set_option maxRecDepth 20000 in
theorem gX9_passTurn_X9_sendFetchers : GoodIn wsX9_passTurn (wsV RX9 181 RX9 yX9_sendFetchers wsX9_sendFetchers) := goodIn_app (goodIn_of _ (by decide +kernel)) ggX9_passTurn_X9_sendFetchers
set_option maxRecDepth 20000 in
theorem ggX9_passTurn_X9_beginCopies : GoodIn wsX9_passTurn wsX9_beginCopies := goodIn_r _ [279, 20, 109, 19, 83, 280, 281, 282, 6, 283, 70, 52, 193, 194, 284, 285, 286, 287, 288, 289, 290, 291, 292, 293, 294, 295, 296, 69, 240, 221, 222, 223, 60, 224, 62, 63, 270, 271, 272, 212, 273, 274, 275, 262, 263, 264, 87, 265, 89, 90, 91, 304, 305, 306, 307, 308, 309, 310, 311, 312, 313, 314, 315, 316, 317, 318, 319, 320, 321, 322, 327, 328, 359, 360, 361, 329, 330, 331, 332, 333, 334, 335, 336, 337, 338, 339, 340, 341, 342, 343, 344, 345, 346, 347, 348, 349, 350, 351, 355, 356] (by decide +kernel) (by decide +kernel)
set_option maxRecDepth 20000 in
theorem gX9_passTurn_X9_beginCopies : GoodIn wsX9_passTurn (wsV RX9 184 RX9 yX9_beginCopies wsX9_beginCopies) := goodIn_app (goodIn_of _ (by decide +kernel)) ggX9_passTurn_X9_beginCopies
set_option maxRecDepth 20000 in
theorem ggX9_passTurn_X9_countWaiting : GoodIn wsX9_passTurn wsX9_countWaiting := goodIn_r _ [300, 29, 17, 40, 301, 302, 303, 304, 305, 306, 307, 308, 309, 310, 311, 312, 313, 314, 315, 316, 317, 318, 319, 320, 321, 322, 329, 330, 331, 332, 333, 334, 335, 336, 337, 338, 339, 340, 341, 342, 343, 344, 345] (by decide +kernel) (by decide +kernel)
set_option maxRecDepth 20000 in
theorem gX9_passTurn_X9_countWaiting : GoodIn wsX9_passTurn (wsV RX9 187 RX9 yX9_countWaiting wsX9_countWaiting) := goodIn_app (goodIn_of _ (by decide +kernel)) ggX9_passTurn_X9_countWaiting
set_option maxRecDepth 20000 in
theorem gc_wsX9_sufferMishaps_wsX90 : GoodIn wsX9_sufferMishaps wsX90 := goodIn_sub (fun _ h => List.mem_cons_of_mem _ (List.mem_append_left _ (List.mem_append_left _ (List.mem_append_left _ (List.mem_append_left _ (List.mem_append_left _ (List.mem_append_left _ (List.mem_append_left _ (List.mem_append_left _ (List.mem_append_right _ h)))))))))) (by decide +kernel)
set_option maxRecDepth 20000 in
theorem gc_wsX9_sufferMishaps_wsX70 : GoodIn wsX9_sufferMishaps wsX70 := goodIn_sub (fun _ h => List.mem_cons_of_mem _ (List.mem_append_left _ (List.mem_append_left _ (List.mem_append_left _ (List.mem_append_left _ (List.mem_append_left _ (List.mem_append_left _ (List.mem_append_right _ h)))))))) (by decide +kernel)
set_option maxRecDepth 20000 in
theorem gc_wsX9_sufferMishaps_wsX60 : GoodIn wsX9_sufferMishaps wsX60 := goodIn_sub (fun _ h => List.mem_cons_of_mem _ (List.mem_append_left _ (List.mem_append_left _ (List.mem_append_left _ (List.mem_append_left _ (List.mem_append_left _ (List.mem_append_right _ h))))))) (by decide +kernel)
set_option maxRecDepth 20000 in
theorem gc_wsX9_sufferMishaps_wsX00 : GoodIn wsX9_sufferMishaps wsX00 := goodIn_sub (fun _ h => List.mem_cons_of_mem _ (List.mem_append_left _ (List.mem_append_left _ (List.mem_append_left _ (List.mem_append_left _ (List.mem_append_right _ h)))))) (by decide +kernel)
set_option maxRecDepth 20000 in
theorem gc_wsX9_sufferMishaps_wsX10 : GoodIn wsX9_sufferMishaps wsX10 := goodIn_sub (fun _ h => List.mem_cons_of_mem _ (List.mem_append_left _ (List.mem_append_left _ (List.mem_append_left _ (List.mem_append_right _ h))))) (by decide +kernel)
set_option maxRecDepth 20000 in
theorem gc_wsX9_sufferMishaps_wsX30 : GoodIn wsX9_sufferMishaps wsX30 := goodIn_sub (fun _ h => List.mem_cons_of_mem _ (List.mem_append_left _ (List.mem_append_left _ (List.mem_append_right _ h)))) (by decide +kernel)
set_option maxRecDepth 20000 in
theorem gc_wsX9_sufferMishaps_wsX20 : GoodIn wsX9_sufferMishaps wsX20 := goodIn_sub (fun _ h => List.mem_cons_of_mem _ (List.mem_append_left _ (List.mem_append_right _ h))) (by decide +kernel)
set_option maxRecDepth 20000 in
theorem gc_wsX9_sufferMishaps_wsX80 : GoodIn wsX9_sufferMishaps wsX80 := goodIn_sub (fun _ h => List.mem_cons_of_mem _ (List.mem_append_right _ h)) (by decide +kernel)
set_option maxRecDepth 20000 in
theorem ggX9_sufferMishaps_X9_suffer_c : GoodIn wsX9_sufferMishaps [.code yX9_suffer cX9_suffer 3 none] := goodIn_r _ [11] (by decide +kernel) (by decide +kernel)
set_option maxRecDepth 20000 in
theorem ggX9_sufferMishaps_X9_suffer_wsX9_suffer_r1 : GoodIn wsX9_sufferMishaps wsX9_suffer_r1 := goodIn_r _ [12, 13, 14, 15, 16, 17, 18, 10, 19, 20, 21, 22, 23, 24, 25, 26, 27, 28, 29, 30, 31, 32, 33, 34] (by decide +kernel) (by decide +kernel)
set_option maxRecDepth 20000 in
theorem ggX9_sufferMishaps_X9_suffer_wsX9_suffer_r2 : GoodIn wsX9_sufferMishaps wsX9_suffer_r2 := goodIn_r _ [35, 36, 37, 38, 39, 40, 41, 42, 43, 44, 45, 46, 47, 48, 49, 50, 4, 51, 52, 53, 54, 55, 56, 57] (by decide +kernel) (by decide +kernel)
set_option maxRecDepth 20000 in
theorem ggX9_sufferMishaps_X9_suffer_wsX9_suffer_r3 : GoodIn wsX9_sufferMishaps wsX9_suffer_r3 := goodIn_r _ [58, 59, 60, 61, 62, 63, 64, 65, 66, 67, 68, 69, 70, 71, 72, 73, 74, 75, 76, 77, 78, 79, 80, 81] (by decide +kernel) (by decide +kernel)
set_option maxRecDepth 20000 in
theorem ggX9_sufferMishaps_X9_suffer_wsX9_suffer_r4 : GoodIn wsX9_sufferMishaps wsX9_suffer_r4 := goodIn_r _ [82, 83, 84, 85, 86, 87, 88, 89, 90] (by decide +kernel) (by decide +kernel)
theorem ggX9_sufferMishaps_X9_suffer : GoodIn wsX9_sufferMishaps wsX9_suffer := fun w h => (List.mem_cons.mp h).elim (fun e => ggX9_sufferMishaps_X9_suffer_c w (List.mem_singleton.mpr e)) (fun h => (goodIn_app (goodIn_app (goodIn_app (goodIn_app (goodIn_app (goodIn_app (goodIn_app (goodIn_app (goodIn_app ggX9_sufferMishaps_X9_suffer_wsX9_suffer_r1 (goodIn_app ggX9_sufferMishaps_X9_suffer_wsX9_suffer_r2 (goodIn_app ggX9_sufferMishaps_X9_suffer_wsX9_suffer_r3 ggX9_sufferMishaps_X9_suffer_wsX9_suffer_r4))) gc_wsX9_sufferMishaps_wsX90) gc_wsX9_sufferMishaps_wsX70) gc_wsX9_sufferMishaps_wsX60) gc_wsX9_sufferMishaps_wsX00) gc_wsX9_sufferMishaps_wsX10) gc_wsX9_sufferMishaps_wsX30) gc_wsX9_sufferMishaps_wsX20) gc_wsX9_sufferMishaps_wsX80) w h)
set_option maxRecDepth 20000 in
theorem gX9_sufferMishaps_X9_suffer : GoodIn wsX9_sufferMishaps (wsV RX9 203 RX9 yX9_suffer wsX9_suffer) := goodIn_app (goodIn_of _ (by decide +kernel)) ggX9_sufferMishaps_X9_suffer
set_option maxRecDepth 20000 in
theorem ggX9_sufferMishaps_X4_dropTurn : GoodIn wsX9_sufferMishaps wsX4_dropTurn := goodIn_r _ [95, 96, 97, 98, 99, 119, 120, 121, 122] (by decide +kernel) (by decide +kernel)
set_option maxRecDepth 20000 in
theorem gX9_sufferMishaps_X4_dropTurn : GoodIn wsX9_sufferMishaps (wsV RX9 206 RX4 yX4_dropTurn wsX4_dropTurn) := goodIn_app (goodIn_of _ (by decide +kernel)) ggX9_sufferMishaps_X4_dropTurn
set_option maxRecDepth 20000 in
theorem ggX9_suffer_X9_isPerson : GoodIn wsX9_suffer wsX9_isPerson := goodIn_r _ [9, 2, 4, 10, 11, 12, 8, 13, 14, 15, 16, 17, 18, 19, 20, 21, 82, 83, 84, 85, 86, 87, 88, 89, 90, 91, 92, 93, 94, 95, 96, 97, 98, 99, 100, 101, 102] (by decide +kernel) (by decide +kernel)
set_option maxRecDepth 20000 in
theorem gX9_suffer_X9_isPerson : GoodIn wsX9_suffer (wsV RX9 145 RX9 yX9_isPerson wsX9_isPerson) := goodIn_app (goodIn_of _ (by decide +kernel)) ggX9_suffer_X9_isPerson
set_option maxRecDepth 20000 in
theorem ggX9_suffer_X9_isInRoom : GoodIn wsX9_suffer wsX9_isInRoom := goodIn_r _ [24, 25, 26, 27, 8, 28, 103, 104, 105, 106, 107, 108, 109, 110, 111, 112, 113, 114, 115, 116, 117, 118, 119] (by decide +kernel) (by decide +kernel)
set_option maxRecDepth 20000 in
theorem gX9_suffer_X9_isInRoom : GoodIn wsX9_suffer (va_wsS RX9 209 yX9_isInRoom wsX9_isInRoom) := goodIn_app (goodIn_of _ (by decide +kernel)) ggX9_suffer_X9_isInRoom
set_option maxRecDepth 20000 in
theorem ggX9_suffer_X9_depart : GoodIn wsX9_suffer wsX9_depart := goodIn_r _ [32, 33, 34, 35, 36, 37, 38, 39, 25, 40, 41, 42, 43, 44, 45, 46, 47, 48, 49, 50, 51, 52, 8, 53, 54, 55, 56, 57, 58, 59, 60, 61, 62, 63, 64, 82, 83, 84, 85, 86, 87, 88, 89, 90, 91, 92, 93, 94, 95, 96, 97, 98, 99, 100, 120, 121, 122, 123, 124, 125, 103, 104, 105, 106, 107, 108, 109, 110, 111, 112, 113, 114, 115, 116, 117, 118, 119, 126, 127, 128, 129, 130, 131, 132] (by decide +kernel) (by decide +kernel)
set_option maxRecDepth 20000 in
theorem gX9_suffer_X9_depart : GoodIn wsX9_suffer (wsV RX9 212 RX9 yX9_depart wsX9_depart) := goodIn_app (goodIn_of _ (by decide +kernel)) ggX9_suffer_X9_depart
set_option maxRecDepth 20000 in
theorem ggX9_suffer_X9_stopFetcher : GoodIn wsX9_suffer wsX9_stopFetcher := goodIn_r _ [68, 69, 37, 70, 71, 72, 73, 74, 75, 76, 77, 133, 134, 135, 120, 121, 122, 123, 124, 125] (by decide +kernel) (by decide +kernel)
set_option maxRecDepth 20000 in
theorem gX9_suffer_X9_stopFetcher : GoodIn wsX9_suffer (wsV RX9 220 RX9 yX9_stopFetcher wsX9_stopFetcher) := goodIn_app (goodIn_of _ (by decide +kernel)) ggX9_suffer_X9_stopFetcher
set_option maxRecDepth 20000 in
theorem ggX9_suffer_X9_stopCopyist : GoodIn wsX9_suffer wsX9_stopCopyist := goodIn_r _ [81, 69, 36, 37, 70, 71, 72, 73, 74, 75, 76, 77, 133, 134, 135, 120, 121, 122, 123, 124, 125] (by decide +kernel) (by decide +kernel)
set_option maxRecDepth 20000 in
theorem gX9_suffer_X9_stopCopyist : GoodIn wsX9_suffer (wsV RX9 224 RX9 yX9_stopCopyist wsX9_stopCopyist) := goodIn_app (goodIn_of _ (by decide +kernel)) ggX9_suffer_X9_stopCopyist
set_option maxRecDepth 20000 in
theorem ggX9_stopFetcher_X8_release : GoodIn wsX9_stopFetcher wsX8_release := goodIn_r _ [7, 8, 9, 10, 11, 12, 13] (by decide +kernel) (by decide +kernel)
set_option maxRecDepth 20000 in
theorem gX9_stopFetcher_X8_release : GoodIn wsX9_stopFetcher (wsV RX9 236 RX8 yX8_release wsX8_release) := goodIn_app (goodIn_of _ (by decide +kernel)) ggX9_stopFetcher_X8_release
set_option maxRecDepth 20000 in
theorem ggX9_stopCopyist_X8_release : GoodIn wsX9_stopCopyist wsX8_release := goodIn_r _ [8, 9, 10, 11, 12, 13, 14] (by decide +kernel) (by decide +kernel)
set_option maxRecDepth 20000 in
theorem gX9_stopCopyist_X8_release : GoodIn wsX9_stopCopyist (wsV RX9 236 RX8 yX8_release wsX8_release) := goodIn_app (goodIn_of _ (by decide +kernel)) ggX9_stopCopyist_X8_release
set_option maxRecDepth 20000 in
theorem ggX9_ringBell_X9_isAway : GoodIn wsX9_ringBell wsX9_isAway := goodIn_r _ [11, 12, 90, 91, 92, 93, 94, 95, 96, 97, 98, 99, 100, 101, 102, 103, 104, 105, 106] (by decide +kernel) (by decide +kernel)
set_option maxRecDepth 20000 in
theorem gX9_ringBell_X9_isAway : GoodIn wsX9_ringBell (va_wsS RX9 131 yX9_isAway wsX9_isAway) := goodIn_app (goodIn_of _ (by decide +kernel)) ggX9_ringBell_X9_isAway
set_option maxRecDepth 20000 in
theorem ggX9_ringBell_X9_depart : GoodIn wsX9_ringBell wsX9_depart := goodIn_r _ [16, 17, 18, 19, 20, 7, 21, 22, 12, 23, 24, 25, 26, 27, 28, 29, 30, 31, 32, 33, 34, 35, 10, 36, 37, 38, 39, 40, 41, 42, 43, 44, 45, 46, 47, 60, 61, 62, 63, 64, 65, 66, 67, 68, 69, 70, 71, 72, 73, 74, 75, 76, 77, 78, 84, 85, 86, 87, 88, 89, 90, 91, 92, 93, 94, 95, 96, 97, 98, 99, 100, 101, 102, 103, 104, 105, 106, 107, 108, 109, 110, 111, 112, 113] (by decide +kernel) (by decide +kernel)
set_option maxRecDepth 20000 in
theorem gX9_ringBell_X9_depart : GoodIn wsX9_ringBell (wsV RX9 212 RX9 yX9_depart wsX9_depart) := goodIn_app (goodIn_of _ (by decide +kernel)) ggX9_ringBell_X9_depart
set_option maxRecDepth 20000 in
theorem ggX9_ringBell_X9_stopFetcher : GoodIn wsX9_ringBell wsX9_stopFetcher := goodIn_r _ [51, 6, 7, 52, 53, 54, 55, 56, 57, 58, 59, 81, 82, 83, 84, 85, 86, 87, 88, 89] (by decide +kernel) (by decide +kernel)
set_option maxRecDepth 20000 in
theorem gX9_ringBell_X9_stopFetcher : GoodIn wsX9_ringBell (wsV RX9 220 RX9 yX9_stopFetcher wsX9_stopFetcher) := goodIn_app (goodIn_of _ (by decide +kernel)) ggX9_ringBell_X9_stopFetcher
set_option maxRecDepth 20000 in
theorem ggX9_fetchersWalk_X9_bring : GoodIn wsX9_fetchersWalk wsX9_bring := goodIn_r _ [11, 12, 13, 14, 15, 16, 17, 18, 19, 20, 21, 22, 23, 24, 25, 26, 27, 28, 29, 30, 31, 32, 33, 34, 35, 68, 69, 70, 71, 72, 73, 44, 45, 46, 47, 48, 49, 50, 51, 52, 53, 54, 55, 56, 57, 58, 59, 60, 61, 62, 74, 75, 76, 77, 78, 79, 80, 81, 82, 83, 84, 85, 86, 87, 88, 89, 90, 91, 92, 93, 94] (by decide +kernel) (by decide +kernel)
set_option maxRecDepth 20000 in
theorem gX9_fetchersWalk_X9_bring : GoodIn wsX9_fetchersWalk (wsV RX9 249 RX9 yX9_bring wsX9_bring) := goodIn_app (goodIn_of _ (by decide +kernel)) ggX9_fetchersWalk_X9_bring
set_option maxRecDepth 20000 in
theorem ggX9_fetchersWalk_X8_release : GoodIn wsX9_fetchersWalk wsX8_release := goodIn_r _ [40, 41, 42, 43, 65, 66, 67] (by decide +kernel) (by decide +kernel)
set_option maxRecDepth 20000 in
theorem gX9_fetchersWalk_X8_release : GoodIn wsX9_fetchersWalk (wsV RX9 236 RX8 yX8_release wsX8_release) := goodIn_app (goodIn_of _ (by decide +kernel)) ggX9_fetchersWalk_X8_release
set_option maxRecDepth 20000 in
theorem ggX9_bring_X2_keep : GoodIn wsX9_bring wsX2_keep := goodIn_r _ [15, 16, 17, 67, 68] (by decide +kernel) (by decide +kernel)
set_option maxRecDepth 20000 in
theorem gX9_bring_X2_keep : GoodIn wsX9_bring (wsV RX9 256 RX2 yX2_keep wsX2_keep) := goodIn_app (goodIn_of _ (by decide +kernel)) ggX9_bring_X2_keep
set_option maxRecDepth 20000 in
theorem ggX9_bring_X3_remove : GoodIn wsX9_bring wsX3_remove := goodIn_r _ [22, 23, 24, 69, 70] (by decide +kernel) (by decide +kernel)
set_option maxRecDepth 20000 in
theorem gX9_bring_X3_remove : GoodIn wsX9_bring (wsV RX9 263 RX3 yX3_remove wsX3_remove) := goodIn_app (goodIn_of _ (by decide +kernel)) ggX9_bring_X3_remove
set_option maxRecDepth 20000 in
theorem ggX9_copyistsWork_X9_finishCopy : GoodIn wsX9_copyistsWork wsX9_finishCopy := goodIn_r _ [10, 11, 12, 13, 14, 15, 16, 17, 18, 19, 20, 21, 22, 23, 24, 25, 26, 27, 28, 29, 30, 31, 32, 33, 34, 35, 44, 45, 46, 47, 48, 49, 50, 51, 52, 53, 54, 55, 56, 57, 58, 59, 60, 61, 62, 68, 69, 70, 71, 72, 73, 74, 75, 76, 77, 78, 79, 80, 81, 82, 83, 84, 85, 86, 87, 88, 89, 90, 91, 92, 93, 94] (by decide +kernel) (by decide +kernel)
set_option maxRecDepth 20000 in
theorem gX9_copyistsWork_X9_finishCopy : GoodIn wsX9_copyistsWork (wsV RX9 274 RX9 yX9_finishCopy wsX9_finishCopy) := goodIn_app (goodIn_of _ (by decide +kernel)) ggX9_copyistsWork_X9_finishCopy
set_option maxRecDepth 20000 in
theorem ggX9_copyistsWork_X8_release : GoodIn wsX9_copyistsWork wsX8_release := goodIn_r _ [40, 41, 42, 43, 65, 66, 67] (by decide +kernel) (by decide +kernel)
set_option maxRecDepth 20000 in
theorem gX9_copyistsWork_X8_release : GoodIn wsX9_copyistsWork (wsV RX9 236 RX8 yX8_release wsX8_release) := goodIn_app (goodIn_of _ (by decide +kernel)) ggX9_copyistsWork_X8_release
set_option maxRecDepth 20000 in
theorem ggX9_finishCopy_X3_remove : GoodIn wsX9_finishCopy wsX3_remove := goodIn_r _ [16, 17, 18, 68, 69] (by decide +kernel) (by decide +kernel)
set_option maxRecDepth 20000 in
theorem gX9_finishCopy_X3_remove : GoodIn wsX9_finishCopy (wsV RX9 263 RX3 yX3_remove wsX3_remove) := goodIn_app (goodIn_of _ (by decide +kernel)) ggX9_finishCopy_X3_remove
set_option maxRecDepth 20000 in
theorem ggX9_finishCopy_X2_keep : GoodIn wsX9_finishCopy wsX2_keep := goodIn_r _ [23, 24, 25, 70, 71] (by decide +kernel) (by decide +kernel)
set_option maxRecDepth 20000 in
theorem gX9_finishCopy_X2_keep : GoodIn wsX9_finishCopy (wsV RX9 256 RX2 yX2_keep wsX2_keep) := goodIn_app (goodIn_of _ (by decide +kernel)) ggX9_finishCopy_X2_keep
set_option maxRecDepth 20000 in
theorem gc_wsX9_readersGoOn_wsX60 : GoodIn wsX9_readersGoOn wsX60 := goodIn_sub (fun _ h => List.mem_cons_of_mem _ (List.mem_append_left _ (List.mem_append_left _ (List.mem_append_left _ (List.mem_append_left _ (List.mem_append_left _ (List.mem_append_right _ h))))))) (by decide +kernel)
set_option maxRecDepth 20000 in
theorem gc_wsX9_readersGoOn_wsX50 : GoodIn wsX9_readersGoOn wsX50 := goodIn_sub (fun _ h => List.mem_cons_of_mem _ (List.mem_append_left _ (List.mem_append_left _ (List.mem_append_left _ (List.mem_append_left _ (List.mem_append_right _ h)))))) (by decide +kernel)
set_option maxRecDepth 20000 in
theorem gc_wsX9_readersGoOn_wsX90 : GoodIn wsX9_readersGoOn wsX90 := goodIn_sub (fun _ h => List.mem_cons_of_mem _ (List.mem_append_left _ (List.mem_append_left _ (List.mem_append_left _ (List.mem_append_left _ (List.mem_append_left _ (List.mem_append_left _ (List.mem_append_right _ h)))))))) (by decide +kernel)
set_option maxRecDepth 20000 in
theorem gc_wsX9_readersGoOn_wsX00 : GoodIn wsX9_readersGoOn wsX00 := goodIn_sub (fun _ h => List.mem_cons_of_mem _ (List.mem_append_left _ (List.mem_append_left _ (List.mem_append_left _ (List.mem_append_right _ h))))) (by decide +kernel)
set_option maxRecDepth 20000 in
theorem gc_wsX9_readersGoOn_wsX20 : GoodIn wsX9_readersGoOn wsX20 := goodIn_sub (fun _ h => List.mem_cons_of_mem _ (List.mem_append_left _ (List.mem_append_left _ (List.mem_append_right _ h)))) (by decide +kernel)
set_option maxRecDepth 20000 in
theorem gc_wsX9_readersGoOn_wsX10 : GoodIn wsX9_readersGoOn wsX10 := goodIn_sub (fun _ h => List.mem_cons_of_mem _ (List.mem_append_left _ (List.mem_append_right _ h))) (by decide +kernel)
set_option maxRecDepth 20000 in
theorem gc_wsX9_readersGoOn_wsX30 : GoodIn wsX9_readersGoOn wsX30 := goodIn_sub (fun _ h => List.mem_cons_of_mem _ (List.mem_append_right _ h)) (by decide +kernel)
set_option maxRecDepth 20000 in
theorem ggX9_readersGoOn_X9_goOn_c : GoodIn wsX9_readersGoOn [.code yX9_goOn cX9_goOn 5 none] := goodIn_r _ [8] (by decide +kernel) (by decide +kernel)
set_option maxRecDepth 20000 in
theorem ggX9_readersGoOn_X9_goOn_wsX9_goOn_r1 : GoodIn wsX9_readersGoOn wsX9_goOn_r1 := goodIn_r _ [9, 10, 11, 3, 12, 13, 14, 15, 16, 17, 18, 19, 20, 7, 21, 22, 23, 24, 25, 26, 27, 28, 29, 30] (by decide +kernel) (by decide +kernel)
set_option maxRecDepth 20000 in
theorem ggX9_readersGoOn_X9_goOn_wsX9_goOn_r2 : GoodIn wsX9_readersGoOn wsX9_goOn_r2 := goodIn_r _ [31, 32, 33, 34, 35, 36, 37, 38, 39, 40, 41, 42, 43, 44, 45, 46, 47, 48, 49, 50, 51, 52, 53, 54] (by decide +kernel) (by decide +kernel)
set_option maxRecDepth 20000 in
theorem ggX9_readersGoOn_X9_goOn_wsX9_goOn_r3 : GoodIn wsX9_readersGoOn wsX9_goOn_r3 := goodIn_r _ [55, 56, 57, 58, 59, 60, 61, 62, 63, 64, 65, 66, 67, 68, 69, 70, 71, 72, 73, 74, 75, 76, 77, 78] (by decide +kernel) (by decide +kernel)
set_option maxRecDepth 20000 in
theorem ggX9_readersGoOn_X9_goOn_wsX9_goOn_r4 : GoodIn wsX9_readersGoOn wsX9_goOn_r4 := goodIn_r _ [79, 80, 81, 82, 83, 84, 85, 86, 87, 88, 89, 90, 91, 92, 93, 94, 95, 96, 97, 98, 99, 100, 101] (by decide +kernel) (by decide +kernel)
theorem ggX9_readersGoOn_X9_goOn : GoodIn wsX9_readersGoOn wsX9_goOn := fun w h => (List.mem_cons.mp h).elim (fun e => ggX9_readersGoOn_X9_goOn_c w (List.mem_singleton.mpr e)) (fun h => (goodIn_app (goodIn_app (goodIn_app (goodIn_app (goodIn_app (goodIn_app (goodIn_app (goodIn_app ggX9_readersGoOn_X9_goOn_wsX9_goOn_r1 (goodIn_app ggX9_readersGoOn_X9_goOn_wsX9_goOn_r2 (goodIn_app ggX9_readersGoOn_X9_goOn_wsX9_goOn_r3 ggX9_readersGoOn_X9_goOn_wsX9_goOn_r4))) gc_wsX9_readersGoOn_wsX60) gc_wsX9_readersGoOn_wsX50) gc_wsX9_readersGoOn_wsX90) gc_wsX9_readersGoOn_wsX00) gc_wsX9_readersGoOn_wsX20) gc_wsX9_readersGoOn_wsX10) gc_wsX9_readersGoOn_wsX30) w h)
set_option maxRecDepth 20000 in
theorem gX9_readersGoOn_X9_goOn : GoodIn wsX9_readersGoOn (wsV RX9 287 RX9 yX9_goOn wsX9_goOn) := goodIn_app (goodIn_of _ (by decide +kernel)) ggX9_readersGoOn_X9_goOn
set_option maxRecDepth 20000 in
theorem ggX9_goOn_X9_isBox : GoodIn wsX9_goOn wsX9_isBox := goodIn_r _ [15, 16, 121, 122, 123, 124, 125, 126, 127, 128, 129, 130, 131, 132, 133, 134, 135, 136, 137, 138, 139] (by decide +kernel) (by decide +kernel)
set_option maxRecDepth 20000 in
theorem gX9_goOn_X9_isBox : GoodIn wsX9_goOn (wsV RX9 120 RX9 yX9_isBox wsX9_isBox) := goodIn_app (goodIn_of _ (by decide +kernel)) ggX9_goOn_X9_isBox
set_option maxRecDepth 20000 in
theorem gc_wsX9_goOn_wsX90 : GoodIn wsX9_goOn wsX90 := goodIn_sub (fun _ h => List.mem_cons_of_mem _ (List.mem_append_left _ (List.mem_append_left _ (List.mem_append_left _ (List.mem_append_left _ (List.mem_append_right _ h)))))) (by decide +kernel)
set_option maxRecDepth 20000 in
theorem gc_wsX9_goOn_wsX60 : GoodIn wsX9_goOn wsX60 := goodIn_sub (fun _ h => List.mem_cons_of_mem _ (List.mem_append_left _ (List.mem_append_left _ (List.mem_append_left _ (List.mem_append_left _ (List.mem_append_left _ (List.mem_append_left _ (List.mem_append_right _ h)))))))) (by decide +kernel)
set_option maxRecDepth 20000 in
theorem gc_wsX9_goOn_wsX00 : GoodIn wsX9_goOn wsX00 := goodIn_sub (fun _ h => List.mem_cons_of_mem _ (List.mem_append_left _ (List.mem_append_left _ (List.mem_append_left _ (List.mem_append_right _ h))))) (by decide +kernel)
set_option maxRecDepth 20000 in
theorem gc_wsX9_goOn_wsX20 : GoodIn wsX9_goOn wsX20 := goodIn_sub (fun _ h => List.mem_cons_of_mem _ (List.mem_append_left _ (List.mem_append_left _ (List.mem_append_right _ h)))) (by decide +kernel)
set_option maxRecDepth 20000 in
theorem gc_wsX9_goOn_wsX10 : GoodIn wsX9_goOn wsX10 := goodIn_sub (fun _ h => List.mem_cons_of_mem _ (List.mem_append_left _ (List.mem_append_right _ h))) (by decide +kernel)
