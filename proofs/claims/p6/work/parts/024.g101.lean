set_option maxRecDepth 20000 in
theorem ggX10_doBell_X10_sentAway : GoodIn wsX10_doBell wsX10_sentAway := goodIn_r _ [29, 30, 31, 32, 8, 33, 4, 34, 35, 36, 12, 37, 38, 39, 40, 41, 42, 43, 9, 10, 11, 13, 14, 15, 1, 16, 17, 18, 44, 45, 46, 47, 48, 49, 50, 51, 52, 53, 54, 55, 56, 57, 58, 59, 60, 61, 62, 63, 64, 65, 66, 67, 68, 69, 70, 71, 72, 73, 74, 75, 76, 77, 78, 79, 80, 81, 82, 83, 84, 85, 86, 87, 88, 89, 90, 91, 92, 93, 94, 95, 96, 97, 98, 99, 100, 101] (by decide +kernel) (by decide +kernel)
set_option maxRecDepth 20000 in
theorem gX10_doBell_X10_sentAway : GoodIn wsX10_doBell (wsV RX10 203 RX10 yX10_sentAway wsX10_sentAway) := goodIn_app (goodIn_of _ (by decide +kernel)) ggX10_doBell_X10_sentAway
set_option maxRecDepth 20000 in
theorem ggX10_doFetchers_X10_event : GoodIn wsX10_doFetchers wsX10_event := goodIn_r _ [13, 14, 15, 16, 17, 18, 19, 20, 21, 22, 23, 24, 25, 26, 27, 28, 29, 30, 31, 32, 33, 34, 35, 36, 37, 38, 39, 40, 41, 42, 43, 44, 45, 46, 47, 48, 49, 50, 51, 52, 53, 54, 55, 56, 57, 58, 59, 60, 61, 62, 63, 64, 65, 66, 67, 68, 69, 70, 71, 72, 73, 74, 75, 76, 77] (by decide +kernel) (by decide +kernel)
set_option maxRecDepth 20000 in
theorem gX10_doFetchers_X10_event : GoodIn wsX10_doFetchers (wsV RX10 196 RX10 yX10_event wsX10_event) := goodIn_app (goodIn_of _ (by decide +kernel)) ggX10_doFetchers_X10_event
set_option maxRecDepth 20000 in
theorem ggX10_doCopyists_X10_event : GoodIn wsX10_doCopyists wsX10_event := goodIn_r _ [13, 14, 15, 16, 17, 18, 19, 20, 21, 22, 23, 24, 25, 26, 27, 28, 29, 30, 31, 32, 33, 34, 35, 36, 37, 38, 39, 40, 41, 42, 43, 44, 45, 46, 47, 48, 49, 50, 51, 52, 53, 54, 55, 56, 57, 58, 59, 60, 61, 62, 63, 64, 65, 66, 67, 68, 69, 70, 71, 72, 73, 74, 75, 76, 77] (by decide +kernel) (by decide +kernel)
set_option maxRecDepth 20000 in
theorem gX10_doCopyists_X10_event : GoodIn wsX10_doCopyists (wsV RX10 196 RX10 yX10_event wsX10_event) := goodIn_app (goodIn_of _ (by decide +kernel)) ggX10_doCopyists_X10_event
set_option maxRecDepth 20000 in
theorem ggX10_rule_X10_hasMany : GoodIn wsX10_rule wsX10_hasMany := goodIn_r _ [12, 5, 4, 13, 14, 15, 16, 17, 18, 19, 20, 21, 22, 23, 24, 25, 26, 27, 28, 29, 30, 31, 32, 33, 34, 35, 36, 37, 38, 39, 40, 41, 42, 43, 44, 45, 46, 47, 48, 49, 50, 51, 52, 53, 54, 55, 56, 57, 58, 59, 60, 61, 62, 63, 64, 65, 66, 67, 68, 69, 70] (by decide +kernel) (by decide +kernel)
set_option maxRecDepth 20000 in
theorem gX10_rule_X10_hasMany : GoodIn wsX10_rule (wsV RX10 213 RX10 yX10_hasMany wsX10_hasMany) := goodIn_app (goodIn_of _ (by decide +kernel)) ggX10_rule_X10_hasMany
set_option maxRecDepth 20000 in
theorem ggX10_refuses_X10_event : GoodIn wsX10_refuses wsX10_event := goodIn_r _ [7, 8, 9, 10, 11, 12, 13, 14, 15, 16, 17, 18, 19, 20, 21, 22, 23, 24, 25, 26, 27, 28, 29, 30, 31, 32, 33, 34, 35, 36, 37, 38, 39, 40, 41, 42, 43, 44, 45, 46, 47, 48, 49, 50, 51, 52, 53, 54, 55, 56, 57, 58, 59, 60, 61, 62, 63, 64, 65, 66, 67, 68, 69, 70, 71] (by decide +kernel) (by decide +kernel)
set_option maxRecDepth 20000 in
theorem gX10_refuses_X10_event : GoodIn wsX10_refuses (wsV RX10 196 RX10 yX10_event wsX10_event) := goodIn_app (goodIn_of _ (by decide +kernel)) ggX10_refuses_X10_event
set_option maxRecDepth 20000 in
theorem ggX10_oneStep_X10_rule : GoodIn wsX10_oneStep wsX10_rule := goodIn_r _ [20, 21, 22, 23, 10, 24, 25, 4, 26, 27, 28, 19, 29, 50, 51, 52, 53, 54, 55, 56, 57, 58, 59, 60, 61, 62, 63, 64, 65, 66, 67, 68, 69, 70, 71, 72, 73, 74, 75, 76, 77, 78, 79, 80, 81, 82, 83, 84, 85, 86, 87, 88, 89, 90, 91, 92, 93, 94, 95, 96, 97, 98, 99, 100, 101, 102, 103, 104, 105, 106, 107] (by decide +kernel) (by decide +kernel)
set_option maxRecDepth 20000 in
theorem gX10_oneStep_X10_rule : GoodIn wsX10_oneStep (wsV RX10 217 RX10 yX10_rule wsX10_rule) := goodIn_app (goodIn_of _ (by decide +kernel)) ggX10_oneStep_X10_rule
set_option maxRecDepth 20000 in
theorem ggX10_oneStep_X10_refuses : GoodIn wsX10_oneStep wsX10_refuses := goodIn_r _ [33, 34, 35, 36, 37, 38, 19, 39, 40, 41, 42, 43, 44, 45, 50, 51, 52, 53, 54, 55, 56, 57, 58, 59, 60, 61, 62, 63, 64, 65, 66, 67, 68, 69, 70, 71, 72, 73, 74, 75, 76, 77, 78, 79, 80, 81, 82, 83, 84, 85, 86, 87, 88, 89, 90, 91, 92, 93, 94, 95, 96, 97, 98, 99, 100, 101, 102, 103, 104, 105, 106, 107] (by decide +kernel) (by decide +kernel)
set_option maxRecDepth 20000 in
theorem gX10_oneStep_X10_refuses : GoodIn wsX10_oneStep (wsV RX10 221 RX10 yX10_refuses wsX10_refuses) := goodIn_app (goodIn_of _ (by decide +kernel)) ggX10_oneStep_X10_refuses
set_option maxRecDepth 20000 in
theorem ggX10_oneStep_X10_event : GoodIn wsX10_oneStep wsX10_event := goodIn_r _ [39, 40, 41, 42, 43, 44, 45, 50, 51, 52, 53, 54, 55, 56, 57, 58, 59, 60, 61, 62, 63, 64, 65, 66, 67, 68, 69, 70, 71, 72, 73, 74, 75, 76, 77, 78, 79, 80, 81, 82, 83, 84, 85, 86, 87, 88, 89, 90, 91, 92, 93, 94, 95, 96, 97, 98, 99, 100, 101, 102, 103, 104, 105, 106, 107] (by decide +kernel) (by decide +kernel)
set_option maxRecDepth 20000 in
theorem gX10_oneStep_X10_event : GoodIn wsX10_oneStep (wsV RX10 196 RX10 yX10_event wsX10_event) := goodIn_app (goodIn_of _ (by decide +kernel)) ggX10_oneStep_X10_event
set_option maxRecDepth 20000 in
theorem ggX10_oneStep_X10_isLeft : GoodIn wsX10_oneStep wsX10_isLeft := goodIn_r _ [49, 11, 10, 50, 51, 52, 53, 54, 55, 56, 57, 58, 59, 60, 61, 62, 63, 64, 65, 66, 67, 68, 69, 70, 71, 72, 73, 74, 75, 76, 77, 78, 79, 80, 81, 82, 83, 84, 85, 86, 87, 88, 89, 90, 91, 92, 93, 94, 95, 96, 97, 98, 99, 100, 101, 102, 103, 104, 105, 106, 107] (by decide +kernel) (by decide +kernel)
set_option maxRecDepth 20000 in
theorem gX10_oneStep_X10_isLeft : GoodIn wsX10_oneStep (wsV RX10 189 RX10 yX10_isLeft wsX10_isLeft) := goodIn_app (goodIn_of _ (by decide +kernel)) ggX10_oneStep_X10_isLeft
set_option maxRecDepth 20000 in
theorem ggX10_goesOn_X10_oneStep : GoodIn wsX10_goesOn wsX10_oneStep := goodIn_r _ [10, 2, 11, 12, 13, 14, 15, 1, 16, 17, 5, 18, 19, 20, 21, 22, 23, 24, 25, 9, 26, 27, 28, 29, 4, 30, 31, 32, 33, 34, 35, 36, 37, 38, 39, 40, 41, 42, 43, 44, 45, 46, 47, 48, 49, 50, 51, 52, 53, 54, 60, 61, 62, 63, 64, 65, 66, 67, 68, 69, 70, 71, 72, 73, 74, 75, 76, 77, 78, 79, 80, 81, 82, 83, 84, 85, 86, 87, 88, 89, 90, 91, 92, 93, 94, 95, 96, 97, 98, 99, 100, 101, 102, 103, 104, 105, 106, 107, 108, 109, 110, 111, 112, 113, 114, 115, 116, 117] (by decide +kernel) (by decide +kernel)
set_option maxRecDepth 20000 in
theorem gX10_goesOn_X10_oneStep : GoodIn wsX10_goesOn (wsV RX10 227 RX10 yX10_oneStep wsX10_oneStep) := goodIn_app (goodIn_of _ (by decide +kernel)) ggX10_goesOn_X10_oneStep
set_option maxRecDepth 20000 in
theorem ggX10_goesOn_X10_isLeft : GoodIn wsX10_goesOn wsX10_isLeft := goodIn_r _ [54, 18, 5, 60, 61, 62, 63, 64, 65, 66, 67, 68, 69, 70, 71, 72, 73, 74, 75, 76, 77, 78, 79, 80, 81, 82, 83, 84, 85, 86, 87, 88, 89, 90, 91, 92, 93, 94, 95, 96, 97, 98, 99, 100, 101, 102, 103, 104, 105, 106, 107, 108, 109, 110, 111, 112, 113, 114, 115, 116, 117] (by decide +kernel) (by decide +kernel)
set_option maxRecDepth 20000 in
theorem gX10_goesOn_X10_isLeft : GoodIn wsX10_goesOn (wsV RX10 189 RX10 yX10_isLeft wsX10_isLeft) := goodIn_app (goodIn_of _ (by decide +kernel)) ggX10_goesOn_X10_isLeft
set_option maxRecDepth 20000 in
theorem ggX10_goesOn_X10_freeDesk : GoodIn wsX10_goesOn wsX10_freeDesk := goodIn_r _ [58, 29, 59, 60, 61, 62, 63, 64, 65, 66, 67, 68, 69, 70, 71, 72, 73, 74, 75, 76, 77, 78, 79, 80, 81, 82, 83, 84, 85, 86, 87, 88, 89, 90, 91, 92, 93, 94, 95, 96, 97, 98, 99, 100, 101, 102, 103, 104, 105, 106, 107, 108, 109, 110, 111, 112, 113, 114, 115, 116, 117] (by decide +kernel) (by decide +kernel)
set_option maxRecDepth 20000 in
theorem gX10_goesOn_X10_freeDesk : GoodIn wsX10_goesOn (wsV RX10 193 RX10 yX10_freeDesk wsX10_freeDesk) := goodIn_app (goodIn_of _ (by decide +kernel)) ggX10_goesOn_X10_freeDesk
set_option maxRecDepth 20000 in
theorem ggX10_goesOn_X10_event : GoodIn wsX10_goesOn wsX10_event := goodIn_r _ [44, 45, 46, 47, 48, 49, 50, 60, 61, 62, 63, 64, 65, 66, 67, 68, 69, 70, 71, 72, 73, 74, 75, 76, 77, 78, 79, 80, 81, 82, 83, 84, 85, 86, 87, 88, 89, 90, 91, 92, 93, 94, 95, 96, 97, 98, 99, 100, 101, 102, 103, 104, 105, 106, 107, 108, 109, 110, 111, 112, 113, 114, 115, 116, 117] (by decide +kernel) (by decide +kernel)
set_option maxRecDepth 20000 in
theorem gX10_goesOn_X10_event : GoodIn wsX10_goesOn (wsV RX10 196 RX10 yX10_event wsX10_event) := goodIn_app (goodIn_of _ (by decide +kernel)) ggX10_goesOn_X10_event
set_option maxRecDepth 20000 in
theorem ggX10_findLine_X10_isAhead : GoodIn wsX10_findLine wsX10_isAhead := goodIn_r _ [9, 10, 11, 12, 13, 14, 15, 16, 17, 18, 19, 20, 21, 22, 23, 24, 25, 26, 27, 28, 29, 30, 31, 32, 33, 34, 35, 36, 37, 38, 39, 40, 41, 42, 43, 44, 45, 46, 47, 48, 49, 50, 51, 52, 53, 54, 55, 56, 57, 58, 59, 60, 61, 62, 63, 64, 65, 66, 67, 68, 69] (by decide +kernel) (by decide +kernel)
set_option maxRecDepth 20000 in
theorem gX10_findLine_X10_isAhead : GoodIn wsX10_findLine (wsV RX10 233 RX10 yX10_isAhead wsX10_isAhead) := goodIn_app (goodIn_of _ (by decide +kernel)) ggX10_findLine_X10_isAhead
set_option maxRecDepth 20000 in
theorem ggX10_doDesks_X10_findLine : GoodIn wsX10_doDesks wsX10_findLine := goodIn_r _ [13, 1, 6, 5, 2, 14, 15, 16, 12, 17, 18, 19, 37, 38, 39, 40, 41, 42, 43, 44, 45, 46, 47, 48, 49, 50, 51, 52, 53, 54, 55, 56, 57, 58, 59, 60, 61, 62, 63, 64, 65, 66, 67, 68, 69, 70, 71, 72, 73, 74, 75, 76, 77, 78, 79, 80, 81, 82, 83, 84, 85, 86, 87, 88, 89, 90, 91, 92, 93, 94] (by decide +kernel) (by decide +kernel)
set_option maxRecDepth 20000 in
theorem gX10_doDesks_X10_findLine : GoodIn wsX10_doDesks (wsV RX10 237 RX10 yX10_findLine wsX10_findLine) := goodIn_app (goodIn_of _ (by decide +kernel)) ggX10_doDesks_X10_findLine
set_option maxRecDepth 20000 in
theorem ggX10_doDesks_X10_deskFor : GoodIn wsX10_doDesks wsX10_deskFor := goodIn_r _ [23, 24, 3, 25, 26, 37, 38, 39, 40, 41, 42, 43, 44, 45, 46, 47, 48, 49, 50, 51, 52, 53, 54, 55, 56, 57, 58, 59, 60, 61, 62, 63, 64, 65, 66, 67, 68, 69, 70, 71, 72, 73, 74, 75, 76, 77, 78, 79, 80, 81, 82, 83, 84, 85, 86, 87, 88, 89, 90, 91, 92, 93, 94] (by decide +kernel) (by decide +kernel)
set_option maxRecDepth 20000 in
theorem gX10_doDesks_X10_deskFor : GoodIn wsX10_doDesks (wsV RX10 240 RX10 yX10_deskFor wsX10_deskFor) := goodIn_app (goodIn_of _ (by decide +kernel)) ggX10_doDesks_X10_deskFor
set_option maxRecDepth 20000 in
theorem ggX10_doDesks_X10_event : GoodIn wsX10_doDesks wsX10_event := goodIn_r _ [30, 31, 32, 33, 34, 35, 36, 37, 38, 39, 40, 41, 42, 43, 44, 45, 46, 47, 48, 49, 50, 51, 52, 53, 54, 55, 56, 57, 58, 59, 60, 61, 62, 63, 64, 65, 66, 67, 68, 69, 70, 71, 72, 73, 74, 75, 76, 77, 78, 79, 80, 81, 82, 83, 84, 85, 86, 87, 88, 89, 90, 91, 92, 93, 94] (by decide +kernel) (by decide +kernel)
set_option maxRecDepth 20000 in
theorem gX10_doDesks_X10_event : GoodIn wsX10_doDesks (wsV RX10 196 RX10 yX10_event wsX10_event) := goodIn_app (goodIn_of _ (by decide +kernel)) ggX10_doDesks_X10_event
set_option maxRecDepth 20000 in
theorem ggX10_doWays_X10_leftBox : GoodIn wsX10_doWays wsX10_leftBox := goodIn_r _ [13, 14, 3, 20, 21, 22, 23, 24, 25, 26, 27, 28, 29, 30, 31, 32, 33, 34, 35, 36, 37, 38, 39, 40, 41, 42, 43, 44, 45, 46, 47, 48, 49, 50, 51, 52, 53, 54, 55, 56, 57, 58, 59, 60, 61, 62, 63, 64, 65, 66, 67, 68, 69, 70, 71, 72, 73, 74, 75, 76, 77] (by decide +kernel) (by decide +kernel)
set_option maxRecDepth 20000 in
theorem gX10_doWays_X10_leftBox : GoodIn wsX10_doWays (wsV RX10 243 RX10 yX10_leftBox wsX10_leftBox) := goodIn_app (goodIn_of _ (by decide +kernel)) ggX10_doWays_X10_leftBox
set_option maxRecDepth 20000 in
theorem ggX10_doWays_X10_wantedBox : GoodIn wsX10_doWays wsX10_wantedBox := goodIn_r _ [18, 14, 3, 5, 19, 20, 21, 22, 23, 24, 25, 26, 27, 28, 29, 30, 31, 32, 33, 34, 35, 36, 37, 38, 39, 40, 41, 42, 43, 44, 45, 46, 47, 48, 49, 50, 51, 52, 53, 54, 55, 56, 57, 58, 59, 60, 61, 62, 63, 64, 65, 66, 67, 68, 69, 70, 71, 72, 73, 74, 75, 76, 77] (by decide +kernel) (by decide +kernel)
set_option maxRecDepth 20000 in
theorem gX10_doWays_X10_wantedBox : GoodIn wsX10_doWays (wsV RX10 247 RX10 yX10_wantedBox wsX10_wantedBox) := goodIn_app (goodIn_of _ (by decide +kernel)) ggX10_doWays_X10_wantedBox
set_option maxRecDepth 20000 in
theorem ggX10_doCopies_X10_copyBox : GoodIn wsX10_doCopies wsX10_copyBox := goodIn_r _ [16, 17, 9, 4, 18, 19, 20, 21, 22, 23, 24, 25, 26, 27, 28, 29, 30, 31, 32, 33, 34, 35, 36, 37, 38, 39, 40, 41, 42, 43, 44, 45, 46, 47, 48, 49, 50, 51, 52, 53, 54, 55, 56, 57, 58, 59, 60, 61, 62, 63, 64, 65, 66, 67, 68, 69, 70, 71, 72, 73, 74, 75, 76] (by decide +kernel) (by decide +kernel)
set_option maxRecDepth 20000 in
theorem gX10_doCopies_X10_copyBox : GoodIn wsX10_doCopies (wsV RX10 253 RX10 yX10_copyBox wsX10_copyBox) := goodIn_app (goodIn_of _ (by decide +kernel)) ggX10_doCopies_X10_copyBox
set_option maxRecDepth 20000 in
theorem ggX10_oneTurn_X10_doMishaps : GoodIn wsX10_oneTurn wsX10_doMishaps := goodIn_r _ [12, 13, 14, 1, 15, 16, 17, 18, 19, 11, 20, 21, 22, 23, 24, 25, 26, 27, 28, 29, 3, 30, 31, 32, 33, 34, 35, 36, 37, 38, 4, 39, 40, 41, 42, 43, 44, 45, 46, 47, 48, 49, 50, 51, 52, 53, 54, 55, 56, 57, 162, 163, 164, 165, 166, 167, 168, 169, 170, 171, 172, 173, 174, 175, 176, 177, 178, 179, 180, 181, 182, 183, 184, 185, 186, 187, 188, 189, 190, 191, 192, 193, 194, 195, 196, 197, 198, 199, 200, 201, 202, 203, 204, 205, 206, 207, 208, 209, 210, 211, 212, 213, 214, 215, 216, 217, 218, 219] (by decide +kernel) (by decide +kernel)
set_option maxRecDepth 20000 in
theorem gX10_oneTurn_X10_doMishaps : GoodIn wsX10_oneTurn (wsV RX10 265 RX10 yX10_doMishaps wsX10_doMishaps) := goodIn_app (goodIn_of _ (by decide +kernel)) ggX10_oneTurn_X10_doMishaps
set_option maxRecDepth 20000 in
theorem ggX10_oneTurn_X10_doBell : GoodIn wsX10_oneTurn wsX10_doBell := goodIn_r _ [61, 1, 62, 2, 3, 63, 21, 23, 22, 49, 50, 51, 11, 52, 53, 54, 55, 56, 57, 26, 27, 28, 29, 30, 31, 32, 33, 34, 35, 36, 37, 38, 25, 4, 39, 40, 41, 42, 43, 44, 45, 46, 47, 48, 162, 163, 164, 165, 166, 167, 168, 169, 170, 171, 172, 173, 174, 175, 176, 177, 178, 179, 180, 181, 182, 183, 184, 185, 186, 187, 188, 189, 190, 191, 192, 193, 194, 195, 196, 197, 198, 199, 200, 201, 202, 203, 204, 205, 206, 207, 208, 209, 210, 211, 212, 213, 214, 215, 216, 217, 218, 219] (by decide +kernel) (by decide +kernel)
set_option maxRecDepth 20000 in
theorem gX10_oneTurn_X10_doBell : GoodIn wsX10_oneTurn (wsV RX10 268 RX10 yX10_doBell wsX10_doBell) := goodIn_app (goodIn_of _ (by decide +kernel)) ggX10_oneTurn_X10_doBell
set_option maxRecDepth 20000 in
theorem ggX10_oneTurn_X10_doFetchers : GoodIn wsX10_oneTurn wsX10_doFetchers := goodIn_r _ [67, 63, 21, 23, 68, 22, 38, 25, 3, 49, 50, 51, 11, 52, 53, 54, 1, 55, 56, 57, 162, 163, 164, 165, 166, 167, 168, 169, 170, 171, 172, 173, 174, 175, 176, 177, 178, 179, 180, 181, 182, 183, 184, 185, 186, 187, 188, 189, 190, 191, 192, 193, 194, 195, 196, 197, 198, 199, 200, 201, 202, 203, 204, 205, 206, 207, 208, 209, 210, 211, 212, 213, 214, 215, 216, 217, 218, 219] (by decide +kernel) (by decide +kernel)
set_option maxRecDepth 20000 in
theorem gX10_oneTurn_X10_doFetchers : GoodIn wsX10_oneTurn (wsV RX10 271 RX10 yX10_doFetchers wsX10_doFetchers) := goodIn_app (goodIn_of _ (by decide +kernel)) ggX10_oneTurn_X10_doFetchers
set_option maxRecDepth 20000 in
theorem ggX10_oneTurn_X10_doCopyists : GoodIn wsX10_oneTurn wsX10_doCopyists := goodIn_r _ [72, 73, 24, 74, 75, 25, 22, 3, 76, 49, 50, 51, 11, 52, 53, 54, 1, 55, 56, 57, 162, 163, 164, 165, 166, 167, 168, 169, 170, 171, 172, 173, 174, 175, 176, 177, 178, 179, 180, 181, 182, 183, 184, 185, 186, 187, 188, 189, 190, 191, 192, 193, 194, 195, 196, 197, 198, 199, 200, 201, 202, 203, 204, 205, 206, 207, 208, 209, 210, 211, 212, 213, 214, 215, 216, 217, 218, 219] (by decide +kernel) (by decide +kernel)
set_option maxRecDepth 20000 in
theorem gX10_oneTurn_X10_doCopyists : GoodIn wsX10_oneTurn (wsV RX10 274 RX10 yX10_doCopyists wsX10_doCopyists) := goodIn_app (goodIn_of _ (by decide +kernel)) ggX10_oneTurn_X10_doCopyists
set_option maxRecDepth 20000 in
theorem gc_wsX10_oneTurn_wsX100 : GoodIn wsX10_oneTurn wsX100 := goodIn_sub (fun _ h => List.mem_cons_of_mem _ (List.mem_append_right _ h)) (by decide +kernel)
set_option maxRecDepth 20000 in
theorem ggX10_oneTurn_X10_goesOn_c : GoodIn wsX10_oneTurn [.code yX10_goesOn cX10_goesOn 3 none] := goodIn_r _ [80] (by decide +kernel) (by decide +kernel)
set_option maxRecDepth 20000 in
theorem ggX10_oneTurn_X10_goesOn_wsX10_goesOn_r1 : GoodIn wsX10_oneTurn wsX10_goesOn_r1 := goodIn_r _ [3, 81, 82, 37, 25, 83, 84, 85, 11, 86, 87, 88, 38, 89, 90, 4, 91, 22, 92, 93, 94, 95, 96, 97] (by decide +kernel) (by decide +kernel)
set_option maxRecDepth 20000 in
theorem ggX10_oneTurn_X10_goesOn_wsX10_goesOn_r2 : GoodIn wsX10_oneTurn wsX10_goesOn_r2 := goodIn_r _ [98, 99, 100, 101, 47, 102, 103, 104, 105, 106, 107, 108, 109, 110, 111, 112, 49, 50, 51, 52, 53, 54, 1, 55] (by decide +kernel) (by decide +kernel)
set_option maxRecDepth 20000 in
theorem ggX10_oneTurn_X10_goesOn_wsX10_goesOn_r3 : GoodIn wsX10_oneTurn wsX10_goesOn_r3 := goodIn_r _ [56, 57, 39, 40, 41, 42, 43, 44, 45, 46, 48] (by decide +kernel) (by decide +kernel)
theorem ggX10_oneTurn_X10_goesOn : GoodIn wsX10_oneTurn wsX10_goesOn := fun w h => (List.mem_cons.mp h).elim (fun e => ggX10_oneTurn_X10_goesOn_c w (List.mem_singleton.mpr e)) (fun h => (goodIn_app (goodIn_app ggX10_oneTurn_X10_goesOn_wsX10_goesOn_r1 (goodIn_app ggX10_oneTurn_X10_goesOn_wsX10_goesOn_r2 ggX10_oneTurn_X10_goesOn_wsX10_goesOn_r3)) gc_wsX10_oneTurn_wsX100) w h)
set_option maxRecDepth 20000 in
theorem gX10_oneTurn_X10_goesOn : GoodIn wsX10_oneTurn (wsV RX10 277 RX10 yX10_goesOn wsX10_goesOn) := goodIn_app (goodIn_of _ (by decide +kernel)) ggX10_oneTurn_X10_goesOn
set_option maxRecDepth 20000 in
theorem ggX10_oneTurn_X10_event : GoodIn wsX10_oneTurn wsX10_event := goodIn_r _ [52, 53, 54, 1, 55, 56, 57, 162, 163, 164, 165, 166, 167, 168, 169, 170, 171, 172, 173, 174, 175, 176, 177, 178, 179, 180, 181, 182, 183, 184, 185, 186, 187, 188, 189, 190, 191, 192, 193, 194, 195, 196, 197, 198, 199, 200, 201, 202, 203, 204, 205, 206, 207, 208, 209, 210, 211, 212, 213, 214, 215, 216, 217, 218, 219] (by decide +kernel) (by decide +kernel)
