set_option maxRecDepth 20000 in
theorem ggX10_oneTurn_X10_doMishaps : GoodIn wsX10_oneTurn wsX10_doMishaps := goodIn_r _ [12, 13, 14, 1, 15, 16, 17, 18, 19, 11, 20, 21, 22, 23, 24, 25, 26, 27, 28, 29, 3, 30, 31, 32, 33, 34, 35, 36, 37, 38, 4, 39, 40, 41, 42, 43, 44, 45, 46, 47, 48, 49, 50, 51, 52, 53, 54, 55, 56, 57, 162, 163, 164, 165, 166, 167, 168, 169, 170, 171, 172, 173, 174, 175, 176, 177, 178, 179, 180, 181, 182, 183, 184, 185, 186, 187, 188, 189, 190, 191, 192, 193, 194, 195, 196, 197, 198, 199, 200, 201, 202, 203, 204, 205, 206, 207, 208, 209, 210, 211, 212, 213, 214, 215, 216, 217, 218, 219] (by decide +kernel) (by decide +kernel)
set_option maxRecDepth 20000 in
theorem gX10_oneTurn_X10_doMishaps : GoodIn wsX10_oneTurn (wsV RX10 265 RX10 yX10_doMishaps wsX10_doMishaps) := goodIn_app (goodIn_of _ (by decide +kernel)) ggX10_oneTurn_X10_doMishaps
set_option maxRecDepth 20000 in
theorem ggX10_oneTurn_X10_doBell : GoodIn wsX10_oneTurn wsX10_doBell := goodIn_r _ [61, 1, 62, 2, 3, 63, 21, 23, 22, 49, 50, 51, 11, 52, 53, 54, 55, 56, 57, 26, 27, 28, 29, 30, 31, 32, 33, 34, 35, 36, 37, 38, 25, 4, 39, 40, 41, 42, 43, 44, 45, 46, 47, 48, 162, 163, 164, 165, 166, 167, 168, 169, 170, 171, 172, 173, 174, 175, 176, 177, 178, 179, 180, 181, 182, 183, 184, 185, 186, 187, 188, 189, 190, 191, 192, 193, 194, 195, 196, 197, 198, 199, 200, 201, 202, 203, 204, 205, 206, 207, 208, 209, 210, 211, 212, 213, 214, 215, 216, 217, 218, 219] (by decide +kernel) (by decide +kernel)
set_option maxRecDepth 20000 in
theorem gX10_oneTurn_X10_doBell : GoodIn wsX10_oneTurn (wsV RX10 268 RX10 yX10_doBell wsX10_doBell) := goodIn_app (goodIn_of _ (by decide +kernel)) ggX10_oneTurn_X10_doBell
set_option maxRecDepth 20000 in
theorem ggX10_oneTurn_X10_doFetchers : GoodIn wsX10_oneTurn wsX10_doFetchers := goodIn_r _ [67, 63, 21, 23, 68, 22, 38, 25, 3, 49, 50, 51, 11, 52, 53, 54, 1, 55, 56, 57, 162, 163, 164, 165, 166, 167, 168, 169, 170, 171, 172, 173, 174, 175, 176, 177, 178, 179, 180, 181, 182, 183, 184, 185, 186, 187, 188, 189, 190, 191, 192, 193, 194, 195, 196, 197, 198, 199, 200, 201, 202, 203, 204, 205, 206, 207, 208, 209, 210, 211, 212, 213, 214, 215, 216, 217, 218, 219] (by decide +kernel) (by decide +kernel)
set_option maxRecDepth 20000 in
theorem gX10_oneTurn_X10_doFetchers : GoodIn wsX10_oneTurn (wsV RX10 271 RX10 yX10_doFetchers wsX10_doFetchers) := goodIn_app (goodIn_of _ (by decide +kernel)) ggX10_oneTurn_X10_doFetchers
set_option maxRecDepth 20000 in
theorem ggX10_oneTurn_X10_doCopyists : GoodIn wsX10_oneTurn wsX10_doCopyists := goodIn_r _ [72, 73, 24, 74, 75, 25, 22, 3, 76, 49, 50, 51, 11, 52, 53, 54, 1, 55, 56, 57, 162, 163, 164, 165, 166, 167, 168, 169, 170, 171, 172, 173, 174, 175, 176, 177, 178, 179, 180, 181, 182, 183, 184, 185, 186, 187, 188, 189, 190, 191, 192, 193, 194, 195, 196, 197, 198, 199, 200, 201, 202, 203, 204, 205, 206, 207, 208, 209, 210, 211, 212, 213, 214, 215, 216, 217, 218, 219] (by decide +kernel) (by decide +kernel)
set_option maxRecDepth 20000 in
theorem gX10_oneTurn_X10_doCopyists : GoodIn wsX10_oneTurn (wsV RX10 274 RX10 yX10_doCopyists wsX10_doCopyists) := goodIn_app (goodIn_of _ (by decide +kernel)) ggX10_oneTurn_X10_doCopyists
set_option maxRecDepth 20000 in
theorem ggX10_oneTurn_X10_goesOn : GoodIn wsX10_oneTurn wsX10_goesOn := goodIn_r _ [80, 3, 81, 82, 37, 25, 83, 84, 85, 11, 86, 87, 88, 38, 89, 90, 4, 91, 22, 92, 93, 94, 95, 96, 97, 98, 99, 100, 101, 47, 102, 103, 104, 105, 106, 107, 108, 109, 110, 111, 112, 49, 50, 51, 52, 53, 54, 1, 55, 56, 57, 39, 40, 41, 42, 43, 44, 45, 46, 48, 162, 163, 164, 165, 166, 167, 168, 169, 170, 171, 172, 173, 174, 175, 176, 177, 178, 179, 180, 181, 182, 183, 184, 185, 186, 187, 188, 189, 190, 191, 192, 193, 194, 195, 196, 197, 198, 199, 200, 201, 202, 203, 204, 205, 206, 207, 208, 209, 210, 211, 212, 213, 214, 215, 216, 217, 218, 219] (by decide +kernel) (by decide +kernel)
set_option maxRecDepth 20000 in
theorem gX10_oneTurn_X10_goesOn : GoodIn wsX10_oneTurn (wsV RX10 277 RX10 yX10_goesOn wsX10_goesOn) := goodIn_app (goodIn_of _ (by decide +kernel)) ggX10_oneTurn_X10_goesOn
set_option maxRecDepth 20000 in
theorem ggX10_oneTurn_X10_event : GoodIn wsX10_oneTurn wsX10_event := goodIn_r _ [52, 53, 54, 1, 55, 56, 57, 162, 163, 164, 165, 166, 167, 168, 169, 170, 171, 172, 173, 174, 175, 176, 177, 178, 179, 180, 181, 182, 183, 184, 185, 186, 187, 188, 189, 190, 191, 192, 193, 194, 195, 196, 197, 198, 199, 200, 201, 202, 203, 204, 205, 206, 207, 208, 209, 210, 211, 212, 213, 214, 215, 216, 217, 218, 219] (by decide +kernel) (by decide +kernel)
set_option maxRecDepth 20000 in
theorem gX10_oneTurn_X10_event : GoodIn wsX10_oneTurn (wsV RX10 196 RX10 yX10_event wsX10_event) := goodIn_app (goodIn_of _ (by decide +kernel)) ggX10_oneTurn_X10_event
set_option maxRecDepth 20000 in
theorem ggX10_oneTurn_X10_doDesks : GoodIn wsX10_oneTurn wsX10_doDesks := goodIn_r _ [116, 117, 118, 48, 47, 3, 2, 6, 119, 120, 121, 122, 11, 123, 124, 125, 126, 127, 128, 5, 129, 130, 131, 132, 133, 101, 134, 49, 50, 51, 52, 53, 54, 1, 55, 56, 57, 162, 163, 164, 165, 166, 167, 168, 169, 170, 171, 172, 173, 174, 175, 176, 177, 178, 179, 180, 181, 182, 183, 184, 185, 186, 187, 188, 189, 190, 191, 192, 193, 194, 195, 196, 197, 198, 199, 200, 201, 202, 203, 204, 205, 206, 207, 208, 209, 210, 211, 212, 213, 214, 215, 216, 217, 218, 219] (by decide +kernel) (by decide +kernel)
set_option maxRecDepth 20000 in
theorem gX10_oneTurn_X10_doDesks : GoodIn wsX10_oneTurn (wsV RX10 280 RX10 yX10_doDesks wsX10_doDesks) := goodIn_app (goodIn_of _ (by decide +kernel)) ggX10_oneTurn_X10_doDesks
set_option maxRecDepth 20000 in
theorem ggX10_oneTurn_X10_doWays : GoodIn wsX10_oneTurn wsX10_doWays := goodIn_r _ [138, 63, 21, 22, 23, 38, 68, 139, 140, 141, 142, 143, 11, 144, 37, 145, 146, 147, 148, 89, 162, 163, 164, 165, 166, 167, 168, 169, 170, 171, 172, 173, 174, 175, 176, 177, 178, 179, 180, 181, 182, 183, 184, 185, 186, 187, 188, 189, 190, 191, 192, 193, 194, 195, 196, 197, 198, 199, 200, 201, 202, 203, 204, 205, 206, 207, 208, 209, 210, 211, 212, 213, 214, 215, 216, 217, 218, 219] (by decide +kernel) (by decide +kernel)
set_option maxRecDepth 20000 in
theorem gX10_oneTurn_X10_doWays : GoodIn wsX10_oneTurn (wsV RX10 283 RX10 yX10_doWays wsX10_doWays) := goodIn_app (goodIn_of _ (by decide +kernel)) ggX10_oneTurn_X10_doWays
set_option maxRecDepth 20000 in
theorem ggX10_oneTurn_X10_doCopies : GoodIn wsX10_oneTurn wsX10_doCopies := goodIn_r _ [152, 73, 24, 153, 94, 154, 155, 156, 157, 22, 74, 93, 158, 159, 160, 11, 161, 37, 92, 162, 163, 164, 165, 166, 167, 168, 169, 170, 171, 172, 173, 174, 175, 176, 177, 178, 179, 180, 181, 182, 183, 184, 185, 186, 187, 188, 189, 190, 191, 192, 193, 194, 195, 196, 197, 198, 199, 200, 201, 202, 203, 204, 205, 206, 207, 208, 209, 210, 211, 212, 213, 214, 215, 216, 217, 218, 219] (by decide +kernel) (by decide +kernel)
set_option maxRecDepth 20000 in
theorem gX10_oneTurn_X10_doCopies : GoodIn wsX10_oneTurn (wsV RX10 286 RX10 yX10_doCopies wsX10_doCopies) := goodIn_app (goodIn_of _ (by decide +kernel)) ggX10_oneTurn_X10_doCopies
