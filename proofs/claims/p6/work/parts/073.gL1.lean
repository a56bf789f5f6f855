set_option maxRecDepth 20000 in
theorem ggL_law_X10_copy_c : GoodIn wsL_law0 [.code yX10_copy cX10_copy 5 (some .boolean)] := goodIn_r _ [279] (by decide +kernel) (by decide +kernel)
set_option maxRecDepth 20000 in
theorem ggL_law_X10_copy_wsX10_copy_r1 : GoodIn wsL_law0 wsX10_copy_r1 := goodIn_r _ [171, 248, 249, 250, 5, 251, 134, 132, 252, 253, 254, 255, 217, 189, 190, 191, 256, 257, 258, 259, 188, 260, 261, 262] (by decide +kernel) (by decide +kernel)
set_option maxRecDepth 20000 in
theorem ggL_law_X10_copy_wsX10_copy_r2 : GoodIn wsL_law0 wsX10_copy_r2 := goodIn_r _ [263, 143, 144, 145, 146] (by decide +kernel) (by decide +kernel)
theorem ggL_law_X10_copy : GoodIn wsL_law0 wsX10_copy := fun w h => (List.mem_cons.mp h).elim (fun e => ggL_law_X10_copy_c w (List.mem_singleton.mpr e)) (fun h => (goodIn_app (goodIn_app ggL_law_X10_copy_wsX10_copy_r1 ggL_law_X10_copy_wsX10_copy_r2) gW_wsX100) w h)
set_option maxRecDepth 20000 in
theorem gL_law_X10_copy : GoodIn wsL_law0 (wsV RL 52 RX10 yX10_copy wsX10_copy) := goodIn_app (goodIn_of _ (by decide +kernel)) ggL_law_X10_copy
set_option maxRecDepth 20000 in
theorem ggL_law_X9_back_c : GoodIn wsL_law0 [.code yX9_back cX9_back 3 (some .boolean)] := goodIn_r _ [283] (by decide +kernel) (by decide +kernel)
set_option maxRecDepth 20000 in
theorem ggL_law_X9_back_wsX9_back_r1 : GoodIn wsL_law0 wsX9_back_r1 := goodIn_r _ [222, 223, 224, 2, 225, 178, 226, 227, 228, 229, 22, 230, 231, 232, 233, 234, 205, 235, 236, 237, 238, 239, 240, 241] (by decide +kernel) (by decide +kernel)
set_option maxRecDepth 20000 in
theorem ggL_law_X9_back_wsX9_back_r2 : GoodIn wsL_law0 wsX9_back_r2 := goodIn_r _ [63, 242, 243, 70, 71, 72, 74] (by decide +kernel) (by decide +kernel)
theorem ggL_law_X9_back : GoodIn wsL_law0 wsX9_back := fun w h => (List.mem_cons.mp h).elim (fun e => ggL_law_X9_back_c w (List.mem_singleton.mpr e)) (fun h => (goodIn_app (goodIn_app (goodIn_app (goodIn_app ggL_law_X9_back_wsX9_back_r1 ggL_law_X9_back_wsX9_back_r2) gW_wsX90) gW_wsX60) gW_wsX50) w h)
set_option maxRecDepth 20000 in
theorem gL_law_X9_back : GoodIn wsL_law0 (wsV RL 53 RX9 yX9_back wsX9_back) := goodIn_app (goodIn_of _ (by decide +kernel)) ggL_law_X9_back
set_option maxRecDepth 20000 in
theorem ggL_law_X10_back_c : GoodIn wsL_law0 [.code yX10_back cX10_back 3 (some .boolean)] := goodIn_r _ [287] (by decide +kernel) (by decide +kernel)
set_option maxRecDepth 20000 in
theorem ggL_law_X10_back_wsX10_back_r1 : GoodIn wsL_law0 wsX10_back_r1 := goodIn_r _ [171, 248, 249, 250, 5, 251, 134, 132, 252, 253, 254, 255, 217, 189, 190, 191, 256, 257, 258, 259, 188, 260, 261, 262] (by decide +kernel) (by decide +kernel)
set_option maxRecDepth 20000 in
theorem ggL_law_X10_back_wsX10_back_r2 : GoodIn wsL_law0 wsX10_back_r2 := goodIn_r _ [263, 143, 144, 145, 146] (by decide +kernel) (by decide +kernel)
theorem ggL_law_X10_back : GoodIn wsL_law0 wsX10_back := fun w h => (List.mem_cons.mp h).elim (fun e => ggL_law_X10_back_c w (List.mem_singleton.mpr e)) (fun h => (goodIn_app (goodIn_app ggL_law_X10_back_wsX10_back_r1 ggL_law_X10_back_wsX10_back_r2) gW_wsX100) w h)
set_option maxRecDepth 20000 in
theorem gL_law_X10_back : GoodIn wsL_law0 (wsV RL 56 RX10 yX10_back wsX10_back) := goodIn_app (goodIn_of _ (by decide +kernel)) ggL_law_X10_back
set_option maxRecDepth 20000 in
theorem ggL_law_X9_bell_c : GoodIn wsL_law0 [.code yX9_bell cX9_bell 2 (some .boolean)] := goodIn_r _ [291] (by decide +kernel) (by decide +kernel)
set_option maxRecDepth 20000 in
theorem ggL_law_X9_bell_l : GoodIn wsL_law0 [.fieldLink RX9 78 "FondsRoom" "turn" "I", .fieldLink RX9 75 "FondsRoom" "bellTurn" "I"] := goodIn_r _ [164, 45] (by decide +kernel) (by decide +kernel)
theorem ggL_law_X9_bell : GoodIn wsL_law0 wsX9_bell := fun w h => (List.mem_cons.mp h).elim (fun e => ggL_law_X9_bell_c w (List.mem_singleton.mpr e)) (fun h => (goodIn_app ggL_law_X9_bell_l gW_wsX90) w h)
set_option maxRecDepth 20000 in
theorem gL_law_X9_bell : GoodIn wsL_law0 (wsV RL 57 RX9 yX9_bell wsX9_bell) := goodIn_app (goodIn_of _ (by decide +kernel)) ggL_law_X9_bell
set_option maxRecDepth 20000 in
theorem ggL_law_X10_bell_c : GoodIn wsL_law0 [.code yX10_bell cX10_bell 2 (some .boolean)] := goodIn_r _ [295] (by decide +kernel) (by decide +kernel)
set_option maxRecDepth 20000 in
theorem ggL_law_X10_bell_l : GoodIn wsL_law0 [.fieldLink RX10 150 "FondsRoomModel" "thrown" "I", .fieldLink RX10 9 "FondsRoomModel" "bellTurn" "I", .fieldLink RX10 163 "FondsRoomModel" "turn" "I"] := goodIn_r _ [171, 114, 172] (by decide +kernel) (by decide +kernel)
theorem ggL_law_X10_bell : GoodIn wsL_law0 wsX10_bell := fun w h => (List.mem_cons.mp h).elim (fun e => ggL_law_X10_bell_c w (List.mem_singleton.mpr e)) (fun h => (goodIn_app ggL_law_X10_bell_l gW_wsX100) w h)
set_option maxRecDepth 20000 in
theorem gL_law_X10_bell : GoodIn wsL_law0 (wsV RL 61 RX10 yX10_bell wsX10_bell) := goodIn_app (goodIn_of _ (by decide +kernel)) ggL_law_X10_bell
set_option maxRecDepth 20000 in
theorem ggL_law_X9_mishap_c : GoodIn wsL_law0 [.code yX9_mishap cX9_mishap 4 (some .boolean)] := goodIn_r _ [299] (by decide +kernel) (by decide +kernel)
set_option maxRecDepth 20000 in
theorem ggL_law_X9_mishap_wsX9_mishap_r1 : GoodIn wsL_law0 wsX9_mishap_r1 := goodIn_r _ [164, 39, 300, 301, 302, 2, 303, 28, 29, 231, 232, 233, 234, 205, 304, 305, 306, 27, 307, 88, 85, 308, 309, 310] (by decide +kernel) (by decide +kernel)
set_option maxRecDepth 20000 in
theorem ggL_law_X9_mishap_wsX9_mishap_r2 : GoodIn wsL_law0 wsX9_mishap_r2 := goodIn_r _ [38, 311, 312, 102, 103, 104] (by decide +kernel) (by decide +kernel)
theorem ggL_law_X9_mishap : GoodIn wsL_law0 wsX9_mishap := fun w h => (List.mem_cons.mp h).elim (fun e => ggL_law_X9_mishap_c w (List.mem_singleton.mpr e)) (fun h => (goodIn_app (goodIn_app (goodIn_app (goodIn_app ggL_law_X9_mishap_wsX9_mishap_r1 ggL_law_X9_mishap_wsX9_mishap_r2) gW_wsX90) gW_wsX70) gW_wsX40) w h)
set_option maxRecDepth 20000 in
theorem gL_law_X9_mishap : GoodIn wsL_law0 (wsV RL 62 RX9 yX9_mishap wsX9_mishap) := goodIn_app (goodIn_of _ (by decide +kernel)) ggL_law_X9_mishap
set_option maxRecDepth 20000 in
theorem ggL_law_X10_mishap_c : GoodIn wsL_law0 [.code yX10_mishap cX10_mishap 5 (some .boolean)] := goodIn_r _ [316] (by decide +kernel) (by decide +kernel)
set_option maxRecDepth 20000 in
theorem ggL_law_X10_mishap_l : GoodIn wsL_law0 [.fieldLink RX10 150 "FondsRoomModel" "thrown" "I", .fieldLink RX10 153 "FondsRoomModel" "readers" "I", .fieldLink RX10 16 "FondsRoomModel" "fetchers" "I", .fieldLink RX10 19 "FondsRoomModel" "copyists" "I", .fieldLink RX10 163 "FondsRoomModel" "turn" "I", .fieldLink RX10 183 "FondsRoomModel" "mishaps" "I", .fieldLink RX10 138 "FondsRoomModel" "mTurn" "[I", .fieldLink RX10 141 "FondsRoomModel" "mKind" "[I", .fieldLink RX10 144 "FondsRoomModel" "mWho" "[I", .methodLink RX10 156 yX10_in, .static yX10_in, .initialized RX10, .code yX10_in cX10_in 3 (some .boolean)] := goodIn_r _ [171, 217, 116, 117, 172, 317, 156, 157, 158, 189, 190, 5, 191] (by decide +kernel) (by decide +kernel)
theorem ggL_law_X10_mishap : GoodIn wsL_law0 wsX10_mishap := fun w h => (List.mem_cons.mp h).elim (fun e => ggL_law_X10_mishap_c w (List.mem_singleton.mpr e)) (fun h => (goodIn_app ggL_law_X10_mishap_l gW_wsX100) w h)
set_option maxRecDepth 20000 in
theorem gL_law_X10_mishap : GoodIn wsL_law0 (wsV RL 65 RX10 yX10_mishap wsX10_mishap) := goodIn_app (goodIn_of _ (by decide +kernel)) ggL_law_X10_mishap
set_option maxRecDepth 20000 in
theorem ggL_law_X9_run_c : GoodIn wsL_law0 [.code yX9_run cX9_run 3 (some .int)] := goodIn_r _ [321] (by decide +kernel) (by decide +kernel)
set_option maxRecDepth 20000 in
theorem ggL_law_X9_run_wsX9_run_r1 : GoodIn wsL_law0 wsX9_run_r1 := goodIn_r _ [164, 181, 182, 2, 183, 322, 323, 324, 325, 45, 326, 327, 328, 329, 39, 330, 331, 332, 333, 334, 335, 336, 337, 22] (by decide +kernel) (by decide +kernel)
set_option maxRecDepth 20000 in
theorem ggL_law_X9_run_wsX9_run_r2 : GoodIn wsL_law0 wsX9_run_r2 := goodIn_r _ [28, 338, 29, 300, 301, 302, 303, 231, 232, 233, 234, 205, 304, 305, 306, 27, 307, 88, 85, 339, 340, 341, 238, 235] (by decide +kernel) (by decide +kernel)
set_option maxRecDepth 20000 in
theorem ggL_law_X9_run_wsX9_run_r3 : GoodIn wsL_law0 wsX9_run_r3 := goodIn_r _ [236, 237, 342, 343, 344, 345, 33, 178, 18, 346, 347, 348, 349, 43, 350, 351, 352, 353, 32, 354, 355, 97, 356, 357] (by decide +kernel) (by decide +kernel)
set_option maxRecDepth 20000 in
theorem ggL_law_X9_run_wsX9_run_r4 : GoodIn wsL_law0 wsX9_run_r4 := goodIn_r _ [358, 359, 34, 35, 360, 361, 362, 363, 364, 42, 365, 366, 109, 367, 368, 369, 370, 371, 372, 373, 374, 87, 375, 376] (by decide +kernel) (by decide +kernel)
set_option maxRecDepth 20000 in
theorem ggL_law_X9_run_wsX9_run_r5 : GoodIn wsL_law0 wsX9_run_r5 := goodIn_r _ [377, 378, 379, 380, 381, 382, 383, 384, 385, 38, 386, 312, 102, 103, 104, 387, 388, 389, 390, 196, 391, 392, 393, 394] (by decide +kernel) (by decide +kernel)
set_option maxRecDepth 20000 in
theorem ggL_law_X9_run_wsX9_run_r6 : GoodIn wsL_law0 wsX9_run_r6 := goodIn_r _ [395, 396, 397, 398, 399, 400, 401, 402, 403, 404, 405, 406, 407, 408, 409, 410, 411, 412, 413, 414, 415, 416, 417, 418] (by decide +kernel) (by decide +kernel)
set_option maxRecDepth 20000 in
theorem ggL_law_X9_run_wsX9_run_r7 : GoodIn wsL_law0 wsX9_run_r7 := goodIn_r _ [419, 420, 421, 422, 423, 424, 230, 425, 426, 427, 428, 429, 430, 222, 223, 224, 225, 431, 432, 433, 434, 435, 436, 437] (by decide +kernel) (by decide +kernel)
set_option maxRecDepth 20000 in
theorem ggL_law_X9_run_wsX9_run_r8 : GoodIn wsL_law0 wsX9_run_r8 := goodIn_r _ [438, 180, 166, 179, 439, 440, 441, 442, 443, 444, 445, 446, 447, 448, 449, 450, 451, 452, 453, 63, 454, 455, 75, 456] (by decide +kernel) (by decide +kernel)
set_option maxRecDepth 20000 in
theorem ggL_law_X9_run_wsX9_run_r9 : GoodIn wsL_law0 wsX9_run_r9 := goodIn_r _ [457, 458, 459, 460, 461, 462, 463, 464, 465, 466, 467, 468, 469, 470, 471, 472, 473, 206, 474, 475, 476, 477, 478, 479] (by decide +kernel) (by decide +kernel)
set_option maxRecDepth 20000 in
theorem ggL_law_X9_run_wsX9_run_r10 : GoodIn wsL_law0 wsX9_run_r10 := goodIn_r _ [480, 481, 24, 482, 483, 484, 60, 485, 486, 487, 488, 489, 490, 491, 492, 493, 494, 495, 496, 208, 497, 498, 499, 500] (by decide +kernel) (by decide +kernel)
set_option maxRecDepth 20000 in
theorem ggL_law_X9_run_wsX9_run_r11 : GoodIn wsL_law0 wsX9_run_r11 := goodIn_r _ [165, 14, 501, 502, 503, 504, 505, 506, 507, 508, 509, 510, 511, 512, 513, 514, 515, 516, 517, 518, 519, 520, 44, 521] (by decide +kernel) (by decide +kernel)
set_option maxRecDepth 20000 in
theorem ggL_law_X9_run_wsX9_run_r12 : GoodIn wsL_law0 wsX9_run_r12 := goodIn_r _ [522, 523, 524, 525, 526, 527, 528, 529, 530, 531, 532, 533, 534, 535, 536, 537, 538, 539, 540, 541, 542, 543, 544, 545] (by decide +kernel) (by decide +kernel)
set_option maxRecDepth 20000 in
theorem ggL_law_X9_run_wsX9_run_r13 : GoodIn wsL_law0 wsX9_run_r13 := goodIn_r _ [546, 547, 548, 549, 550, 82, 551, 552, 553, 554, 555, 556, 557, 558, 559, 560, 561, 562, 563, 564, 565, 566] (by decide +kernel) (by decide +kernel)
theorem ggL_law_X9_run : GoodIn wsL_law0 wsX9_run := fun w h => (List.mem_cons.mp h).elim (fun e => ggL_law_X9_run_c w (List.mem_singleton.mpr e)) (fun h => (goodIn_app (goodIn_app (goodIn_app (goodIn_app (goodIn_app (goodIn_app (goodIn_app (goodIn_app (goodIn_app (goodIn_app (goodIn_app ggL_law_X9_run_wsX9_run_r1 (goodIn_app ggL_law_X9_run_wsX9_run_r2 (goodIn_app ggL_law_X9_run_wsX9_run_r3 (goodIn_app ggL_law_X9_run_wsX9_run_r4 (goodIn_app ggL_law_X9_run_wsX9_run_r5 (goodIn_app ggL_law_X9_run_wsX9_run_r6 (goodIn_app ggL_law_X9_run_wsX9_run_r7 (goodIn_app ggL_law_X9_run_wsX9_run_r8 (goodIn_app ggL_law_X9_run_wsX9_run_r9 (goodIn_app ggL_law_X9_run_wsX9_run_r10 (goodIn_app ggL_law_X9_run_wsX9_run_r11 (goodIn_app ggL_law_X9_run_wsX9_run_r12 ggL_law_X9_run_wsX9_run_r13)))))))))))) gW_wsX90) gW_wsX40) gW_wsX70) gW_wsX60) gW_wsX00) gW_wsX10) gW_wsX30) gW_wsX20) gW_wsX80) gW_wsX50) w h)
set_option maxRecDepth 20000 in
theorem gL_law_X9_run : GoodIn wsL_law0 (wsV RL 66 RX9 yX9_run wsX9_run) := goodIn_app (goodIn_of _ (by decide +kernel)) ggL_law_X9_run
set_option maxRecDepth 20000 in
theorem ggL_law_X10_run_c : GoodIn wsL_law0 [.code yX10_run cX10_run 3 (some .int)] := goodIn_r _ [570] (by decide +kernel) (by decide +kernel)
set_option maxRecDepth 20000 in
theorem ggL_law_X10_run_wsX10_run_r1 : GoodIn wsL_law0 wsX10_run_r1 := goodIn_r _ [171, 172, 189, 190, 5, 191, 571, 572, 573, 574, 217, 132, 136, 129, 137, 142, 575, 576, 577, 578, 317, 156, 157, 158] (by decide +kernel) (by decide +kernel)
set_option maxRecDepth 20000 in
theorem ggL_law_X10_run_wsX10_run_r2 : GoodIn wsL_law0 wsX10_run_r2 := goodIn_r _ [579, 580, 581, 582, 147, 122, 149, 150, 123, 583, 584, 585, 586, 587, 588, 589, 590, 188, 124, 591, 592, 593, 594, 595] (by decide +kernel) (by decide +kernel)
set_option maxRecDepth 20000 in
theorem ggL_law_X10_run_wsX10_run_r3 : GoodIn wsL_law0 wsX10_run_r3 := goodIn_r _ [596, 597, 598, 133, 119, 599, 600, 601, 602, 603, 152, 153, 154, 155, 604, 605, 606, 607, 114, 116, 608, 609, 610, 611] (by decide +kernel) (by decide +kernel)
set_option maxRecDepth 20000 in
theorem ggL_law_X10_run_wsX10_run_r4 : GoodIn wsL_law0 wsX10_run_r4 := goodIn_r _ [148, 612, 613, 614, 615, 117, 151, 616, 139, 617, 618, 619, 620, 135, 134, 621, 622, 623, 624, 144, 143, 125, 625, 145] (by decide +kernel) (by decide +kernel)
set_option maxRecDepth 20000 in
theorem ggL_law_X10_run_wsX10_run_r5 : GoodIn wsL_law0 wsX10_run_r5 := goodIn_r _ [126, 127, 128, 146, 626, 627, 628, 629, 121, 118, 120, 630, 631, 632, 633, 634, 635, 636, 637, 141, 140, 638, 639, 640] (by decide +kernel) (by decide +kernel)
set_option maxRecDepth 20000 in
theorem ggL_law_X10_run_wsX10_run_r6 : GoodIn wsL_law0 wsX10_run_r6 := goodIn_r _ [641, 642, 159, 138, 643, 644, 645, 646, 647, 648, 649, 650, 130, 651, 652, 653, 654, 173, 131, 655, 656, 657, 658, 115] (by decide +kernel) (by decide +kernel)
set_option maxRecDepth 20000 in
theorem ggL_law_X10_run_wsX10_run_r7 : GoodIn wsL_law0 wsX10_run_r7 := goodIn_r _ [659, 660, 661, 662, 663, 664, 665, 666, 667, 668, 669, 670, 671, 672, 673, 550, 82, 551, 674, 675, 676, 677] (by decide +kernel) (by decide +kernel)
theorem ggL_law_X10_run : GoodIn wsL_law0 wsX10_run := fun w h => (List.mem_cons.mp h).elim (fun e => ggL_law_X10_run_c w (List.mem_singleton.mpr e)) (fun h => (goodIn_app (goodIn_app ggL_law_X10_run_wsX10_run_r1 (goodIn_app ggL_law_X10_run_wsX10_run_r2 (goodIn_app ggL_law_X10_run_wsX10_run_r3 (goodIn_app ggL_law_X10_run_wsX10_run_r4 (goodIn_app ggL_law_X10_run_wsX10_run_r5 (goodIn_app ggL_law_X10_run_wsX10_run_r6 ggL_law_X10_run_wsX10_run_r7)))))) gW_wsX100) w h)
set_option maxRecDepth 20000 in
theorem gL_law_X10_run : GoodIn wsL_law0 (wsV RL 70 RX10 yX10_run wsX10_run) := goodIn_app (goodIn_of _ (by decide +kernel)) ggL_law_X10_run
set_option maxRecDepth 20000 in
theorem ggL_law_X9_about_c : GoodIn wsL_law0 [.code yX9_about cX9_about 4 (some .int)] := goodIn_r _ [681] (by decide +kernel) (by decide +kernel)
set_option maxRecDepth 20000 in
theorem ggL_law_X9_about_wsX9_about_r1 : GoodIn wsL_law0 wsX9_about_r1 := goodIn_r _ [22, 238, 348, 507, 230, 425, 416, 564, 565, 566, 506, 411, 682, 231, 232, 233, 2, 234, 205, 439, 440, 441, 442, 178] (by decide +kernel) (by decide +kernel)
set_option maxRecDepth 20000 in
theorem ggL_law_X9_about_wsX9_about_r2 : GoodIn wsL_law0 wsX9_about_r2 := goodIn_r _ [18, 346] (by decide +kernel) (by decide +kernel)
theorem ggL_law_X9_about : GoodIn wsL_law0 wsX9_about := fun w h => (List.mem_cons.mp h).elim (fun e => ggL_law_X9_about_c w (List.mem_singleton.mpr e)) (fun h => (goodIn_app (goodIn_app (goodIn_app (goodIn_app (goodIn_app (goodIn_app ggL_law_X9_about_wsX9_about_r1 ggL_law_X9_about_wsX9_about_r2) gW_wsX90) gW_wsX60) gW_wsX10) gW_wsX50) gW_wsX00) w h)
set_option maxRecDepth 20000 in
theorem gL_law_X9_about : GoodIn wsL_law0 (wsV RL 71 RX9 yX9_about wsX9_about) := goodIn_app (goodIn_of _ (by decide +kernel)) ggL_law_X9_about
set_option maxRecDepth 20000 in
theorem ggL_law_X10_about_c : GoodIn wsL_law0 [.code yX10_about cX10_about 3 (some .int)] := goodIn_r _ [686] (by decide +kernel) (by decide +kernel)
set_option maxRecDepth 20000 in
theorem ggL_law_X10_about_l : GoodIn wsL_law0 [.fieldLink RX10 150 "FondsRoomModel" "thrown" "I", .fieldLink RX10 66 "FondsRoomModel" "state" "[I", .fieldLink RX10 69 "FondsRoomModel" "desk" "[I", .fieldLink RX10 75 "FondsRoomModel" "next" "[I", .fieldLink RX10 78 "FondsRoomModel" "left" "[I", .fieldLink RX10 96 "FondsRoomModel" "waited" "[I", .fieldLink RX10 84 "FondsRoomModel" "overtaken" "[I", .fieldLink RX10 87 "FondsRoomModel" "madeFor" "[I", .fieldLink RX10 90 "FondsRoomModel" "refusals" "[I", .methodLink RX10 169 yX10_isReader, .instanceMethod yX10_isReader, .selects RX10 yX10_isReader yX10_isReader, .initialized RX10, .code yX10_isReader cX10_isReader 2 (some .boolean), .fieldLink RX10 153 "FondsRoomModel" "readers" "I", .methodLink RX10 156 yX10_in, .static yX10_in, .code yX10_in cX10_in 3 (some .boolean), .methodLink RX10 213 yX10_hasMany, .instanceMethod yX10_hasMany, .selects RX10 yX10_hasMany yX10_hasMany, .code yX10_hasMany cX10_hasMany 4 (some .int), .fieldLink RX10 160 "FondsRoomModel" "boxes" "I", .fieldLink RX10 39 "FondsRoomModel" "has" "[I"] := goodIn_r _ [171, 132, 133, 135, 136, 142, 138, 139, 140, 252, 253, 254, 5, 255, 217, 189, 190, 191, 630, 631, 632, 633, 188, 123] (by decide +kernel) (by decide +kernel)
theorem ggL_law_X10_about : GoodIn wsL_law0 wsX10_about := fun w h => (List.mem_cons.mp h).elim (fun e => ggL_law_X10_about_c w (List.mem_singleton.mpr e)) (fun h => (goodIn_app ggL_law_X10_about_l gW_wsX100) w h)
