set_option maxRecDepth 20000 in
theorem gc_wsX9_goOn_wsX50 : GoodIn wsX9_goOn wsX50 := goodIn_sub (fun _ h => List.mem_cons_of_mem _ (List.mem_append_left _ (List.mem_append_left _ (List.mem_append_left _ (List.mem_append_left _ (List.mem_append_left _ (List.mem_append_right _ h))))))) (by decide +kernel)
set_option maxRecDepth 20000 in
theorem gc_wsX9_goOn_wsX30 : GoodIn wsX9_goOn wsX30 := goodIn_sub (fun _ h => List.mem_cons_of_mem _ (List.mem_append_right _ h)) (by decide +kernel)
set_option maxRecDepth 20000 in
theorem ggX9_goOn_X9_askFor_c : GoodIn wsX9_goOn [.code yX9_askFor cX9_askFor 4 none] := goodIn_r _ [20] (by decide +kernel) (by decide +kernel)
set_option maxRecDepth 20000 in
theorem ggX9_goOn_X9_askFor_wsX9_askFor_r1 : GoodIn wsX9_goOn wsX9_askFor_r1 := goodIn_r _ [21, 22, 23, 24, 25, 26, 4, 27, 28, 29, 30, 31, 32, 33, 34, 35, 36, 37, 14, 38, 39, 40, 41, 42] (by decide +kernel) (by decide +kernel)
set_option maxRecDepth 20000 in
theorem ggX9_goOn_X9_askFor_wsX9_askFor_r2 : GoodIn wsX9_goOn wsX9_askFor_r2 := goodIn_r _ [43, 44, 45, 46, 47, 16, 6, 48, 49, 50, 51, 52, 53, 54, 55, 1, 56, 57, 58, 59, 60, 61, 62, 63] (by decide +kernel) (by decide +kernel)
set_option maxRecDepth 20000 in
theorem ggX9_goOn_X9_askFor_wsX9_askFor_r3 : GoodIn wsX9_goOn wsX9_askFor_r3 := goodIn_r _ [64, 65, 66, 67, 68, 69] (by decide +kernel) (by decide +kernel)
theorem ggX9_goOn_X9_askFor : GoodIn wsX9_goOn wsX9_askFor := fun w h => (List.mem_cons.mp h).elim (fun e => ggX9_goOn_X9_askFor_c w (List.mem_singleton.mpr e)) (fun h => (goodIn_app (goodIn_app (goodIn_app (goodIn_app (goodIn_app (goodIn_app (goodIn_app (goodIn_app ggX9_goOn_X9_askFor_wsX9_askFor_r1 (goodIn_app ggX9_goOn_X9_askFor_wsX9_askFor_r2 ggX9_goOn_X9_askFor_wsX9_askFor_r3)) gc_wsX9_goOn_wsX90) gc_wsX9_goOn_wsX60) gc_wsX9_goOn_wsX00) gc_wsX9_goOn_wsX20) gc_wsX9_goOn_wsX10) gc_wsX9_goOn_wsX50) gc_wsX9_goOn_wsX30) w h)
set_option maxRecDepth 20000 in
theorem gX9_goOn_X9_askFor : GoodIn wsX9_goOn (wsV RX9 300 RX9 yX9_askFor wsX9_askFor) := goodIn_app (goodIn_of _ (by decide +kernel)) ggX9_goOn_X9_askFor
set_option maxRecDepth 20000 in
theorem ggX9_goOn_X9_orderCopy : GoodIn wsX9_goOn wsX9_orderCopy := goodIn_r _ [73, 42, 74, 26, 75, 76, 4, 77, 52, 53, 54, 14, 55, 1, 21, 22, 23, 56, 57, 58, 59, 60, 61, 62, 28, 29, 30, 31, 32, 33, 34, 63, 64, 65, 66, 67, 68, 69, 140, 141, 142, 143, 144, 145, 96, 97, 98, 99, 100, 101, 102, 103, 104, 105, 106, 107, 108, 109, 110, 111, 112, 121, 122, 123, 124, 125, 126, 127, 128, 129, 130, 131, 132, 133, 134, 135, 136, 137, 138, 139, 113, 114, 115, 116, 117, 118, 119, 120, 146, 147, 151, 152] (by decide +kernel) (by decide +kernel)
set_option maxRecDepth 20000 in
theorem gX9_goOn_X9_orderCopy : GoodIn wsX9_goOn (wsV RX9 308 RX9 yX9_orderCopy wsX9_orderCopy) := goodIn_app (goodIn_of _ (by decide +kernel)) ggX9_goOn_X9_orderCopy
set_option maxRecDepth 20000 in
theorem ggX9_goOn_X9_giveBack : GoodIn wsX9_goOn wsX9_giveBack := goodIn_r _ [81, 42, 74, 21, 22, 23, 24, 52, 53, 54, 14, 55, 1, 56, 57, 58, 59, 60, 61, 62, 28, 29, 30, 31, 32, 33, 34, 140, 141, 142, 143, 144, 145, 121, 122, 123, 124, 125, 126, 127, 128, 129, 130, 131, 132, 133, 134, 135, 136, 137, 138, 139, 96, 97, 98, 99, 100, 101, 102, 103, 104, 105, 106, 107, 108, 109, 110, 111, 112, 113, 114, 115, 116, 117, 118, 119, 120, 146, 147] (by decide +kernel) (by decide +kernel)
set_option maxRecDepth 20000 in
theorem gX9_goOn_X9_giveBack : GoodIn wsX9_goOn (wsV RX9 312 RX9 yX9_giveBack wsX9_giveBack) := goodIn_app (goodIn_of _ (by decide +kernel)) ggX9_goOn_X9_giveBack
set_option maxRecDepth 20000 in
theorem ggX9_goOn_X9_depart : GoodIn wsX9_goOn wsX9_depart := goodIn_r _ [85, 86, 16, 6, 42, 74, 40, 87, 4, 21, 22, 23, 88, 89, 90, 66, 91, 68, 69, 92, 93, 94, 14, 95, 27, 77, 26, 25, 28, 29, 30, 31, 32, 33, 34, 121, 122, 123, 124, 125, 126, 127, 128, 129, 130, 131, 132, 133, 134, 135, 136, 137, 138, 139, 140, 141, 142, 143, 144, 145, 96, 97, 98, 99, 100, 101, 102, 103, 104, 105, 106, 107, 108, 109, 110, 111, 112, 148, 149, 150, 151, 152, 146, 147] (by decide +kernel) (by decide +kernel)
set_option maxRecDepth 20000 in
theorem gX9_goOn_X9_depart : GoodIn wsX9_goOn (wsV RX9 212 RX9 yX9_depart wsX9_depart) := goodIn_app (goodIn_of _ (by decide +kernel)) ggX9_goOn_X9_depart
set_option maxRecDepth 20000 in
theorem ggX9_askFor_X2_keep : GoodIn wsX9_askFor wsX2_keep := goodIn_r _ [13, 14, 15, 97, 98] (by decide +kernel) (by decide +kernel)
set_option maxRecDepth 20000 in
theorem gX9_askFor_X2_keep : GoodIn wsX9_askFor (wsV RX9 256 RX2 yX2_keep wsX2_keep) := goodIn_app (goodIn_of _ (by decide +kernel)) ggX9_askFor_X2_keep
set_option maxRecDepth 20000 in
theorem ggX9_askFor_X9_ruleAgainst : GoodIn wsX9_askFor wsX9_ruleAgainst := goodIn_r _ [20, 21, 22, 23, 24, 25, 26, 27, 28, 19, 29, 30, 31, 32, 33, 34, 35, 5, 91, 92, 93, 94, 95, 96, 74, 75, 76, 77, 78, 79, 80, 81, 82, 83, 84, 85, 86, 87, 88, 89, 90, 99, 100, 101, 55, 56, 57, 58, 59, 60, 61, 62, 63, 64, 65, 66, 67, 68, 69, 70, 71, 72, 73] (by decide +kernel) (by decide +kernel)
set_option maxRecDepth 20000 in
theorem gX9_askFor_X9_ruleAgainst : GoodIn wsX9_askFor (wsV RX9 315 RX9 yX9_ruleAgainst wsX9_ruleAgainst) := goodIn_app (goodIn_of _ (by decide +kernel)) ggX9_askFor_X9_ruleAgainst
set_option maxRecDepth 20000 in
theorem ggX9_askFor_X9_refuse : GoodIn wsX9_askFor wsX9_refuse := goodIn_r _ [39, 40, 1, 2, 3, 41, 42, 43, 44, 45, 46, 47, 9, 10, 11, 12, 13, 14, 15, 74, 75, 76, 77, 78, 79, 80, 81, 82, 83, 84, 85, 86, 87, 88, 89, 90, 55, 56, 57, 58, 59, 60, 61, 62, 63, 64, 65, 66, 67, 68, 69, 70, 71, 72, 73, 102, 103, 104, 105, 106, 107, 108, 109, 97, 98] (by decide +kernel) (by decide +kernel)
set_option maxRecDepth 20000 in
theorem gX9_askFor_X9_refuse : GoodIn wsX9_askFor (wsV RX9 319 RX9 yX9_refuse wsX9_refuse) := goodIn_app (goodIn_of _ (by decide +kernel)) ggX9_askFor_X9_refuse
set_option maxRecDepth 20000 in
theorem ggX9_askFor_X3_append : GoodIn wsX9_askFor wsX3_append := goodIn_r _ [52, 53, 54, 110, 111] (by decide +kernel) (by decide +kernel)
set_option maxRecDepth 20000 in
theorem gX9_askFor_X3_append : GoodIn wsX9_askFor (wsV RX9 322 RX3 yX3_append wsX3_append) := goodIn_app (goodIn_of _ (by decide +kernel)) ggX9_askFor_X3_append
set_option maxRecDepth 20000 in
theorem ggX9_ruleAgainst_X9_heldBy : GoodIn wsX9_ruleAgainst wsX9_heldBy := goodIn_r _ [10, 11, 12, 4, 44, 45, 46, 47, 48, 49, 50, 51, 52, 53, 54, 55, 56, 57, 58, 59, 60, 61, 62, 18, 19, 20, 21, 22, 23] (by decide +kernel) (by decide +kernel)
set_option maxRecDepth 20000 in
theorem gX9_ruleAgainst_X9_heldBy : GoodIn wsX9_ruleAgainst (wsV RX9 324 RX9 yX9_heldBy wsX9_heldBy) := goodIn_app (goodIn_of _ (by decide +kernel)) ggX9_ruleAgainst_X9_heldBy
set_option maxRecDepth 20000 in
theorem ggX9_ruleAgainst_X9_isTakenByAnother : GoodIn wsX9_ruleAgainst wsX9_isTakenByAnother := goodIn_r _ [16, 11, 12, 4, 17, 5, 44, 45, 46, 47, 48, 49, 50, 51, 52, 53, 54, 55, 56, 57, 58, 59, 60, 61, 62, 18, 19, 20, 21, 22, 23] (by decide +kernel) (by decide +kernel)
set_option maxRecDepth 20000 in
theorem gX9_ruleAgainst_X9_isTakenByAnother : GoodIn wsX9_ruleAgainst (wsV RX9 332 RX9 yX9_isTakenByAnother wsX9_isTakenByAnother) := goodIn_app (goodIn_of _ (by decide +kernel)) ggX9_ruleAgainst_X9_isTakenByAnother
set_option maxRecDepth 20000 in
theorem ggX9_orderCopy_X9_refuse : GoodIn wsX9_orderCopy wsX9_refuse := goodIn_r _ [12, 13, 14, 15, 16, 17, 18, 19, 20, 21, 22, 23, 24, 25, 26, 27, 28, 29, 30, 44, 45, 46, 47, 48, 49, 50, 51, 52, 53, 54, 55, 56, 57, 58, 59, 60, 61, 62, 63, 64, 65, 66, 67, 68, 69, 70, 71, 72, 73, 74, 75, 76, 77, 78, 79, 80, 81, 82, 83, 84, 85, 86, 87, 88, 89] (by decide +kernel) (by decide +kernel)
set_option maxRecDepth 20000 in
theorem gX9_orderCopy_X9_refuse : GoodIn wsX9_orderCopy (wsV RX9 319 RX9 yX9_refuse wsX9_refuse) := goodIn_app (goodIn_of _ (by decide +kernel)) ggX9_orderCopy_X9_refuse
set_option maxRecDepth 20000 in
theorem ggX9_orderCopy_X3_append : GoodIn wsX9_orderCopy wsX3_append := goodIn_r _ [35, 36, 37, 90, 91] (by decide +kernel) (by decide +kernel)
set_option maxRecDepth 20000 in
theorem gX9_orderCopy_X3_append : GoodIn wsX9_orderCopy (wsV RX9 322 RX3 yX3_append wsX3_append) := goodIn_app (goodIn_of _ (by decide +kernel)) ggX9_orderCopy_X3_append
set_option maxRecDepth 20000 in
theorem ggX9_giveBack_X9_refuse : GoodIn wsX9_giveBack wsX9_refuse := goodIn_r _ [11, 12, 3, 4, 5, 13, 14, 15, 16, 17, 18, 19, 20, 21, 22, 23, 24, 25, 26, 52, 53, 54, 55, 56, 57, 58, 59, 60, 61, 62, 63, 64, 65, 66, 67, 68, 33, 34, 35, 36, 37, 38, 39, 40, 41, 42, 43, 44, 45, 46, 47, 48, 49, 50, 51, 69, 70, 71, 72, 73, 74, 75, 76, 77, 78] (by decide +kernel) (by decide +kernel)
set_option maxRecDepth 20000 in
theorem gX9_giveBack_X9_refuse : GoodIn wsX9_giveBack (wsV RX9 319 RX9 yX9_refuse wsX9_refuse) := goodIn_app (goodIn_of _ (by decide +kernel)) ggX9_giveBack_X9_refuse
set_option maxRecDepth 20000 in
theorem ggX9_giveBack_X2_keep : GoodIn wsX9_giveBack wsX2_keep := goodIn_r _ [24, 25, 26, 77, 78] (by decide +kernel) (by decide +kernel)
set_option maxRecDepth 20000 in
theorem gX9_giveBack_X2_keep : GoodIn wsX9_giveBack (wsV RX9 256 RX2 yX2_keep wsX2_keep) := goodIn_app (goodIn_of _ (by decide +kernel)) ggX9_giveBack_X2_keep
set_option maxRecDepth 20000 in
theorem ggX9_refuse_X5_noteRefusal : GoodIn wsX9_refuse wsX5_noteRefusal := goodIn_r _ [9, 10, 11, 55, 56, 57, 58, 59, 60, 61, 62] (by decide +kernel) (by decide +kernel)
set_option maxRecDepth 20000 in
theorem gX9_refuse_X5_noteRefusal : GoodIn wsX9_refuse (wsV RX9 342 RX5 yX5_noteRefusal wsX5_noteRefusal) := goodIn_app (goodIn_of _ (by decide +kernel)) ggX9_refuse_X5_noteRefusal
set_option maxRecDepth 20000 in
theorem ggX9_refuse_X2_keep : GoodIn wsX9_refuse wsX2_keep := goodIn_r _ [16, 17, 18, 63, 64] (by decide +kernel) (by decide +kernel)
set_option maxRecDepth 20000 in
theorem gX9_refuse_X2_keep : GoodIn wsX9_refuse (wsV RX9 256 RX2 yX2_keep wsX2_keep) := goodIn_app (goodIn_of _ (by decide +kernel)) ggX9_refuse_X2_keep
set_option maxRecDepth 20000 in
theorem ggX9_depart_X3_remove : GoodIn wsX9_depart wsX3_remove := goodIn_r _ [16, 17, 18, 80, 81] (by decide +kernel) (by decide +kernel)
set_option maxRecDepth 20000 in
theorem gX9_depart_X3_remove : GoodIn wsX9_depart (wsV RX9 263 RX3 yX3_remove wsX3_remove) := goodIn_app (goodIn_of _ (by decide +kernel)) ggX9_depart_X3_remove
set_option maxRecDepth 20000 in
theorem ggX9_depart_X9_dropTickets : GoodIn wsX9_depart wsX9_dropTickets := goodIn_r _ [23, 24, 25, 26, 27, 12, 13, 14, 15, 16, 17, 18, 35, 36, 37, 38, 39, 40, 41, 42, 43, 44, 45, 46, 47, 48, 49, 50, 51, 52, 53, 60, 61, 62, 63, 64, 65, 66, 67, 68, 69, 70, 71, 72, 73, 74, 75, 76, 54, 55, 56, 57, 58, 59, 80, 81] (by decide +kernel) (by decide +kernel)
set_option maxRecDepth 20000 in
theorem gX9_depart_X9_dropTickets : GoodIn wsX9_depart (wsV RX9 345 RX9 yX9_dropTickets wsX9_dropTickets) := goodIn_app (goodIn_of _ (by decide +kernel)) ggX9_depart_X9_dropTickets
set_option maxRecDepth 20000 in
theorem ggX9_depart_X2_keep : GoodIn wsX9_depart wsX2_keep := goodIn_r _ [32, 33, 34, 82, 83] (by decide +kernel) (by decide +kernel)
set_option maxRecDepth 20000 in
theorem gX9_depart_X2_keep : GoodIn wsX9_depart (wsV RX9 256 RX2 yX2_keep wsX2_keep) := goodIn_app (goodIn_of _ (by decide +kernel)) ggX9_depart_X2_keep
set_option maxRecDepth 20000 in
theorem ggX9_dropTickets_X3_remove : GoodIn wsX9_dropTickets wsX3_remove := goodIn_r _ [9, 10, 11, 54, 55] (by decide +kernel) (by decide +kernel)
set_option maxRecDepth 20000 in
theorem gX9_dropTickets_X3_remove : GoodIn wsX9_dropTickets (wsV RX9 263 RX3 yX3_remove wsX3_remove) := goodIn_app (goodIn_of _ (by decide +kernel)) ggX9_dropTickets_X3_remove
set_option maxRecDepth 20000 in
theorem ggX9_readersCome_X3_insertByRank : GoodIn wsX9_readersCome wsX3_insertByRank := goodIn_r _ [14, 15, 16, 17, 18, 19, 20, 21, 22, 23, 24, 68, 69, 51, 52, 53, 54, 55, 56, 57, 58, 59, 60, 61, 62, 63, 64, 65, 66, 67] (by decide +kernel) (by decide +kernel)
set_option maxRecDepth 20000 in
theorem gX9_readersCome_X3_insertByRank : GoodIn wsX9_readersCome (wsV RX9 354 RX3 yX3_insertByRank wsX3_insertByRank) := goodIn_app (goodIn_of _ (by decide +kernel)) ggX9_readersCome_X3_insertByRank
set_option maxRecDepth 20000 in
theorem ggX9_readersCome_X2_keep : GoodIn wsX9_readersCome wsX2_keep := goodIn_r _ [29, 30, 31, 70, 71] (by decide +kernel) (by decide +kernel)
set_option maxRecDepth 20000 in
theorem gX9_readersCome_X2_keep : GoodIn wsX9_readersCome (wsV RX9 256 RX2 yX2_keep wsX2_keep) := goodIn_app (goodIn_of _ (by decide +kernel)) ggX9_readersCome_X2_keep
set_option maxRecDepth 20000 in
theorem ggX9_giveDesks_X3_at : GoodIn wsX9_giveDesks wsX3_at := goodIn_r _ [7, 8, 9, 73, 74] (by decide +kernel) (by decide +kernel)
set_option maxRecDepth 20000 in
theorem gX9_giveDesks_X3_at : GoodIn wsX9_giveDesks (wsV RX9 357 RX3 yX3_at wsX3_at) := goodIn_app (goodIn_of _ (by decide +kernel)) ggX9_giveDesks_X3_at
set_option maxRecDepth 20000 in
theorem ggX9_giveDesks_X9_freeDeskFor : GoodIn wsX9_giveDesks wsX9_freeDeskFor := goodIn_r _ [14, 15, 16, 17, 18, 13, 19, 20, 21, 22, 23, 75, 76, 77, 78, 79, 80, 81, 82, 83, 84, 85, 86, 87, 88, 89, 90, 91, 54, 55, 56, 57, 58, 59, 60, 61, 62, 63, 64, 65, 66, 67, 68, 69, 70, 71, 72, 92, 93, 94] (by decide +kernel) (by decide +kernel)
set_option maxRecDepth 20000 in
theorem gX9_giveDesks_X9_freeDeskFor : GoodIn wsX9_giveDesks (wsV RX9 361 RX9 yX9_freeDeskFor wsX9_freeDeskFor) := goodIn_app (goodIn_of _ (by decide +kernel)) ggX9_giveDesks_X9_freeDeskFor
set_option maxRecDepth 20000 in
theorem ggX9_giveDesks_X9_seat : GoodIn wsX9_giveDesks wsX9_seat := goodIn_r _ [27, 2, 22, 28, 29, 30, 31, 32, 33, 34, 35, 36, 37, 38, 6, 39, 8, 9, 3, 4, 5, 7, 40, 41, 42, 43, 44, 45, 46, 47, 48, 49, 50, 51, 52, 53, 54, 55, 56, 57, 58, 59, 60, 61, 62, 63, 64, 65, 66, 67, 68, 69, 70, 71, 72, 92, 93, 94, 75, 76, 77, 78, 79, 80, 81, 82, 83, 84, 85, 86, 87, 88, 89, 90, 91, 73, 74, 95, 96] (by decide +kernel) (by decide +kernel)
set_option maxRecDepth 20000 in
theorem gX9_giveDesks_X9_seat : GoodIn wsX9_giveDesks (wsV RX9 365 RX9 yX9_seat wsX9_seat) := goodIn_app (goodIn_of _ (by decide +kernel)) ggX9_giveDesks_X9_seat
set_option maxRecDepth 20000 in
theorem ggX9_freeDeskFor_X9_firstFreeDesk : GoodIn wsX9_freeDeskFor wsX9_firstFreeDesk := goodIn_r _ [6, 7, 8, 9, 10, 28, 29, 30, 31, 32, 33, 34, 35, 36, 37, 38, 39, 40, 41, 42, 43, 44, 45, 46, 47, 48, 49] (by decide +kernel) (by decide +kernel)
set_option maxRecDepth 20000 in
theorem gX9_freeDeskFor_X9_firstFreeDesk : GoodIn wsX9_freeDeskFor (wsV RX9 369 RX9 yX9_firstFreeDesk wsX9_firstFreeDesk) := goodIn_app (goodIn_of _ (by decide +kernel)) ggX9_freeDeskFor_X9_firstFreeDesk
set_option maxRecDepth 20000 in
theorem ggX9_seat_X3_remove : GoodIn wsX9_seat wsX3_remove := goodIn_r _ [15, 16, 17, 75, 76] (by decide +kernel) (by decide +kernel)
set_option maxRecDepth 20000 in
theorem gX9_seat_X3_remove : GoodIn wsX9_seat (wsV RX9 263 RX3 yX3_remove wsX3_remove) := goodIn_app (goodIn_of _ (by decide +kernel)) ggX9_seat_X3_remove
set_option maxRecDepth 20000 in
theorem ggX9_seat_X3_at : GoodIn wsX9_seat wsX3_at := goodIn_r _ [21, 16, 17, 75, 76] (by decide +kernel) (by decide +kernel)
set_option maxRecDepth 20000 in
theorem gX9_seat_X3_at : GoodIn wsX9_seat (wsV RX9 357 RX3 yX3_at wsX3_at) := goodIn_app (goodIn_of _ (by decide +kernel)) ggX9_seat_X3_at
set_option maxRecDepth 20000 in
theorem ggX9_seat_X6_cameBehind : GoodIn wsX9_seat wsX6_cameBehind := goodIn_r _ [26, 27, 28, 58, 59, 60, 61, 62, 63, 64, 65, 66, 67, 68, 69, 70, 71, 72, 73, 74] (by decide +kernel) (by decide +kernel)
set_option maxRecDepth 20000 in
theorem gX9_seat_X6_cameBehind : GoodIn wsX9_seat (wsV RX9 374 RX6 yX6_cameBehind wsX6_cameBehind) := goodIn_app (goodIn_of _ (by decide +kernel)) ggX9_seat_X6_cameBehind
set_option maxRecDepth 20000 in
theorem ggX9_seat_X2_keep : GoodIn wsX9_seat wsX2_keep := goodIn_r _ [33, 34, 35, 77, 78] (by decide +kernel) (by decide +kernel)
set_option maxRecDepth 20000 in
theorem gX9_seat_X2_keep : GoodIn wsX9_seat (wsV RX9 256 RX2 yX2_keep wsX2_keep) := goodIn_app (goodIn_of _ (by decide +kernel)) ggX9_seat_X2_keep
set_option maxRecDepth 20000 in
theorem ggX9_sendFetchers_X9_sendFetcher : GoodIn wsX9_sendFetchers wsX9_sendFetcher := goodIn_r _ [9, 10, 11, 12, 13, 14, 15, 16, 8, 17, 18, 19, 20, 21, 22, 23, 24, 25, 26, 27, 28, 29, 30, 31, 32, 33, 34, 35, 36, 37, 38, 39, 40, 41, 42, 43, 44, 45, 46, 47, 72, 73, 74, 75, 76, 77, 48, 49, 50, 51, 52, 53, 54, 55, 56, 57, 58, 59, 60, 61, 62, 63, 64, 65, 66, 78, 79, 80, 81, 82, 83, 84, 85, 86, 87, 88, 89, 90, 91, 92, 93, 94, 69, 70, 71, 95, 96] (by decide +kernel) (by decide +kernel)
set_option maxRecDepth 20000 in
theorem gX9_sendFetchers_X9_sendFetcher : GoodIn wsX9_sendFetchers (wsV RX9 381 RX9 yX9_sendFetcher wsX9_sendFetcher) := goodIn_app (goodIn_of _ (by decide +kernel)) ggX9_sendFetchers_X9_sendFetcher
set_option maxRecDepth 20000 in
theorem ggX9_sendFetcher_X9_firstLeftBox : GoodIn wsX9_sendFetcher wsX9_firstLeftBox := goodIn_r _ [9, 10, 11, 1, 46, 47, 48, 49, 50, 51, 52, 53, 54, 55, 56, 57, 58, 59, 60, 61, 62, 63, 64, 40, 41, 42, 43, 44, 45] (by decide +kernel) (by decide +kernel)
set_option maxRecDepth 20000 in
theorem gX9_sendFetcher_X9_firstLeftBox : GoodIn wsX9_sendFetcher (wsV RX9 384 RX9 yX9_firstLeftBox wsX9_firstLeftBox) := goodIn_app (goodIn_of _ (by decide +kernel)) ggX9_sendFetcher_X9_firstLeftBox
set_option maxRecDepth 20000 in
theorem ggX9_sendFetcher_X8_begin : GoodIn wsX9_sendFetcher wsX8_begin := goodIn_r _ [16, 17, 18, 19, 82, 83, 84] (by decide +kernel) (by decide +kernel)
set_option maxRecDepth 20000 in
theorem gX9_sendFetcher_X8_begin : GoodIn wsX9_sendFetcher (wsV RX9 388 RX8 yX8_begin wsX8_begin) := goodIn_app (goodIn_of _ (by decide +kernel)) ggX9_sendFetcher_X8_begin
set_option maxRecDepth 20000 in
theorem ggX9_sendFetcher_X9_firstAskerOfHomeBox : GoodIn wsX9_sendFetcher wsX9_firstAskerOfHomeBox := goodIn_r _ [23, 24, 25, 26, 27, 28, 29, 30, 31, 32, 33, 34, 35, 36, 37, 38, 39, 46, 47, 48, 49, 50, 51, 52, 53, 54, 55, 56, 57, 58, 59, 60, 61, 62, 63, 64, 85, 86, 65, 66, 67, 68, 69, 70, 71, 72, 73, 74, 75, 76, 77, 78, 79, 80, 81, 40, 41, 42, 43, 44, 45] (by decide +kernel) (by decide +kernel)
set_option maxRecDepth 20000 in
theorem gX9_sendFetcher_X9_firstAskerOfHomeBox : GoodIn wsX9_sendFetcher (wsV RX9 395 RX9 yX9_firstAskerOfHomeBox wsX9_firstAskerOfHomeBox) := goodIn_app (goodIn_of _ (by decide +kernel)) ggX9_sendFetcher_X9_firstAskerOfHomeBox
set_option maxRecDepth 20000 in
theorem ggX9_firstAskerOfHomeBox_X3_at : GoodIn wsX9_firstAskerOfHomeBox wsX3_at := goodIn_r _ [7, 8, 9, 36, 37] (by decide +kernel) (by decide +kernel)
set_option maxRecDepth 20000 in
theorem gX9_firstAskerOfHomeBox_X3_at : GoodIn wsX9_firstAskerOfHomeBox (wsV RX9 357 RX3 yX3_at wsX3_at) := goodIn_app (goodIn_of _ (by decide +kernel)) ggX9_firstAskerOfHomeBox_X3_at
set_option maxRecDepth 20000 in
theorem ggX9_firstAskerOfHomeBox_X6_awaitsAt : GoodIn wsX9_firstAskerOfHomeBox wsX6_awaitsAt := goodIn_r _ [14, 15, 16, 38, 39, 40, 41, 42, 43, 44, 45, 46, 47, 48, 49, 50, 51, 52, 53, 54, 55, 56, 57, 58, 59, 60] (by decide +kernel) (by decide +kernel)
set_option maxRecDepth 20000 in
theorem gX9_firstAskerOfHomeBox_X6_awaitsAt : GoodIn wsX9_firstAskerOfHomeBox (wsV RX9 399 RX6 yX6_awaitsAt wsX6_awaitsAt) := goodIn_app (goodIn_of _ (by decide +kernel)) ggX9_firstAskerOfHomeBox_X6_awaitsAt
set_option maxRecDepth 20000 in
theorem ggX9_beginCopies_X9_beginCopy : GoodIn wsX9_beginCopies wsX9_beginCopy := goodIn_r _ [9, 10, 11, 12, 13, 14, 15, 16, 17, 18, 19, 20, 21, 8, 22, 23, 24, 25, 26, 27, 28, 29, 30, 31, 32, 33, 34, 35, 36, 37, 38, 39, 40, 41, 42, 43, 44, 45, 46, 47, 48, 49, 50, 75, 76, 77, 78, 79, 80, 81, 82, 83, 84, 85, 86, 87, 88, 89, 90, 91, 92, 93, 94, 95, 96, 97, 51, 52, 53, 54, 55, 56, 57, 58, 59, 60, 61, 62, 63, 64, 65, 66, 67, 68, 69, 98, 99, 72, 73, 74] (by decide +kernel) (by decide +kernel)
set_option maxRecDepth 20000 in
theorem gX9_beginCopies_X9_beginCopy : GoodIn wsX9_beginCopies (wsV RX9 402 RX9 yX9_beginCopy wsX9_beginCopy) := goodIn_app (goodIn_of _ (by decide +kernel)) ggX9_beginCopies_X9_beginCopy
set_option maxRecDepth 20000 in
theorem ggX9_beginCopy_X9_nextOrderer : GoodIn wsX9_beginCopy wsX9_nextOrderer := goodIn_r _ [14, 5, 15, 16, 17, 13, 18, 19, 20, 4, 21, 22, 23, 24, 25, 26, 27, 28, 29, 30, 31, 32, 33, 34, 66, 67, 68, 69, 70, 71, 72, 73, 74, 75, 76, 77, 78, 79, 80, 81, 82, 83, 84, 85, 86, 43, 44, 45, 46, 47, 48, 49, 50, 51, 52, 53, 54, 55, 56, 57, 58, 59, 60, 61, 62, 63, 64, 65] (by decide +kernel) (by decide +kernel)
set_option maxRecDepth 20000 in
theorem gX9_beginCopy_X9_nextOrderer : GoodIn wsX9_beginCopy (wsV RX9 405 RX9 yX9_nextOrderer wsX9_nextOrderer) := goodIn_app (goodIn_of _ (by decide +kernel)) ggX9_beginCopy_X9_nextOrderer
set_option maxRecDepth 20000 in
theorem ggX9_beginCopy_X8_begin : GoodIn wsX9_beginCopy wsX8_begin := goodIn_r _ [39, 40, 41, 42, 87, 88, 89] (by decide +kernel) (by decide +kernel)
set_option maxRecDepth 20000 in
theorem gX9_beginCopy_X8_begin : GoodIn wsX9_beginCopy (wsV RX9 388 RX8 yX8_begin wsX8_begin) := goodIn_app (goodIn_of _ (by decide +kernel)) ggX9_beginCopy_X8_begin
set_option maxRecDepth 20000 in
theorem ggX9_nextOrderer_X9_firstOrderer : GoodIn wsX9_nextOrderer wsX9_firstOrderer := goodIn_r _ [6, 7, 8, 9, 10, 11, 12, 13, 14, 15, 16, 17, 18, 19, 20, 21, 22, 23, 24, 25, 26, 27, 28, 29, 30, 31, 32, 33, 34, 35, 36, 37, 38, 39, 40, 41, 42, 43, 44, 45, 46, 47, 48, 49, 50, 51, 52, 53, 54, 55, 56, 57, 58, 59, 60, 61, 62, 63, 64, 65, 66, 67] (by decide +kernel) (by decide +kernel)
set_option maxRecDepth 20000 in
theorem gX9_nextOrderer_X9_firstOrderer : GoodIn wsX9_nextOrderer (wsV RX9 417 RX9 yX9_firstOrderer wsX9_firstOrderer) := goodIn_app (goodIn_of _ (by decide +kernel)) ggX9_nextOrderer_X9_firstOrderer
set_option maxRecDepth 20000 in
theorem ggX9_firstOrderer_X3_at : GoodIn wsX9_firstOrderer wsX3_at := goodIn_r _ [8, 9, 10, 37, 38] (by decide +kernel) (by decide +kernel)
set_option maxRecDepth 20000 in
theorem gX9_firstOrderer_X3_at : GoodIn wsX9_firstOrderer (wsV RX9 357 RX3 yX3_at wsX3_at) := goodIn_app (goodIn_of _ (by decide +kernel)) ggX9_firstOrderer_X3_at
set_option maxRecDepth 20000 in
theorem ggX9_firstOrderer_X6_awaitsAt : GoodIn wsX9_firstOrderer wsX6_awaitsAt := goodIn_r _ [15, 16, 17, 39, 40, 41, 42, 43, 44, 45, 46, 47, 48, 49, 50, 51, 52, 53, 54, 55, 56, 57, 58, 59, 60, 61] (by decide +kernel) (by decide +kernel)
set_option maxRecDepth 20000 in
theorem gX9_firstOrderer_X6_awaitsAt : GoodIn wsX9_firstOrderer (wsV RX9 399 RX6 yX6_awaitsAt wsX6_awaitsAt) := goodIn_app (goodIn_of _ (by decide +kernel)) ggX9_firstOrderer_X6_awaitsAt
set_option maxRecDepth 20000 in
theorem ggX9_about_X9_isReader : GoodIn wsX9_about wsX9_isReader := goodIn_r _ [18, 19, 27, 28, 29, 30, 31, 32, 33, 34, 35, 36, 37, 38, 39, 40, 41, 42, 43, 44, 45] (by decide +kernel) (by decide +kernel)
set_option maxRecDepth 20000 in
theorem gX9_about_X9_isReader : GoodIn wsX9_about (wsV RX9 128 RX9 yX9_isReader wsX9_isReader) := goodIn_app (goodIn_of _ (by decide +kernel)) ggX9_about_X9_isReader
set_option maxRecDepth 20000 in
theorem ggX9_about_X9_heldBy : GoodIn wsX9_about wsX9_heldBy := goodIn_r _ [23, 24, 25, 26, 27, 28, 29, 30, 31, 32, 33, 34, 35, 36, 37, 38, 39, 40, 41, 42, 43, 44, 45, 74, 75, 76, 77, 78, 79] (by decide +kernel) (by decide +kernel)
set_option maxRecDepth 20000 in
theorem gX9_about_X9_heldBy : GoodIn wsX9_about (wsV RX9 324 RX9 yX9_heldBy wsX9_heldBy) := goodIn_app (goodIn_of _ (by decide +kernel)) ggX9_about_X9_heldBy
set_option maxRecDepth 20000 in
theorem ggX9_held_X9_isReader : GoodIn wsX9_held wsX9_isReader := goodIn_r _ [9, 10, 11, 12, 13, 14, 15, 16, 17, 18, 19, 20, 21, 22, 23, 24, 25, 26, 27, 28, 29] (by decide +kernel) (by decide +kernel)
set_option maxRecDepth 20000 in
theorem gX9_held_X9_isReader : GoodIn wsX9_held (wsV RX9 128 RX9 yX9_isReader wsX9_isReader) := goodIn_app (goodIn_of _ (by decide +kernel)) ggX9_held_X9_isReader
set_option maxRecDepth 20000 in
theorem ggX9_refused_X9_isReader : GoodIn wsX9_refused wsX9_isReader := goodIn_r _ [7, 8, 16, 17, 18, 19, 20, 21, 22, 23, 24, 25, 26, 27, 28, 29, 30, 31, 32, 33, 34] (by decide +kernel) (by decide +kernel)
set_option maxRecDepth 20000 in
theorem gX9_refused_X9_isReader : GoodIn wsX9_refused (wsV RX9 128 RX9 yX9_isReader wsX9_isReader) := goodIn_app (goodIn_of _ (by decide +kernel)) ggX9_refused_X9_isReader
set_option maxRecDepth 20000 in
theorem ggX9_refused_X5_refusalRule : GoodIn wsX9_refused wsX5_refusalRule := goodIn_r _ [13, 14, 15, 52, 53, 54, 55, 56, 57, 58, 59] (by decide +kernel) (by decide +kernel)
set_option maxRecDepth 20000 in
theorem gX9_refused_X5_refusalRule : GoodIn wsX9_refused (wsV RX9 433 RX5 yX5_refusalRule wsX5_refusalRule) := goodIn_app (goodIn_of _ (by decide +kernel)) ggX9_refused_X5_refusalRule
set_option maxRecDepth 20000 in
theorem ggX9_place_X9_isBox : GoodIn wsX9_place wsX9_isBox := goodIn_r _ [7, 8, 9, 10, 11, 12, 13, 14, 15, 16, 17, 18, 19, 20, 21, 22, 23, 24, 25, 26, 27] (by decide +kernel) (by decide +kernel)
set_option maxRecDepth 20000 in
theorem gX9_place_X9_isBox : GoodIn wsX9_place (wsV RX9 120 RX9 yX9_isBox wsX9_isBox) := goodIn_app (goodIn_of _ (by decide +kernel)) ggX9_place_X9_isBox
set_option maxRecDepth 20000 in
theorem ggX9_whose_X9_isBox : GoodIn wsX9_whose wsX9_isBox := goodIn_r _ [8, 9, 14, 15, 16, 17, 18, 19, 20, 21, 22, 23, 24, 25, 26, 27, 28, 29, 30, 31, 32] (by decide +kernel) (by decide +kernel)
set_option maxRecDepth 20000 in
theorem gX9_whose_X9_isBox : GoodIn wsX9_whose (wsV RX9 120 RX9 yX9_isBox wsX9_isBox) := goodIn_app (goodIn_of _ (by decide +kernel)) ggX9_whose_X9_isBox
set_option maxRecDepth 20000 in
theorem ggX9_whose_X9_numberOf : GoodIn wsX9_whose wsX9_numberOf := goodIn_r _ [12, 13, 39, 40, 41, 42, 43, 44, 45, 46, 47, 48, 49, 50, 51, 52, 53, 54, 55] (by decide +kernel) (by decide +kernel)
set_option maxRecDepth 20000 in
theorem gX9_whose_X9_numberOf : GoodIn wsX9_whose (va_wsS RX9 437 yX9_numberOf wsX9_numberOf) := goodIn_app (goodIn_of _ (by decide +kernel)) ggX9_whose_X9_numberOf
set_option maxRecDepth 20000 in
theorem ggX9_seated_X9_isWithin : GoodIn wsX9_seated wsX9_isWithin := goodIn_r _ [7] (by decide +kernel) (by decide +kernel)
set_option maxRecDepth 20000 in
theorem gX9_seated_X9_isWithin : GoodIn wsX9_seated (va_wsS RX9 91 yX9_isWithin wsX9_isWithin) := goodIn_app (goodIn_of _ (by decide +kernel)) ggX9_seated_X9_isWithin
set_option maxRecDepth 20000 in
theorem ggX9_seated_X9_numberOf : GoodIn wsX9_seated wsX9_numberOf := goodIn_r _ [10, 11, 34, 35, 36, 37, 38, 39, 40, 41, 42, 43, 44, 45, 46, 47, 48, 49, 50] (by decide +kernel) (by decide +kernel)
set_option maxRecDepth 20000 in
theorem gX9_seated_X9_numberOf : GoodIn wsX9_seated (va_wsS RX9 437 yX9_numberOf wsX9_numberOf) := goodIn_app (goodIn_of _ (by decide +kernel)) ggX9_seated_X9_numberOf
set_option maxRecDepth 20000 in
theorem ggX9_worker_X9_isPerson : GoodIn wsX9_worker wsX9_isPerson := goodIn_r _ [11, 1, 3, 12, 13, 14, 10, 15, 16, 17, 18, 19, 20, 21, 22, 23, 24, 25, 26, 27, 28, 29, 30, 31, 32, 33, 34, 35, 36, 37, 38, 39, 40, 41, 42, 43, 44] (by decide +kernel) (by decide +kernel)
set_option maxRecDepth 20000 in
theorem gX9_worker_X9_isPerson : GoodIn wsX9_worker (wsV RX9 145 RX9 yX9_isPerson wsX9_isPerson) := goodIn_app (goodIn_of _ (by decide +kernel)) ggX9_worker_X9_isPerson
set_option maxRecDepth 20000 in
theorem ggX9_queue_X9_lineOf : GoodIn wsX9_queue wsX9_lineOf := goodIn_r _ [7, 8, 9, 10, 48, 49, 50, 51, 52, 53, 54, 55, 56, 57, 58, 59, 60, 61, 62, 63, 64, 65, 66] (by decide +kernel) (by decide +kernel)
set_option maxRecDepth 20000 in
theorem gX9_queue_X9_lineOf : GoodIn wsX9_queue (wsV RX9 440 RX9 yX9_lineOf wsX9_lineOf) := goodIn_app (goodIn_of _ (by decide +kernel)) ggX9_queue_X9_lineOf
set_option maxRecDepth 20000 in
theorem ggX9_queue_X3_at : GoodIn wsX9_queue wsX3_at := goodIn_r _ [15, 16, 17, 29, 30] (by decide +kernel) (by decide +kernel)
set_option maxRecDepth 20000 in
theorem gX9_queue_X3_at : GoodIn wsX9_queue (wsV RX9 357 RX3 yX3_at wsX3_at) := goodIn_app (goodIn_of _ (by decide +kernel)) ggX9_queue_X3_at
set_option maxRecDepth 20000 in
theorem ggX9_queue_X9_waitsStill : GoodIn wsX9_queue wsX9_waitsStill := goodIn_r _ [21, 22, 23, 24, 25, 26, 27, 28, 31, 32, 33, 34, 35, 36, 37, 38, 39, 40, 41, 42, 43, 44, 45, 46, 47, 67, 68, 69, 70, 71, 72] (by decide +kernel) (by decide +kernel)
set_option maxRecDepth 20000 in
theorem gX9_queue_X9_waitsStill : GoodIn wsX9_queue (wsV RX9 444 RX9 yX9_waitsStill wsX9_waitsStill) := goodIn_app (goodIn_of _ (by decide +kernel)) ggX9_queue_X9_waitsStill
set_option maxRecDepth 20000 in
theorem ggX9_waitsStill_X6_awaitsAt : GoodIn wsX9_waitsStill wsX6_awaitsAt := goodIn_r _ [5, 6, 7, 8, 9, 10, 11, 12, 13, 14, 15, 16, 17, 18, 19, 20, 21, 22, 23, 24, 25, 26, 27, 28, 29, 30] (by decide +kernel) (by decide +kernel)
set_option maxRecDepth 20000 in
theorem gX9_waitsStill_X6_awaitsAt : GoodIn wsX9_waitsStill (wsV RX9 399 RX6 yX6_awaitsAt wsX6_awaitsAt) := goodIn_app (goodIn_of _ (by decide +kernel)) ggX9_waitsStill_X6_awaitsAt
set_option maxRecDepth 20000 in
theorem ggX9_event_X2_hasEntry : GoodIn wsX9_event wsX2_hasEntry := goodIn_r _ [8, 9, 35, 36] (by decide +kernel) (by decide +kernel)
set_option maxRecDepth 20000 in
theorem gX9_event_X2_hasEntry : GoodIn wsX9_event (wsV RX9 447 RX2 yX2_hasEntry wsX2_hasEntry) := goodIn_app (goodIn_of _ (by decide +kernel)) ggX9_event_X2_hasEntry
set_option maxRecDepth 20000 in
theorem ggX9_event_X2_entry : GoodIn wsX9_event wsX2_entry := goodIn_r _ [13, 14, 15, 5, 6, 7, 8, 9, 35, 36] (by decide +kernel) (by decide +kernel)
set_option maxRecDepth 20000 in
theorem gX9_event_X2_entry : GoodIn wsX9_event (wsV RX9 457 RX2 yX2_entry wsX2_entry) := goodIn_app (goodIn_of _ (by decide +kernel)) ggX9_event_X2_entry
set_option maxRecDepth 20000 in
theorem ggX9_count_X9_boxesAtHome : GoodIn wsX9_count wsX9_boxesAtHome := goodIn_r _ [17, 3, 18, 19, 40, 41, 42, 43, 44, 45, 46, 47, 48, 49, 50, 51, 52, 53, 54, 55, 56, 57, 58, 65, 66, 67, 68, 69, 70] (by decide +kernel) (by decide +kernel)
set_option maxRecDepth 20000 in
theorem gX9_count_X9_boxesAtHome : GoodIn wsX9_count (wsV RX9 461 RX9 yX9_boxesAtHome wsX9_boxesAtHome) := goodIn_app (goodIn_of _ (by decide +kernel)) ggX9_count_X9_boxesAtHome
set_option maxRecDepth 20000 in
theorem ggX9_count_X9_isQuiet : GoodIn wsX9_count wsX9_isQuiet := goodIn_r _ [23, 4, 24, 3, 25, 26, 16, 27, 28, 13, 14, 15, 17, 18, 19, 40, 41, 42, 43, 44, 45, 46, 47, 48, 49, 50, 51, 52, 53, 54, 55, 56, 57, 58, 71, 72, 73, 74, 75, 76, 77, 78, 79, 80, 81, 82, 83, 84, 85, 86, 87, 65, 66, 67, 68, 69, 70] (by decide +kernel) (by decide +kernel)
set_option maxRecDepth 20000 in
theorem gX9_count_X9_isQuiet : GoodIn wsX9_count (wsV RX9 465 RX9 yX9_isQuiet wsX9_isQuiet) := goodIn_app (goodIn_of _ (by decide +kernel)) ggX9_count_X9_isQuiet
set_option maxRecDepth 20000 in
theorem ggX9_count_X9_greatestWaited : GoodIn wsX9_count wsX9_greatestWaited := goodIn_r _ [32, 4, 24, 33, 34, 35, 36, 37, 38, 39, 40, 41, 42, 43, 44, 45, 46, 47, 48, 49, 50, 51, 52, 53, 54, 55, 56, 57, 58, 71, 72, 73, 74, 75, 76, 77, 78, 79, 80, 81, 82, 83, 84, 85, 86, 87] (by decide +kernel) (by decide +kernel)
set_option maxRecDepth 20000 in
theorem gX9_count_X9_greatestWaited : GoodIn wsX9_count (wsV RX9 468 RX9 yX9_greatestWaited wsX9_greatestWaited) := goodIn_app (goodIn_of _ (by decide +kernel)) ggX9_count_X9_greatestWaited
set_option maxRecDepth 20000 in
theorem ggX9_isQuiet_X9_isAway : GoodIn wsX9_isQuiet wsX9_isAway := goodIn_r _ [7, 8, 34, 35, 36, 37, 38, 39, 40, 41, 42, 43, 44, 45, 46, 47, 48, 49, 50] (by decide +kernel) (by decide +kernel)
set_option maxRecDepth 20000 in
theorem gX9_isQuiet_X9_isAway : GoodIn wsX9_isQuiet (va_wsS RX9 131 yX9_isAway wsX9_isAway) := goodIn_app (goodIn_of _ (by decide +kernel)) ggX9_isQuiet_X9_isAway
set_option maxRecDepth 20000 in
theorem ggX9_isQuiet_X9_boxesAtHome : GoodIn wsX9_isQuiet wsX9_boxesAtHome := goodIn_r _ [12, 3, 13, 14, 15, 16, 17, 18, 19, 20, 21, 22, 23, 24, 25, 26, 27, 28, 29, 30, 31, 32, 33, 51, 52, 53, 54, 55, 56] (by decide +kernel) (by decide +kernel)
set_option maxRecDepth 20000 in
theorem gX9_isQuiet_X9_boxesAtHome : GoodIn wsX9_isQuiet (wsV RX9 461 RX9 yX9_boxesAtHome wsX9_boxesAtHome) := goodIn_app (goodIn_of _ (by decide +kernel)) ggX9_isQuiet_X9_boxesAtHome
set_option maxRecDepth 20000 in
theorem ggX9_isInRoom_X9_isAway : GoodIn wsX9_isInRoom wsX9_isAway := goodIn_r _ [5, 1, 6, 7, 8, 9, 10, 11, 12, 13, 14, 15, 16, 17, 18, 19, 20, 21, 22] (by decide +kernel) (by decide +kernel)
set_option maxRecDepth 20000 in
theorem gX9_isInRoom_X9_isAway : GoodIn wsX9_isInRoom (va_wsS RX9 131 yX9_isAway wsX9_isAway) := goodIn_app (goodIn_of _ (by decide +kernel)) ggX9_isInRoom_X9_isAway
