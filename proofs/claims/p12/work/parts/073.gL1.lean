set_option maxRecDepth 20000 in
theorem ggL_law_X10_copy_c : GoodIn wsL_law0 [.code yX10_copy cX10_copy 5 (some .boolean)] := goodIn_s segsL segsL_in _ [(11, 15)] rfl (by decide +kernel)
set_option maxRecDepth 20000 in
theorem ggL_law_X10_copy_wsX10_copy_r1 : GoodIn wsL_law0 wsX10_copy_r1 := goodIn_s segsL segsL_in _ [(7, 3), (10, 8), (10, 9), (10, 10), (0, 5), (10, 11), (5, 14), (5, 12), (10, 12), (10, 13), (10, 14), (10, 15), (9, 1), (7, 21), (7, 22), (7, 23), (10, 16), (10, 17), (10, 18), (10, 19), (7, 20), (10, 20), (10, 21), (10, 22)] rfl (by decide +kernel)
set_option maxRecDepth 20000 in
theorem ggL_law_X10_copy_wsX10_copy_r2 : GoodIn wsL_law0 wsX10_copy_r2 := goodIn_s segsL segsL_in _ [(10, 23), (5, 23), (6, 0), (6, 1), (6, 2)] rfl (by decide +kernel)
theorem ggL_law_X10_copy : GoodIn wsL_law0 wsX10_copy := fun w h => (List.mem_cons.mp h).elim (fun e => ggL_law_X10_copy_c w (List.mem_singleton.mpr e)) (fun h => (goodIn_app (goodIn_app ggL_law_X10_copy_wsX10_copy_r1 ggL_law_X10_copy_wsX10_copy_r2) gW_wsX100) w h)
set_option maxRecDepth 20000 in
theorem gL_law_X10_copy : GoodIn wsL_law0 (wsV RL 52 RX10 yX10_copy wsX10_copy) := goodIn_app (goodIn_s segsL segsL_in _ [(11, 12), (11, 13), (11, 14), (0, 5)] rfl (by decide +kernel)) ggL_law_X10_copy
set_option maxRecDepth 20000 in
theorem ggL_law_X9_back_c : GoodIn wsL_law0 [.code yX9_back cX9_back 3 (some .boolean)] := goodIn_s segsL segsL_in _ [(11, 19)] rfl (by decide +kernel)
set_option maxRecDepth 20000 in
theorem ggL_law_X9_back_wsX9_back_r1 : GoodIn wsL_law0 wsX9_back_r1 := goodIn_s segsL segsL_in _ [(9, 6), (9, 7), (9, 8), (0, 2), (9, 9), (7, 10), (9, 10), (9, 11), (9, 12), (9, 13), (0, 22), (9, 14), (9, 15), (9, 16), (9, 17), (9, 18), (8, 13), (9, 19), (9, 20), (9, 21), (9, 22), (9, 23), (10, 0), (10, 1)] rfl (by decide +kernel)
set_option maxRecDepth 20000 in
theorem ggL_law_X9_back_wsX9_back_r2 : GoodIn wsL_law0 wsX9_back_r2 := goodIn_s segsL segsL_in _ [(2, 15), (10, 2), (10, 3), (2, 22), (2, 23), (3, 0), (3, 2)] rfl (by decide +kernel)
theorem ggL_law_X9_back : GoodIn wsL_law0 wsX9_back := fun w h => (List.mem_cons.mp h).elim (fun e => ggL_law_X9_back_c w (List.mem_singleton.mpr e)) (fun h => (goodIn_app (goodIn_app (goodIn_app (goodIn_app ggL_law_X9_back_wsX9_back_r1 ggL_law_X9_back_wsX9_back_r2) gW_wsX90) gW_wsX60) gW_wsX50) w h)
set_option maxRecDepth 20000 in
theorem gL_law_X9_back : GoodIn wsL_law0 (wsV RL 53 RX9 yX9_back wsX9_back) := goodIn_app (goodIn_s segsL segsL_in _ [(11, 16), (11, 17), (11, 18), (0, 2)] rfl (by decide +kernel)) ggL_law_X9_back
set_option maxRecDepth 20000 in
theorem ggL_law_X10_back_c : GoodIn wsL_law0 [.code yX10_back cX10_back 3 (some .boolean)] := goodIn_s segsL segsL_in _ [(11, 23)] rfl (by decide +kernel)
set_option maxRecDepth 20000 in
theorem ggL_law_X10_back_wsX10_back_r1 : GoodIn wsL_law0 wsX10_back_r1 := goodIn_s segsL segsL_in _ [(7, 3), (10, 8), (10, 9), (10, 10), (0, 5), (10, 11), (5, 14), (5, 12), (10, 12), (10, 13), (10, 14), (10, 15), (9, 1), (7, 21), (7, 22), (7, 23), (10, 16), (10, 17), (10, 18), (10, 19), (7, 20), (10, 20), (10, 21), (10, 22)] rfl (by decide +kernel)
set_option maxRecDepth 20000 in
theorem ggL_law_X10_back_wsX10_back_r2 : GoodIn wsL_law0 wsX10_back_r2 := goodIn_s segsL segsL_in _ [(10, 23), (5, 23), (6, 0), (6, 1), (6, 2)] rfl (by decide +kernel)
theorem ggL_law_X10_back : GoodIn wsL_law0 wsX10_back := fun w h => (List.mem_cons.mp h).elim (fun e => ggL_law_X10_back_c w (List.mem_singleton.mpr e)) (fun h => (goodIn_app (goodIn_app ggL_law_X10_back_wsX10_back_r1 ggL_law_X10_back_wsX10_back_r2) gW_wsX100) w h)
set_option maxRecDepth 20000 in
theorem gL_law_X10_back : GoodIn wsL_law0 (wsV RL 56 RX10 yX10_back wsX10_back) := goodIn_app (goodIn_s segsL segsL_in _ [(11, 20), (11, 21), (11, 22), (0, 5)] rfl (by decide +kernel)) ggL_law_X10_back
set_option maxRecDepth 20000 in
theorem ggL_law_X9_bell_c : GoodIn wsL_law0 [.code yX9_bell cX9_bell 2 (some .boolean)] := goodIn_s segsL segsL_in _ [(12, 3)] rfl (by decide +kernel)
set_option maxRecDepth 20000 in
theorem ggL_law_X9_bell_l : GoodIn wsL_law0 [.fieldLink RX9 78 "FondsRoom" "turn" "I", .fieldLink RX9 75 "FondsRoom" "bellTurn" "I"] := goodIn_s segsL segsL_in _ [(6, 20), (1, 21)] rfl (by decide +kernel)
theorem ggL_law_X9_bell : GoodIn wsL_law0 wsX9_bell := fun w h => (List.mem_cons.mp h).elim (fun e => ggL_law_X9_bell_c w (List.mem_singleton.mpr e)) (fun h => (goodIn_app ggL_law_X9_bell_l gW_wsX90) w h)
set_option maxRecDepth 20000 in
theorem gL_law_X9_bell : GoodIn wsL_law0 (wsV RL 57 RX9 yX9_bell wsX9_bell) := goodIn_app (goodIn_s segsL segsL_in _ [(12, 0), (12, 1), (12, 2), (0, 2)] rfl (by decide +kernel)) ggL_law_X9_bell
set_option maxRecDepth 20000 in
theorem ggL_law_X10_bell_c : GoodIn wsL_law0 [.code yX10_bell cX10_bell 2 (some .boolean)] := goodIn_s segsL segsL_in _ [(12, 7)] rfl (by decide +kernel)
set_option maxRecDepth 20000 in
theorem ggL_law_X10_bell_l : GoodIn wsL_law0 [.fieldLink RX10 150 "FondsRoomModel" "thrown" "I", .fieldLink RX10 9 "FondsRoomModel" "bellTurn" "I", .fieldLink RX10 163 "FondsRoomModel" "turn" "I"] := goodIn_s segsL segsL_in _ [(7, 3), (4, 18), (7, 4)] rfl (by decide +kernel)
theorem ggL_law_X10_bell : GoodIn wsL_law0 wsX10_bell := fun w h => (List.mem_cons.mp h).elim (fun e => ggL_law_X10_bell_c w (List.mem_singleton.mpr e)) (fun h => (goodIn_app ggL_law_X10_bell_l gW_wsX100) w h)
set_option maxRecDepth 20000 in
theorem gL_law_X10_bell : GoodIn wsL_law0 (wsV RL 61 RX10 yX10_bell wsX10_bell) := goodIn_app (goodIn_s segsL segsL_in _ [(12, 4), (12, 5), (12, 6), (0, 5)] rfl (by decide +kernel)) ggL_law_X10_bell
set_option maxRecDepth 20000 in
theorem ggL_law_X9_mishap_c : GoodIn wsL_law0 [.code yX9_mishap cX9_mishap 4 (some .boolean)] := goodIn_s segsL segsL_in _ [(12, 11)] rfl (by decide +kernel)
set_option maxRecDepth 20000 in
theorem ggL_law_X9_mishap_wsX9_mishap_r1 : GoodIn wsL_law0 wsX9_mishap_r1 := goodIn_s segsL segsL_in _ [(6, 20), (1, 15), (12, 12), (12, 13), (12, 14), (0, 2), (12, 15), (1, 4), (1, 5), (9, 15), (9, 16), (9, 17), (9, 18), (8, 13), (12, 16), (12, 17), (12, 18), (1, 3), (12, 19), (3, 16), (3, 13), (12, 20), (12, 21), (12, 22)] rfl (by decide +kernel)
set_option maxRecDepth 20000 in
theorem ggL_law_X9_mishap_wsX9_mishap_r2 : GoodIn wsL_law0 wsX9_mishap_r2 := goodIn_s segsL segsL_in _ [(1, 14), (12, 23), (13, 0), (4, 6), (4, 7), (4, 8)] rfl (by decide +kernel)
theorem ggL_law_X9_mishap : GoodIn wsL_law0 wsX9_mishap := fun w h => (List.mem_cons.mp h).elim (fun e => ggL_law_X9_mishap_c w (List.mem_singleton.mpr e)) (fun h => (goodIn_app (goodIn_app (goodIn_app (goodIn_app ggL_law_X9_mishap_wsX9_mishap_r1 ggL_law_X9_mishap_wsX9_mishap_r2) gW_wsX90) gW_wsX70) gW_wsX40) w h)
set_option maxRecDepth 20000 in
theorem gL_law_X9_mishap : GoodIn wsL_law0 (wsV RL 62 RX9 yX9_mishap wsX9_mishap) := goodIn_app (goodIn_s segsL segsL_in _ [(12, 8), (12, 9), (12, 10), (0, 2)] rfl (by decide +kernel)) ggL_law_X9_mishap
set_option maxRecDepth 20000 in
theorem ggL_law_X10_mishap_c : GoodIn wsL_law0 [.code yX10_mishap cX10_mishap 5 (some .boolean)] := goodIn_s segsL segsL_in _ [(13, 4)] rfl (by decide +kernel)
set_option maxRecDepth 20000 in
theorem ggL_law_X10_mishap_l : GoodIn wsL_law0 [.fieldLink RX10 150 "FondsRoomModel" "thrown" "I", .fieldLink RX10 153 "FondsRoomModel" "readers" "I", .fieldLink RX10 16 "FondsRoomModel" "fetchers" "I", .fieldLink RX10 19 "FondsRoomModel" "copyists" "I", .fieldLink RX10 163 "FondsRoomModel" "turn" "I", .fieldLink RX10 183 "FondsRoomModel" "mishaps" "I", .fieldLink RX10 138 "FondsRoomModel" "mTurn" "[I", .fieldLink RX10 141 "FondsRoomModel" "mKind" "[I", .fieldLink RX10 144 "FondsRoomModel" "mWho" "[I", .methodLink RX10 156 yX10_in, .static yX10_in, .initialized RX10, .code yX10_in cX10_in 3 (some .boolean)] := goodIn_s segsL segsL_in _ [(7, 3), (9, 1), (4, 20), (4, 21), (7, 4), (13, 5), (6, 12), (6, 13), (6, 14), (7, 21), (7, 22), (0, 5), (7, 23)] rfl (by decide +kernel)
theorem ggL_law_X10_mishap : GoodIn wsL_law0 wsX10_mishap := fun w h => (List.mem_cons.mp h).elim (fun e => ggL_law_X10_mishap_c w (List.mem_singleton.mpr e)) (fun h => (goodIn_app ggL_law_X10_mishap_l gW_wsX100) w h)
set_option maxRecDepth 20000 in
theorem gL_law_X10_mishap : GoodIn wsL_law0 (wsV RL 65 RX10 yX10_mishap wsX10_mishap) := goodIn_app (goodIn_s segsL segsL_in _ [(13, 1), (13, 2), (13, 3), (0, 5)] rfl (by decide +kernel)) ggL_law_X10_mishap
set_option maxRecDepth 20000 in
theorem ggL_law_X9_run_c : GoodIn wsL_law0 [.code yX9_run cX9_run 3 (some .int)] := goodIn_s segsL segsL_in _ [(13, 9)] rfl (by decide +kernel)
set_option maxRecDepth 20000 in
theorem ggL_law_X9_run_wsX9_run_r1 : GoodIn wsL_law0 wsX9_run_r1 := goodIn_s segsL segsL_in _ [(6, 20), (7, 13), (7, 14), (0, 2), (7, 15), (13, 10), (13, 11), (13, 12), (13, 13), (1, 21), (13, 14), (13, 15), (13, 16), (13, 17), (1, 15), (13, 18), (13, 19), (13, 20), (13, 21), (13, 22), (13, 23), (14, 0), (14, 1), (0, 22)] rfl (by decide +kernel)
set_option maxRecDepth 20000 in
theorem ggL_law_X9_run_wsX9_run_r2 : GoodIn wsL_law0 wsX9_run_r2 := goodIn_s segsL segsL_in _ [(1, 4), (14, 2), (1, 5), (12, 12), (12, 13), (12, 14), (12, 15), (9, 15), (9, 16), (9, 17), (9, 18), (8, 13), (12, 16), (12, 17), (12, 18), (1, 3), (12, 19), (3, 16), (3, 13), (14, 3), (14, 4), (14, 5), (9, 22), (9, 19)] rfl (by decide +kernel)
set_option maxRecDepth 20000 in
theorem ggL_law_X9_run_wsX9_run_r3 : GoodIn wsL_law0 wsX9_run_r3 := goodIn_s segsL segsL_in _ [(9, 20), (9, 21), (14, 6), (14, 7), (14, 8), (14, 9), (1, 9), (7, 10), (0, 18), (14, 10), (14, 11), (14, 12), (14, 13), (1, 19), (14, 14), (14, 15), (14, 16), (14, 17), (1, 8), (14, 18), (14, 19), (4, 1), (14, 20), (14, 21)] rfl (by decide +kernel)
set_option maxRecDepth 20000 in
theorem ggL_law_X9_run_wsX9_run_r4 : GoodIn wsL_law0 wsX9_run_r4 := goodIn_s segsL segsL_in _ [(14, 22), (14, 23), (1, 10), (1, 11), (15, 0), (15, 1), (15, 2), (15, 3), (15, 4), (1, 18), (15, 5), (15, 6), (4, 13), (15, 7), (15, 8), (15, 9), (15, 10), (15, 11), (15, 12), (15, 13), (15, 14), (3, 15), (15, 15), (15, 16)] rfl (by decide +kernel)
set_option maxRecDepth 20000 in
theorem ggL_law_X9_run_wsX9_run_r5 : GoodIn wsL_law0 wsX9_run_r5 := goodIn_s segsL segsL_in _ [(15, 17), (15, 18), (15, 19), (15, 20), (15, 21), (15, 22), (15, 23), (16, 0), (16, 1), (1, 14), (16, 2), (13, 0), (4, 6), (4, 7), (4, 8), (16, 3), (16, 4), (16, 5), (16, 6), (8, 4), (16, 7), (16, 8), (16, 9), (16, 10)] rfl (by decide +kernel)
set_option maxRecDepth 20000 in
theorem ggL_law_X9_run_wsX9_run_r6 : GoodIn wsL_law0 wsX9_run_r6 := goodIn_s segsL segsL_in _ [(16, 11), (16, 12), (16, 13), (16, 14), (16, 15), (16, 16), (16, 17), (16, 18), (16, 19), (16, 20), (16, 21), (16, 22), (16, 23), (17, 0), (17, 1), (17, 2), (17, 3), (17, 4), (17, 5), (17, 6), (17, 7), (17, 8), (17, 9), (17, 10)] rfl (by decide +kernel)
set_option maxRecDepth 20000 in
theorem ggL_law_X9_run_wsX9_run_r7 : GoodIn wsL_law0 wsX9_run_r7 := goodIn_s segsL segsL_in _ [(17, 11), (17, 12), (17, 13), (17, 14), (17, 15), (17, 16), (9, 14), (17, 17), (17, 18), (17, 19), (17, 20), (17, 21), (17, 22), (9, 6), (9, 7), (9, 8), (9, 9), (17, 23), (18, 0), (18, 1), (18, 2), (18, 3), (18, 4), (18, 5)] rfl (by decide +kernel)
set_option maxRecDepth 20000 in
theorem ggL_law_X9_run_wsX9_run_r8 : GoodIn wsL_law0 wsX9_run_r8 := goodIn_s segsL segsL_in _ [(18, 6), (7, 12), (6, 22), (7, 11), (18, 7), (18, 8), (18, 9), (18, 10), (18, 11), (18, 12), (18, 13), (18, 14), (18, 15), (18, 16), (18, 17), (18, 18), (18, 19), (18, 20), (18, 21), (2, 15), (18, 22), (18, 23), (3, 3), (19, 0)] rfl (by decide +kernel)
set_option maxRecDepth 20000 in
theorem ggL_law_X9_run_wsX9_run_r9 : GoodIn wsL_law0 wsX9_run_r9 := goodIn_s segsL segsL_in _ [(19, 1), (19, 2), (19, 3), (19, 4), (19, 5), (19, 6), (19, 7), (19, 8), (19, 9), (19, 10), (19, 11), (19, 12), (19, 13), (19, 14), (19, 15), (19, 16), (19, 17), (8, 14), (19, 18), (19, 19), (19, 20), (19, 21), (19, 22), (19, 23)] rfl (by decide +kernel)
set_option maxRecDepth 20000 in
theorem ggL_law_X9_run_wsX9_run_r10 : GoodIn wsL_law0 wsX9_run_r10 := goodIn_s segsL segsL_in _ [(20, 0), (20, 1), (1, 0), (20, 2), (20, 3), (20, 4), (2, 12), (20, 5), (20, 6), (20, 7), (20, 8), (20, 9), (20, 10), (20, 11), (20, 12), (20, 13), (20, 14), (20, 15), (20, 16), (8, 16), (20, 17), (20, 18), (20, 19), (20, 20)] rfl (by decide +kernel)
set_option maxRecDepth 20000 in
theorem ggL_law_X9_run_wsX9_run_r11 : GoodIn wsL_law0 wsX9_run_r11 := goodIn_s segsL segsL_in _ [(6, 21), (0, 14), (20, 21), (20, 22), (20, 23), (21, 0), (21, 1), (21, 2), (21, 3), (21, 4), (21, 5), (21, 6), (21, 7), (21, 8), (21, 9), (21, 10), (21, 11), (21, 12), (21, 13), (21, 14), (21, 15), (21, 16), (1, 20), (21, 17)] rfl (by decide +kernel)
set_option maxRecDepth 20000 in
theorem ggL_law_X9_run_wsX9_run_r12 : GoodIn wsL_law0 wsX9_run_r12 := goodIn_s segsL segsL_in _ [(21, 18), (21, 19), (21, 20), (21, 21), (21, 22), (21, 23), (22, 0), (22, 1), (22, 2), (22, 3), (22, 4), (22, 5), (22, 6), (22, 7), (22, 8), (22, 9), (22, 10), (22, 11), (22, 12), (22, 13), (22, 14), (22, 15), (22, 16), (22, 17)] rfl (by decide +kernel)
set_option maxRecDepth 20000 in
theorem ggL_law_X9_run_wsX9_run_r13 : GoodIn wsL_law0 wsX9_run_r13 := goodIn_s segsL segsL_in _ [(22, 18), (22, 19), (22, 20), (22, 21), (22, 22), (3, 10), (22, 23), (23, 0), (23, 1), (23, 2), (23, 3), (23, 4), (23, 5), (23, 6), (23, 7), (23, 8), (23, 9), (23, 10), (23, 11), (23, 12), (23, 13), (23, 14)] rfl (by decide +kernel)
theorem ggL_law_X9_run : GoodIn wsL_law0 wsX9_run := fun w h => (List.mem_cons.mp h).elim (fun e => ggL_law_X9_run_c w (List.mem_singleton.mpr e)) (fun h => (goodIn_app (goodIn_app (goodIn_app (goodIn_app (goodIn_app (goodIn_app (goodIn_app (goodIn_app (goodIn_app (goodIn_app (goodIn_app ggL_law_X9_run_wsX9_run_r1 (goodIn_app ggL_law_X9_run_wsX9_run_r2 (goodIn_app ggL_law_X9_run_wsX9_run_r3 (goodIn_app ggL_law_X9_run_wsX9_run_r4 (goodIn_app ggL_law_X9_run_wsX9_run_r5 (goodIn_app ggL_law_X9_run_wsX9_run_r6 (goodIn_app ggL_law_X9_run_wsX9_run_r7 (goodIn_app ggL_law_X9_run_wsX9_run_r8 (goodIn_app ggL_law_X9_run_wsX9_run_r9 (goodIn_app ggL_law_X9_run_wsX9_run_r10 (goodIn_app ggL_law_X9_run_wsX9_run_r11 (goodIn_app ggL_law_X9_run_wsX9_run_r12 ggL_law_X9_run_wsX9_run_r13)))))))))))) gW_wsX90) gW_wsX40) gW_wsX70) gW_wsX60) gW_wsX00) gW_wsX10) gW_wsX30) gW_wsX20) gW_wsX80) gW_wsX50) w h)
set_option maxRecDepth 20000 in
theorem gL_law_X9_run : GoodIn wsL_law0 (wsV RL 66 RX9 yX9_run wsX9_run) := goodIn_app (goodIn_s segsL segsL_in _ [(13, 6), (13, 7), (13, 8), (0, 2)] rfl (by decide +kernel)) ggL_law_X9_run
set_option maxRecDepth 20000 in
theorem ggL_law_X10_run_c : GoodIn wsL_law0 [.code yX10_run cX10_run 3 (some .int)] := goodIn_s segsL segsL_in _ [(23, 18)] rfl (by decide +kernel)
set_option maxRecDepth 20000 in
theorem ggL_law_X10_run_wsX10_run_r1 : GoodIn wsL_law0 wsX10_run_r1 := goodIn_s segsL segsL_in _ [(7, 3), (7, 4), (7, 21), (7, 22), (0, 5), (7, 23), (23, 19), (23, 20), (23, 21), (23, 22), (9, 1), (5, 12), (5, 16), (5, 9), (5, 17), (5, 22), (23, 23), (24, 0), (24, 1), (24, 2), (13, 5), (6, 12), (6, 13), (6, 14)] rfl (by decide +kernel)
set_option maxRecDepth 20000 in
theorem ggL_law_X10_run_wsX10_run_r2 : GoodIn wsL_law0 wsX10_run_r2 := goodIn_s segsL segsL_in _ [(24, 3), (24, 4), (24, 5), (24, 6), (6, 3), (5, 2), (6, 5), (6, 6), (5, 3), (24, 7), (24, 8), (24, 9), (24, 10), (24, 11), (24, 12), (24, 13), (24, 14), (7, 20), (5, 4), (24, 15), (24, 16), (24, 17), (24, 18), (24, 19)] rfl (by decide +kernel)
set_option maxRecDepth 20000 in
theorem ggL_law_X10_run_wsX10_run_r3 : GoodIn wsL_law0 wsX10_run_r3 := goodIn_s segsL segsL_in _ [(24, 20), (24, 21), (24, 22), (5, 13), (4, 23), (24, 23), (25, 0), (25, 1), (25, 2), (25, 3), (6, 8), (6, 9), (6, 10), (6, 11), (25, 4), (25, 5), (25, 6), (25, 7), (4, 18), (4, 20), (25, 8), (25, 9), (25, 10), (25, 11)] rfl (by decide +kernel)
set_option maxRecDepth 20000 in
theorem ggL_law_X10_run_wsX10_run_r4 : GoodIn wsL_law0 wsX10_run_r4 := goodIn_s segsL segsL_in _ [(6, 4), (25, 12), (25, 13), (25, 14), (25, 15), (4, 21), (6, 7), (25, 16), (5, 19), (25, 17), (25, 18), (25, 19), (25, 20), (5, 15), (5, 14), (25, 21), (25, 22), (25, 23), (26, 0), (6, 0), (5, 23), (5, 5), (26, 1), (6, 1)] rfl (by decide +kernel)
set_option maxRecDepth 20000 in
theorem ggL_law_X10_run_wsX10_run_r5 : GoodIn wsL_law0 wsX10_run_r5 := goodIn_s segsL segsL_in _ [(5, 6), (5, 7), (5, 8), (6, 2), (26, 2), (26, 3), (26, 4), (26, 5), (5, 1), (4, 22), (5, 0), (26, 6), (26, 7), (26, 8), (26, 9), (26, 10), (26, 11), (26, 12), (26, 13), (5, 21), (5, 20), (26, 14), (26, 15), (26, 16)] rfl (by decide +kernel)
set_option maxRecDepth 20000 in
theorem ggL_law_X10_run_wsX10_run_r6 : GoodIn wsL_law0 wsX10_run_r6 := goodIn_s segsL segsL_in _ [(26, 17), (26, 18), (6, 15), (5, 18), (26, 19), (26, 20), (26, 21), (26, 22), (26, 23), (27, 0), (27, 1), (27, 2), (5, 10), (27, 3), (27, 4), (27, 5), (27, 6), (7, 5), (5, 11), (27, 7), (27, 8), (27, 9), (27, 10), (4, 19)] rfl (by decide +kernel)
set_option maxRecDepth 20000 in
theorem ggL_law_X10_run_wsX10_run_r7 : GoodIn wsL_law0 wsX10_run_r7 := goodIn_s segsL segsL_in _ [(27, 11), (27, 12), (27, 13), (27, 14), (27, 15), (27, 16), (27, 17), (27, 18), (27, 19), (27, 20), (27, 21), (27, 22), (27, 23), (28, 0), (28, 1), (22, 22), (3, 10), (22, 23), (28, 2), (28, 3), (28, 4), (28, 5)] rfl (by decide +kernel)
theorem ggL_law_X10_run : GoodIn wsL_law0 wsX10_run := fun w h => (List.mem_cons.mp h).elim (fun e => ggL_law_X10_run_c w (List.mem_singleton.mpr e)) (fun h => (goodIn_app (goodIn_app ggL_law_X10_run_wsX10_run_r1 (goodIn_app ggL_law_X10_run_wsX10_run_r2 (goodIn_app ggL_law_X10_run_wsX10_run_r3 (goodIn_app ggL_law_X10_run_wsX10_run_r4 (goodIn_app ggL_law_X10_run_wsX10_run_r5 (goodIn_app ggL_law_X10_run_wsX10_run_r6 ggL_law_X10_run_wsX10_run_r7)))))) gW_wsX100) w h)
set_option maxRecDepth 20000 in
theorem gL_law_X10_run : GoodIn wsL_law0 (wsV RL 70 RX10 yX10_run wsX10_run) := goodIn_app (goodIn_s segsL segsL_in _ [(23, 15), (23, 16), (23, 17), (0, 5)] rfl (by decide +kernel)) ggL_law_X10_run
set_option maxRecDepth 20000 in
theorem ggL_law_X9_about_c : GoodIn wsL_law0 [.code yX9_about cX9_about 4 (some .int)] := goodIn_s segsL segsL_in _ [(28, 9)] rfl (by decide +kernel)
set_option maxRecDepth 20000 in
theorem ggL_law_X9_about_wsX9_about_r1 : GoodIn wsL_law0 wsX9_about_r1 := goodIn_s segsL segsL_in _ [(0, 22), (9, 22), (14, 12), (21, 3), (9, 14), (17, 17), (17, 8), (23, 12), (23, 13), (23, 14), (21, 2), (17, 3), (28, 10), (9, 15), (9, 16), (9, 17), (0, 2), (9, 18), (8, 13), (18, 7), (18, 8), (18, 9), (18, 10), (7, 10)] rfl (by decide +kernel)
set_option maxRecDepth 20000 in
theorem ggL_law_X9_about_wsX9_about_r2 : GoodIn wsL_law0 wsX9_about_r2 := goodIn_s segsL segsL_in _ [(0, 18), (14, 10)] rfl (by decide +kernel)
theorem ggL_law_X9_about : GoodIn wsL_law0 wsX9_about := fun w h => (List.mem_cons.mp h).elim (fun e => ggL_law_X9_about_c w (List.mem_singleton.mpr e)) (fun h => (goodIn_app (goodIn_app (goodIn_app (goodIn_app (goodIn_app (goodIn_app ggL_law_X9_about_wsX9_about_r1 ggL_law_X9_about_wsX9_about_r2) gW_wsX90) gW_wsX60) gW_wsX10) gW_wsX50) gW_wsX00) w h)
set_option maxRecDepth 20000 in
theorem gL_law_X9_about : GoodIn wsL_law0 (wsV RL 71 RX9 yX9_about wsX9_about) := goodIn_app (goodIn_s segsL segsL_in _ [(28, 6), (28, 7), (28, 8), (0, 2)] rfl (by decide +kernel)) ggL_law_X9_about
set_option maxRecDepth 20000 in
theorem ggL_law_X10_about_c : GoodIn wsL_law0 [.code yX10_about cX10_about 3 (some .int)] := goodIn_s segsL segsL_in _ [(28, 14)] rfl (by decide +kernel)
set_option maxRecDepth 20000 in
theorem ggL_law_X10_about_l : GoodIn wsL_law0 [.fieldLink RX10 150 "FondsRoomModel" "thrown" "I", .fieldLink RX10 66 "FondsRoomModel" "state" "[I", .fieldLink RX10 69 "FondsRoomModel" "desk" "[I", .fieldLink RX10 75 "FondsRoomModel" "next" "[I", .fieldLink RX10 78 "FondsRoomModel" "left" "[I", .fieldLink RX10 96 "FondsRoomModel" "waited" "[I", .fieldLink RX10 84 "FondsRoomModel" "overtaken" "[I", .fieldLink RX10 87 "FondsRoomModel" "madeFor" "[I", .fieldLink RX10 90 "FondsRoomModel" "refusals" "[I", .methodLink RX10 169 yX10_isReader, .instanceMethod yX10_isReader, .selects RX10 yX10_isReader yX10_isReader, .initialized RX10, .code yX10_isReader cX10_isReader 2 (some .boolean), .fieldLink RX10 153 "FondsRoomModel" "readers" "I", .methodLink RX10 156 yX10_in, .static yX10_in, .code yX10_in cX10_in 3 (some .boolean), .methodLink RX10 213 yX10_hasMany, .instanceMethod yX10_hasMany, .selects RX10 yX10_hasMany yX10_hasMany, .code yX10_hasMany cX10_hasMany 4 (some .int), .fieldLink RX10 160 "FondsRoomModel" "boxes" "I", .fieldLink RX10 39 "FondsRoomModel" "has" "[I"] := goodIn_s segsL segsL_in _ [(7, 3), (5, 12), (5, 13), (5, 15), (5, 16), (5, 22), (5, 18), (5, 19), (5, 20), (10, 12), (10, 13), (10, 14), (0, 5), (10, 15), (9, 1), (7, 21), (7, 22), (7, 23), (26, 6), (26, 7), (26, 8), (26, 9), (7, 20), (5, 3)] rfl (by decide +kernel)
theorem ggL_law_X10_about : GoodIn wsL_law0 wsX10_about := fun w h => (List.mem_cons.mp h).elim (fun e => ggL_law_X10_about_c w (List.mem_singleton.mpr e)) (fun h => (goodIn_app ggL_law_X10_about_l gW_wsX100) w h)
