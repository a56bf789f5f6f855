theorem dJ9_max_7cf53_0 : decode cJ9_max_7cf53 0 = .ok (.iload_n 0, 1) := by decide +kernel
theorem dJ9_max_7cf53_1 : decode cJ9_max_7cf53 1 = .ok (.iload_n 1, 1) := by decide +kernel
theorem dJ9_max_7cf53_2 : decode cJ9_max_7cf53 2 = .ok (.if_icmp .lt 7, 3) := by decide +kernel
theorem dJ9_max_7cf53_5 : decode cJ9_max_7cf53 5 = .ok (.iload_n 0, 1) := by decide +kernel
theorem dJ9_max_7cf53_6 : decode cJ9_max_7cf53 6 = .ok (.goto 4, 3) := by decide +kernel
theorem dJ9_max_7cf53_9 : decode cJ9_max_7cf53 9 = .ok (.iload_n 1, 1) := by decide +kernel
theorem dJ9_max_7cf53_10 : decode cJ9_max_7cf53 10 = .ok (.ireturn, 1) := by decide +kernel
theorem dJ9_min_7cf53_0 : decode cJ9_min_7cf53 0 = .ok (.iload_n 0, 1) := by decide +kernel
theorem dJ9_min_7cf53_1 : decode cJ9_min_7cf53 1 = .ok (.iload_n 1, 1) := by decide +kernel
theorem dJ9_min_7cf53_2 : decode cJ9_min_7cf53 2 = .ok (.if_icmp .gt 7, 3) := by decide +kernel
theorem dJ9_min_7cf53_5 : decode cJ9_min_7cf53 5 = .ok (.iload_n 0, 1) := by decide +kernel
theorem dJ9_min_7cf53_6 : decode cJ9_min_7cf53 6 = .ok (.goto 4, 3) := by decide +kernel
theorem dJ9_min_7cf53_9 : decode cJ9_min_7cf53 9 = .ok (.iload_n 1, 1) := by decide +kernel
theorem dJ9_min_7cf53_10 : decode cJ9_min_7cf53 10 = .ok (.ireturn, 1) := by decide +kernel
theorem dX0_init_0 : decode cX0_init 0 = .ok (.aload_n 0, 1) := by decide +kernel
theorem dX0_init_1 : decode cX0_init 1 = .ok (.invokespecial 1, 3) := by decide +kernel
theorem dX0_init_4 : decode cX0_init 4 = .ok (.aload_n 0, 1) := by decide +kernel
theorem dX0_init_5 : decode cX0_init 5 = .ok (.iload_n 1, 1) := by decide +kernel
theorem dX0_init_6 : decode cX0_init 6 = .ok (.putfield 7, 3) := by decide +kernel
theorem dX0_init_9 : decode cX0_init 9 = .ok (.return_, 1) := by decide +kernel
theorem dX1_init_0 : decode cX1_init 0 = .ok (.aload_n 0, 1) := by decide +kernel
theorem dX1_init_1 : decode cX1_init 1 = .ok (.invokespecial 1, 3) := by decide +kernel
theorem dX1_init_4 : decode cX1_init 4 = .ok (.aload_n 0, 1) := by decide +kernel
theorem dX1_init_5 : decode cX1_init 5 = .ok (.iload_n 1, 1) := by decide +kernel
theorem dX1_init_6 : decode cX1_init 6 = .ok (.putfield 7, 3) := by decide +kernel
theorem dX1_init_9 : decode cX1_init 9 = .ok (.return_, 1) := by decide +kernel
theorem dX2_init_0 : decode cX2_init 0 = .ok (.aload_n 0, 1) := by decide +kernel
theorem dX2_init_1 : decode cX2_init 1 = .ok (.invokespecial 3, 3) := by decide +kernel
theorem dX2_init_4 : decode cX2_init 4 = .ok (.aload_n 0, 1) := by decide +kernel
theorem dX2_init_5 : decode cX2_init 5 = .ok (.sipush 1600, 3) := by decide +kernel
theorem dX2_init_8 : decode cX2_init 8 = .ok (.newarray .int, 2) := by decide +kernel
theorem dX2_init_10 : decode cX2_init 10 = .ok (.putfield 11, 3) := by decide +kernel
theorem dX2_init_13 : decode cX2_init 13 = .ok (.return_, 1) := by decide +kernel
theorem dX2_keep_0 : decode cX2_keep 0 = .ok (.aload_n 0, 1) := by decide +kernel
theorem dX2_keep_1 : decode cX2_keep 1 = .ok (.getfield 15, 3) := by decide +kernel
theorem dX2_keep_4 : decode cX2_keep 4 = .ok (.sipush 400, 3) := by decide +kernel
theorem dX2_keep_7 : decode cX2_keep 7 = .ok (.if_icmp .lt 4, 3) := by decide +kernel
theorem dX2_keep_10 : decode cX2_keep 10 = .ok (.return_, 1) := by decide +kernel
theorem dX2_keep_11 : decode cX2_keep 11 = .ok (.aload_n 0, 1) := by decide +kernel
theorem dX2_keep_12 : decode cX2_keep 12 = .ok (.getfield 15, 3) := by decide +kernel
theorem dX2_keep_15 : decode cX2_keep 15 = .ok (.iconst 4, 1) := by decide +kernel
theorem dX2_keep_16 : decode cX2_keep 16 = .ok (.imul, 1) := by decide +kernel
theorem dX2_keep_17 : decode cX2_keep 17 = .ok (.istore 5, 2) := by decide +kernel
theorem dX2_keep_19 : decode cX2_keep 19 = .ok (.aload_n 0, 1) := by decide +kernel
theorem dX2_keep_20 : decode cX2_keep 20 = .ok (.getfield 11, 3) := by decide +kernel
theorem dX2_keep_23 : decode cX2_keep 23 = .ok (.iload 5, 2) := by decide +kernel
theorem dX2_keep_25 : decode cX2_keep 25 = .ok (.iload_n 1, 1) := by decide +kernel
theorem dX2_keep_26 : decode cX2_keep 26 = .ok (.iastore, 1) := by decide +kernel
theorem dX2_keep_27 : decode cX2_keep 27 = .ok (.aload_n 0, 1) := by decide +kernel
theorem dX2_keep_28 : decode cX2_keep 28 = .ok (.getfield 11, 3) := by decide +kernel
theorem dX2_keep_31 : decode cX2_keep 31 = .ok (.iload 5, 2) := by decide +kernel
theorem dX2_keep_33 : decode cX2_keep 33 = .ok (.iconst 1, 1) := by decide +kernel
theorem dX2_keep_34 : decode cX2_keep 34 = .ok (.iadd, 1) := by decide +kernel
theorem dX2_keep_35 : decode cX2_keep 35 = .ok (.iload_n 2, 1) := by decide +kernel
theorem dX2_keep_36 : decode cX2_keep 36 = .ok (.iastore, 1) := by decide +kernel
theorem dX2_keep_37 : decode cX2_keep 37 = .ok (.aload_n 0, 1) := by decide +kernel
theorem dX2_keep_38 : decode cX2_keep 38 = .ok (.getfield 11, 3) := by decide +kernel
theorem dX2_keep_41 : decode cX2_keep 41 = .ok (.iload 5, 2) := by decide +kernel
theorem dX2_keep_43 : decode cX2_keep 43 = .ok (.iconst 2, 1) := by decide +kernel
theorem dX2_keep_44 : decode cX2_keep 44 = .ok (.iadd, 1) := by decide +kernel
theorem dX2_keep_45 : decode cX2_keep 45 = .ok (.iload_n 3, 1) := by decide +kernel
theorem dX2_keep_46 : decode cX2_keep 46 = .ok (.iastore, 1) := by decide +kernel
theorem dX2_keep_47 : decode cX2_keep 47 = .ok (.aload_n 0, 1) := by decide +kernel
theorem dX2_keep_48 : decode cX2_keep 48 = .ok (.getfield 11, 3) := by decide +kernel
theorem dX2_keep_51 : decode cX2_keep 51 = .ok (.iload 5, 2) := by decide +kernel
theorem dX2_keep_53 : decode cX2_keep 53 = .ok (.iconst 3, 1) := by decide +kernel
theorem dX2_keep_54 : decode cX2_keep 54 = .ok (.iadd, 1) := by decide +kernel
theorem dX2_keep_55 : decode cX2_keep 55 = .ok (.iload 4, 2) := by decide +kernel
theorem dX2_keep_57 : decode cX2_keep 57 = .ok (.iastore, 1) := by decide +kernel
theorem dX2_keep_58 : decode cX2_keep 58 = .ok (.aload_n 0, 1) := by decide +kernel
theorem dX2_keep_59 : decode cX2_keep 59 = .ok (.dup, 1) := by decide +kernel
theorem dX2_keep_60 : decode cX2_keep 60 = .ok (.getfield 15, 3) := by decide +kernel
theorem dX2_keep_63 : decode cX2_keep 63 = .ok (.iconst 1, 1) := by decide +kernel
theorem dX2_keep_64 : decode cX2_keep 64 = .ok (.iadd, 1) := by decide +kernel
theorem dX2_keep_65 : decode cX2_keep 65 = .ok (.putfield 15, 3) := by decide +kernel
theorem dX2_keep_68 : decode cX2_keep 68 = .ok (.return_, 1) := by decide +kernel
theorem dX2_hasEntry_0 : decode cX2_hasEntry 0 = .ok (.iload_n 1, 1) := by decide +kernel
theorem dX2_hasEntry_1 : decode cX2_hasEntry 1 = .ok (.ifCond .lt 24, 3) := by decide +kernel
theorem dX2_hasEntry_4 : decode cX2_hasEntry 4 = .ok (.iload_n 1, 1) := by decide +kernel
theorem dX2_hasEntry_5 : decode cX2_hasEntry 5 = .ok (.aload_n 0, 1) := by decide +kernel
theorem dX2_hasEntry_6 : decode cX2_hasEntry 6 = .ok (.getfield 15, 3) := by decide +kernel
theorem dX2_hasEntry_9 : decode cX2_hasEntry 9 = .ok (.if_icmp .ge 16, 3) := by decide +kernel
theorem dX2_hasEntry_12 : decode cX2_hasEntry 12 = .ok (.iload_n 2, 1) := by decide +kernel
theorem dX2_hasEntry_13 : decode cX2_hasEntry 13 = .ok (.ifCond .lt 12, 3) := by decide +kernel
theorem dX2_hasEntry_16 : decode cX2_hasEntry 16 = .ok (.iload_n 2, 1) := by decide +kernel
theorem dX2_hasEntry_17 : decode cX2_hasEntry 17 = .ok (.iconst 4, 1) := by decide +kernel
theorem dX2_hasEntry_18 : decode cX2_hasEntry 18 = .ok (.if_icmp .ge 7, 3) := by decide +kernel
theorem dX2_hasEntry_21 : decode cX2_hasEntry 21 = .ok (.iconst 1, 1) := by decide +kernel
theorem dX2_hasEntry_22 : decode cX2_hasEntry 22 = .ok (.goto 4, 3) := by decide +kernel
theorem dX2_hasEntry_25 : decode cX2_hasEntry 25 = .ok (.iconst 0, 1) := by decide +kernel
theorem dX2_hasEntry_26 : decode cX2_hasEntry 26 = .ok (.ireturn, 1) := by decide +kernel
theorem dX2_entry_0 : decode cX2_entry 0 = .ok (.aload_n 0, 1) := by decide +kernel
theorem dX2_entry_1 : decode cX2_entry 1 = .ok (.iload_n 1, 1) := by decide +kernel
theorem dX2_entry_2 : decode cX2_entry 2 = .ok (.iload_n 2, 1) := by decide +kernel
theorem dX2_entry_3 : decode cX2_entry 3 = .ok (.invokevirtual 19, 3) := by decide +kernel
theorem dX2_entry_6 : decode cX2_entry 6 = .ok (.ifCond .eq 16, 3) := by decide +kernel
theorem dX2_entry_9 : decode cX2_entry 9 = .ok (.aload_n 0, 1) := by decide +kernel
theorem dX2_entry_10 : decode cX2_entry 10 = .ok (.getfield 11, 3) := by decide +kernel
theorem dX2_entry_13 : decode cX2_entry 13 = .ok (.iload_n 1, 1) := by decide +kernel
theorem dX2_entry_14 : decode cX2_entry 14 = .ok (.iconst 4, 1) := by decide +kernel
theorem dX2_entry_15 : decode cX2_entry 15 = .ok (.imul, 1) := by decide +kernel
theorem dX2_entry_16 : decode cX2_entry 16 = .ok (.iload_n 2, 1) := by decide +kernel
theorem dX2_entry_17 : decode cX2_entry 17 = .ok (.iadd, 1) := by decide +kernel
theorem dX2_entry_18 : decode cX2_entry 18 = .ok (.iaload, 1) := by decide +kernel
theorem dX2_entry_19 : decode cX2_entry 19 = .ok (.goto 4, 3) := by decide +kernel
theorem dX2_entry_22 : decode cX2_entry 22 = .ok (.iconst (-1), 1) := by decide +kernel
theorem dX2_entry_23 : decode cX2_entry 23 = .ok (.ireturn, 1) := by decide +kernel
theorem dX3_init_0 : decode cX3_init 0 = .ok (.aload_n 0, 1) := by decide +kernel
theorem dX3_init_1 : decode cX3_init 1 = .ok (.invokespecial 3, 3) := by decide +kernel
theorem dX3_init_4 : decode cX3_init 4 = .ok (.aload_n 0, 1) := by decide +kernel
theorem dX3_init_5 : decode cX3_init 5 = .ok (.bipush 20, 2) := by decide +kernel
theorem dX3_init_7 : decode cX3_init 7 = .ok (.anewarray 9, 3) := by decide +kernel
theorem dX3_init_10 : decode cX3_init 10 = .ok (.putfield 11, 3) := by decide +kernel
theorem dX3_init_13 : decode cX3_init 13 = .ok (.return_, 1) := by decide +kernel
theorem dX3_at_0 : decode cX3_at 0 = .ok (.iload_n 1, 1) := by decide +kernel
theorem dX3_at_1 : decode cX3_at 1 = .ok (.ifCond .lt 20, 3) := by decide +kernel
theorem dX3_at_4 : decode cX3_at 4 = .ok (.iload_n 1, 1) := by decide +kernel
theorem dX3_at_5 : decode cX3_at 5 = .ok (.aload_n 0, 1) := by decide +kernel
theorem dX3_at_6 : decode cX3_at 6 = .ok (.getfield 17, 3) := by decide +kernel
theorem dX3_at_9 : decode cX3_at 9 = .ok (.if_icmp .ge 12, 3) := by decide +kernel
theorem dX3_at_12 : decode cX3_at 12 = .ok (.aload_n 0, 1) := by decide +kernel
theorem dX3_at_13 : decode cX3_at 13 = .ok (.getfield 11, 3) := by decide +kernel
theorem dX3_at_16 : decode cX3_at 16 = .ok (.iload_n 1, 1) := by decide +kernel
theorem dX3_at_17 : decode cX3_at 17 = .ok (.aaload, 1) := by decide +kernel
theorem dX3_at_18 : decode cX3_at 18 = .ok (.goto 4, 3) := by decide +kernel
theorem dX3_at_21 : decode cX3_at 21 = .ok (.aconst_null, 1) := by decide +kernel
theorem dX3_at_22 : decode cX3_at 22 = .ok (.areturn, 1) := by decide +kernel
theorem dX3_append_0 : decode cX3_append 0 = .ok (.aload_n 0, 1) := by decide +kernel
theorem dX3_append_1 : decode cX3_append 1 = .ok (.getfield 17, 3) := by decide +kernel
theorem dX3_append_4 : decode cX3_append 4 = .ok (.bipush 20, 2) := by decide +kernel
theorem dX3_append_6 : decode cX3_append 6 = .ok (.if_icmp .ge 23, 3) := by decide +kernel
theorem dX3_append_9 : decode cX3_append 9 = .ok (.aload_n 0, 1) := by decide +kernel
theorem dX3_append_10 : decode cX3_append 10 = .ok (.getfield 11, 3) := by decide +kernel
theorem dX3_append_13 : decode cX3_append 13 = .ok (.aload_n 0, 1) := by decide +kernel
theorem dX3_append_14 : decode cX3_append 14 = .ok (.getfield 17, 3) := by decide +kernel
theorem dX3_append_17 : decode cX3_append 17 = .ok (.aload_n 1, 1) := by decide +kernel
theorem dX3_append_18 : decode cX3_append 18 = .ok (.aastore, 1) := by decide +kernel
theorem dX3_append_19 : decode cX3_append 19 = .ok (.aload_n 0, 1) := by decide +kernel
theorem dX3_append_20 : decode cX3_append 20 = .ok (.dup, 1) := by decide +kernel
theorem dX3_append_21 : decode cX3_append 21 = .ok (.getfield 17, 3) := by decide +kernel
theorem dX3_append_24 : decode cX3_append 24 = .ok (.iconst 1, 1) := by decide +kernel
theorem dX3_append_25 : decode cX3_append 25 = .ok (.iadd, 1) := by decide +kernel
theorem dX3_append_26 : decode cX3_append 26 = .ok (.putfield 17, 3) := by decide +kernel
theorem dX3_append_29 : decode cX3_append 29 = .ok (.return_, 1) := by decide +kernel
theorem dX3_insertByRank_0 : decode cX3_insertByRank 0 = .ok (.aload_n 0, 1) := by decide +kernel
theorem dX3_insertByRank_1 : decode cX3_insertByRank 1 = .ok (.getfield 17, 3) := by decide +kernel
theorem dX3_insertByRank_4 : decode cX3_insertByRank 4 = .ok (.bipush 20, 2) := by decide +kernel
theorem dX3_insertByRank_6 : decode cX3_insertByRank 6 = .ok (.if_icmp .lt 4, 3) := by decide +kernel
theorem dX3_insertByRank_9 : decode cX3_insertByRank 9 = .ok (.return_, 1) := by decide +kernel
theorem dX3_insertByRank_10 : decode cX3_insertByRank 10 = .ok (.aload_n 0, 1) := by decide +kernel
theorem dX3_insertByRank_11 : decode cX3_insertByRank 11 = .ok (.getfield 17, 3) := by decide +kernel
theorem dX3_insertByRank_14 : decode cX3_insertByRank 14 = .ok (.istore_n 2, 1) := by decide +kernel
theorem dX3_insertByRank_15 : decode cX3_insertByRank 15 = .ok (.iload_n 2, 1) := by decide +kernel
theorem dX3_insertByRank_16 : decode cX3_insertByRank 16 = .ok (.ifCond .le 38, 3) := by decide +kernel
theorem dX3_insertByRank_19 : decode cX3_insertByRank 19 = .ok (.aload_n 1, 1) := by decide +kernel
theorem dX3_insertByRank_20 : decode cX3_insertByRank 20 = .ok (.aload_n 0, 1) := by decide +kernel
theorem dX3_insertByRank_21 : decode cX3_insertByRank 21 = .ok (.getfield 11, 3) := by decide +kernel
theorem dX3_insertByRank_24 : decode cX3_insertByRank 24 = .ok (.iload_n 2, 1) := by decide +kernel
theorem dX3_insertByRank_25 : decode cX3_insertByRank 25 = .ok (.iconst 1, 1) := by decide +kernel
theorem dX3_insertByRank_26 : decode cX3_insertByRank 26 = .ok (.isub, 1) := by decide +kernel
theorem dX3_insertByRank_27 : decode cX3_insertByRank 27 = .ok (.aaload, 1) := by decide +kernel
theorem dX3_insertByRank_28 : decode cX3_insertByRank 28 = .ok (.invokevirtual 21, 3) := by decide +kernel
theorem dX3_insertByRank_31 : decode cX3_insertByRank 31 = .ok (.ifCond .eq 23, 3) := by decide +kernel
theorem dX3_insertByRank_34 : decode cX3_insertByRank 34 = .ok (.aload_n 0, 1) := by decide +kernel
theorem dX3_insertByRank_35 : decode cX3_insertByRank 35 = .ok (.getfield 11, 3) := by decide +kernel
theorem dX3_insertByRank_38 : decode cX3_insertByRank 38 = .ok (.iload_n 2, 1) := by decide +kernel
theorem dX3_insertByRank_39 : decode cX3_insertByRank 39 = .ok (.aload_n 0, 1) := by decide +kernel
theorem dX3_insertByRank_40 : decode cX3_insertByRank 40 = .ok (.getfield 11, 3) := by decide +kernel
theorem dX3_insertByRank_43 : decode cX3_insertByRank 43 = .ok (.iload_n 2, 1) := by decide +kernel
theorem dX3_insertByRank_44 : decode cX3_insertByRank 44 = .ok (.iconst 1, 1) := by decide +kernel
theorem dX3_insertByRank_45 : decode cX3_insertByRank 45 = .ok (.isub, 1) := by decide +kernel
theorem dX3_insertByRank_46 : decode cX3_insertByRank 46 = .ok (.aaload, 1) := by decide +kernel
theorem dX3_insertByRank_47 : decode cX3_insertByRank 47 = .ok (.aastore, 1) := by decide +kernel
theorem dX3_insertByRank_48 : decode cX3_insertByRank 48 = .ok (.iinc 2 (-1), 3) := by decide +kernel
theorem dX3_insertByRank_51 : decode cX3_insertByRank 51 = .ok (.goto (-36), 3) := by decide +kernel
theorem dX3_insertByRank_54 : decode cX3_insertByRank 54 = .ok (.aload_n 0, 1) := by decide +kernel
theorem dX3_insertByRank_55 : decode cX3_insertByRank 55 = .ok (.getfield 11, 3) := by decide +kernel
theorem dX3_insertByRank_58 : decode cX3_insertByRank 58 = .ok (.iload_n 2, 1) := by decide +kernel
theorem dX3_insertByRank_59 : decode cX3_insertByRank 59 = .ok (.aload_n 1, 1) := by decide +kernel
theorem dX3_insertByRank_60 : decode cX3_insertByRank 60 = .ok (.aastore, 1) := by decide +kernel
theorem dX3_insertByRank_61 : decode cX3_insertByRank 61 = .ok (.aload_n 0, 1) := by decide +kernel
theorem dX3_insertByRank_62 : decode cX3_insertByRank 62 = .ok (.dup, 1) := by decide +kernel
theorem dX3_insertByRank_63 : decode cX3_insertByRank 63 = .ok (.getfield 17, 3) := by decide +kernel
theorem dX3_insertByRank_66 : decode cX3_insertByRank 66 = .ok (.iconst 1, 1) := by decide +kernel
theorem dX3_insertByRank_67 : decode cX3_insertByRank 67 = .ok (.iadd, 1) := by decide +kernel
theorem dX3_insertByRank_68 : decode cX3_insertByRank 68 = .ok (.putfield 17, 3) := by decide +kernel
theorem dX3_insertByRank_71 : decode cX3_insertByRank 71 = .ok (.return_, 1) := by decide +kernel
theorem dX3_remove_0 : decode cX3_remove 0 = .ok (.iconst 0, 1) := by decide +kernel
theorem dX3_remove_1 : decode cX3_remove 1 = .ok (.istore_n 2, 1) := by decide +kernel
theorem dX3_remove_2 : decode cX3_remove 2 = .ok (.iconst 0, 1) := by decide +kernel
theorem dX3_remove_3 : decode cX3_remove 3 = .ok (.istore_n 3, 1) := by decide +kernel
theorem dX3_remove_4 : decode cX3_remove 4 = .ok (.iload_n 3, 1) := by decide +kernel
theorem dX3_remove_5 : decode cX3_remove 5 = .ok (.aload_n 0, 1) := by decide +kernel
theorem dX3_remove_6 : decode cX3_remove 6 = .ok (.getfield 17, 3) := by decide +kernel
theorem dX3_remove_9 : decode cX3_remove 9 = .ok (.if_icmp .ge 34, 3) := by decide +kernel
theorem dX3_remove_12 : decode cX3_remove 12 = .ok (.aload_n 0, 1) := by decide +kernel
theorem dX3_remove_13 : decode cX3_remove 13 = .ok (.getfield 11, 3) := by decide +kernel
theorem dX3_remove_16 : decode cX3_remove 16 = .ok (.iload_n 3, 1) := by decide +kernel
theorem dX3_remove_17 : decode cX3_remove 17 = .ok (.aaload, 1) := by decide +kernel
theorem dX3_remove_18 : decode cX3_remove 18 = .ok (.aload_n 1, 1) := by decide +kernel
theorem dX3_remove_19 : decode cX3_remove 19 = .ok (.if_acmp .eq 18, 3) := by decide +kernel
theorem dX3_remove_22 : decode cX3_remove 22 = .ok (.aload_n 0, 1) := by decide +kernel
theorem dX3_remove_23 : decode cX3_remove 23 = .ok (.getfield 11, 3) := by decide +kernel
theorem dX3_remove_26 : decode cX3_remove 26 = .ok (.iload_n 2, 1) := by decide +kernel
theorem dX3_remove_27 : decode cX3_remove 27 = .ok (.aload_n 0, 1) := by decide +kernel
theorem dX3_remove_28 : decode cX3_remove 28 = .ok (.getfield 11, 3) := by decide +kernel
theorem dX3_remove_31 : decode cX3_remove 31 = .ok (.iload_n 3, 1) := by decide +kernel
theorem dX3_remove_32 : decode cX3_remove 32 = .ok (.aaload, 1) := by decide +kernel
theorem dX3_remove_33 : decode cX3_remove 33 = .ok (.aastore, 1) := by decide +kernel
theorem dX3_remove_34 : decode cX3_remove 34 = .ok (.iinc 2 1, 3) := by decide +kernel
theorem dX3_remove_37 : decode cX3_remove 37 = .ok (.iinc 3 1, 3) := by decide +kernel
theorem dX3_remove_40 : decode cX3_remove 40 = .ok (.goto (-36), 3) := by decide +kernel
theorem dX3_remove_43 : decode cX3_remove 43 = .ok (.aload_n 0, 1) := by decide +kernel
theorem dX3_remove_44 : decode cX3_remove 44 = .ok (.iload_n 2, 1) := by decide +kernel
theorem dX3_remove_45 : decode cX3_remove 45 = .ok (.putfield 17, 3) := by decide +kernel
theorem dX3_remove_48 : decode cX3_remove 48 = .ok (.return_, 1) := by decide +kernel
theorem dX4_init_0 : decode cX4_init 0 = .ok (.aload_n 0, 1) := by decide +kernel
theorem dX4_init_1 : decode cX4_init 1 = .ok (.invokespecial 3, 3) := by decide +kernel
theorem dX4_init_4 : decode cX4_init 4 = .ok (.aload_n 0, 1) := by decide +kernel
theorem dX4_init_5 : decode cX4_init 5 = .ok (.bipush 30, 2) := by decide +kernel
theorem dX4_init_7 : decode cX4_init 7 = .ok (.newarray .int, 2) := by decide +kernel
theorem dX4_init_9 : decode cX4_init 9 = .ok (.putfield 9, 3) := by decide +kernel
theorem dX4_init_12 : decode cX4_init 12 = .ok (.aload_n 0, 1) := by decide +kernel
theorem dX4_init_13 : decode cX4_init 13 = .ok (.bipush 30, 2) := by decide +kernel
theorem dX4_init_15 : decode cX4_init 15 = .ok (.newarray .int, 2) := by decide +kernel
theorem dX4_init_17 : decode cX4_init 17 = .ok (.putfield 15, 3) := by decide +kernel
theorem dX4_init_20 : decode cX4_init 20 = .ok (.aload_n 0, 1) := by decide +kernel
theorem dX4_init_21 : decode cX4_init 21 = .ok (.bipush 30, 2) := by decide +kernel
theorem dX4_init_23 : decode cX4_init 23 = .ok (.newarray .int, 2) := by decide +kernel
theorem dX4_init_25 : decode cX4_init 25 = .ok (.putfield 18, 3) := by decide +kernel
theorem dX4_init_28 : decode cX4_init 28 = .ok (.return_, 1) := by decide +kernel
theorem dX4_append_0 : decode cX4_append 0 = .ok (.aload_n 0, 1) := by decide +kernel
theorem dX4_append_1 : decode cX4_append 1 = .ok (.getfield 21, 3) := by decide +kernel
theorem dX4_append_4 : decode cX4_append 4 = .ok (.bipush 30, 2) := by decide +kernel
theorem dX4_append_6 : decode cX4_append 6 = .ok (.if_icmp .lt 5, 3) := by decide +kernel
theorem dX4_append_9 : decode cX4_append 9 = .ok (.iconst 0, 1) := by decide +kernel
theorem dX4_append_10 : decode cX4_append 10 = .ok (.ireturn, 1) := by decide +kernel
theorem dX4_append_11 : decode cX4_append 11 = .ok (.aload_n 0, 1) := by decide +kernel
theorem dX4_append_12 : decode cX4_append 12 = .ok (.getfield 9, 3) := by decide +kernel
theorem dX4_append_15 : decode cX4_append 15 = .ok (.aload_n 0, 1) := by decide +kernel
theorem dX4_append_16 : decode cX4_append 16 = .ok (.getfield 21, 3) := by decide +kernel
theorem dX4_append_19 : decode cX4_append 19 = .ok (.iload_n 1, 1) := by decide +kernel
theorem dX4_append_20 : decode cX4_append 20 = .ok (.iastore, 1) := by decide +kernel
theorem dX4_append_21 : decode cX4_append 21 = .ok (.aload_n 0, 1) := by decide +kernel
theorem dX4_append_22 : decode cX4_append 22 = .ok (.getfield 15, 3) := by decide +kernel
theorem dX4_append_25 : decode cX4_append 25 = .ok (.aload_n 0, 1) := by decide +kernel
theorem dX4_append_26 : decode cX4_append 26 = .ok (.getfield 21, 3) := by decide +kernel
theorem dX4_append_29 : decode cX4_append 29 = .ok (.iload_n 2, 1) := by decide +kernel
theorem dX4_append_30 : decode cX4_append 30 = .ok (.iastore, 1) := by decide +kernel
theorem dX4_append_31 : decode cX4_append 31 = .ok (.aload_n 0, 1) := by decide +kernel
theorem dX4_append_32 : decode cX4_append 32 = .ok (.getfield 18, 3) := by decide +kernel
theorem dX4_append_35 : decode cX4_append 35 = .ok (.aload_n 0, 1) := by decide +kernel
theorem dX4_append_36 : decode cX4_append 36 = .ok (.getfield 21, 3) := by decide +kernel
theorem dX4_append_39 : decode cX4_append 39 = .ok (.iload_n 3, 1) := by decide +kernel
theorem dX4_append_40 : decode cX4_append 40 = .ok (.iastore, 1) := by decide +kernel
theorem dX4_append_41 : decode cX4_append 41 = .ok (.aload_n 0, 1) := by decide +kernel
theorem dX4_append_42 : decode cX4_append 42 = .ok (.dup, 1) := by decide +kernel
theorem dX4_append_43 : decode cX4_append 43 = .ok (.getfield 21, 3) := by decide +kernel
theorem dX4_append_46 : decode cX4_append 46 = .ok (.iconst 1, 1) := by decide +kernel
theorem dX4_append_47 : decode cX4_append 47 = .ok (.iadd, 1) := by decide +kernel
theorem dX4_append_48 : decode cX4_append 48 = .ok (.putfield 21, 3) := by decide +kernel
theorem dX4_append_51 : decode cX4_append 51 = .ok (.iconst 1, 1) := by decide +kernel
theorem dX4_append_52 : decode cX4_append 52 = .ok (.ireturn, 1) := by decide +kernel
theorem dX4_dropTurn_0 : decode cX4_dropTurn 0 = .ok (.iconst 0, 1) := by decide +kernel
theorem dX4_dropTurn_1 : decode cX4_dropTurn 1 = .ok (.istore_n 2, 1) := by decide +kernel
theorem dX4_dropTurn_2 : decode cX4_dropTurn 2 = .ok (.iconst 0, 1) := by decide +kernel
theorem dX4_dropTurn_3 : decode cX4_dropTurn 3 = .ok (.istore_n 3, 1) := by decide +kernel
theorem dX4_dropTurn_4 : decode cX4_dropTurn 4 = .ok (.iload_n 3, 1) := by decide +kernel
theorem dX4_dropTurn_5 : decode cX4_dropTurn 5 = .ok (.aload_n 0, 1) := by decide +kernel
theorem dX4_dropTurn_6 : decode cX4_dropTurn 6 = .ok (.getfield 21, 3) := by decide +kernel
theorem dX4_dropTurn_9 : decode cX4_dropTurn 9 = .ok (.if_icmp .ge 58, 3) := by decide +kernel
theorem dX4_dropTurn_12 : decode cX4_dropTurn 12 = .ok (.aload_n 0, 1) := by decide +kernel
theorem dX4_dropTurn_13 : decode cX4_dropTurn 13 = .ok (.getfield 9, 3) := by decide +kernel
theorem dX4_dropTurn_16 : decode cX4_dropTurn 16 = .ok (.iload_n 3, 1) := by decide +kernel
theorem dX4_dropTurn_17 : decode cX4_dropTurn 17 = .ok (.iaload, 1) := by decide +kernel
theorem dX4_dropTurn_18 : decode cX4_dropTurn 18 = .ok (.iload_n 1, 1) := by decide +kernel
theorem dX4_dropTurn_19 : decode cX4_dropTurn 19 = .ok (.if_icmp .eq 42, 3) := by decide +kernel
theorem dX4_dropTurn_22 : decode cX4_dropTurn 22 = .ok (.aload_n 0, 1) := by decide +kernel
theorem dX4_dropTurn_23 : decode cX4_dropTurn 23 = .ok (.getfield 9, 3) := by decide +kernel
theorem dX4_dropTurn_26 : decode cX4_dropTurn 26 = .ok (.iload_n 2, 1) := by decide +kernel
theorem dX4_dropTurn_27 : decode cX4_dropTurn 27 = .ok (.aload_n 0, 1) := by decide +kernel
theorem dX4_dropTurn_28 : decode cX4_dropTurn 28 = .ok (.getfield 9, 3) := by decide +kernel
theorem dX4_dropTurn_31 : decode cX4_dropTurn 31 = .ok (.iload_n 3, 1) := by decide +kernel
theorem dX4_dropTurn_32 : decode cX4_dropTurn 32 = .ok (.iaload, 1) := by decide +kernel
theorem dX4_dropTurn_33 : decode cX4_dropTurn 33 = .ok (.iastore, 1) := by decide +kernel
theorem dX4_dropTurn_34 : decode cX4_dropTurn 34 = .ok (.aload_n 0, 1) := by decide +kernel
theorem dX4_dropTurn_35 : decode cX4_dropTurn 35 = .ok (.getfield 15, 3) := by decide +kernel
theorem dX4_dropTurn_38 : decode cX4_dropTurn 38 = .ok (.iload_n 2, 1) := by decide +kernel
theorem dX4_dropTurn_39 : decode cX4_dropTurn 39 = .ok (.aload_n 0, 1) := by decide +kernel
theorem dX4_dropTurn_40 : decode cX4_dropTurn 40 = .ok (.getfield 15, 3) := by decide +kernel
theorem dX4_dropTurn_43 : decode cX4_dropTurn 43 = .ok (.iload_n 3, 1) := by decide +kernel
theorem dX4_dropTurn_44 : decode cX4_dropTurn 44 = .ok (.iaload, 1) := by decide +kernel
theorem dX4_dropTurn_45 : decode cX4_dropTurn 45 = .ok (.iastore, 1) := by decide +kernel
theorem dX4_dropTurn_46 : decode cX4_dropTurn 46 = .ok (.aload_n 0, 1) := by decide +kernel
theorem dX4_dropTurn_47 : decode cX4_dropTurn 47 = .ok (.getfield 18, 3) := by decide +kernel
theorem dX4_dropTurn_50 : decode cX4_dropTurn 50 = .ok (.iload_n 2, 1) := by decide +kernel
theorem dX4_dropTurn_51 : decode cX4_dropTurn 51 = .ok (.aload_n 0, 1) := by decide +kernel
theorem dX4_dropTurn_52 : decode cX4_dropTurn 52 = .ok (.getfield 18, 3) := by decide +kernel
theorem dX4_dropTurn_55 : decode cX4_dropTurn 55 = .ok (.iload_n 3, 1) := by decide +kernel
theorem dX4_dropTurn_56 : decode cX4_dropTurn 56 = .ok (.iaload, 1) := by decide +kernel
theorem dX4_dropTurn_57 : decode cX4_dropTurn 57 = .ok (.iastore, 1) := by decide +kernel
theorem dX4_dropTurn_58 : decode cX4_dropTurn 58 = .ok (.iinc 2 1, 3) := by decide +kernel
theorem dX4_dropTurn_61 : decode cX4_dropTurn 61 = .ok (.iinc 3 1, 3) := by decide +kernel
theorem dX4_dropTurn_64 : decode cX4_dropTurn 64 = .ok (.goto (-60), 3) := by decide +kernel
theorem dX4_dropTurn_67 : decode cX4_dropTurn 67 = .ok (.aload_n 0, 1) := by decide +kernel
theorem dX4_dropTurn_68 : decode cX4_dropTurn 68 = .ok (.iload_n 2, 1) := by decide +kernel
theorem dX4_dropTurn_69 : decode cX4_dropTurn 69 = .ok (.putfield 21, 3) := by decide +kernel
theorem dX4_dropTurn_72 : decode cX4_dropTurn 72 = .ok (.return_, 1) := by decide +kernel
theorem dX5_init_0 : decode cX5_init 0 = .ok (.aload_n 0, 1) := by decide +kernel
theorem dX5_init_1 : decode cX5_init 1 = .ok (.invokespecial 3, 3) := by decide +kernel
theorem dX5_init_4 : decode cX5_init 4 = .ok (.aload_n 0, 1) := by decide +kernel
theorem dX5_init_5 : decode cX5_init 5 = .ok (.bipush 16, 2) := by decide +kernel
theorem dX5_init_7 : decode cX5_init 7 = .ok (.newarray .int, 2) := by decide +kernel
theorem dX5_init_9 : decode cX5_init 9 = .ok (.putfield 9, 3) := by decide +kernel
theorem dX5_init_12 : decode cX5_init 12 = .ok (.aload_n 0, 1) := by decide +kernel
theorem dX5_init_13 : decode cX5_init 13 = .ok (.bipush 16, 2) := by decide +kernel
theorem dX5_init_15 : decode cX5_init 15 = .ok (.newarray .int, 2) := by decide +kernel
theorem dX5_init_17 : decode cX5_init 17 = .ok (.putfield 15, 3) := by decide +kernel
theorem dX5_init_20 : decode cX5_init 20 = .ok (.aload_n 0, 1) := by decide +kernel
theorem dX5_init_21 : decode cX5_init 21 = .ok (.bipush 16, 2) := by decide +kernel
theorem dX5_init_23 : decode cX5_init 23 = .ok (.newarray .int, 2) := by decide +kernel
theorem dX5_init_25 : decode cX5_init 25 = .ok (.putfield 18, 3) := by decide +kernel
theorem dX5_init_28 : decode cX5_init 28 = .ok (.aload_n 0, 1) := by decide +kernel
theorem dX5_init_29 : decode cX5_init 29 = .ok (.bipush 16, 2) := by decide +kernel
theorem dX5_init_31 : decode cX5_init 31 = .ok (.newarray .boolean, 2) := by decide +kernel
theorem dX5_init_33 : decode cX5_init 33 = .ok (.putfield 21, 3) := by decide +kernel
theorem dX5_init_36 : decode cX5_init 36 = .ok (.aload_n 0, 1) := by decide +kernel
theorem dX5_init_37 : decode cX5_init 37 = .ok (.bipush 16, 2) := by decide +kernel
theorem dX5_init_39 : decode cX5_init 39 = .ok (.newarray .int, 2) := by decide +kernel
theorem dX5_init_41 : decode cX5_init 41 = .ok (.putfield 25, 3) := by decide +kernel
theorem dX5_init_44 : decode cX5_init 44 = .ok (.return_, 1) := by decide +kernel
theorem dX5_append_0 : decode cX5_append 0 = .ok (.aload_n 0, 1) := by decide +kernel
theorem dX5_append_1 : decode cX5_append 1 = .ok (.getfield 28, 3) := by decide +kernel
theorem dX5_append_4 : decode cX5_append 4 = .ok (.bipush 16, 2) := by decide +kernel
theorem dX5_append_6 : decode cX5_append 6 = .ok (.if_icmp .lt 5, 3) := by decide +kernel
theorem dX5_append_9 : decode cX5_append 9 = .ok (.iconst 0, 1) := by decide +kernel
theorem dX5_append_10 : decode cX5_append 10 = .ok (.ireturn, 1) := by decide +kernel
theorem dX5_append_11 : decode cX5_append 11 = .ok (.aload_n 0, 1) := by decide +kernel
theorem dX5_append_12 : decode cX5_append 12 = .ok (.getfield 9, 3) := by decide +kernel
theorem dX5_append_15 : decode cX5_append 15 = .ok (.aload_n 0, 1) := by decide +kernel
theorem dX5_append_16 : decode cX5_append 16 = .ok (.getfield 28, 3) := by decide +kernel
theorem dX5_append_19 : decode cX5_append 19 = .ok (.iload_n 1, 1) := by decide +kernel
theorem dX5_append_20 : decode cX5_append 20 = .ok (.iastore, 1) := by decide +kernel
theorem dX5_append_21 : decode cX5_append 21 = .ok (.aload_n 0, 1) := by decide +kernel
theorem dX5_append_22 : decode cX5_append 22 = .ok (.getfield 15, 3) := by decide +kernel
theorem dX5_append_25 : decode cX5_append 25 = .ok (.aload_n 0, 1) := by decide +kernel
theorem dX5_append_26 : decode cX5_append 26 = .ok (.getfield 28, 3) := by decide +kernel
theorem dX5_append_29 : decode cX5_append 29 = .ok (.iload_n 2, 1) := by decide +kernel
theorem dX5_append_30 : decode cX5_append 30 = .ok (.iastore, 1) := by decide +kernel
theorem dX5_append_31 : decode cX5_append 31 = .ok (.aload_n 0, 1) := by decide +kernel
theorem dX5_append_32 : decode cX5_append 32 = .ok (.getfield 18, 3) := by decide +kernel
theorem dX5_append_35 : decode cX5_append 35 = .ok (.aload_n 0, 1) := by decide +kernel
theorem dX5_append_36 : decode cX5_append 36 = .ok (.getfield 28, 3) := by decide +kernel
theorem dX5_append_39 : decode cX5_append 39 = .ok (.iload_n 3, 1) := by decide +kernel
theorem dX5_append_40 : decode cX5_append 40 = .ok (.iastore, 1) := by decide +kernel
theorem dX5_append_41 : decode cX5_append 41 = .ok (.aload_n 0, 1) := by decide +kernel
theorem dX5_append_42 : decode cX5_append 42 = .ok (.getfield 21, 3) := by decide +kernel
theorem dX5_append_45 : decode cX5_append 45 = .ok (.aload_n 0, 1) := by decide +kernel
theorem dX5_append_46 : decode cX5_append 46 = .ok (.getfield 28, 3) := by decide +kernel
theorem dX5_append_49 : decode cX5_append 49 = .ok (.iload 4, 2) := by decide +kernel
theorem dX5_append_51 : decode cX5_append 51 = .ok (.bastore, 1) := by decide +kernel
theorem dX5_append_52 : decode cX5_append 52 = .ok (.aload_n 0, 1) := by decide +kernel
theorem dX5_append_53 : decode cX5_append 53 = .ok (.dup, 1) := by decide +kernel
theorem dX5_append_54 : decode cX5_append 54 = .ok (.getfield 28, 3) := by decide +kernel
theorem dX5_append_57 : decode cX5_append 57 = .ok (.iconst 1, 1) := by decide +kernel
theorem dX5_append_58 : decode cX5_append 58 = .ok (.iadd, 1) := by decide +kernel
theorem dX5_append_59 : decode cX5_append 59 = .ok (.putfield 28, 3) := by decide +kernel
theorem dX5_append_62 : decode cX5_append 62 = .ok (.iconst 1, 1) := by decide +kernel
theorem dX5_append_63 : decode cX5_append 63 = .ok (.ireturn, 1) := by decide +kernel
theorem dX5_noteRefusal_0 : decode cX5_noteRefusal 0 = .ok (.aload_n 0, 1) := by decide +kernel
theorem dX5_noteRefusal_1 : decode cX5_noteRefusal 1 = .ok (.getfield 32, 3) := by decide +kernel
theorem dX5_noteRefusal_4 : decode cX5_noteRefusal 4 = .ok (.bipush 16, 2) := by decide +kernel
theorem dX5_noteRefusal_6 : decode cX5_noteRefusal 6 = .ok (.if_icmp .ge 23, 3) := by decide +kernel
theorem dX5_noteRefusal_9 : decode cX5_noteRefusal 9 = .ok (.aload_n 0, 1) := by decide +kernel
theorem dX5_noteRefusal_10 : decode cX5_noteRefusal 10 = .ok (.getfield 25, 3) := by decide +kernel
theorem dX5_noteRefusal_13 : decode cX5_noteRefusal 13 = .ok (.aload_n 0, 1) := by decide +kernel
theorem dX5_noteRefusal_14 : decode cX5_noteRefusal 14 = .ok (.getfield 32, 3) := by decide +kernel
theorem dX5_noteRefusal_17 : decode cX5_noteRefusal 17 = .ok (.iload_n 1, 1) := by decide +kernel
theorem dX5_noteRefusal_18 : decode cX5_noteRefusal 18 = .ok (.iastore, 1) := by decide +kernel
theorem dX5_noteRefusal_19 : decode cX5_noteRefusal 19 = .ok (.aload_n 0, 1) := by decide +kernel
theorem dX5_noteRefusal_20 : decode cX5_noteRefusal 20 = .ok (.dup, 1) := by decide +kernel
theorem dX5_noteRefusal_21 : decode cX5_noteRefusal 21 = .ok (.getfield 32, 3) := by decide +kernel
theorem dX5_noteRefusal_24 : decode cX5_noteRefusal 24 = .ok (.iconst 1, 1) := by decide +kernel
theorem dX5_noteRefusal_25 : decode cX5_noteRefusal 25 = .ok (.iadd, 1) := by decide +kernel
theorem dX5_noteRefusal_26 : decode cX5_noteRefusal 26 = .ok (.putfield 32, 3) := by decide +kernel
theorem dX5_noteRefusal_29 : decode cX5_noteRefusal 29 = .ok (.return_, 1) := by decide +kernel
theorem dX5_refusalRule_0 : decode cX5_refusalRule 0 = .ok (.iload_n 1, 1) := by decide +kernel
theorem dX5_refusalRule_1 : decode cX5_refusalRule 1 = .ok (.ifCond .lt 20, 3) := by decide +kernel
theorem dX5_refusalRule_4 : decode cX5_refusalRule 4 = .ok (.iload_n 1, 1) := by decide +kernel
theorem dX5_refusalRule_5 : decode cX5_refusalRule 5 = .ok (.aload_n 0, 1) := by decide +kernel
theorem dX5_refusalRule_6 : decode cX5_refusalRule 6 = .ok (.getfield 32, 3) := by decide +kernel
theorem dX5_refusalRule_9 : decode cX5_refusalRule 9 = .ok (.if_icmp .ge 12, 3) := by decide +kernel
theorem dX5_refusalRule_12 : decode cX5_refusalRule 12 = .ok (.aload_n 0, 1) := by decide +kernel
theorem dX5_refusalRule_13 : decode cX5_refusalRule 13 = .ok (.getfield 25, 3) := by decide +kernel
theorem dX5_refusalRule_16 : decode cX5_refusalRule 16 = .ok (.iload_n 1, 1) := by decide +kernel
theorem dX5_refusalRule_17 : decode cX5_refusalRule 17 = .ok (.iaload, 1) := by decide +kernel
theorem dX5_refusalRule_18 : decode cX5_refusalRule 18 = .ok (.goto 4, 3) := by decide +kernel
theorem dX5_refusalRule_21 : decode cX5_refusalRule 21 = .ok (.iconst (-1), 1) := by decide +kernel
theorem dX5_refusalRule_22 : decode cX5_refusalRule 22 = .ok (.ireturn, 1) := by decide +kernel
theorem dX6_init_0 : decode cX6_init 0 = .ok (.aload_n 0, 1) := by decide +kernel
theorem dX6_init_1 : decode cX6_init 1 = .ok (.invokespecial 1, 3) := by decide +kernel
theorem dX6_init_4 : decode cX6_init 4 = .ok (.aload_n 0, 1) := by decide +kernel
theorem dX6_init_5 : decode cX6_init 5 = .ok (.iload_n 1, 1) := by decide +kernel
theorem dX6_init_6 : decode cX6_init 6 = .ok (.putfield 7, 3) := by decide +kernel
theorem dX6_init_9 : decode cX6_init 9 = .ok (.aload_n 0, 1) := by decide +kernel
theorem dX6_init_10 : decode cX6_init 10 = .ok (.new 13, 3) := by decide +kernel
theorem dX6_init_13 : decode cX6_init 13 = .ok (.dup, 1) := by decide +kernel
theorem dX6_init_14 : decode cX6_init 14 = .ok (.invokespecial 15, 3) := by decide +kernel
theorem dX6_init_17 : decode cX6_init 17 = .ok (.putfield 16, 3) := by decide +kernel
theorem dX6_init_20 : decode cX6_init 20 = .ok (.return_, 1) := by decide +kernel
theorem dX6_awaitsAt_0 : decode cX6_awaitsAt 0 = .ok (.aload_n 0, 1) := by decide +kernel
theorem dX6_awaitsAt_1 : decode cX6_awaitsAt 1 = .ok (.getfield 20, 3) := by decide +kernel
theorem dX6_awaitsAt_4 : decode cX6_awaitsAt 4 = .ok (.ifnull 18, 3) := by decide +kernel
theorem dX6_awaitsAt_7 : decode cX6_awaitsAt 7 = .ok (.aload_n 0, 1) := by decide +kernel
theorem dX6_awaitsAt_8 : decode cX6_awaitsAt 8 = .ok (.getfield 20, 3) := by decide +kernel
theorem dX6_awaitsAt_11 : decode cX6_awaitsAt 11 = .ok (.getfield 24, 3) := by decide +kernel
theorem dX6_awaitsAt_14 : decode cX6_awaitsAt 14 = .ok (.iload_n 1, 1) := by decide +kernel
theorem dX6_awaitsAt_15 : decode cX6_awaitsAt 15 = .ok (.if_icmp .ne 7, 3) := by decide +kernel
theorem dX6_awaitsAt_18 : decode cX6_awaitsAt 18 = .ok (.iconst 1, 1) := by decide +kernel
theorem dX6_awaitsAt_19 : decode cX6_awaitsAt 19 = .ok (.goto 4, 3) := by decide +kernel
theorem dX6_awaitsAt_22 : decode cX6_awaitsAt 22 = .ok (.iconst 0, 1) := by decide +kernel
theorem dX6_awaitsAt_23 : decode cX6_awaitsAt 23 = .ok (.ireturn, 1) := by decide +kernel
theorem dX6_cameBehind_0 : decode cX6_cameBehind 0 = .ok (.aload_n 0, 1) := by decide +kernel
theorem dX6_cameBehind_1 : decode cX6_cameBehind 1 = .ok (.getfield 29, 3) := by decide +kernel
theorem dX6_cameBehind_4 : decode cX6_cameBehind 4 = .ok (.aload_n 1, 1) := by decide +kernel
theorem dX6_cameBehind_5 : decode cX6_cameBehind 5 = .ok (.getfield 29, 3) := by decide +kernel
theorem dX6_cameBehind_8 : decode cX6_cameBehind 8 = .ok (.if_icmp .gt 25, 3) := by decide +kernel
theorem dX6_cameBehind_11 : decode cX6_cameBehind 11 = .ok (.aload_n 0, 1) := by decide +kernel
theorem dX6_cameBehind_12 : decode cX6_cameBehind 12 = .ok (.getfield 29, 3) := by decide +kernel
theorem dX6_cameBehind_15 : decode cX6_cameBehind 15 = .ok (.aload_n 1, 1) := by decide +kernel
theorem dX6_cameBehind_16 : decode cX6_cameBehind 16 = .ok (.getfield 29, 3) := by decide +kernel
theorem dX6_cameBehind_19 : decode cX6_cameBehind 19 = .ok (.if_icmp .ne 18, 3) := by decide +kernel
theorem dX6_cameBehind_22 : decode cX6_cameBehind 22 = .ok (.aload_n 0, 1) := by decide +kernel
theorem dX6_cameBehind_23 : decode cX6_cameBehind 23 = .ok (.getfield 7, 3) := by decide +kernel
theorem dX6_cameBehind_26 : decode cX6_cameBehind 26 = .ok (.aload_n 1, 1) := by decide +kernel
theorem dX6_cameBehind_27 : decode cX6_cameBehind 27 = .ok (.getfield 7, 3) := by decide +kernel
theorem dX6_cameBehind_30 : decode cX6_cameBehind 30 = .ok (.if_icmp .le 7, 3) := by decide +kernel
theorem dX6_cameBehind_33 : decode cX6_cameBehind 33 = .ok (.iconst 1, 1) := by decide +kernel
theorem dX6_cameBehind_34 : decode cX6_cameBehind 34 = .ok (.goto 4, 3) := by decide +kernel
theorem dX6_cameBehind_37 : decode cX6_cameBehind 37 = .ok (.iconst 0, 1) := by decide +kernel
theorem dX6_cameBehind_38 : decode cX6_cameBehind 38 = .ok (.ireturn, 1) := by decide +kernel
theorem dX6_isServedBefore_0 : decode cX6_isServedBefore 0 = .ok (.aload_n 0, 1) := by decide +kernel
theorem dX6_isServedBefore_1 : decode cX6_isServedBefore 1 = .ok (.getfield 32, 3) := by decide +kernel
theorem dX6_isServedBefore_4 : decode cX6_isServedBefore 4 = .ok (.aload_n 1, 1) := by decide +kernel
theorem dX6_isServedBefore_5 : decode cX6_isServedBefore 5 = .ok (.getfield 32, 3) := by decide +kernel
theorem dX6_isServedBefore_8 : decode cX6_isServedBefore 8 = .ok (.if_icmp .eq 20, 3) := by decide +kernel
theorem dX6_isServedBefore_11 : decode cX6_isServedBefore 11 = .ok (.aload_n 0, 1) := by decide +kernel
theorem dX6_isServedBefore_12 : decode cX6_isServedBefore 12 = .ok (.getfield 32, 3) := by decide +kernel
theorem dX6_isServedBefore_15 : decode cX6_isServedBefore 15 = .ok (.aload_n 1, 1) := by decide +kernel
theorem dX6_isServedBefore_16 : decode cX6_isServedBefore 16 = .ok (.getfield 32, 3) := by decide +kernel
theorem dX6_isServedBefore_19 : decode cX6_isServedBefore 19 = .ok (.if_icmp .le 7, 3) := by decide +kernel
theorem dX6_isServedBefore_22 : decode cX6_isServedBefore 22 = .ok (.iconst 1, 1) := by decide +kernel
theorem dX6_isServedBefore_23 : decode cX6_isServedBefore 23 = .ok (.goto 4, 3) := by decide +kernel
theorem dX6_isServedBefore_26 : decode cX6_isServedBefore 26 = .ok (.iconst 0, 1) := by decide +kernel
theorem dX6_isServedBefore_27 : decode cX6_isServedBefore 27 = .ok (.ireturn, 1) := by decide +kernel
theorem dX6_isServedBefore_28 : decode cX6_isServedBefore 28 = .ok (.aload_n 0, 1) := by decide +kernel
theorem dX6_isServedBefore_29 : decode cX6_isServedBefore 29 = .ok (.getfield 35, 3) := by decide +kernel
theorem dX6_isServedBefore_32 : decode cX6_isServedBefore 32 = .ok (.aload_n 1, 1) := by decide +kernel
theorem dX6_isServedBefore_33 : decode cX6_isServedBefore 33 = .ok (.getfield 35, 3) := by decide +kernel
theorem dX6_isServedBefore_36 : decode cX6_isServedBefore 36 = .ok (.if_icmp .eq 20, 3) := by decide +kernel
theorem dX6_isServedBefore_39 : decode cX6_isServedBefore 39 = .ok (.aload_n 0, 1) := by decide +kernel
theorem dX6_isServedBefore_40 : decode cX6_isServedBefore 40 = .ok (.getfield 35, 3) := by decide +kernel
theorem dX6_isServedBefore_43 : decode cX6_isServedBefore 43 = .ok (.aload_n 1, 1) := by decide +kernel
theorem dX6_isServedBefore_44 : decode cX6_isServedBefore 44 = .ok (.getfield 35, 3) := by decide +kernel
theorem dX6_isServedBefore_47 : decode cX6_isServedBefore 47 = .ok (.if_icmp .ge 7, 3) := by decide +kernel
theorem dX6_isServedBefore_50 : decode cX6_isServedBefore 50 = .ok (.iconst 1, 1) := by decide +kernel
theorem dX6_isServedBefore_51 : decode cX6_isServedBefore 51 = .ok (.goto 4, 3) := by decide +kernel
theorem dX6_isServedBefore_54 : decode cX6_isServedBefore 54 = .ok (.iconst 0, 1) := by decide +kernel
theorem dX6_isServedBefore_55 : decode cX6_isServedBefore 55 = .ok (.ireturn, 1) := by decide +kernel
theorem dX6_isServedBefore_56 : decode cX6_isServedBefore 56 = .ok (.aload_n 0, 1) := by decide +kernel
theorem dX6_isServedBefore_57 : decode cX6_isServedBefore 57 = .ok (.getfield 7, 3) := by decide +kernel
theorem dX6_isServedBefore_60 : decode cX6_isServedBefore 60 = .ok (.aload_n 1, 1) := by decide +kernel
theorem dX6_isServedBefore_61 : decode cX6_isServedBefore 61 = .ok (.getfield 7, 3) := by decide +kernel
theorem dX6_isServedBefore_64 : decode cX6_isServedBefore 64 = .ok (.if_icmp .ge 7, 3) := by decide +kernel
theorem dX6_isServedBefore_67 : decode cX6_isServedBefore 67 = .ok (.iconst 1, 1) := by decide +kernel
theorem dX6_isServedBefore_68 : decode cX6_isServedBefore 68 = .ok (.goto 4, 3) := by decide +kernel
theorem dX6_isServedBefore_71 : decode cX6_isServedBefore 71 = .ok (.iconst 0, 1) := by decide +kernel
theorem dX6_isServedBefore_72 : decode cX6_isServedBefore 72 = .ok (.ireturn, 1) := by decide +kernel
theorem dX7_init_0 : decode cX7_init 0 = .ok (.aload_n 0, 1) := by decide +kernel
theorem dX7_init_1 : decode cX7_init 1 = .ok (.invokespecial 1, 3) := by decide +kernel
theorem dX7_init_4 : decode cX7_init 4 = .ok (.iload_n 1, 1) := by decide +kernel
theorem dX7_init_5 : decode cX7_init 5 = .ok (.iconst 0, 1) := by decide +kernel
theorem dX7_init_6 : decode cX7_init 6 = .ok (.invokestatic 7, 3) := by decide +kernel
theorem dX7_init_9 : decode cX7_init 9 = .ok (.istore_n 3, 1) := by decide +kernel
theorem dX7_init_10 : decode cX7_init 10 = .ok (.aload_n 0, 1) := by decide +kernel
theorem dX7_init_11 : decode cX7_init 11 = .ok (.iload_n 3, 1) := by decide +kernel
theorem dX7_init_12 : decode cX7_init 12 = .ok (.anewarray 13, 3) := by decide +kernel
theorem dX7_init_15 : decode cX7_init 15 = .ok (.putfield 15, 3) := by decide +kernel
theorem dX7_init_18 : decode cX7_init 18 = .ok (.iconst 0, 1) := by decide +kernel
theorem dX7_init_19 : decode cX7_init 19 = .ok (.istore 4, 2) := by decide +kernel
theorem dX7_init_21 : decode cX7_init 21 = .ok (.iload 4, 2) := by decide +kernel
theorem dX7_init_23 : decode cX7_init 23 = .ok (.iload_n 3, 1) := by decide +kernel
theorem dX7_init_24 : decode cX7_init 24 = .ok (.if_icmp .ge 23, 3) := by decide +kernel
theorem dX7_init_27 : decode cX7_init 27 = .ok (.aload_n 0, 1) := by decide +kernel
theorem dX7_init_28 : decode cX7_init 28 = .ok (.getfield 15, 3) := by decide +kernel
theorem dX7_init_31 : decode cX7_init 31 = .ok (.iload 4, 2) := by decide +kernel
theorem dX7_init_33 : decode cX7_init 33 = .ok (.new 13, 3) := by decide +kernel
theorem dX7_init_36 : decode cX7_init 36 = .ok (.dup, 1) := by decide +kernel
theorem dX7_init_37 : decode cX7_init 37 = .ok (.invokespecial 21, 3) := by decide +kernel
theorem dX7_init_40 : decode cX7_init 40 = .ok (.aastore, 1) := by decide +kernel
theorem dX7_init_41 : decode cX7_init 41 = .ok (.iinc 4 1, 3) := by decide +kernel
theorem dX7_init_44 : decode cX7_init 44 = .ok (.goto (-23), 3) := by decide +kernel
theorem dX7_init_47 : decode cX7_init 47 = .ok (.aload_n 0, 1) := by decide +kernel
theorem dX7_init_48 : decode cX7_init 48 = .ok (.iload_n 2, 1) := by decide +kernel
theorem dX7_init_49 : decode cX7_init 49 = .ok (.putfield 22, 3) := by decide +kernel
theorem dX7_init_52 : decode cX7_init 52 = .ok (.return_, 1) := by decide +kernel
theorem dX7_hasWorker_0 : decode cX7_hasWorker 0 = .ok (.iload_n 1, 1) := by decide +kernel
theorem dX7_hasWorker_1 : decode cX7_hasWorker 1 = .ok (.ifCond .lt 24, 3) := by decide +kernel
theorem dX7_hasWorker_4 : decode cX7_hasWorker 4 = .ok (.iload_n 1, 1) := by decide +kernel
theorem dX7_hasWorker_5 : decode cX7_hasWorker 5 = .ok (.aload_n 0, 1) := by decide +kernel
theorem dX7_hasWorker_6 : decode cX7_hasWorker 6 = .ok (.getfield 22, 3) := by decide +kernel
theorem dX7_hasWorker_9 : decode cX7_hasWorker 9 = .ok (.if_icmp .ge 16, 3) := by decide +kernel
theorem dX7_hasWorker_12 : decode cX7_hasWorker 12 = .ok (.iload_n 1, 1) := by decide +kernel
theorem dX7_hasWorker_13 : decode cX7_hasWorker 13 = .ok (.aload_n 0, 1) := by decide +kernel
theorem dX7_hasWorker_14 : decode cX7_hasWorker 14 = .ok (.getfield 15, 3) := by decide +kernel
theorem dX7_hasWorker_17 : decode cX7_hasWorker 17 = .ok (.arraylength, 1) := by decide +kernel
theorem dX7_hasWorker_18 : decode cX7_hasWorker 18 = .ok (.if_icmp .ge 7, 3) := by decide +kernel
theorem dX7_hasWorker_21 : decode cX7_hasWorker 21 = .ok (.iconst 1, 1) := by decide +kernel
theorem dX7_hasWorker_22 : decode cX7_hasWorker 22 = .ok (.goto 4, 3) := by decide +kernel
theorem dX7_hasWorker_25 : decode cX7_hasWorker 25 = .ok (.iconst 0, 1) := by decide +kernel
theorem dX7_hasWorker_26 : decode cX7_hasWorker 26 = .ok (.ireturn, 1) := by decide +kernel
theorem dX8_init_0 : decode cX8_init 0 = .ok (.aload_n 0, 1) := by decide +kernel
theorem dX8_init_1 : decode cX8_init 1 = .ok (.invokespecial 1, 3) := by decide +kernel
theorem dX8_init_4 : decode cX8_init 4 = .ok (.return_, 1) := by decide +kernel
theorem dX8_begin_0 : decode cX8_begin 0 = .ok (.aload_n 0, 1) := by decide +kernel
theorem dX8_begin_1 : decode cX8_begin 1 = .ok (.aload_n 1, 1) := by decide +kernel
theorem dX8_begin_2 : decode cX8_begin 2 = .ok (.putfield 7, 3) := by decide +kernel
theorem dX8_begin_5 : decode cX8_begin 5 = .ok (.aload_n 0, 1) := by decide +kernel
theorem dX8_begin_6 : decode cX8_begin 6 = .ok (.aload_n 2, 1) := by decide +kernel
theorem dX8_begin_7 : decode cX8_begin 7 = .ok (.putfield 13, 3) := by decide +kernel
theorem dX8_begin_10 : decode cX8_begin 10 = .ok (.aload_n 0, 1) := by decide +kernel
theorem dX8_begin_11 : decode cX8_begin 11 = .ok (.iload_n 3, 1) := by decide +kernel
theorem dX8_begin_12 : decode cX8_begin 12 = .ok (.putfield 17, 3) := by decide +kernel
theorem dX8_begin_15 : decode cX8_begin 15 = .ok (.return_, 1) := by decide +kernel
theorem dX8_release_0 : decode cX8_release 0 = .ok (.aload_n 0, 1) := by decide +kernel
theorem dX8_release_1 : decode cX8_release 1 = .ok (.aconst_null, 1) := by decide +kernel
theorem dX8_release_2 : decode cX8_release 2 = .ok (.putfield 7, 3) := by decide +kernel
theorem dX8_release_5 : decode cX8_release 5 = .ok (.aload_n 0, 1) := by decide +kernel
theorem dX8_release_6 : decode cX8_release 6 = .ok (.aconst_null, 1) := by decide +kernel
theorem dX8_release_7 : decode cX8_release 7 = .ok (.putfield 13, 3) := by decide +kernel
theorem dX8_release_10 : decode cX8_release 10 = .ok (.aload_n 0, 1) := by decide +kernel
theorem dX8_release_11 : decode cX8_release 11 = .ok (.iconst 0, 1) := by decide +kernel
theorem dX8_release_12 : decode cX8_release 12 = .ok (.putfield 17, 3) := by decide +kernel
theorem dX8_release_15 : decode cX8_release 15 = .ok (.return_, 1) := by decide +kernel
set_option maxRecDepth 20000 in
theorem ggX2_entry_X2_hasEntry : GoodIn wsX2_entry wsX2_hasEntry := goodIn_r _ [6, 7, 8, 9] (by decide +kernel) (by decide +kernel)
set_option maxRecDepth 20000 in
theorem gX2_entry_X2_hasEntry : GoodIn wsX2_entry (wsV RX2 19 RX2 yX2_hasEntry wsX2_hasEntry) := goodIn_app (goodIn_of _ (by decide +kernel)) ggX2_entry_X2_hasEntry
set_option maxRecDepth 20000 in
theorem ggX3_insertByRank_X6_isServedBefore : GoodIn wsX3_insertByRank wsX6_isServedBefore := goodIn_r _ [7, 8, 9, 10, 13, 14, 15, 16, 17, 18, 19, 20, 21, 22, 23, 24, 25, 26, 27, 28, 29] (by decide +kernel) (by decide +kernel)
set_option maxRecDepth 20000 in
theorem gX3_insertByRank_X6_isServedBefore : GoodIn wsX3_insertByRank (wsV RX3 21 RX6 yX6_isServedBefore wsX6_isServedBefore) := goodIn_app (goodIn_of _ (by decide +kernel)) ggX3_insertByRank_X6_isServedBefore
set_option maxRecDepth 20000 in
theorem ggX6_init_X5_init : GoodIn wsX6_init wsX5_init := goodIn_r _ [11, 12, 2, 3, 13, 14, 15, 16, 17, 18, 19, 37, 38, 39, 40, 41, 42, 43, 44] (by decide +kernel) (by decide +kernel)
set_option maxRecDepth 20000 in
theorem gX6_init_X5_init : GoodIn wsX6_init (wsX5_init) := ggX6_init_X5_init
set_option maxRecDepth 20000 in
theorem ggX7_init_X8_init : GoodIn wsX7_init wsX8_init := goodIn_r _ [14, 15, 2, 3] (by decide +kernel) (by decide +kernel)
set_option maxRecDepth 20000 in
theorem gX7_init_X8_init_n21 : GoodIn wsX7_init (wsX8_init) := ggX7_init_X8_init
