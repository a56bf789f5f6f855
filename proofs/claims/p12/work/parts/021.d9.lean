theorem dX9_init_0 : decode cX9_init 0 = .ok (.aload_n 0, 1) := by decide +kernel
theorem dX9_init_1 : decode cX9_init 1 = .ok (.invokespecial 1, 3) := by decide +kernel
theorem dX9_init_4 : decode cX9_init 4 = .ok (.aload_n 0, 1) := by decide +kernel
theorem dX9_init_5 : decode cX9_init 5 = .ok (.bipush 12, 2) := by decide +kernel
theorem dX9_init_7 : decode cX9_init 7 = .ok (.anewarray 9, 3) := by decide +kernel
theorem dX9_init_10 : decode cX9_init 10 = .ok (.putfield 11, 3) := by decide +kernel
theorem dX9_init_13 : decode cX9_init 13 = .ok (.iconst 0, 1) := by decide +kernel
theorem dX9_init_14 : decode cX9_init 14 = .ok (.istore_n 1, 1) := by decide +kernel
theorem dX9_init_15 : decode cX9_init 15 = .ok (.iload_n 1, 1) := by decide +kernel
theorem dX9_init_16 : decode cX9_init 16 = .ok (.bipush 12, 2) := by decide +kernel
theorem dX9_init_18 : decode cX9_init 18 = .ok (.if_icmp .ge 23, 3) := by decide +kernel
theorem dX9_init_21 : decode cX9_init 21 = .ok (.aload_n 0, 1) := by decide +kernel
theorem dX9_init_22 : decode cX9_init 22 = .ok (.getfield 11, 3) := by decide +kernel
theorem dX9_init_25 : decode cX9_init 25 = .ok (.iload_n 1, 1) := by decide +kernel
theorem dX9_init_26 : decode cX9_init 26 = .ok (.new 9, 3) := by decide +kernel
theorem dX9_init_29 : decode cX9_init 29 = .ok (.dup, 1) := by decide +kernel
theorem dX9_init_30 : decode cX9_init 30 = .ok (.iload_n 1, 1) := by decide +kernel
theorem dX9_init_31 : decode cX9_init 31 = .ok (.invokespecial 15, 3) := by decide +kernel
theorem dX9_init_34 : decode cX9_init 34 = .ok (.aastore, 1) := by decide +kernel
theorem dX9_init_35 : decode cX9_init 35 = .ok (.iinc 1 1, 3) := by decide +kernel
theorem dX9_init_38 : decode cX9_init 38 = .ok (.goto (-23), 3) := by decide +kernel
theorem dX9_init_41 : decode cX9_init 41 = .ok (.aload_n 0, 1) := by decide +kernel
theorem dX9_init_42 : decode cX9_init 42 = .ok (.bipush 40, 2) := by decide +kernel
theorem dX9_init_44 : decode cX9_init 44 = .ok (.anewarray 18, 3) := by decide +kernel
theorem dX9_init_47 : decode cX9_init 47 = .ok (.putfield 20, 3) := by decide +kernel
theorem dX9_init_50 : decode cX9_init 50 = .ok (.iconst 0, 1) := by decide +kernel
theorem dX9_init_51 : decode cX9_init 51 = .ok (.istore_n 1, 1) := by decide +kernel
theorem dX9_init_52 : decode cX9_init 52 = .ok (.iload_n 1, 1) := by decide +kernel
theorem dX9_init_53 : decode cX9_init 53 = .ok (.bipush 40, 2) := by decide +kernel
theorem dX9_init_55 : decode cX9_init 55 = .ok (.if_icmp .ge 23, 3) := by decide +kernel
theorem dX9_init_58 : decode cX9_init 58 = .ok (.aload_n 0, 1) := by decide +kernel
theorem dX9_init_59 : decode cX9_init 59 = .ok (.getfield 20, 3) := by decide +kernel
theorem dX9_init_62 : decode cX9_init 62 = .ok (.iload_n 1, 1) := by decide +kernel
theorem dX9_init_63 : decode cX9_init 63 = .ok (.new 18, 3) := by decide +kernel
theorem dX9_init_66 : decode cX9_init 66 = .ok (.dup, 1) := by decide +kernel
theorem dX9_init_67 : decode cX9_init 67 = .ok (.iload_n 1, 1) := by decide +kernel
theorem dX9_init_68 : decode cX9_init 68 = .ok (.invokespecial 24, 3) := by decide +kernel
theorem dX9_init_71 : decode cX9_init 71 = .ok (.aastore, 1) := by decide +kernel
theorem dX9_init_72 : decode cX9_init 72 = .ok (.iinc 1 1, 3) := by decide +kernel
theorem dX9_init_75 : decode cX9_init 75 = .ok (.goto (-23), 3) := by decide +kernel
theorem dX9_init_78 : decode cX9_init 78 = .ok (.aload_n 0, 1) := by decide +kernel
theorem dX9_init_79 : decode cX9_init 79 = .ok (.bipush 20, 2) := by decide +kernel
theorem dX9_init_81 : decode cX9_init 81 = .ok (.anewarray 25, 3) := by decide +kernel
theorem dX9_init_84 : decode cX9_init 84 = .ok (.putfield 27, 3) := by decide +kernel
theorem dX9_init_87 : decode cX9_init 87 = .ok (.iconst 0, 1) := by decide +kernel
theorem dX9_init_88 : decode cX9_init 88 = .ok (.istore_n 1, 1) := by decide +kernel
theorem dX9_init_89 : decode cX9_init 89 = .ok (.iload_n 1, 1) := by decide +kernel
theorem dX9_init_90 : decode cX9_init 90 = .ok (.bipush 20, 2) := by decide +kernel
theorem dX9_init_92 : decode cX9_init 92 = .ok (.if_icmp .ge 23, 3) := by decide +kernel
theorem dX9_init_95 : decode cX9_init 95 = .ok (.aload_n 0, 1) := by decide +kernel
theorem dX9_init_96 : decode cX9_init 96 = .ok (.getfield 27, 3) := by decide +kernel
theorem dX9_init_99 : decode cX9_init 99 = .ok (.iload_n 1, 1) := by decide +kernel
theorem dX9_init_100 : decode cX9_init 100 = .ok (.new 25, 3) := by decide +kernel
theorem dX9_init_103 : decode cX9_init 103 = .ok (.dup, 1) := by decide +kernel
theorem dX9_init_104 : decode cX9_init 104 = .ok (.iload_n 1, 1) := by decide +kernel
theorem dX9_init_105 : decode cX9_init 105 = .ok (.invokespecial 31, 3) := by decide +kernel
theorem dX9_init_108 : decode cX9_init 108 = .ok (.aastore, 1) := by decide +kernel
theorem dX9_init_109 : decode cX9_init 109 = .ok (.iinc 1 1, 3) := by decide +kernel
theorem dX9_init_112 : decode cX9_init 112 = .ok (.goto (-23), 3) := by decide +kernel
theorem dX9_init_115 : decode cX9_init 115 = .ok (.aload_n 0, 1) := by decide +kernel
theorem dX9_init_116 : decode cX9_init 116 = .ok (.new 32, 3) := by decide +kernel
theorem dX9_init_119 : decode cX9_init 119 = .ok (.dup, 1) := by decide +kernel
theorem dX9_init_120 : decode cX9_init 120 = .ok (.iconst 4, 1) := by decide +kernel
theorem dX9_init_121 : decode cX9_init 121 = .ok (.iconst 2, 1) := by decide +kernel
theorem dX9_init_122 : decode cX9_init 122 = .ok (.invokespecial 34, 3) := by decide +kernel
theorem dX9_init_125 : decode cX9_init 125 = .ok (.putfield 37, 3) := by decide +kernel
theorem dX9_init_128 : decode cX9_init 128 = .ok (.aload_n 0, 1) := by decide +kernel
theorem dX9_init_129 : decode cX9_init 129 = .ok (.new 32, 3) := by decide +kernel
theorem dX9_init_132 : decode cX9_init 132 = .ok (.dup, 1) := by decide +kernel
theorem dX9_init_133 : decode cX9_init 133 = .ok (.iconst 3, 1) := by decide +kernel
theorem dX9_init_134 : decode cX9_init 134 = .ok (.iconst 1, 1) := by decide +kernel
theorem dX9_init_135 : decode cX9_init 135 = .ok (.invokespecial 34, 3) := by decide +kernel
theorem dX9_init_138 : decode cX9_init 138 = .ok (.putfield 41, 3) := by decide +kernel
theorem dX9_init_141 : decode cX9_init 141 = .ok (.aload_n 0, 1) := by decide +kernel
theorem dX9_init_142 : decode cX9_init 142 = .ok (.new 44, 3) := by decide +kernel
theorem dX9_init_145 : decode cX9_init 145 = .ok (.dup, 1) := by decide +kernel
theorem dX9_init_146 : decode cX9_init 146 = .ok (.invokespecial 46, 3) := by decide +kernel
theorem dX9_init_149 : decode cX9_init 149 = .ok (.putfield 47, 3) := by decide +kernel
theorem dX9_init_152 : decode cX9_init 152 = .ok (.aload_n 0, 1) := by decide +kernel
theorem dX9_init_153 : decode cX9_init 153 = .ok (.new 44, 3) := by decide +kernel
theorem dX9_init_156 : decode cX9_init 156 = .ok (.dup, 1) := by decide +kernel
theorem dX9_init_157 : decode cX9_init 157 = .ok (.invokespecial 46, 3) := by decide +kernel
theorem dX9_init_160 : decode cX9_init 160 = .ok (.putfield 51, 3) := by decide +kernel
theorem dX9_init_163 : decode cX9_init 163 = .ok (.aload_n 0, 1) := by decide +kernel
theorem dX9_init_164 : decode cX9_init 164 = .ok (.new 44, 3) := by decide +kernel
theorem dX9_init_167 : decode cX9_init 167 = .ok (.dup, 1) := by decide +kernel
theorem dX9_init_168 : decode cX9_init 168 = .ok (.invokespecial 46, 3) := by decide +kernel
theorem dX9_init_171 : decode cX9_init 171 = .ok (.putfield 54, 3) := by decide +kernel
theorem dX9_init_174 : decode cX9_init 174 = .ok (.aload_n 0, 1) := by decide +kernel
theorem dX9_init_175 : decode cX9_init 175 = .ok (.new 57, 3) := by decide +kernel
theorem dX9_init_178 : decode cX9_init 178 = .ok (.dup, 1) := by decide +kernel
theorem dX9_init_179 : decode cX9_init 179 = .ok (.invokespecial 59, 3) := by decide +kernel
theorem dX9_init_182 : decode cX9_init 182 = .ok (.putfield 60, 3) := by decide +kernel
theorem dX9_init_185 : decode cX9_init 185 = .ok (.aload_n 0, 1) := by decide +kernel
theorem dX9_init_186 : decode cX9_init 186 = .ok (.new 64, 3) := by decide +kernel
theorem dX9_init_189 : decode cX9_init 189 = .ok (.dup, 1) := by decide +kernel
theorem dX9_init_190 : decode cX9_init 190 = .ok (.invokespecial 66, 3) := by decide +kernel
theorem dX9_init_193 : decode cX9_init 193 = .ok (.putfield 67, 3) := by decide +kernel
theorem dX9_init_196 : decode cX9_init 196 = .ok (.aload_n 0, 1) := by decide +kernel
theorem dX9_init_197 : decode cX9_init 197 = .ok (.iconst 2, 1) := by decide +kernel
theorem dX9_init_198 : decode cX9_init 198 = .ok (.putfield 71, 3) := by decide +kernel
theorem dX9_init_201 : decode cX9_init 201 = .ok (.aload_n 0, 1) := by decide +kernel
theorem dX9_init_202 : decode cX9_init 202 = .ok (.iconst (-1), 1) := by decide +kernel
theorem dX9_init_203 : decode cX9_init 203 = .ok (.putfield 75, 3) := by decide +kernel
theorem dX9_init_206 : decode cX9_init 206 = .ok (.return_, 1) := by decide +kernel
theorem dX9_desk_0 : decode cX9_desk 0 = .ok (.aload_n 0, 1) := by decide +kernel
theorem dX9_desk_1 : decode cX9_desk 1 = .ok (.getfield 78, 3) := by decide +kernel
theorem dX9_desk_4 : decode cX9_desk 4 = .ok (.ifCond .gt 12, 3) := by decide +kernel
theorem dX9_desk_7 : decode cX9_desk 7 = .ok (.aload_n 0, 1) := by decide +kernel
theorem dX9_desk_8 : decode cX9_desk 8 = .ok (.getfield 81, 3) := by decide +kernel
theorem dX9_desk_11 : decode cX9_desk 11 = .ok (.bipush 12, 2) := by decide +kernel
theorem dX9_desk_13 : decode cX9_desk 13 = .ok (.if_icmp .lt 5, 3) := by decide +kernel
theorem dX9_desk_16 : decode cX9_desk 16 = .ok (.iconst (-1), 1) := by decide +kernel
theorem dX9_desk_17 : decode cX9_desk 17 = .ok (.ireturn, 1) := by decide +kernel
theorem dX9_desk_18 : decode cX9_desk 18 = .ok (.aload_n 0, 1) := by decide +kernel
theorem dX9_desk_19 : decode cX9_desk 19 = .ok (.getfield 81, 3) := by decide +kernel
theorem dX9_desk_22 : decode cX9_desk 22 = .ok (.istore_n 2, 1) := by decide +kernel
theorem dX9_desk_23 : decode cX9_desk 23 = .ok (.aload_n 0, 1) := by decide +kernel
theorem dX9_desk_24 : decode cX9_desk 24 = .ok (.getfield 11, 3) := by decide +kernel
theorem dX9_desk_27 : decode cX9_desk 27 = .ok (.iload_n 2, 1) := by decide +kernel
theorem dX9_desk_28 : decode cX9_desk 28 = .ok (.aaload, 1) := by decide +kernel
theorem dX9_desk_29 : decode cX9_desk 29 = .ok (.iload_n 1, 1) := by decide +kernel
theorem dX9_desk_30 : decode cX9_desk 30 = .ok (.putfield 84, 3) := by decide +kernel
theorem dX9_desk_33 : decode cX9_desk 33 = .ok (.aload_n 0, 1) := by decide +kernel
theorem dX9_desk_34 : decode cX9_desk 34 = .ok (.iload_n 2, 1) := by decide +kernel
theorem dX9_desk_35 : decode cX9_desk 35 = .ok (.iconst 1, 1) := by decide +kernel
theorem dX9_desk_36 : decode cX9_desk 36 = .ok (.iadd, 1) := by decide +kernel
theorem dX9_desk_37 : decode cX9_desk 37 = .ok (.putfield 81, 3) := by decide +kernel
theorem dX9_desk_40 : decode cX9_desk 40 = .ok (.iload_n 2, 1) := by decide +kernel
theorem dX9_desk_41 : decode cX9_desk 41 = .ok (.ireturn, 1) := by decide +kernel
theorem dX9_box_0 : decode cX9_box 0 = .ok (.aload_n 0, 1) := by decide +kernel
theorem dX9_box_1 : decode cX9_box 1 = .ok (.getfield 78, 3) := by decide +kernel
theorem dX9_box_4 : decode cX9_box 4 = .ok (.ifCond .gt 22, 3) := by decide +kernel
theorem dX9_box_7 : decode cX9_box 7 = .ok (.aload_n 0, 1) := by decide +kernel
theorem dX9_box_8 : decode cX9_box 8 = .ok (.getfield 88, 3) := by decide +kernel
theorem dX9_box_11 : decode cX9_box 11 = .ok (.bipush 40, 2) := by decide +kernel
theorem dX9_box_13 : decode cX9_box 13 = .ok (.if_icmp .ge 13, 3) := by decide +kernel
theorem dX9_box_16 : decode cX9_box 16 = .ok (.iload_n 1, 1) := by decide +kernel
theorem dX9_box_17 : decode cX9_box 17 = .ok (.iconst 0, 1) := by decide +kernel
theorem dX9_box_18 : decode cX9_box 18 = .ok (.bipush 9, 2) := by decide +kernel
theorem dX9_box_20 : decode cX9_box 20 = .ok (.invokestatic 91, 3) := by decide +kernel
theorem dX9_box_23 : decode cX9_box 23 = .ok (.ifCond .ne 5, 3) := by decide +kernel
theorem dX9_box_26 : decode cX9_box 26 = .ok (.iconst (-1), 1) := by decide +kernel
theorem dX9_box_27 : decode cX9_box 27 = .ok (.ireturn, 1) := by decide +kernel
theorem dX9_box_28 : decode cX9_box 28 = .ok (.aload_n 0, 1) := by decide +kernel
theorem dX9_box_29 : decode cX9_box 29 = .ok (.getfield 88, 3) := by decide +kernel
theorem dX9_box_32 : decode cX9_box 32 = .ok (.istore_n 3, 1) := by decide +kernel
theorem dX9_box_33 : decode cX9_box 33 = .ok (.aload_n 0, 1) := by decide +kernel
theorem dX9_box_34 : decode cX9_box 34 = .ok (.getfield 20, 3) := by decide +kernel
theorem dX9_box_37 : decode cX9_box 37 = .ok (.iload_n 3, 1) := by decide +kernel
theorem dX9_box_38 : decode cX9_box 38 = .ok (.aaload, 1) := by decide +kernel
theorem dX9_box_39 : decode cX9_box 39 = .ok (.iload_n 1, 1) := by decide +kernel
theorem dX9_box_40 : decode cX9_box 40 = .ok (.putfield 95, 3) := by decide +kernel
theorem dX9_box_43 : decode cX9_box 43 = .ok (.aload_n 0, 1) := by decide +kernel
theorem dX9_box_44 : decode cX9_box 44 = .ok (.getfield 20, 3) := by decide +kernel
theorem dX9_box_47 : decode cX9_box 47 = .ok (.iload_n 3, 1) := by decide +kernel
theorem dX9_box_48 : decode cX9_box 48 = .ok (.aaload, 1) := by decide +kernel
theorem dX9_box_49 : decode cX9_box 49 = .ok (.iload_n 2, 1) := by decide +kernel
theorem dX9_box_50 : decode cX9_box 50 = .ok (.putfield 98, 3) := by decide +kernel
theorem dX9_box_53 : decode cX9_box 53 = .ok (.aload_n 0, 1) := by decide +kernel
theorem dX9_box_54 : decode cX9_box 54 = .ok (.iload_n 3, 1) := by decide +kernel
theorem dX9_box_55 : decode cX9_box 55 = .ok (.iconst 1, 1) := by decide +kernel
theorem dX9_box_56 : decode cX9_box 56 = .ok (.iadd, 1) := by decide +kernel
theorem dX9_box_57 : decode cX9_box 57 = .ok (.putfield 88, 3) := by decide +kernel
theorem dX9_box_60 : decode cX9_box 60 = .ok (.iload_n 3, 1) := by decide +kernel
theorem dX9_box_61 : decode cX9_box 61 = .ok (.ireturn, 1) := by decide +kernel
theorem dX9_people_0 : decode cX9_people 0 = .ok (.aload_n 0, 1) := by decide +kernel
theorem dX9_people_1 : decode cX9_people 1 = .ok (.getfield 78, 3) := by decide +kernel
theorem dX9_people_4 : decode cX9_people 4 = .ok (.ifCond .gt 30, 3) := by decide +kernel
theorem dX9_people_7 : decode cX9_people 7 = .ok (.iload_n 1, 1) := by decide +kernel
theorem dX9_people_8 : decode cX9_people 8 = .ok (.iconst 1, 1) := by decide +kernel
theorem dX9_people_9 : decode cX9_people 9 = .ok (.iconst 4, 1) := by decide +kernel
theorem dX9_people_10 : decode cX9_people 10 = .ok (.invokestatic 91, 3) := by decide +kernel
theorem dX9_people_13 : decode cX9_people 13 = .ok (.ifCond .eq 21, 3) := by decide +kernel
theorem dX9_people_16 : decode cX9_people 16 = .ok (.iload_n 2, 1) := by decide +kernel
theorem dX9_people_17 : decode cX9_people 17 = .ok (.iconst 1, 1) := by decide +kernel
theorem dX9_people_18 : decode cX9_people 18 = .ok (.iconst 3, 1) := by decide +kernel
theorem dX9_people_19 : decode cX9_people 19 = .ok (.invokestatic 91, 3) := by decide +kernel
theorem dX9_people_22 : decode cX9_people 22 = .ok (.ifCond .eq 12, 3) := by decide +kernel
theorem dX9_people_25 : decode cX9_people 25 = .ok (.iload_n 3, 1) := by decide +kernel
theorem dX9_people_26 : decode cX9_people 26 = .ok (.iconst 1, 1) := by decide +kernel
theorem dX9_people_27 : decode cX9_people 27 = .ok (.iconst 5, 1) := by decide +kernel
theorem dX9_people_28 : decode cX9_people 28 = .ok (.invokestatic 91, 3) := by decide +kernel
theorem dX9_people_31 : decode cX9_people 31 = .ok (.ifCond .ne 5, 3) := by decide +kernel
theorem dX9_people_34 : decode cX9_people 34 = .ok (.iconst 0, 1) := by decide +kernel
theorem dX9_people_35 : decode cX9_people 35 = .ok (.ireturn, 1) := by decide +kernel
theorem dX9_people_36 : decode cX9_people 36 = .ok (.aload_n 0, 1) := by decide +kernel
theorem dX9_people_37 : decode cX9_people 37 = .ok (.getfield 37, 3) := by decide +kernel
theorem dX9_people_40 : decode cX9_people 40 = .ok (.iload_n 1, 1) := by decide +kernel
theorem dX9_people_41 : decode cX9_people 41 = .ok (.putfield 101, 3) := by decide +kernel
theorem dX9_people_44 : decode cX9_people 44 = .ok (.aload_n 0, 1) := by decide +kernel
theorem dX9_people_45 : decode cX9_people 45 = .ok (.getfield 41, 3) := by decide +kernel
theorem dX9_people_48 : decode cX9_people 48 = .ok (.iload_n 2, 1) := by decide +kernel
theorem dX9_people_49 : decode cX9_people 49 = .ok (.putfield 101, 3) := by decide +kernel
theorem dX9_people_52 : decode cX9_people 52 = .ok (.aload_n 0, 1) := by decide +kernel
theorem dX9_people_53 : decode cX9_people 53 = .ok (.iload_n 3, 1) := by decide +kernel
theorem dX9_people_54 : decode cX9_people 54 = .ok (.putfield 71, 3) := by decide +kernel
theorem dX9_people_57 : decode cX9_people 57 = .ok (.iconst 1, 1) := by decide +kernel
theorem dX9_people_58 : decode cX9_people 58 = .ok (.ireturn, 1) := by decide +kernel
theorem dX9_reader_0 : decode cX9_reader 0 = .ok (.aload_n 0, 1) := by decide +kernel
theorem dX9_reader_1 : decode cX9_reader 1 = .ok (.getfield 104, 3) := by decide +kernel
theorem dX9_reader_4 : decode cX9_reader 4 = .ok (.bipush 20, 2) := by decide +kernel
theorem dX9_reader_6 : decode cX9_reader 6 = .ok (.if_icmp .ge 30, 3) := by decide +kernel
theorem dX9_reader_9 : decode cX9_reader 9 = .ok (.iload_n 1, 1) := by decide +kernel
theorem dX9_reader_10 : decode cX9_reader 10 = .ok (.iconst 1, 1) := by decide +kernel
theorem dX9_reader_11 : decode cX9_reader 11 = .ok (.sipush 1000, 3) := by decide +kernel
theorem dX9_reader_14 : decode cX9_reader 14 = .ok (.invokestatic 91, 3) := by decide +kernel
theorem dX9_reader_17 : decode cX9_reader 17 = .ok (.ifCond .eq 19, 3) := by decide +kernel
theorem dX9_reader_20 : decode cX9_reader 20 = .ok (.iload_n 2, 1) := by decide +kernel
theorem dX9_reader_21 : decode cX9_reader 21 = .ok (.iconst 0, 1) := by decide +kernel
theorem dX9_reader_22 : decode cX9_reader 22 = .ok (.iconst 3, 1) := by decide +kernel
theorem dX9_reader_23 : decode cX9_reader 23 = .ok (.invokestatic 91, 3) := by decide +kernel
theorem dX9_reader_26 : decode cX9_reader 26 = .ok (.ifCond .eq 10, 3) := by decide +kernel
theorem dX9_reader_29 : decode cX9_reader 29 = .ok (.aload_n 0, 1) := by decide +kernel
theorem dX9_reader_30 : decode cX9_reader 30 = .ok (.invokevirtual 107, 3) := by decide +kernel
theorem dX9_reader_33 : decode cX9_reader 33 = .ok (.ifCond .eq 5, 3) := by decide +kernel
theorem dX9_reader_36 : decode cX9_reader 36 = .ok (.iconst (-1), 1) := by decide +kernel
theorem dX9_reader_37 : decode cX9_reader 37 = .ok (.ireturn, 1) := by decide +kernel
theorem dX9_reader_38 : decode cX9_reader 38 = .ok (.aload_n 0, 1) := by decide +kernel
theorem dX9_reader_39 : decode cX9_reader 39 = .ok (.getfield 104, 3) := by decide +kernel
theorem dX9_reader_42 : decode cX9_reader 42 = .ok (.istore 4, 2) := by decide +kernel
theorem dX9_reader_44 : decode cX9_reader 44 = .ok (.aload_n 0, 1) := by decide +kernel
theorem dX9_reader_45 : decode cX9_reader 45 = .ok (.getfield 27, 3) := by decide +kernel
theorem dX9_reader_48 : decode cX9_reader 48 = .ok (.iload 4, 2) := by decide +kernel
theorem dX9_reader_50 : decode cX9_reader 50 = .ok (.aaload, 1) := by decide +kernel
theorem dX9_reader_51 : decode cX9_reader 51 = .ok (.astore 5, 2) := by decide +kernel
theorem dX9_reader_53 : decode cX9_reader 53 = .ok (.aload 5, 2) := by decide +kernel
theorem dX9_reader_55 : decode cX9_reader 55 = .ok (.iload_n 1, 1) := by decide +kernel
theorem dX9_reader_56 : decode cX9_reader 56 = .ok (.putfield 111, 3) := by decide +kernel
theorem dX9_reader_59 : decode cX9_reader 59 = .ok (.aload 5, 2) := by decide +kernel
theorem dX9_reader_61 : decode cX9_reader 61 = .ok (.iload_n 2, 1) := by decide +kernel
theorem dX9_reader_62 : decode cX9_reader 62 = .ok (.putfield 114, 3) := by decide +kernel
theorem dX9_reader_65 : decode cX9_reader 65 = .ok (.aload 5, 2) := by decide +kernel
theorem dX9_reader_67 : decode cX9_reader 67 = .ok (.iload_n 3, 1) := by decide +kernel
theorem dX9_reader_68 : decode cX9_reader 68 = .ok (.putfield 117, 3) := by decide +kernel
theorem dX9_reader_71 : decode cX9_reader 71 = .ok (.aload_n 0, 1) := by decide +kernel
theorem dX9_reader_72 : decode cX9_reader 72 = .ok (.iload 4, 2) := by decide +kernel
theorem dX9_reader_74 : decode cX9_reader 74 = .ok (.iconst 1, 1) := by decide +kernel
theorem dX9_reader_75 : decode cX9_reader 75 = .ok (.iadd, 1) := by decide +kernel
theorem dX9_reader_76 : decode cX9_reader 76 = .ok (.putfield 104, 3) := by decide +kernel
theorem dX9_reader_79 : decode cX9_reader 79 = .ok (.iload 4, 2) := by decide +kernel
theorem dX9_reader_81 : decode cX9_reader 81 = .ok (.ireturn, 1) := by decide +kernel
theorem dX9_ask_0 : decode cX9_ask 0 = .ok (.aload_n 0, 1) := by decide +kernel
theorem dX9_ask_1 : decode cX9_ask 1 = .ok (.iload_n 2, 1) := by decide +kernel
theorem dX9_ask_2 : decode cX9_ask 2 = .ok (.invokevirtual 120, 3) := by decide +kernel
theorem dX9_ask_5 : decode cX9_ask 5 = .ok (.ifCond .eq 19, 3) := by decide +kernel
theorem dX9_ask_8 : decode cX9_ask 8 = .ok (.aload_n 0, 1) := by decide +kernel
theorem dX9_ask_9 : decode cX9_ask 9 = .ok (.iload_n 1, 1) := by decide +kernel
theorem dX9_ask_10 : decode cX9_ask 10 = .ok (.iconst 0, 1) := by decide +kernel
theorem dX9_ask_11 : decode cX9_ask 11 = .ok (.iload_n 2, 1) := by decide +kernel
theorem dX9_ask_12 : decode cX9_ask 12 = .ok (.iconst 0, 1) := by decide +kernel
theorem dX9_ask_13 : decode cX9_ask 13 = .ok (.iconst 0, 1) := by decide +kernel
theorem dX9_ask_14 : decode cX9_ask 14 = .ok (.invokevirtual 124, 3) := by decide +kernel
theorem dX9_ask_17 : decode cX9_ask 17 = .ok (.ifCond .eq 7, 3) := by decide +kernel
theorem dX9_ask_20 : decode cX9_ask 20 = .ok (.iconst 1, 1) := by decide +kernel
theorem dX9_ask_21 : decode cX9_ask 21 = .ok (.goto 4, 3) := by decide +kernel
theorem dX9_ask_24 : decode cX9_ask 24 = .ok (.iconst 0, 1) := by decide +kernel
theorem dX9_ask_25 : decode cX9_ask 25 = .ok (.ireturn, 1) := by decide +kernel
theorem dX9_read_0 : decode cX9_read 0 = .ok (.iload_n 2, 1) := by decide +kernel
theorem dX9_read_1 : decode cX9_read 1 = .ok (.iconst 1, 1) := by decide +kernel
theorem dX9_read_2 : decode cX9_read 2 = .ok (.bipush 50, 2) := by decide +kernel
theorem dX9_read_4 : decode cX9_read 4 = .ok (.invokestatic 91, 3) := by decide +kernel
theorem dX9_read_7 : decode cX9_read 7 = .ok (.ifCond .eq 19, 3) := by decide +kernel
theorem dX9_read_10 : decode cX9_read 10 = .ok (.aload_n 0, 1) := by decide +kernel
theorem dX9_read_11 : decode cX9_read 11 = .ok (.iload_n 1, 1) := by decide +kernel
theorem dX9_read_12 : decode cX9_read 12 = .ok (.iconst 1, 1) := by decide +kernel
theorem dX9_read_13 : decode cX9_read 13 = .ok (.iconst (-1), 1) := by decide +kernel
theorem dX9_read_14 : decode cX9_read 14 = .ok (.iload_n 2, 1) := by decide +kernel
theorem dX9_read_15 : decode cX9_read 15 = .ok (.iconst 0, 1) := by decide +kernel
theorem dX9_read_16 : decode cX9_read 16 = .ok (.invokevirtual 124, 3) := by decide +kernel
theorem dX9_read_19 : decode cX9_read 19 = .ok (.ifCond .eq 7, 3) := by decide +kernel
theorem dX9_read_22 : decode cX9_read 22 = .ok (.iconst 1, 1) := by decide +kernel
theorem dX9_read_23 : decode cX9_read 23 = .ok (.goto 4, 3) := by decide +kernel
theorem dX9_read_26 : decode cX9_read 26 = .ok (.iconst 0, 1) := by decide +kernel
theorem dX9_read_27 : decode cX9_read 27 = .ok (.ireturn, 1) := by decide +kernel
theorem dX9_copy_0 : decode cX9_copy 0 = .ok (.aload_n 0, 1) := by decide +kernel
theorem dX9_copy_1 : decode cX9_copy 1 = .ok (.iload_n 2, 1) := by decide +kernel
theorem dX9_copy_2 : decode cX9_copy 2 = .ok (.invokevirtual 120, 3) := by decide +kernel
theorem dX9_copy_5 : decode cX9_copy 5 = .ok (.ifCond .eq 30, 3) := by decide +kernel
theorem dX9_copy_8 : decode cX9_copy 8 = .ok (.iload_n 3, 1) := by decide +kernel
theorem dX9_copy_9 : decode cX9_copy 9 = .ok (.iconst 1, 1) := by decide +kernel
theorem dX9_copy_10 : decode cX9_copy 10 = .ok (.bipush 30, 2) := by decide +kernel
theorem dX9_copy_12 : decode cX9_copy 12 = .ok (.invokestatic 91, 3) := by decide +kernel
theorem dX9_copy_15 : decode cX9_copy 15 = .ok (.ifCond .eq 20, 3) := by decide +kernel
theorem dX9_copy_18 : decode cX9_copy 18 = .ok (.aload_n 0, 1) := by decide +kernel
theorem dX9_copy_19 : decode cX9_copy 19 = .ok (.iload_n 1, 1) := by decide +kernel
theorem dX9_copy_20 : decode cX9_copy 20 = .ok (.iconst 2, 1) := by decide +kernel
theorem dX9_copy_21 : decode cX9_copy 21 = .ok (.iload_n 2, 1) := by decide +kernel
theorem dX9_copy_22 : decode cX9_copy 22 = .ok (.iload_n 3, 1) := by decide +kernel
theorem dX9_copy_23 : decode cX9_copy 23 = .ok (.iload 4, 2) := by decide +kernel
theorem dX9_copy_25 : decode cX9_copy 25 = .ok (.invokevirtual 124, 3) := by decide +kernel
theorem dX9_copy_28 : decode cX9_copy 28 = .ok (.ifCond .eq 7, 3) := by decide +kernel
theorem dX9_copy_31 : decode cX9_copy 31 = .ok (.iconst 1, 1) := by decide +kernel
theorem dX9_copy_32 : decode cX9_copy 32 = .ok (.goto 4, 3) := by decide +kernel
theorem dX9_copy_35 : decode cX9_copy 35 = .ok (.iconst 0, 1) := by decide +kernel
theorem dX9_copy_36 : decode cX9_copy 36 = .ok (.ireturn, 1) := by decide +kernel
theorem dX9_back_0 : decode cX9_back 0 = .ok (.aload_n 0, 1) := by decide +kernel
theorem dX9_back_1 : decode cX9_back 1 = .ok (.iload_n 2, 1) := by decide +kernel
theorem dX9_back_2 : decode cX9_back 2 = .ok (.invokevirtual 120, 3) := by decide +kernel
theorem dX9_back_5 : decode cX9_back 5 = .ok (.ifCond .eq 19, 3) := by decide +kernel
theorem dX9_back_8 : decode cX9_back 8 = .ok (.aload_n 0, 1) := by decide +kernel
theorem dX9_back_9 : decode cX9_back 9 = .ok (.iload_n 1, 1) := by decide +kernel
theorem dX9_back_10 : decode cX9_back 10 = .ok (.iconst 3, 1) := by decide +kernel
theorem dX9_back_11 : decode cX9_back 11 = .ok (.iload_n 2, 1) := by decide +kernel
theorem dX9_back_12 : decode cX9_back 12 = .ok (.iconst 0, 1) := by decide +kernel
theorem dX9_back_13 : decode cX9_back 13 = .ok (.iconst 0, 1) := by decide +kernel
theorem dX9_back_14 : decode cX9_back 14 = .ok (.invokevirtual 124, 3) := by decide +kernel
theorem dX9_back_17 : decode cX9_back 17 = .ok (.ifCond .eq 7, 3) := by decide +kernel
theorem dX9_back_20 : decode cX9_back 20 = .ok (.iconst 1, 1) := by decide +kernel
theorem dX9_back_21 : decode cX9_back 21 = .ok (.goto 4, 3) := by decide +kernel
theorem dX9_back_24 : decode cX9_back 24 = .ok (.iconst 0, 1) := by decide +kernel
theorem dX9_back_25 : decode cX9_back 25 = .ok (.ireturn, 1) := by decide +kernel
theorem dX9_addStep_0 : decode cX9_addStep 0 = .ok (.aload_n 0, 1) := by decide +kernel
theorem dX9_addStep_1 : decode cX9_addStep 1 = .ok (.iload_n 1, 1) := by decide +kernel
theorem dX9_addStep_2 : decode cX9_addStep 2 = .ok (.invokevirtual 128, 3) := by decide +kernel
theorem dX9_addStep_5 : decode cX9_addStep 5 = .ok (.ifCond .eq 15, 3) := by decide +kernel
theorem dX9_addStep_8 : decode cX9_addStep 8 = .ok (.aload_n 0, 1) := by decide +kernel
theorem dX9_addStep_9 : decode cX9_addStep 9 = .ok (.getfield 27, 3) := by decide +kernel
theorem dX9_addStep_12 : decode cX9_addStep 12 = .ok (.iload_n 1, 1) := by decide +kernel
theorem dX9_addStep_13 : decode cX9_addStep 13 = .ok (.aaload, 1) := by decide +kernel
theorem dX9_addStep_14 : decode cX9_addStep 14 = .ok (.invokestatic 131, 3) := by decide +kernel
theorem dX9_addStep_17 : decode cX9_addStep 17 = .ok (.ifCond .eq 5, 3) := by decide +kernel
theorem dX9_addStep_20 : decode cX9_addStep 20 = .ok (.iconst 0, 1) := by decide +kernel
theorem dX9_addStep_21 : decode cX9_addStep 21 = .ok (.ireturn, 1) := by decide +kernel
theorem dX9_addStep_22 : decode cX9_addStep 22 = .ok (.aload_n 0, 1) := by decide +kernel
theorem dX9_addStep_23 : decode cX9_addStep 23 = .ok (.getfield 27, 3) := by decide +kernel
theorem dX9_addStep_26 : decode cX9_addStep 26 = .ok (.iload_n 1, 1) := by decide +kernel
theorem dX9_addStep_27 : decode cX9_addStep 27 = .ok (.aaload, 1) := by decide +kernel
theorem dX9_addStep_28 : decode cX9_addStep 28 = .ok (.getfield 135, 3) := by decide +kernel
theorem dX9_addStep_31 : decode cX9_addStep 31 = .ok (.iload_n 2, 1) := by decide +kernel
theorem dX9_addStep_32 : decode cX9_addStep 32 = .ok (.iload_n 3, 1) := by decide +kernel
theorem dX9_addStep_33 : decode cX9_addStep 33 = .ok (.iload 4, 2) := by decide +kernel
theorem dX9_addStep_35 : decode cX9_addStep 35 = .ok (.iload 5, 2) := by decide +kernel
theorem dX9_addStep_37 : decode cX9_addStep 37 = .ok (.invokevirtual 139, 3) := by decide +kernel
theorem dX9_addStep_40 : decode cX9_addStep 40 = .ok (.ireturn, 1) := by decide +kernel
theorem dX9_bell_0 : decode cX9_bell 0 = .ok (.iload_n 1, 1) := by decide +kernel
theorem dX9_bell_1 : decode cX9_bell 1 = .ok (.aload_n 0, 1) := by decide +kernel
theorem dX9_bell_2 : decode cX9_bell 2 = .ok (.getfield 78, 3) := by decide +kernel
theorem dX9_bell_5 : decode cX9_bell 5 = .ok (.if_icmp .le 11, 3) := by decide +kernel
theorem dX9_bell_8 : decode cX9_bell 8 = .ok (.aload_n 0, 1) := by decide +kernel
theorem dX9_bell_9 : decode cX9_bell 9 = .ok (.getfield 75, 3) := by decide +kernel
theorem dX9_bell_12 : decode cX9_bell 12 = .ok (.iconst (-1), 1) := by decide +kernel
theorem dX9_bell_13 : decode cX9_bell 13 = .ok (.if_icmp .eq 5, 3) := by decide +kernel
theorem dX9_bell_16 : decode cX9_bell 16 = .ok (.iconst 0, 1) := by decide +kernel
theorem dX9_bell_17 : decode cX9_bell 17 = .ok (.ireturn, 1) := by decide +kernel
theorem dX9_bell_18 : decode cX9_bell 18 = .ok (.aload_n 0, 1) := by decide +kernel
theorem dX9_bell_19 : decode cX9_bell 19 = .ok (.iload_n 1, 1) := by decide +kernel
theorem dX9_bell_20 : decode cX9_bell 20 = .ok (.putfield 75, 3) := by decide +kernel
theorem dX9_bell_23 : decode cX9_bell 23 = .ok (.iconst 1, 1) := by decide +kernel
theorem dX9_bell_24 : decode cX9_bell 24 = .ok (.ireturn, 1) := by decide +kernel
theorem dX9_mishap_0 : decode cX9_mishap 0 = .ok (.iload_n 1, 1) := by decide +kernel
theorem dX9_mishap_1 : decode cX9_mishap 1 = .ok (.aload_n 0, 1) := by decide +kernel
theorem dX9_mishap_2 : decode cX9_mishap 2 = .ok (.getfield 78, 3) := by decide +kernel
theorem dX9_mishap_5 : decode cX9_mishap 5 = .ok (.if_icmp .le 12, 3) := by decide +kernel
theorem dX9_mishap_8 : decode cX9_mishap 8 = .ok (.aload_n 0, 1) := by decide +kernel
theorem dX9_mishap_9 : decode cX9_mishap 9 = .ok (.iload_n 2, 1) := by decide +kernel
theorem dX9_mishap_10 : decode cX9_mishap 10 = .ok (.iload_n 3, 1) := by decide +kernel
theorem dX9_mishap_11 : decode cX9_mishap 11 = .ok (.invokevirtual 145, 3) := by decide +kernel
theorem dX9_mishap_14 : decode cX9_mishap 14 = .ok (.ifCond .ne 5, 3) := by decide +kernel
theorem dX9_mishap_17 : decode cX9_mishap 17 = .ok (.iconst 0, 1) := by decide +kernel
theorem dX9_mishap_18 : decode cX9_mishap 18 = .ok (.ireturn, 1) := by decide +kernel
theorem dX9_mishap_19 : decode cX9_mishap 19 = .ok (.aload_n 0, 1) := by decide +kernel
theorem dX9_mishap_20 : decode cX9_mishap 20 = .ok (.getfield 60, 3) := by decide +kernel
theorem dX9_mishap_23 : decode cX9_mishap 23 = .ok (.iload_n 1, 1) := by decide +kernel
theorem dX9_mishap_24 : decode cX9_mishap 24 = .ok (.iload_n 2, 1) := by decide +kernel
theorem dX9_mishap_25 : decode cX9_mishap 25 = .ok (.iload_n 3, 1) := by decide +kernel
theorem dX9_mishap_26 : decode cX9_mishap 26 = .ok (.invokevirtual 149, 3) := by decide +kernel
theorem dX9_mishap_29 : decode cX9_mishap 29 = .ok (.ireturn, 1) := by decide +kernel
theorem dX9_isPerson_0 : decode cX9_isPerson 0 = .ok (.iload_n 1, 1) := by decide +kernel
theorem dX9_isPerson_1 : decode cX9_isPerson 1 = .ok (.tableswitch 51 0 2 #[27, 33, 42], 27) := by decide +kernel
theorem dX9_isPerson_28 : decode cX9_isPerson 28 = .ok (.aload_n 0, 1) := by decide +kernel
theorem dX9_isPerson_29 : decode cX9_isPerson 29 = .ok (.iload_n 2, 1) := by decide +kernel
theorem dX9_isPerson_30 : decode cX9_isPerson 30 = .ok (.invokevirtual 128, 3) := by decide +kernel
theorem dX9_isPerson_33 : decode cX9_isPerson 33 = .ok (.ireturn, 1) := by decide +kernel
theorem dX9_isPerson_34 : decode cX9_isPerson 34 = .ok (.aload_n 0, 1) := by decide +kernel
theorem dX9_isPerson_35 : decode cX9_isPerson 35 = .ok (.getfield 37, 3) := by decide +kernel
theorem dX9_isPerson_38 : decode cX9_isPerson 38 = .ok (.iload_n 2, 1) := by decide +kernel
theorem dX9_isPerson_39 : decode cX9_isPerson 39 = .ok (.invokevirtual 151, 3) := by decide +kernel
theorem dX9_isPerson_42 : decode cX9_isPerson 42 = .ok (.ireturn, 1) := by decide +kernel
theorem dX9_isPerson_43 : decode cX9_isPerson 43 = .ok (.aload_n 0, 1) := by decide +kernel
theorem dX9_isPerson_44 : decode cX9_isPerson 44 = .ok (.getfield 41, 3) := by decide +kernel
theorem dX9_isPerson_47 : decode cX9_isPerson 47 = .ok (.iload_n 2, 1) := by decide +kernel
theorem dX9_isPerson_48 : decode cX9_isPerson 48 = .ok (.invokevirtual 151, 3) := by decide +kernel
theorem dX9_isPerson_51 : decode cX9_isPerson 51 = .ok (.ireturn, 1) := by decide +kernel
theorem dX9_isPerson_52 : decode cX9_isPerson 52 = .ok (.iconst 0, 1) := by decide +kernel
theorem dX9_isPerson_53 : decode cX9_isPerson 53 = .ok (.ireturn, 1) := by decide +kernel
theorem dX9_run_0 : decode cX9_run 0 = .ok (.iload_n 1, 1) := by decide +kernel
theorem dX9_run_1 : decode cX9_run 1 = .ok (.iconst 0, 1) := by decide +kernel
theorem dX9_run_2 : decode cX9_run 2 = .ok (.sipush 200, 3) := by decide +kernel
theorem dX9_run_5 : decode cX9_run 5 = .ok (.invokestatic 91, 3) := by decide +kernel
theorem dX9_run_8 : decode cX9_run 8 = .ok (.ifCond .ne 5, 3) := by decide +kernel
theorem dX9_run_11 : decode cX9_run 11 = .ok (.iconst (-1), 1) := by decide +kernel
theorem dX9_run_12 : decode cX9_run 12 = .ok (.ireturn, 1) := by decide +kernel
theorem dX9_run_13 : decode cX9_run 13 = .ok (.iconst 0, 1) := by decide +kernel
theorem dX9_run_14 : decode cX9_run 14 = .ok (.istore_n 2, 1) := by decide +kernel
theorem dX9_run_15 : decode cX9_run 15 = .ok (.iload_n 2, 1) := by decide +kernel
theorem dX9_run_16 : decode cX9_run 16 = .ok (.iload_n 1, 1) := by decide +kernel
theorem dX9_run_17 : decode cX9_run 17 = .ok (.if_icmp .ge 13, 3) := by decide +kernel
theorem dX9_run_20 : decode cX9_run 20 = .ok (.aload_n 0, 1) := by decide +kernel
theorem dX9_run_21 : decode cX9_run 21 = .ok (.invokevirtual 154, 3) := by decide +kernel
theorem dX9_run_24 : decode cX9_run 24 = .ok (.iinc 2 1, 3) := by decide +kernel
theorem dX9_run_27 : decode cX9_run 27 = .ok (.goto (-12), 3) := by decide +kernel
theorem dX9_run_30 : decode cX9_run 30 = .ok (.aload_n 0, 1) := by decide +kernel
theorem dX9_run_31 : decode cX9_run 31 = .ok (.getfield 78, 3) := by decide +kernel
theorem dX9_run_34 : decode cX9_run 34 = .ok (.ireturn, 1) := by decide +kernel
theorem dX9_passTurn_0 : decode cX9_passTurn 0 = .ok (.aload_n 0, 1) := by decide +kernel
theorem dX9_passTurn_1 : decode cX9_passTurn 1 = .ok (.dup, 1) := by decide +kernel
theorem dX9_passTurn_2 : decode cX9_passTurn 2 = .ok (.getfield 78, 3) := by decide +kernel
theorem dX9_passTurn_5 : decode cX9_passTurn 5 = .ok (.iconst 1, 1) := by decide +kernel
theorem dX9_passTurn_6 : decode cX9_passTurn 6 = .ok (.iadd, 1) := by decide +kernel
theorem dX9_passTurn_7 : decode cX9_passTurn 7 = .ok (.putfield 78, 3) := by decide +kernel
theorem dX9_passTurn_10 : decode cX9_passTurn 10 = .ok (.aload_n 0, 1) := by decide +kernel
theorem dX9_passTurn_11 : decode cX9_passTurn 11 = .ok (.invokevirtual 157, 3) := by decide +kernel
theorem dX9_passTurn_14 : decode cX9_passTurn 14 = .ok (.aload_n 0, 1) := by decide +kernel
theorem dX9_passTurn_15 : decode cX9_passTurn 15 = .ok (.getfield 78, 3) := by decide +kernel
theorem dX9_passTurn_18 : decode cX9_passTurn 18 = .ok (.aload_n 0, 1) := by decide +kernel
theorem dX9_passTurn_19 : decode cX9_passTurn 19 = .ok (.getfield 75, 3) := by decide +kernel
theorem dX9_passTurn_22 : decode cX9_passTurn 22 = .ok (.if_icmp .ne 7, 3) := by decide +kernel
theorem dX9_passTurn_25 : decode cX9_passTurn 25 = .ok (.aload_n 0, 1) := by decide +kernel
theorem dX9_passTurn_26 : decode cX9_passTurn 26 = .ok (.invokevirtual 160, 3) := by decide +kernel
theorem dX9_passTurn_29 : decode cX9_passTurn 29 = .ok (.aload_n 0, 1) := by decide +kernel
theorem dX9_passTurn_30 : decode cX9_passTurn 30 = .ok (.invokevirtual 163, 3) := by decide +kernel
theorem dX9_passTurn_33 : decode cX9_passTurn 33 = .ok (.aload_n 0, 1) := by decide +kernel
theorem dX9_passTurn_34 : decode cX9_passTurn 34 = .ok (.invokevirtual 166, 3) := by decide +kernel
theorem dX9_passTurn_37 : decode cX9_passTurn 37 = .ok (.aload_n 0, 1) := by decide +kernel
theorem dX9_passTurn_38 : decode cX9_passTurn 38 = .ok (.invokevirtual 169, 3) := by decide +kernel
theorem dX9_passTurn_41 : decode cX9_passTurn 41 = .ok (.aload_n 0, 1) := by decide +kernel
theorem dX9_passTurn_42 : decode cX9_passTurn 42 = .ok (.invokevirtual 172, 3) := by decide +kernel
theorem dX9_passTurn_45 : decode cX9_passTurn 45 = .ok (.aload_n 0, 1) := by decide +kernel
theorem dX9_passTurn_46 : decode cX9_passTurn 46 = .ok (.invokevirtual 175, 3) := by decide +kernel
theorem dX9_passTurn_49 : decode cX9_passTurn 49 = .ok (.aload_n 0, 1) := by decide +kernel
theorem dX9_passTurn_50 : decode cX9_passTurn 50 = .ok (.invokevirtual 178, 3) := by decide +kernel
theorem dX9_passTurn_53 : decode cX9_passTurn 53 = .ok (.aload_n 0, 1) := by decide +kernel
theorem dX9_passTurn_54 : decode cX9_passTurn 54 = .ok (.invokevirtual 181, 3) := by decide +kernel
theorem dX9_passTurn_57 : decode cX9_passTurn 57 = .ok (.aload_n 0, 1) := by decide +kernel
theorem dX9_passTurn_58 : decode cX9_passTurn 58 = .ok (.invokevirtual 184, 3) := by decide +kernel
theorem dX9_passTurn_61 : decode cX9_passTurn 61 = .ok (.aload_n 0, 1) := by decide +kernel
theorem dX9_passTurn_62 : decode cX9_passTurn 62 = .ok (.invokevirtual 187, 3) := by decide +kernel
theorem dX9_passTurn_65 : decode cX9_passTurn 65 = .ok (.return_, 1) := by decide +kernel
theorem dX9_sufferMishaps_0 : decode cX9_sufferMishaps 0 = .ok (.iconst 0, 1) := by decide +kernel
theorem dX9_sufferMishaps_1 : decode cX9_sufferMishaps 1 = .ok (.istore_n 1, 1) := by decide +kernel
theorem dX9_sufferMishaps_2 : decode cX9_sufferMishaps 2 = .ok (.iload_n 1, 1) := by decide +kernel
theorem dX9_sufferMishaps_3 : decode cX9_sufferMishaps 3 = .ok (.aload_n 0, 1) := by decide +kernel
theorem dX9_sufferMishaps_4 : decode cX9_sufferMishaps 4 = .ok (.getfield 60, 3) := by decide +kernel
theorem dX9_sufferMishaps_7 : decode cX9_sufferMishaps 7 = .ok (.getfield 190, 3) := by decide +kernel
theorem dX9_sufferMishaps_10 : decode cX9_sufferMishaps 10 = .ok (.if_icmp .ge 47, 3) := by decide +kernel
theorem dX9_sufferMishaps_13 : decode cX9_sufferMishaps 13 = .ok (.aload_n 0, 1) := by decide +kernel
theorem dX9_sufferMishaps_14 : decode cX9_sufferMishaps 14 = .ok (.getfield 60, 3) := by decide +kernel
theorem dX9_sufferMishaps_17 : decode cX9_sufferMishaps 17 = .ok (.getfield 193, 3) := by decide +kernel
theorem dX9_sufferMishaps_20 : decode cX9_sufferMishaps 20 = .ok (.iload_n 1, 1) := by decide +kernel
theorem dX9_sufferMishaps_21 : decode cX9_sufferMishaps 21 = .ok (.iaload, 1) := by decide +kernel
theorem dX9_sufferMishaps_22 : decode cX9_sufferMishaps 22 = .ok (.aload_n 0, 1) := by decide +kernel
theorem dX9_sufferMishaps_23 : decode cX9_sufferMishaps 23 = .ok (.getfield 78, 3) := by decide +kernel
theorem dX9_sufferMishaps_26 : decode cX9_sufferMishaps 26 = .ok (.if_icmp .ne 25, 3) := by decide +kernel
theorem dX9_sufferMishaps_29 : decode cX9_sufferMishaps 29 = .ok (.aload_n 0, 1) := by decide +kernel
theorem dX9_sufferMishaps_30 : decode cX9_sufferMishaps 30 = .ok (.aload_n 0, 1) := by decide +kernel
theorem dX9_sufferMishaps_31 : decode cX9_sufferMishaps 31 = .ok (.getfield 60, 3) := by decide +kernel
theorem dX9_sufferMishaps_34 : decode cX9_sufferMishaps 34 = .ok (.getfield 197, 3) := by decide +kernel
theorem dX9_sufferMishaps_37 : decode cX9_sufferMishaps 37 = .ok (.iload_n 1, 1) := by decide +kernel
theorem dX9_sufferMishaps_38 : decode cX9_sufferMishaps 38 = .ok (.iaload, 1) := by decide +kernel
theorem dX9_sufferMishaps_39 : decode cX9_sufferMishaps 39 = .ok (.aload_n 0, 1) := by decide +kernel
theorem dX9_sufferMishaps_40 : decode cX9_sufferMishaps 40 = .ok (.getfield 60, 3) := by decide +kernel
theorem dX9_sufferMishaps_43 : decode cX9_sufferMishaps 43 = .ok (.getfield 200, 3) := by decide +kernel
theorem dX9_sufferMishaps_46 : decode cX9_sufferMishaps 46 = .ok (.iload_n 1, 1) := by decide +kernel
theorem dX9_sufferMishaps_47 : decode cX9_sufferMishaps 47 = .ok (.iaload, 1) := by decide +kernel
theorem dX9_sufferMishaps_48 : decode cX9_sufferMishaps 48 = .ok (.invokevirtual 203, 3) := by decide +kernel
theorem dX9_sufferMishaps_51 : decode cX9_sufferMishaps 51 = .ok (.iinc 1 1, 3) := by decide +kernel
theorem dX9_sufferMishaps_54 : decode cX9_sufferMishaps 54 = .ok (.goto (-52), 3) := by decide +kernel
theorem dX9_sufferMishaps_57 : decode cX9_sufferMishaps 57 = .ok (.aload_n 0, 1) := by decide +kernel
theorem dX9_sufferMishaps_58 : decode cX9_sufferMishaps 58 = .ok (.getfield 60, 3) := by decide +kernel
theorem dX9_sufferMishaps_61 : decode cX9_sufferMishaps 61 = .ok (.aload_n 0, 1) := by decide +kernel
theorem dX9_sufferMishaps_62 : decode cX9_sufferMishaps 62 = .ok (.getfield 78, 3) := by decide +kernel
theorem dX9_sufferMishaps_65 : decode cX9_sufferMishaps 65 = .ok (.invokevirtual 206, 3) := by decide +kernel
theorem dX9_sufferMishaps_68 : decode cX9_sufferMishaps 68 = .ok (.return_, 1) := by decide +kernel
theorem dX9_suffer_0 : decode cX9_suffer 0 = .ok (.aload_n 0, 1) := by decide +kernel
theorem dX9_suffer_1 : decode cX9_suffer 1 = .ok (.iload_n 1, 1) := by decide +kernel
theorem dX9_suffer_2 : decode cX9_suffer 2 = .ok (.iload_n 2, 1) := by decide +kernel
theorem dX9_suffer_3 : decode cX9_suffer 3 = .ok (.invokevirtual 145, 3) := by decide +kernel
theorem dX9_suffer_6 : decode cX9_suffer 6 = .ok (.ifCond .ne 4, 3) := by decide +kernel
theorem dX9_suffer_9 : decode cX9_suffer 9 = .ok (.return_, 1) := by decide +kernel
theorem dX9_suffer_10 : decode cX9_suffer 10 = .ok (.iload_n 1, 1) := by decide +kernel
theorem dX9_suffer_11 : decode cX9_suffer 11 = .ok (.ifCond .ne 30, 3) := by decide +kernel
theorem dX9_suffer_14 : decode cX9_suffer 14 = .ok (.aload_n 0, 1) := by decide +kernel
theorem dX9_suffer_15 : decode cX9_suffer 15 = .ok (.getfield 27, 3) := by decide +kernel
theorem dX9_suffer_18 : decode cX9_suffer 18 = .ok (.iload_n 2, 1) := by decide +kernel
theorem dX9_suffer_19 : decode cX9_suffer 19 = .ok (.aaload, 1) := by decide +kernel
theorem dX9_suffer_20 : decode cX9_suffer 20 = .ok (.invokestatic 209, 3) := by decide +kernel
theorem dX9_suffer_23 : decode cX9_suffer 23 = .ok (.ifCond .eq 52, 3) := by decide +kernel
theorem dX9_suffer_26 : decode cX9_suffer 26 = .ok (.aload_n 0, 1) := by decide +kernel
theorem dX9_suffer_27 : decode cX9_suffer 27 = .ok (.aload_n 0, 1) := by decide +kernel
theorem dX9_suffer_28 : decode cX9_suffer 28 = .ok (.getfield 27, 3) := by decide +kernel
theorem dX9_suffer_31 : decode cX9_suffer 31 = .ok (.iload_n 2, 1) := by decide +kernel
theorem dX9_suffer_32 : decode cX9_suffer 32 = .ok (.aaload, 1) := by decide +kernel
theorem dX9_suffer_33 : decode cX9_suffer 33 = .ok (.bipush 7, 2) := by decide +kernel
theorem dX9_suffer_35 : decode cX9_suffer 35 = .ok (.invokevirtual 212, 3) := by decide +kernel
theorem dX9_suffer_38 : decode cX9_suffer 38 = .ok (.goto 37, 3) := by decide +kernel
theorem dX9_suffer_41 : decode cX9_suffer 41 = .ok (.iload_n 1, 1) := by decide +kernel
theorem dX9_suffer_42 : decode cX9_suffer 42 = .ok (.iconst 1, 1) := by decide +kernel
theorem dX9_suffer_43 : decode cX9_suffer 43 = .ok (.if_icmp .ne 19, 3) := by decide +kernel
theorem dX9_suffer_46 : decode cX9_suffer 46 = .ok (.aload_n 0, 1) := by decide +kernel
theorem dX9_suffer_47 : decode cX9_suffer 47 = .ok (.aload_n 0, 1) := by decide +kernel
theorem dX9_suffer_48 : decode cX9_suffer 48 = .ok (.getfield 37, 3) := by decide +kernel
theorem dX9_suffer_51 : decode cX9_suffer 51 = .ok (.getfield 216, 3) := by decide +kernel
theorem dX9_suffer_54 : decode cX9_suffer 54 = .ok (.iload_n 2, 1) := by decide +kernel
theorem dX9_suffer_55 : decode cX9_suffer 55 = .ok (.aaload, 1) := by decide +kernel
theorem dX9_suffer_56 : decode cX9_suffer 56 = .ok (.invokevirtual 220, 3) := by decide +kernel
theorem dX9_suffer_59 : decode cX9_suffer 59 = .ok (.goto 16, 3) := by decide +kernel
theorem dX9_suffer_62 : decode cX9_suffer 62 = .ok (.aload_n 0, 1) := by decide +kernel
theorem dX9_suffer_63 : decode cX9_suffer 63 = .ok (.aload_n 0, 1) := by decide +kernel
theorem dX9_suffer_64 : decode cX9_suffer 64 = .ok (.getfield 41, 3) := by decide +kernel
theorem dX9_suffer_67 : decode cX9_suffer 67 = .ok (.getfield 216, 3) := by decide +kernel
theorem dX9_suffer_70 : decode cX9_suffer 70 = .ok (.iload_n 2, 1) := by decide +kernel
theorem dX9_suffer_71 : decode cX9_suffer 71 = .ok (.aaload, 1) := by decide +kernel
theorem dX9_suffer_72 : decode cX9_suffer 72 = .ok (.invokevirtual 224, 3) := by decide +kernel
theorem dX9_suffer_75 : decode cX9_suffer 75 = .ok (.return_, 1) := by decide +kernel
theorem dX9_stopFetcher_0 : decode cX9_stopFetcher 0 = .ok (.aload_n 1, 1) := by decide +kernel
theorem dX9_stopFetcher_1 : decode cX9_stopFetcher 1 = .ok (.getfield 227, 3) := by decide +kernel
theorem dX9_stopFetcher_4 : decode cX9_stopFetcher 4 = .ok (.astore_n 2, 1) := by decide +kernel
theorem dX9_stopFetcher_5 : decode cX9_stopFetcher 5 = .ok (.aload_n 2, 1) := by decide +kernel
theorem dX9_stopFetcher_6 : decode cX9_stopFetcher 6 = .ok (.ifnonnull 4, 3) := by decide +kernel
theorem dX9_stopFetcher_9 : decode cX9_stopFetcher 9 = .ok (.return_, 1) := by decide +kernel
theorem dX9_stopFetcher_10 : decode cX9_stopFetcher 10 = .ok (.aload_n 2, 1) := by decide +kernel
theorem dX9_stopFetcher_11 : decode cX9_stopFetcher 11 = .ok (.aload_n 2, 1) := by decide +kernel
theorem dX9_stopFetcher_12 : decode cX9_stopFetcher 12 = .ok (.getfield 233, 3) := by decide +kernel
theorem dX9_stopFetcher_15 : decode cX9_stopFetcher 15 = .ok (.iconst 3, 1) := by decide +kernel
theorem dX9_stopFetcher_16 : decode cX9_stopFetcher 16 = .ok (.if_icmp .ne 7, 3) := by decide +kernel
theorem dX9_stopFetcher_19 : decode cX9_stopFetcher 19 = .ok (.iconst 0, 1) := by decide +kernel
theorem dX9_stopFetcher_20 : decode cX9_stopFetcher 20 = .ok (.goto 4, 3) := by decide +kernel
theorem dX9_stopFetcher_23 : decode cX9_stopFetcher 23 = .ok (.iconst 2, 1) := by decide +kernel
theorem dX9_stopFetcher_24 : decode cX9_stopFetcher 24 = .ok (.putfield 233, 3) := by decide +kernel
theorem dX9_stopFetcher_27 : decode cX9_stopFetcher 27 = .ok (.aload_n 1, 1) := by decide +kernel
theorem dX9_stopFetcher_28 : decode cX9_stopFetcher 28 = .ok (.invokevirtual 236, 3) := by decide +kernel
theorem dX9_stopFetcher_31 : decode cX9_stopFetcher 31 = .ok (.return_, 1) := by decide +kernel
theorem dX9_stopCopyist_0 : decode cX9_stopCopyist 0 = .ok (.aload_n 1, 1) := by decide +kernel
theorem dX9_stopCopyist_1 : decode cX9_stopCopyist 1 = .ok (.getfield 227, 3) := by decide +kernel
theorem dX9_stopCopyist_4 : decode cX9_stopCopyist 4 = .ok (.astore_n 2, 1) := by decide +kernel
theorem dX9_stopCopyist_5 : decode cX9_stopCopyist 5 = .ok (.aload_n 2, 1) := by decide +kernel
theorem dX9_stopCopyist_6 : decode cX9_stopCopyist 6 = .ok (.ifnonnull 4, 3) := by decide +kernel
theorem dX9_stopCopyist_9 : decode cX9_stopCopyist 9 = .ok (.return_, 1) := by decide +kernel
theorem dX9_stopCopyist_10 : decode cX9_stopCopyist 10 = .ok (.aload_n 2, 1) := by decide +kernel
theorem dX9_stopCopyist_11 : decode cX9_stopCopyist 11 = .ok (.aload_n 2, 1) := by decide +kernel
theorem dX9_stopCopyist_12 : decode cX9_stopCopyist 12 = .ok (.getfield 239, 3) := by decide +kernel
theorem dX9_stopCopyist_15 : decode cX9_stopCopyist 15 = .ok (.ifnull 7, 3) := by decide +kernel
theorem dX9_stopCopyist_18 : decode cX9_stopCopyist 18 = .ok (.iconst 5, 1) := by decide +kernel
theorem dX9_stopCopyist_19 : decode cX9_stopCopyist 19 = .ok (.goto 4, 3) := by decide +kernel
theorem dX9_stopCopyist_22 : decode cX9_stopCopyist 22 = .ok (.iconst 2, 1) := by decide +kernel
theorem dX9_stopCopyist_23 : decode cX9_stopCopyist 23 = .ok (.putfield 233, 3) := by decide +kernel
theorem dX9_stopCopyist_26 : decode cX9_stopCopyist 26 = .ok (.aload_n 1, 1) := by decide +kernel
theorem dX9_stopCopyist_27 : decode cX9_stopCopyist 27 = .ok (.invokevirtual 236, 3) := by decide +kernel
theorem dX9_stopCopyist_30 : decode cX9_stopCopyist 30 = .ok (.return_, 1) := by decide +kernel
theorem dX9_ringBell_0 : decode cX9_ringBell 0 = .ok (.iconst 0, 1) := by decide +kernel
theorem dX9_ringBell_1 : decode cX9_ringBell 1 = .ok (.istore_n 1, 1) := by decide +kernel
theorem dX9_ringBell_2 : decode cX9_ringBell 2 = .ok (.iload_n 1, 1) := by decide +kernel
theorem dX9_ringBell_3 : decode cX9_ringBell 3 = .ok (.aload_n 0, 1) := by decide +kernel
theorem dX9_ringBell_4 : decode cX9_ringBell 4 = .ok (.getfield 104, 3) := by decide +kernel
theorem dX9_ringBell_7 : decode cX9_ringBell 7 = .ok (.if_icmp .ge 33, 3) := by decide +kernel
theorem dX9_ringBell_10 : decode cX9_ringBell 10 = .ok (.aload_n 0, 1) := by decide +kernel
theorem dX9_ringBell_11 : decode cX9_ringBell 11 = .ok (.getfield 27, 3) := by decide +kernel
theorem dX9_ringBell_14 : decode cX9_ringBell 14 = .ok (.iload_n 1, 1) := by decide +kernel
theorem dX9_ringBell_15 : decode cX9_ringBell 15 = .ok (.aaload, 1) := by decide +kernel
theorem dX9_ringBell_16 : decode cX9_ringBell 16 = .ok (.invokestatic 131, 3) := by decide +kernel
theorem dX9_ringBell_19 : decode cX9_ringBell 19 = .ok (.ifCond .ne 15, 3) := by decide +kernel
theorem dX9_ringBell_22 : decode cX9_ringBell 22 = .ok (.aload_n 0, 1) := by decide +kernel
theorem dX9_ringBell_23 : decode cX9_ringBell 23 = .ok (.aload_n 0, 1) := by decide +kernel
theorem dX9_ringBell_24 : decode cX9_ringBell 24 = .ok (.getfield 27, 3) := by decide +kernel
theorem dX9_ringBell_27 : decode cX9_ringBell 27 = .ok (.iload_n 1, 1) := by decide +kernel
theorem dX9_ringBell_28 : decode cX9_ringBell 28 = .ok (.aaload, 1) := by decide +kernel
theorem dX9_ringBell_29 : decode cX9_ringBell 29 = .ok (.bipush 6, 2) := by decide +kernel
theorem dX9_ringBell_31 : decode cX9_ringBell 31 = .ok (.invokevirtual 212, 3) := by decide +kernel
theorem dX9_ringBell_34 : decode cX9_ringBell 34 = .ok (.iinc 1 1, 3) := by decide +kernel
theorem dX9_ringBell_37 : decode cX9_ringBell 37 = .ok (.goto (-35), 3) := by decide +kernel
theorem dX9_ringBell_40 : decode cX9_ringBell 40 = .ok (.iconst 0, 1) := by decide +kernel
theorem dX9_ringBell_41 : decode cX9_ringBell 41 = .ok (.istore_n 1, 1) := by decide +kernel
theorem dX9_ringBell_42 : decode cX9_ringBell 42 = .ok (.iload_n 1, 1) := by decide +kernel
theorem dX9_ringBell_43 : decode cX9_ringBell 43 = .ok (.aload_n 0, 1) := by decide +kernel
theorem dX9_ringBell_44 : decode cX9_ringBell 44 = .ok (.getfield 37, 3) := by decide +kernel
theorem dX9_ringBell_47 : decode cX9_ringBell 47 = .ok (.getfield 101, 3) := by decide +kernel
theorem dX9_ringBell_50 : decode cX9_ringBell 50 = .ok (.if_icmp .ge 42, 3) := by decide +kernel
theorem dX9_ringBell_53 : decode cX9_ringBell 53 = .ok (.aload_n 0, 1) := by decide +kernel
theorem dX9_ringBell_54 : decode cX9_ringBell 54 = .ok (.getfield 37, 3) := by decide +kernel
theorem dX9_ringBell_57 : decode cX9_ringBell 57 = .ok (.getfield 216, 3) := by decide +kernel
theorem dX9_ringBell_60 : decode cX9_ringBell 60 = .ok (.iload_n 1, 1) := by decide +kernel
theorem dX9_ringBell_61 : decode cX9_ringBell 61 = .ok (.aaload, 1) := by decide +kernel
theorem dX9_ringBell_62 : decode cX9_ringBell 62 = .ok (.astore_n 2, 1) := by decide +kernel
theorem dX9_ringBell_63 : decode cX9_ringBell 63 = .ok (.aload_n 2, 1) := by decide +kernel
theorem dX9_ringBell_64 : decode cX9_ringBell 64 = .ok (.getfield 227, 3) := by decide +kernel
theorem dX9_ringBell_67 : decode cX9_ringBell 67 = .ok (.ifnull 19, 3) := by decide +kernel
theorem dX9_ringBell_70 : decode cX9_ringBell 70 = .ok (.aload_n 2, 1) := by decide +kernel
theorem dX9_ringBell_71 : decode cX9_ringBell 71 = .ok (.getfield 227, 3) := by decide +kernel
theorem dX9_ringBell_74 : decode cX9_ringBell 74 = .ok (.getfield 233, 3) := by decide +kernel
theorem dX9_ringBell_77 : decode cX9_ringBell 77 = .ok (.iconst 3, 1) := by decide +kernel
theorem dX9_ringBell_78 : decode cX9_ringBell 78 = .ok (.if_icmp .ne 8, 3) := by decide +kernel
theorem dX9_ringBell_81 : decode cX9_ringBell 81 = .ok (.aload_n 0, 1) := by decide +kernel
theorem dX9_ringBell_82 : decode cX9_ringBell 82 = .ok (.aload_n 2, 1) := by decide +kernel
theorem dX9_ringBell_83 : decode cX9_ringBell 83 = .ok (.invokevirtual 220, 3) := by decide +kernel
theorem dX9_ringBell_86 : decode cX9_ringBell 86 = .ok (.iinc 1 1, 3) := by decide +kernel
theorem dX9_ringBell_89 : decode cX9_ringBell 89 = .ok (.goto (-47), 3) := by decide +kernel
theorem dX9_ringBell_92 : decode cX9_ringBell 92 = .ok (.return_, 1) := by decide +kernel
theorem dX9_fetchersWalk_0 : decode cX9_fetchersWalk 0 = .ok (.iconst 0, 1) := by decide +kernel
theorem dX9_fetchersWalk_1 : decode cX9_fetchersWalk 1 = .ok (.istore_n 1, 1) := by decide +kernel
theorem dX9_fetchersWalk_2 : decode cX9_fetchersWalk 2 = .ok (.iload_n 1, 1) := by decide +kernel
theorem dX9_fetchersWalk_3 : decode cX9_fetchersWalk 3 = .ok (.aload_n 0, 1) := by decide +kernel
theorem dX9_fetchersWalk_4 : decode cX9_fetchersWalk 4 = .ok (.getfield 37, 3) := by decide +kernel
theorem dX9_fetchersWalk_7 : decode cX9_fetchersWalk 7 = .ok (.getfield 101, 3) := by decide +kernel
theorem dX9_fetchersWalk_10 : decode cX9_fetchersWalk 10 = .ok (.if_icmp .ge 61, 3) := by decide +kernel
theorem dX9_fetchersWalk_13 : decode cX9_fetchersWalk 13 = .ok (.aload_n 0, 1) := by decide +kernel
theorem dX9_fetchersWalk_14 : decode cX9_fetchersWalk 14 = .ok (.getfield 37, 3) := by decide +kernel
theorem dX9_fetchersWalk_17 : decode cX9_fetchersWalk 17 = .ok (.getfield 216, 3) := by decide +kernel
theorem dX9_fetchersWalk_20 : decode cX9_fetchersWalk 20 = .ok (.iload_n 1, 1) := by decide +kernel
theorem dX9_fetchersWalk_21 : decode cX9_fetchersWalk 21 = .ok (.aaload, 1) := by decide +kernel
theorem dX9_fetchersWalk_22 : decode cX9_fetchersWalk 22 = .ok (.astore_n 2, 1) := by decide +kernel
theorem dX9_fetchersWalk_23 : decode cX9_fetchersWalk 23 = .ok (.aload_n 2, 1) := by decide +kernel
theorem dX9_fetchersWalk_24 : decode cX9_fetchersWalk 24 = .ok (.getfield 227, 3) := by decide +kernel
theorem dX9_fetchersWalk_27 : decode cX9_fetchersWalk 27 = .ok (.astore_n 3, 1) := by decide +kernel
theorem dX9_fetchersWalk_28 : decode cX9_fetchersWalk 28 = .ok (.aload_n 3, 1) := by decide +kernel
theorem dX9_fetchersWalk_29 : decode cX9_fetchersWalk 29 = .ok (.ifnonnull 6, 3) := by decide +kernel
theorem dX9_fetchersWalk_32 : decode cX9_fetchersWalk 32 = .ok (.goto 33, 3) := by decide +kernel
theorem dX9_fetchersWalk_35 : decode cX9_fetchersWalk 35 = .ok (.aload_n 2, 1) := by decide +kernel
theorem dX9_fetchersWalk_36 : decode cX9_fetchersWalk 36 = .ok (.dup, 1) := by decide +kernel
theorem dX9_fetchersWalk_37 : decode cX9_fetchersWalk 37 = .ok (.getfield 243, 3) := by decide +kernel
theorem dX9_fetchersWalk_40 : decode cX9_fetchersWalk 40 = .ok (.iconst 1, 1) := by decide +kernel
theorem dX9_fetchersWalk_41 : decode cX9_fetchersWalk 41 = .ok (.isub, 1) := by decide +kernel
theorem dX9_fetchersWalk_42 : decode cX9_fetchersWalk 42 = .ok (.putfield 243, 3) := by decide +kernel
theorem dX9_fetchersWalk_45 : decode cX9_fetchersWalk 45 = .ok (.aload_n 2, 1) := by decide +kernel
theorem dX9_fetchersWalk_46 : decode cX9_fetchersWalk 46 = .ok (.getfield 243, 3) := by decide +kernel
theorem dX9_fetchersWalk_49 : decode cX9_fetchersWalk 49 = .ok (.ifCond .gt 16, 3) := by decide +kernel
theorem dX9_fetchersWalk_52 : decode cX9_fetchersWalk 52 = .ok (.aload_n 0, 1) := by decide +kernel
theorem dX9_fetchersWalk_53 : decode cX9_fetchersWalk 53 = .ok (.aload_n 3, 1) := by decide +kernel
theorem dX9_fetchersWalk_54 : decode cX9_fetchersWalk 54 = .ok (.aload_n 2, 1) := by decide +kernel
theorem dX9_fetchersWalk_55 : decode cX9_fetchersWalk 55 = .ok (.getfield 246, 3) := by decide +kernel
theorem dX9_fetchersWalk_58 : decode cX9_fetchersWalk 58 = .ok (.invokevirtual 249, 3) := by decide +kernel
theorem dX9_fetchersWalk_61 : decode cX9_fetchersWalk 61 = .ok (.aload_n 2, 1) := by decide +kernel
theorem dX9_fetchersWalk_62 : decode cX9_fetchersWalk 62 = .ok (.invokevirtual 236, 3) := by decide +kernel
theorem dX9_fetchersWalk_65 : decode cX9_fetchersWalk 65 = .ok (.iinc 1 1, 3) := by decide +kernel
theorem dX9_fetchersWalk_68 : decode cX9_fetchersWalk 68 = .ok (.goto (-66), 3) := by decide +kernel
theorem dX9_fetchersWalk_71 : decode cX9_fetchersWalk 71 = .ok (.return_, 1) := by decide +kernel
theorem dX9_bring_0 : decode cX9_bring 0 = .ok (.aload_n 2, 1) := by decide +kernel
theorem dX9_bring_1 : decode cX9_bring 1 = .ok (.ifnonnull 29, 3) := by decide +kernel
theorem dX9_bring_4 : decode cX9_bring 4 = .ok (.aload_n 1, 1) := by decide +kernel
theorem dX9_bring_5 : decode cX9_bring 5 = .ok (.iconst 0, 1) := by decide +kernel
theorem dX9_bring_6 : decode cX9_bring 6 = .ok (.putfield 233, 3) := by decide +kernel
theorem dX9_bring_9 : decode cX9_bring 9 = .ok (.aload_n 0, 1) := by decide +kernel
theorem dX9_bring_10 : decode cX9_bring 10 = .ok (.getfield 67, 3) := by decide +kernel
theorem dX9_bring_13 : decode cX9_bring 13 = .ok (.aload_n 0, 1) := by decide +kernel
theorem dX9_bring_14 : decode cX9_bring 14 = .ok (.getfield 78, 3) := by decide +kernel
theorem dX9_bring_17 : decode cX9_bring 17 = .ok (.iconst (-1), 1) := by decide +kernel
theorem dX9_bring_18 : decode cX9_bring 18 = .ok (.bipush 9, 2) := by decide +kernel
theorem dX9_bring_20 : decode cX9_bring 20 = .ok (.aload_n 1, 1) := by decide +kernel
theorem dX9_bring_21 : decode cX9_bring 21 = .ok (.getfield 253, 3) := by decide +kernel
theorem dX9_bring_24 : decode cX9_bring 24 = .ok (.invokevirtual 256, 3) := by decide +kernel
theorem dX9_bring_27 : decode cX9_bring 27 = .ok (.goto 73, 3) := by decide +kernel
theorem dX9_bring_30 : decode cX9_bring 30 = .ok (.aload_n 1, 1) := by decide +kernel
theorem dX9_bring_31 : decode cX9_bring 31 = .ok (.getfield 260, 3) := by decide +kernel
theorem dX9_bring_34 : decode cX9_bring 34 = .ok (.aload_n 2, 1) := by decide +kernel
theorem dX9_bring_35 : decode cX9_bring 35 = .ok (.if_acmp .ne 60, 3) := by decide +kernel
theorem dX9_bring_38 : decode cX9_bring 38 = .ok (.aload_n 0, 1) := by decide +kernel
theorem dX9_bring_39 : decode cX9_bring 39 = .ok (.getfield 51, 3) := by decide +kernel
theorem dX9_bring_42 : decode cX9_bring 42 = .ok (.aload_n 2, 1) := by decide +kernel
theorem dX9_bring_43 : decode cX9_bring 43 = .ok (.invokevirtual 263, 3) := by decide +kernel
theorem dX9_bring_46 : decode cX9_bring 46 = .ok (.aload_n 1, 1) := by decide +kernel
theorem dX9_bring_47 : decode cX9_bring 47 = .ok (.aconst_null, 1) := by decide +kernel
theorem dX9_bring_48 : decode cX9_bring 48 = .ok (.putfield 260, 3) := by decide +kernel
theorem dX9_bring_51 : decode cX9_bring 51 = .ok (.aload_n 1, 1) := by decide +kernel
theorem dX9_bring_52 : decode cX9_bring 52 = .ok (.aload_n 2, 1) := by decide +kernel
theorem dX9_bring_53 : decode cX9_bring 53 = .ok (.putfield 239, 3) := by decide +kernel
theorem dX9_bring_56 : decode cX9_bring 56 = .ok (.aload_n 1, 1) := by decide +kernel
theorem dX9_bring_57 : decode cX9_bring 57 = .ok (.iconst 1, 1) := by decide +kernel
theorem dX9_bring_58 : decode cX9_bring 58 = .ok (.putfield 233, 3) := by decide +kernel
theorem dX9_bring_61 : decode cX9_bring 61 = .ok (.aload_n 2, 1) := by decide +kernel
theorem dX9_bring_62 : decode cX9_bring 62 = .ok (.aconst_null, 1) := by decide +kernel
theorem dX9_bring_63 : decode cX9_bring 63 = .ok (.putfield 267, 3) := by decide +kernel
theorem dX9_bring_66 : decode cX9_bring 66 = .ok (.aload_n 2, 1) := by decide +kernel
theorem dX9_bring_67 : decode cX9_bring 67 = .ok (.bipush 8, 2) := by decide +kernel
theorem dX9_bring_69 : decode cX9_bring 69 = .ok (.putfield 270, 3) := by decide +kernel
theorem dX9_bring_72 : decode cX9_bring 72 = .ok (.aload_n 0, 1) := by decide +kernel
theorem dX9_bring_73 : decode cX9_bring 73 = .ok (.getfield 67, 3) := by decide +kernel
theorem dX9_bring_76 : decode cX9_bring 76 = .ok (.aload_n 0, 1) := by decide +kernel
theorem dX9_bring_77 : decode cX9_bring 77 = .ok (.getfield 78, 3) := by decide +kernel
theorem dX9_bring_80 : decode cX9_bring 80 = .ok (.aload_n 2, 1) := by decide +kernel
theorem dX9_bring_81 : decode cX9_bring 81 = .ok (.getfield 273, 3) := by decide +kernel
theorem dX9_bring_84 : decode cX9_bring 84 = .ok (.iconst 5, 1) := by decide +kernel
theorem dX9_bring_85 : decode cX9_bring 85 = .ok (.aload_n 1, 1) := by decide +kernel
theorem dX9_bring_86 : decode cX9_bring 86 = .ok (.getfield 253, 3) := by decide +kernel
theorem dX9_bring_89 : decode cX9_bring 89 = .ok (.invokevirtual 256, 3) := by decide +kernel
theorem dX9_bring_92 : decode cX9_bring 92 = .ok (.goto 8, 3) := by decide +kernel
theorem dX9_bring_95 : decode cX9_bring 95 = .ok (.aload_n 1, 1) := by decide +kernel
theorem dX9_bring_96 : decode cX9_bring 96 = .ok (.iconst 2, 1) := by decide +kernel
theorem dX9_bring_97 : decode cX9_bring 97 = .ok (.putfield 233, 3) := by decide +kernel
theorem dX9_bring_100 : decode cX9_bring 100 = .ok (.return_, 1) := by decide +kernel
theorem dX9_copyistsWork_0 : decode cX9_copyistsWork 0 = .ok (.iconst 0, 1) := by decide +kernel
theorem dX9_copyistsWork_1 : decode cX9_copyistsWork 1 = .ok (.istore_n 1, 1) := by decide +kernel
theorem dX9_copyistsWork_2 : decode cX9_copyistsWork 2 = .ok (.iload_n 1, 1) := by decide +kernel
theorem dX9_copyistsWork_3 : decode cX9_copyistsWork 3 = .ok (.aload_n 0, 1) := by decide +kernel
theorem dX9_copyistsWork_4 : decode cX9_copyistsWork 4 = .ok (.getfield 41, 3) := by decide +kernel
theorem dX9_copyistsWork_7 : decode cX9_copyistsWork 7 = .ok (.getfield 101, 3) := by decide +kernel
theorem dX9_copyistsWork_10 : decode cX9_copyistsWork 10 = .ok (.if_icmp .ge 57, 3) := by decide +kernel
theorem dX9_copyistsWork_13 : decode cX9_copyistsWork 13 = .ok (.aload_n 0, 1) := by decide +kernel
theorem dX9_copyistsWork_14 : decode cX9_copyistsWork 14 = .ok (.getfield 41, 3) := by decide +kernel
theorem dX9_copyistsWork_17 : decode cX9_copyistsWork 17 = .ok (.getfield 216, 3) := by decide +kernel
theorem dX9_copyistsWork_20 : decode cX9_copyistsWork 20 = .ok (.iload_n 1, 1) := by decide +kernel
theorem dX9_copyistsWork_21 : decode cX9_copyistsWork 21 = .ok (.aaload, 1) := by decide +kernel
theorem dX9_copyistsWork_22 : decode cX9_copyistsWork 22 = .ok (.astore_n 2, 1) := by decide +kernel
theorem dX9_copyistsWork_23 : decode cX9_copyistsWork 23 = .ok (.aload_n 2, 1) := by decide +kernel
theorem dX9_copyistsWork_24 : decode cX9_copyistsWork 24 = .ok (.getfield 227, 3) := by decide +kernel
theorem dX9_copyistsWork_27 : decode cX9_copyistsWork 27 = .ok (.astore_n 3, 1) := by decide +kernel
theorem dX9_copyistsWork_28 : decode cX9_copyistsWork 28 = .ok (.aload_n 3, 1) := by decide +kernel
theorem dX9_copyistsWork_29 : decode cX9_copyistsWork 29 = .ok (.ifnonnull 6, 3) := by decide +kernel
theorem dX9_copyistsWork_32 : decode cX9_copyistsWork 32 = .ok (.goto 29, 3) := by decide +kernel
theorem dX9_copyistsWork_35 : decode cX9_copyistsWork 35 = .ok (.aload_n 2, 1) := by decide +kernel
theorem dX9_copyistsWork_36 : decode cX9_copyistsWork 36 = .ok (.dup, 1) := by decide +kernel
theorem dX9_copyistsWork_37 : decode cX9_copyistsWork 37 = .ok (.getfield 243, 3) := by decide +kernel
theorem dX9_copyistsWork_40 : decode cX9_copyistsWork 40 = .ok (.iconst 1, 1) := by decide +kernel
theorem dX9_copyistsWork_41 : decode cX9_copyistsWork 41 = .ok (.isub, 1) := by decide +kernel
theorem dX9_copyistsWork_42 : decode cX9_copyistsWork 42 = .ok (.putfield 243, 3) := by decide +kernel
theorem dX9_copyistsWork_45 : decode cX9_copyistsWork 45 = .ok (.aload_n 2, 1) := by decide +kernel
theorem dX9_copyistsWork_46 : decode cX9_copyistsWork 46 = .ok (.getfield 243, 3) := by decide +kernel
theorem dX9_copyistsWork_49 : decode cX9_copyistsWork 49 = .ok (.ifCond .gt 12, 3) := by decide +kernel
theorem dX9_copyistsWork_52 : decode cX9_copyistsWork 52 = .ok (.aload_n 0, 1) := by decide +kernel
theorem dX9_copyistsWork_53 : decode cX9_copyistsWork 53 = .ok (.aload_n 3, 1) := by decide +kernel
theorem dX9_copyistsWork_54 : decode cX9_copyistsWork 54 = .ok (.invokevirtual 274, 3) := by decide +kernel
theorem dX9_copyistsWork_57 : decode cX9_copyistsWork 57 = .ok (.aload_n 2, 1) := by decide +kernel
theorem dX9_copyistsWork_58 : decode cX9_copyistsWork 58 = .ok (.invokevirtual 236, 3) := by decide +kernel
theorem dX9_copyistsWork_61 : decode cX9_copyistsWork 61 = .ok (.iinc 1 1, 3) := by decide +kernel
theorem dX9_copyistsWork_64 : decode cX9_copyistsWork 64 = .ok (.goto (-62), 3) := by decide +kernel
theorem dX9_copyistsWork_67 : decode cX9_copyistsWork 67 = .ok (.return_, 1) := by decide +kernel
theorem dX9_finishCopy_0 : decode cX9_finishCopy 0 = .ok (.aload_n 0, 1) := by decide +kernel
theorem dX9_finishCopy_1 : decode cX9_finishCopy 1 = .ok (.dup, 1) := by decide +kernel
theorem dX9_finishCopy_2 : decode cX9_finishCopy 2 = .ok (.getfield 278, 3) := by decide +kernel
theorem dX9_finishCopy_5 : decode cX9_finishCopy 5 = .ok (.iconst 1, 1) := by decide +kernel
theorem dX9_finishCopy_6 : decode cX9_finishCopy 6 = .ok (.iadd, 1) := by decide +kernel
theorem dX9_finishCopy_7 : decode cX9_finishCopy 7 = .ok (.putfield 278, 3) := by decide +kernel
theorem dX9_finishCopy_10 : decode cX9_finishCopy 10 = .ok (.aload_n 1, 1) := by decide +kernel
theorem dX9_finishCopy_11 : decode cX9_finishCopy 11 = .ok (.getfield 239, 3) := by decide +kernel
theorem dX9_finishCopy_14 : decode cX9_finishCopy 14 = .ok (.astore_n 2, 1) := by decide +kernel
theorem dX9_finishCopy_15 : decode cX9_finishCopy 15 = .ok (.aload_n 2, 1) := by decide +kernel
theorem dX9_finishCopy_16 : decode cX9_finishCopy 16 = .ok (.ifnonnull 9, 3) := by decide +kernel
theorem dX9_finishCopy_19 : decode cX9_finishCopy 19 = .ok (.aload_n 1, 1) := by decide +kernel
theorem dX9_finishCopy_20 : decode cX9_finishCopy 20 = .ok (.iconst 2, 1) := by decide +kernel
theorem dX9_finishCopy_21 : decode cX9_finishCopy 21 = .ok (.putfield 233, 3) := by decide +kernel
theorem dX9_finishCopy_24 : decode cX9_finishCopy 24 = .ok (.return_, 1) := by decide +kernel
theorem dX9_finishCopy_25 : decode cX9_finishCopy 25 = .ok (.aload_n 0, 1) := by decide +kernel
theorem dX9_finishCopy_26 : decode cX9_finishCopy 26 = .ok (.getfield 54, 3) := by decide +kernel
theorem dX9_finishCopy_29 : decode cX9_finishCopy 29 = .ok (.aload_n 2, 1) := by decide +kernel
theorem dX9_finishCopy_30 : decode cX9_finishCopy 30 = .ok (.invokevirtual 263, 3) := by decide +kernel
theorem dX9_finishCopy_33 : decode cX9_finishCopy 33 = .ok (.aload_n 1, 1) := by decide +kernel
theorem dX9_finishCopy_34 : decode cX9_finishCopy 34 = .ok (.iconst 1, 1) := by decide +kernel
theorem dX9_finishCopy_35 : decode cX9_finishCopy 35 = .ok (.putfield 233, 3) := by decide +kernel
theorem dX9_finishCopy_38 : decode cX9_finishCopy 38 = .ok (.aload_n 2, 1) := by decide +kernel
theorem dX9_finishCopy_39 : decode cX9_finishCopy 39 = .ok (.aconst_null, 1) := by decide +kernel
theorem dX9_finishCopy_40 : decode cX9_finishCopy 40 = .ok (.putfield 267, 3) := by decide +kernel
theorem dX9_finishCopy_43 : decode cX9_finishCopy 43 = .ok (.aload_n 2, 1) := by decide +kernel
theorem dX9_finishCopy_44 : decode cX9_finishCopy 44 = .ok (.bipush 8, 2) := by decide +kernel
theorem dX9_finishCopy_46 : decode cX9_finishCopy 46 = .ok (.putfield 270, 3) := by decide +kernel
theorem dX9_finishCopy_49 : decode cX9_finishCopy 49 = .ok (.aload_n 2, 1) := by decide +kernel
theorem dX9_finishCopy_50 : decode cX9_finishCopy 50 = .ok (.dup, 1) := by decide +kernel
theorem dX9_finishCopy_51 : decode cX9_finishCopy 51 = .ok (.getfield 281, 3) := by decide +kernel
theorem dX9_finishCopy_54 : decode cX9_finishCopy 54 = .ok (.iconst 1, 1) := by decide +kernel
theorem dX9_finishCopy_55 : decode cX9_finishCopy 55 = .ok (.iadd, 1) := by decide +kernel
theorem dX9_finishCopy_56 : decode cX9_finishCopy 56 = .ok (.putfield 281, 3) := by decide +kernel
theorem dX9_finishCopy_59 : decode cX9_finishCopy 59 = .ok (.aload_n 0, 1) := by decide +kernel
theorem dX9_finishCopy_60 : decode cX9_finishCopy 60 = .ok (.getfield 67, 3) := by decide +kernel
theorem dX9_finishCopy_63 : decode cX9_finishCopy 63 = .ok (.aload_n 0, 1) := by decide +kernel
theorem dX9_finishCopy_64 : decode cX9_finishCopy 64 = .ok (.getfield 78, 3) := by decide +kernel
theorem dX9_finishCopy_67 : decode cX9_finishCopy 67 = .ok (.aload_n 2, 1) := by decide +kernel
theorem dX9_finishCopy_68 : decode cX9_finishCopy 68 = .ok (.getfield 273, 3) := by decide +kernel
theorem dX9_finishCopy_71 : decode cX9_finishCopy 71 = .ok (.bipush 6, 2) := by decide +kernel
theorem dX9_finishCopy_73 : decode cX9_finishCopy 73 = .ok (.aload_n 1, 1) := by decide +kernel
theorem dX9_finishCopy_74 : decode cX9_finishCopy 74 = .ok (.getfield 253, 3) := by decide +kernel
theorem dX9_finishCopy_77 : decode cX9_finishCopy 77 = .ok (.invokevirtual 256, 3) := by decide +kernel
theorem dX9_finishCopy_80 : decode cX9_finishCopy 80 = .ok (.return_, 1) := by decide +kernel
theorem dX9_readersRead_0 : decode cX9_readersRead 0 = .ok (.iconst 0, 1) := by decide +kernel
theorem dX9_readersRead_1 : decode cX9_readersRead 1 = .ok (.istore_n 1, 1) := by decide +kernel
theorem dX9_readersRead_2 : decode cX9_readersRead 2 = .ok (.iload_n 1, 1) := by decide +kernel
theorem dX9_readersRead_3 : decode cX9_readersRead 3 = .ok (.aload_n 0, 1) := by decide +kernel
theorem dX9_readersRead_4 : decode cX9_readersRead 4 = .ok (.getfield 104, 3) := by decide +kernel
theorem dX9_readersRead_7 : decode cX9_readersRead 7 = .ok (.if_icmp .ge 50, 3) := by decide +kernel
theorem dX9_readersRead_10 : decode cX9_readersRead 10 = .ok (.aload_n 0, 1) := by decide +kernel
theorem dX9_readersRead_11 : decode cX9_readersRead 11 = .ok (.getfield 27, 3) := by decide +kernel
theorem dX9_readersRead_14 : decode cX9_readersRead 14 = .ok (.iload_n 1, 1) := by decide +kernel
theorem dX9_readersRead_15 : decode cX9_readersRead 15 = .ok (.aaload, 1) := by decide +kernel
theorem dX9_readersRead_16 : decode cX9_readersRead 16 = .ok (.astore_n 2, 1) := by decide +kernel
theorem dX9_readersRead_17 : decode cX9_readersRead 17 = .ok (.aload_n 2, 1) := by decide +kernel
theorem dX9_readersRead_18 : decode cX9_readersRead 18 = .ok (.getfield 270, 3) := by decide +kernel
theorem dX9_readersRead_21 : decode cX9_readersRead 21 = .ok (.iconst 3, 1) := by decide +kernel
theorem dX9_readersRead_22 : decode cX9_readersRead 22 = .ok (.if_icmp .eq 6, 3) := by decide +kernel
theorem dX9_readersRead_25 : decode cX9_readersRead 25 = .ok (.goto 26, 3) := by decide +kernel
theorem dX9_readersRead_28 : decode cX9_readersRead 28 = .ok (.aload_n 2, 1) := by decide +kernel
theorem dX9_readersRead_29 : decode cX9_readersRead 29 = .ok (.dup, 1) := by decide +kernel
theorem dX9_readersRead_30 : decode cX9_readersRead 30 = .ok (.getfield 284, 3) := by decide +kernel
theorem dX9_readersRead_33 : decode cX9_readersRead 33 = .ok (.iconst 1, 1) := by decide +kernel
theorem dX9_readersRead_34 : decode cX9_readersRead 34 = .ok (.isub, 1) := by decide +kernel
theorem dX9_readersRead_35 : decode cX9_readersRead 35 = .ok (.putfield 284, 3) := by decide +kernel
theorem dX9_readersRead_38 : decode cX9_readersRead 38 = .ok (.aload_n 2, 1) := by decide +kernel
theorem dX9_readersRead_39 : decode cX9_readersRead 39 = .ok (.getfield 284, 3) := by decide +kernel
theorem dX9_readersRead_42 : decode cX9_readersRead 42 = .ok (.ifCond .gt 9, 3) := by decide +kernel
theorem dX9_readersRead_45 : decode cX9_readersRead 45 = .ok (.aload_n 2, 1) := by decide +kernel
theorem dX9_readersRead_46 : decode cX9_readersRead 46 = .ok (.bipush 8, 2) := by decide +kernel
theorem dX9_readersRead_48 : decode cX9_readersRead 48 = .ok (.putfield 270, 3) := by decide +kernel
theorem dX9_readersRead_51 : decode cX9_readersRead 51 = .ok (.iinc 1 1, 3) := by decide +kernel
theorem dX9_readersRead_54 : decode cX9_readersRead 54 = .ok (.goto (-52), 3) := by decide +kernel
theorem dX9_readersRead_57 : decode cX9_readersRead 57 = .ok (.return_, 1) := by decide +kernel
theorem dX9_readersGoOn_0 : decode cX9_readersGoOn 0 = .ok (.iconst 0, 1) := by decide +kernel
theorem dX9_readersGoOn_1 : decode cX9_readersGoOn 1 = .ok (.istore_n 1, 1) := by decide +kernel
theorem dX9_readersGoOn_2 : decode cX9_readersGoOn 2 = .ok (.iload_n 1, 1) := by decide +kernel
theorem dX9_readersGoOn_3 : decode cX9_readersGoOn 3 = .ok (.aload_n 0, 1) := by decide +kernel
theorem dX9_readersGoOn_4 : decode cX9_readersGoOn 4 = .ok (.getfield 104, 3) := by decide +kernel
theorem dX9_readersGoOn_7 : decode cX9_readersGoOn 7 = .ok (.if_icmp .ge 33, 3) := by decide +kernel
theorem dX9_readersGoOn_10 : decode cX9_readersGoOn 10 = .ok (.aload_n 0, 1) := by decide +kernel
theorem dX9_readersGoOn_11 : decode cX9_readersGoOn 11 = .ok (.getfield 27, 3) := by decide +kernel
theorem dX9_readersGoOn_14 : decode cX9_readersGoOn 14 = .ok (.iload_n 1, 1) := by decide +kernel
theorem dX9_readersGoOn_15 : decode cX9_readersGoOn 15 = .ok (.aaload, 1) := by decide +kernel
theorem dX9_readersGoOn_16 : decode cX9_readersGoOn 16 = .ok (.getfield 270, 3) := by decide +kernel
theorem dX9_readersGoOn_19 : decode cX9_readersGoOn 19 = .ok (.bipush 8, 2) := by decide +kernel
theorem dX9_readersGoOn_21 : decode cX9_readersGoOn 21 = .ok (.if_icmp .ne 13, 3) := by decide +kernel
theorem dX9_readersGoOn_24 : decode cX9_readersGoOn 24 = .ok (.aload_n 0, 1) := by decide +kernel
theorem dX9_readersGoOn_25 : decode cX9_readersGoOn 25 = .ok (.aload_n 0, 1) := by decide +kernel
theorem dX9_readersGoOn_26 : decode cX9_readersGoOn 26 = .ok (.getfield 27, 3) := by decide +kernel
theorem dX9_readersGoOn_29 : decode cX9_readersGoOn 29 = .ok (.iload_n 1, 1) := by decide +kernel
theorem dX9_readersGoOn_30 : decode cX9_readersGoOn 30 = .ok (.aaload, 1) := by decide +kernel
theorem dX9_readersGoOn_31 : decode cX9_readersGoOn 31 = .ok (.invokevirtual 287, 3) := by decide +kernel
theorem dX9_readersGoOn_34 : decode cX9_readersGoOn 34 = .ok (.iinc 1 1, 3) := by decide +kernel
theorem dX9_readersGoOn_37 : decode cX9_readersGoOn 37 = .ok (.goto (-35), 3) := by decide +kernel
theorem dX9_readersGoOn_40 : decode cX9_readersGoOn 40 = .ok (.return_, 1) := by decide +kernel
theorem dX9_goOn_0 : decode cX9_goOn 0 = .ok (.aload_n 1, 1) := by decide +kernel
theorem dX9_goOn_1 : decode cX9_goOn 1 = .ok (.getfield 135, 3) := by decide +kernel
theorem dX9_goOn_4 : decode cX9_goOn 4 = .ok (.astore_n 2, 1) := by decide +kernel
theorem dX9_goOn_5 : decode cX9_goOn 5 = .ok (.aload_n 2, 1) := by decide +kernel
theorem dX9_goOn_6 : decode cX9_goOn 6 = .ok (.getfield 290, 3) := by decide +kernel
theorem dX9_goOn_9 : decode cX9_goOn 9 = .ok (.istore_n 3, 1) := by decide +kernel
theorem dX9_goOn_10 : decode cX9_goOn 10 = .ok (.iload_n 3, 1) := by decide +kernel
theorem dX9_goOn_11 : decode cX9_goOn 11 = .ok (.aload_n 2, 1) := by decide +kernel
theorem dX9_goOn_12 : decode cX9_goOn 12 = .ok (.getfield 293, 3) := by decide +kernel
theorem dX9_goOn_15 : decode cX9_goOn 15 = .ok (.if_icmp .ge 136, 3) := by decide +kernel
theorem dX9_goOn_18 : decode cX9_goOn 18 = .ok (.aload_n 1, 1) := by decide +kernel
theorem dX9_goOn_19 : decode cX9_goOn 19 = .ok (.getfield 270, 3) := by decide +kernel
theorem dX9_goOn_22 : decode cX9_goOn 22 = .ok (.bipush 8, 2) := by decide +kernel
theorem dX9_goOn_24 : decode cX9_goOn 24 = .ok (.if_icmp .ne 127, 3) := by decide +kernel
theorem dX9_goOn_27 : decode cX9_goOn 27 = .ok (.aload_n 2, 1) := by decide +kernel
theorem dX9_goOn_28 : decode cX9_goOn 28 = .ok (.iload_n 3, 1) := by decide +kernel
theorem dX9_goOn_29 : decode cX9_goOn 29 = .ok (.iconst 1, 1) := by decide +kernel
theorem dX9_goOn_30 : decode cX9_goOn 30 = .ok (.iadd, 1) := by decide +kernel
theorem dX9_goOn_31 : decode cX9_goOn 31 = .ok (.putfield 290, 3) := by decide +kernel
theorem dX9_goOn_34 : decode cX9_goOn 34 = .ok (.aload_n 0, 1) := by decide +kernel
theorem dX9_goOn_35 : decode cX9_goOn 35 = .ok (.aload_n 2, 1) := by decide +kernel
theorem dX9_goOn_36 : decode cX9_goOn 36 = .ok (.getfield 294, 3) := by decide +kernel
theorem dX9_goOn_39 : decode cX9_goOn 39 = .ok (.iload_n 3, 1) := by decide +kernel
theorem dX9_goOn_40 : decode cX9_goOn 40 = .ok (.iaload, 1) := by decide +kernel
theorem dX9_goOn_41 : decode cX9_goOn 41 = .ok (.invokevirtual 120, 3) := by decide +kernel
theorem dX9_goOn_44 : decode cX9_goOn 44 = .ok (.ifCond .eq 17, 3) := by decide +kernel
theorem dX9_goOn_47 : decode cX9_goOn 47 = .ok (.aload_n 0, 1) := by decide +kernel
theorem dX9_goOn_48 : decode cX9_goOn 48 = .ok (.getfield 20, 3) := by decide +kernel
theorem dX9_goOn_51 : decode cX9_goOn 51 = .ok (.aload_n 2, 1) := by decide +kernel
theorem dX9_goOn_52 : decode cX9_goOn 52 = .ok (.getfield 294, 3) := by decide +kernel
theorem dX9_goOn_55 : decode cX9_goOn 55 = .ok (.iload_n 3, 1) := by decide +kernel
theorem dX9_goOn_56 : decode cX9_goOn 56 = .ok (.iaload, 1) := by decide +kernel
theorem dX9_goOn_57 : decode cX9_goOn 57 = .ok (.aaload, 1) := by decide +kernel
theorem dX9_goOn_58 : decode cX9_goOn 58 = .ok (.goto 4, 3) := by decide +kernel
theorem dX9_goOn_61 : decode cX9_goOn 61 = .ok (.aconst_null, 1) := by decide +kernel
theorem dX9_goOn_62 : decode cX9_goOn 62 = .ok (.astore 4, 2) := by decide +kernel
theorem dX9_goOn_64 : decode cX9_goOn 64 = .ok (.aload 4, 2) := by decide +kernel
theorem dX9_goOn_66 : decode cX9_goOn 66 = .ok (.ifnonnull 21, 3) := by decide +kernel
theorem dX9_goOn_69 : decode cX9_goOn 69 = .ok (.aload_n 1, 1) := by decide +kernel
theorem dX9_goOn_70 : decode cX9_goOn 70 = .ok (.aload_n 2, 1) := by decide +kernel
theorem dX9_goOn_71 : decode cX9_goOn 71 = .ok (.getfield 296, 3) := by decide +kernel
theorem dX9_goOn_74 : decode cX9_goOn 74 = .ok (.iload_n 3, 1) := by decide +kernel
theorem dX9_goOn_75 : decode cX9_goOn 75 = .ok (.iaload, 1) := by decide +kernel
theorem dX9_goOn_76 : decode cX9_goOn 76 = .ok (.putfield 284, 3) := by decide +kernel
theorem dX9_goOn_79 : decode cX9_goOn 79 = .ok (.aload_n 1, 1) := by decide +kernel
theorem dX9_goOn_80 : decode cX9_goOn 80 = .ok (.iconst 3, 1) := by decide +kernel
theorem dX9_goOn_81 : decode cX9_goOn 81 = .ok (.putfield 270, 3) := by decide +kernel
theorem dX9_goOn_84 : decode cX9_goOn 84 = .ok (.goto 61, 3) := by decide +kernel
theorem dX9_goOn_87 : decode cX9_goOn 87 = .ok (.aload_n 2, 1) := by decide +kernel
theorem dX9_goOn_88 : decode cX9_goOn 88 = .ok (.getfield 299, 3) := by decide +kernel
theorem dX9_goOn_91 : decode cX9_goOn 91 = .ok (.iload_n 3, 1) := by decide +kernel
theorem dX9_goOn_92 : decode cX9_goOn 92 = .ok (.iaload, 1) := by decide +kernel
theorem dX9_goOn_93 : decode cX9_goOn 93 = .ok (.ifCond .ne 13, 3) := by decide +kernel
theorem dX9_goOn_96 : decode cX9_goOn 96 = .ok (.aload_n 0, 1) := by decide +kernel
theorem dX9_goOn_97 : decode cX9_goOn 97 = .ok (.aload_n 1, 1) := by decide +kernel
theorem dX9_goOn_98 : decode cX9_goOn 98 = .ok (.aload 4, 2) := by decide +kernel
theorem dX9_goOn_100 : decode cX9_goOn 100 = .ok (.invokevirtual 300, 3) := by decide +kernel
theorem dX9_goOn_103 : decode cX9_goOn 103 = .ok (.goto 42, 3) := by decide +kernel
theorem dX9_goOn_106 : decode cX9_goOn 106 = .ok (.aload_n 2, 1) := by decide +kernel
theorem dX9_goOn_107 : decode cX9_goOn 107 = .ok (.getfield 299, 3) := by decide +kernel
theorem dX9_goOn_110 : decode cX9_goOn 110 = .ok (.iload_n 3, 1) := by decide +kernel
theorem dX9_goOn_111 : decode cX9_goOn 111 = .ok (.iaload, 1) := by decide +kernel
theorem dX9_goOn_112 : decode cX9_goOn 112 = .ok (.iconst 2, 1) := by decide +kernel
theorem dX9_goOn_113 : decode cX9_goOn 113 = .ok (.if_icmp .ne 25, 3) := by decide +kernel
theorem dX9_goOn_116 : decode cX9_goOn 116 = .ok (.aload_n 0, 1) := by decide +kernel
theorem dX9_goOn_117 : decode cX9_goOn 117 = .ok (.aload_n 1, 1) := by decide +kernel
theorem dX9_goOn_118 : decode cX9_goOn 118 = .ok (.aload 4, 2) := by decide +kernel
theorem dX9_goOn_120 : decode cX9_goOn 120 = .ok (.aload_n 2, 1) := by decide +kernel
theorem dX9_goOn_121 : decode cX9_goOn 121 = .ok (.getfield 296, 3) := by decide +kernel
theorem dX9_goOn_124 : decode cX9_goOn 124 = .ok (.iload_n 3, 1) := by decide +kernel
theorem dX9_goOn_125 : decode cX9_goOn 125 = .ok (.iaload, 1) := by decide +kernel
theorem dX9_goOn_126 : decode cX9_goOn 126 = .ok (.aload_n 2, 1) := by decide +kernel
theorem dX9_goOn_127 : decode cX9_goOn 127 = .ok (.getfield 304, 3) := by decide +kernel
theorem dX9_goOn_130 : decode cX9_goOn 130 = .ok (.iload_n 3, 1) := by decide +kernel
theorem dX9_goOn_131 : decode cX9_goOn 131 = .ok (.baload, 1) := by decide +kernel
theorem dX9_goOn_132 : decode cX9_goOn 132 = .ok (.invokevirtual 308, 3) := by decide +kernel
theorem dX9_goOn_135 : decode cX9_goOn 135 = .ok (.goto 10, 3) := by decide +kernel
theorem dX9_goOn_138 : decode cX9_goOn 138 = .ok (.aload_n 0, 1) := by decide +kernel
theorem dX9_goOn_139 : decode cX9_goOn 139 = .ok (.aload_n 1, 1) := by decide +kernel
theorem dX9_goOn_140 : decode cX9_goOn 140 = .ok (.aload 4, 2) := by decide +kernel
theorem dX9_goOn_142 : decode cX9_goOn 142 = .ok (.invokevirtual 312, 3) := by decide +kernel
theorem dX9_goOn_145 : decode cX9_goOn 145 = .ok (.iinc 3 1, 3) := by decide +kernel
theorem dX9_goOn_148 : decode cX9_goOn 148 = .ok (.goto (-138), 3) := by decide +kernel
theorem dX9_goOn_151 : decode cX9_goOn 151 = .ok (.aload_n 1, 1) := by decide +kernel
theorem dX9_goOn_152 : decode cX9_goOn 152 = .ok (.getfield 270, 3) := by decide +kernel
theorem dX9_goOn_155 : decode cX9_goOn 155 = .ok (.bipush 8, 2) := by decide +kernel
theorem dX9_goOn_157 : decode cX9_goOn 157 = .ok (.if_icmp .ne 9, 3) := by decide +kernel
theorem dX9_goOn_160 : decode cX9_goOn 160 = .ok (.aload_n 0, 1) := by decide +kernel
theorem dX9_goOn_161 : decode cX9_goOn 161 = .ok (.aload_n 1, 1) := by decide +kernel
theorem dX9_goOn_162 : decode cX9_goOn 162 = .ok (.iconst 5, 1) := by decide +kernel
theorem dX9_goOn_163 : decode cX9_goOn 163 = .ok (.invokevirtual 212, 3) := by decide +kernel
theorem dX9_goOn_166 : decode cX9_goOn 166 = .ok (.return_, 1) := by decide +kernel
theorem dX9_askFor_0 : decode cX9_askFor 0 = .ok (.aload_n 0, 1) := by decide +kernel
theorem dX9_askFor_1 : decode cX9_askFor 1 = .ok (.getfield 67, 3) := by decide +kernel
theorem dX9_askFor_4 : decode cX9_askFor 4 = .ok (.aload_n 0, 1) := by decide +kernel
theorem dX9_askFor_5 : decode cX9_askFor 5 = .ok (.getfield 78, 3) := by decide +kernel
theorem dX9_askFor_8 : decode cX9_askFor 8 = .ok (.aload_n 1, 1) := by decide +kernel
theorem dX9_askFor_9 : decode cX9_askFor 9 = .ok (.getfield 273, 3) := by decide +kernel
theorem dX9_askFor_12 : decode cX9_askFor 12 = .ok (.iconst 3, 1) := by decide +kernel
theorem dX9_askFor_13 : decode cX9_askFor 13 = .ok (.aload_n 2, 1) := by decide +kernel
theorem dX9_askFor_14 : decode cX9_askFor 14 = .ok (.getfield 253, 3) := by decide +kernel
theorem dX9_askFor_17 : decode cX9_askFor 17 = .ok (.invokevirtual 256, 3) := by decide +kernel
theorem dX9_askFor_20 : decode cX9_askFor 20 = .ok (.aload_n 0, 1) := by decide +kernel
theorem dX9_askFor_21 : decode cX9_askFor 21 = .ok (.aload_n 1, 1) := by decide +kernel
theorem dX9_askFor_22 : decode cX9_askFor 22 = .ok (.aload_n 2, 1) := by decide +kernel
theorem dX9_askFor_23 : decode cX9_askFor 23 = .ok (.invokevirtual 315, 3) := by decide +kernel
theorem dX9_askFor_26 : decode cX9_askFor 26 = .ok (.istore_n 3, 1) := by decide +kernel
theorem dX9_askFor_27 : decode cX9_askFor 27 = .ok (.iload_n 3, 1) := by decide +kernel
theorem dX9_askFor_28 : decode cX9_askFor 28 = .ok (.iconst (-1), 1) := by decide +kernel
theorem dX9_askFor_29 : decode cX9_askFor 29 = .ok (.if_icmp .eq 10, 3) := by decide +kernel
theorem dX9_askFor_32 : decode cX9_askFor 32 = .ok (.aload_n 0, 1) := by decide +kernel
theorem dX9_askFor_33 : decode cX9_askFor 33 = .ok (.aload_n 1, 1) := by decide +kernel
theorem dX9_askFor_34 : decode cX9_askFor 34 = .ok (.iload_n 3, 1) := by decide +kernel
theorem dX9_askFor_35 : decode cX9_askFor 35 = .ok (.invokevirtual 319, 3) := by decide +kernel
theorem dX9_askFor_38 : decode cX9_askFor 38 = .ok (.return_, 1) := by decide +kernel
theorem dX9_askFor_39 : decode cX9_askFor 39 = .ok (.aload_n 2, 1) := by decide +kernel
theorem dX9_askFor_40 : decode cX9_askFor 40 = .ok (.aload_n 1, 1) := by decide +kernel
theorem dX9_askFor_41 : decode cX9_askFor 41 = .ok (.putfield 260, 3) := by decide +kernel
theorem dX9_askFor_44 : decode cX9_askFor 44 = .ok (.aload_n 1, 1) := by decide +kernel
theorem dX9_askFor_45 : decode cX9_askFor 45 = .ok (.aload_n 2, 1) := by decide +kernel
theorem dX9_askFor_46 : decode cX9_askFor 46 = .ok (.putfield 267, 3) := by decide +kernel
theorem dX9_askFor_49 : decode cX9_askFor 49 = .ok (.aload_n 1, 1) := by decide +kernel
theorem dX9_askFor_50 : decode cX9_askFor 50 = .ok (.iconst 2, 1) := by decide +kernel
theorem dX9_askFor_51 : decode cX9_askFor 51 = .ok (.putfield 270, 3) := by decide +kernel
theorem dX9_askFor_54 : decode cX9_askFor 54 = .ok (.aload_n 0, 1) := by decide +kernel
theorem dX9_askFor_55 : decode cX9_askFor 55 = .ok (.getfield 51, 3) := by decide +kernel
theorem dX9_askFor_58 : decode cX9_askFor 58 = .ok (.aload_n 1, 1) := by decide +kernel
theorem dX9_askFor_59 : decode cX9_askFor 59 = .ok (.invokevirtual 322, 3) := by decide +kernel
theorem dX9_askFor_62 : decode cX9_askFor 62 = .ok (.return_, 1) := by decide +kernel
theorem dX9_ruleAgainst_0 : decode cX9_ruleAgainst 0 = .ok (.aload_n 0, 1) := by decide +kernel
theorem dX9_ruleAgainst_1 : decode cX9_ruleAgainst 1 = .ok (.aload_n 1, 1) := by decide +kernel
theorem dX9_ruleAgainst_2 : decode cX9_ruleAgainst 2 = .ok (.invokevirtual 324, 3) := by decide +kernel
theorem dX9_ruleAgainst_5 : decode cX9_ruleAgainst 5 = .ok (.iconst 3, 1) := by decide +kernel
theorem dX9_ruleAgainst_6 : decode cX9_ruleAgainst 6 = .ok (.if_icmp .lt 5, 3) := by decide +kernel
theorem dX9_ruleAgainst_9 : decode cX9_ruleAgainst 9 = .ok (.iconst 1, 1) := by decide +kernel
theorem dX9_ruleAgainst_10 : decode cX9_ruleAgainst 10 = .ok (.ireturn, 1) := by decide +kernel
theorem dX9_ruleAgainst_11 : decode cX9_ruleAgainst 11 = .ok (.aload_n 2, 1) := by decide +kernel
theorem dX9_ruleAgainst_12 : decode cX9_ruleAgainst 12 = .ok (.getfield 98, 3) := by decide +kernel
theorem dX9_ruleAgainst_15 : decode cX9_ruleAgainst 15 = .ok (.ifCond .eq 22, 3) := by decide +kernel
theorem dX9_ruleAgainst_18 : decode cX9_ruleAgainst 18 = .ok (.aload_n 1, 1) := by decide +kernel
theorem dX9_ruleAgainst_19 : decode cX9_ruleAgainst 19 = .ok (.getfield 328, 3) := by decide +kernel
theorem dX9_ruleAgainst_22 : decode cX9_ruleAgainst 22 = .ok (.ifnull 13, 3) := by decide +kernel
theorem dX9_ruleAgainst_25 : decode cX9_ruleAgainst 25 = .ok (.aload_n 1, 1) := by decide +kernel
theorem dX9_ruleAgainst_26 : decode cX9_ruleAgainst 26 = .ok (.getfield 328, 3) := by decide +kernel
theorem dX9_ruleAgainst_29 : decode cX9_ruleAgainst 29 = .ok (.getfield 84, 3) := by decide +kernel
theorem dX9_ruleAgainst_32 : decode cX9_ruleAgainst 32 = .ok (.ifCond .ne 5, 3) := by decide +kernel
theorem dX9_ruleAgainst_35 : decode cX9_ruleAgainst 35 = .ok (.iconst 2, 1) := by decide +kernel
theorem dX9_ruleAgainst_36 : decode cX9_ruleAgainst 36 = .ok (.ireturn, 1) := by decide +kernel
theorem dX9_ruleAgainst_37 : decode cX9_ruleAgainst 37 = .ok (.aload_n 2, 1) := by decide +kernel
theorem dX9_ruleAgainst_38 : decode cX9_ruleAgainst 38 = .ok (.getfield 239, 3) := by decide +kernel
theorem dX9_ruleAgainst_41 : decode cX9_ruleAgainst 41 = .ok (.aload_n 1, 1) := by decide +kernel
theorem dX9_ruleAgainst_42 : decode cX9_ruleAgainst 42 = .ok (.if_acmp .ne 5, 3) := by decide +kernel
theorem dX9_ruleAgainst_45 : decode cX9_ruleAgainst 45 = .ok (.iconst 3, 1) := by decide +kernel
theorem dX9_ruleAgainst_46 : decode cX9_ruleAgainst 46 = .ok (.ireturn, 1) := by decide +kernel
theorem dX9_ruleAgainst_47 : decode cX9_ruleAgainst 47 = .ok (.aload_n 0, 1) := by decide +kernel
theorem dX9_ruleAgainst_48 : decode cX9_ruleAgainst 48 = .ok (.aload_n 2, 1) := by decide +kernel
theorem dX9_ruleAgainst_49 : decode cX9_ruleAgainst 49 = .ok (.getfield 95, 3) := by decide +kernel
theorem dX9_ruleAgainst_52 : decode cX9_ruleAgainst 52 = .ok (.aload_n 1, 1) := by decide +kernel
theorem dX9_ruleAgainst_53 : decode cX9_ruleAgainst 53 = .ok (.invokevirtual 332, 3) := by decide +kernel
theorem dX9_ruleAgainst_56 : decode cX9_ruleAgainst 56 = .ok (.ifCond .eq 5, 3) := by decide +kernel
theorem dX9_ruleAgainst_59 : decode cX9_ruleAgainst 59 = .ok (.iconst 4, 1) := by decide +kernel
theorem dX9_ruleAgainst_60 : decode cX9_ruleAgainst 60 = .ok (.ireturn, 1) := by decide +kernel
theorem dX9_ruleAgainst_61 : decode cX9_ruleAgainst 61 = .ok (.iconst (-1), 1) := by decide +kernel
theorem dX9_ruleAgainst_62 : decode cX9_ruleAgainst 62 = .ok (.ireturn, 1) := by decide +kernel
theorem dX9_isTakenByAnother_0 : decode cX9_isTakenByAnother 0 = .ok (.iconst 0, 1) := by decide +kernel
theorem dX9_isTakenByAnother_1 : decode cX9_isTakenByAnother 1 = .ok (.istore_n 3, 1) := by decide +kernel
theorem dX9_isTakenByAnother_2 : decode cX9_isTakenByAnother 2 = .ok (.iload_n 3, 1) := by decide +kernel
theorem dX9_isTakenByAnother_3 : decode cX9_isTakenByAnother 3 = .ok (.aload_n 0, 1) := by decide +kernel
theorem dX9_isTakenByAnother_4 : decode cX9_isTakenByAnother 4 = .ok (.getfield 88, 3) := by decide +kernel
theorem dX9_isTakenByAnother_7 : decode cX9_isTakenByAnother 7 = .ok (.if_icmp .ge 62, 3) := by decide +kernel
theorem dX9_isTakenByAnother_10 : decode cX9_isTakenByAnother 10 = .ok (.aload_n 0, 1) := by decide +kernel
theorem dX9_isTakenByAnother_11 : decode cX9_isTakenByAnother 11 = .ok (.getfield 20, 3) := by decide +kernel
theorem dX9_isTakenByAnother_14 : decode cX9_isTakenByAnother 14 = .ok (.iload_n 3, 1) := by decide +kernel
theorem dX9_isTakenByAnother_15 : decode cX9_isTakenByAnother 15 = .ok (.aaload, 1) := by decide +kernel
theorem dX9_isTakenByAnother_16 : decode cX9_isTakenByAnother 16 = .ok (.astore 4, 2) := by decide +kernel
theorem dX9_isTakenByAnother_18 : decode cX9_isTakenByAnother 18 = .ok (.aload 4, 2) := by decide +kernel
theorem dX9_isTakenByAnother_20 : decode cX9_isTakenByAnother 20 = .ok (.getfield 239, 3) := by decide +kernel
theorem dX9_isTakenByAnother_23 : decode cX9_isTakenByAnother 23 = .ok (.ifnull 11, 3) := by decide +kernel
theorem dX9_isTakenByAnother_26 : decode cX9_isTakenByAnother 26 = .ok (.aload 4, 2) := by decide +kernel
theorem dX9_isTakenByAnother_28 : decode cX9_isTakenByAnother 28 = .ok (.getfield 239, 3) := by decide +kernel
theorem dX9_isTakenByAnother_31 : decode cX9_isTakenByAnother 31 = .ok (.goto 8, 3) := by decide +kernel
theorem dX9_isTakenByAnother_34 : decode cX9_isTakenByAnother 34 = .ok (.aload 4, 2) := by decide +kernel
theorem dX9_isTakenByAnother_36 : decode cX9_isTakenByAnother 36 = .ok (.getfield 260, 3) := by decide +kernel
theorem dX9_isTakenByAnother_39 : decode cX9_isTakenByAnother 39 = .ok (.astore 5, 2) := by decide +kernel
theorem dX9_isTakenByAnother_41 : decode cX9_isTakenByAnother 41 = .ok (.aload 4, 2) := by decide +kernel
theorem dX9_isTakenByAnother_43 : decode cX9_isTakenByAnother 43 = .ok (.getfield 95, 3) := by decide +kernel
theorem dX9_isTakenByAnother_46 : decode cX9_isTakenByAnother 46 = .ok (.iload_n 1, 1) := by decide +kernel
theorem dX9_isTakenByAnother_47 : decode cX9_isTakenByAnother 47 = .ok (.if_icmp .ne 16, 3) := by decide +kernel
theorem dX9_isTakenByAnother_50 : decode cX9_isTakenByAnother 50 = .ok (.aload 5, 2) := by decide +kernel
theorem dX9_isTakenByAnother_52 : decode cX9_isTakenByAnother 52 = .ok (.ifnull 11, 3) := by decide +kernel
theorem dX9_isTakenByAnother_55 : decode cX9_isTakenByAnother 55 = .ok (.aload 5, 2) := by decide +kernel
theorem dX9_isTakenByAnother_57 : decode cX9_isTakenByAnother 57 = .ok (.aload_n 2, 1) := by decide +kernel
theorem dX9_isTakenByAnother_58 : decode cX9_isTakenByAnother 58 = .ok (.if_acmp .eq 5, 3) := by decide +kernel
theorem dX9_isTakenByAnother_61 : decode cX9_isTakenByAnother 61 = .ok (.iconst 1, 1) := by decide +kernel
theorem dX9_isTakenByAnother_62 : decode cX9_isTakenByAnother 62 = .ok (.ireturn, 1) := by decide +kernel
theorem dX9_isTakenByAnother_63 : decode cX9_isTakenByAnother 63 = .ok (.iinc 3 1, 3) := by decide +kernel
theorem dX9_isTakenByAnother_66 : decode cX9_isTakenByAnother 66 = .ok (.goto (-64), 3) := by decide +kernel
theorem dX9_isTakenByAnother_69 : decode cX9_isTakenByAnother 69 = .ok (.iconst 0, 1) := by decide +kernel
theorem dX9_isTakenByAnother_70 : decode cX9_isTakenByAnother 70 = .ok (.ireturn, 1) := by decide +kernel
theorem dX9_orderCopy_0 : decode cX9_orderCopy 0 = .ok (.aload_n 2, 1) := by decide +kernel
theorem dX9_orderCopy_1 : decode cX9_orderCopy 1 = .ok (.getfield 239, 3) := by decide +kernel
theorem dX9_orderCopy_4 : decode cX9_orderCopy 4 = .ok (.aload_n 1, 1) := by decide +kernel
theorem dX9_orderCopy_5 : decode cX9_orderCopy 5 = .ok (.if_acmp .eq 10, 3) := by decide +kernel
theorem dX9_orderCopy_8 : decode cX9_orderCopy 8 = .ok (.aload_n 0, 1) := by decide +kernel
theorem dX9_orderCopy_9 : decode cX9_orderCopy 9 = .ok (.aload_n 1, 1) := by decide +kernel
theorem dX9_orderCopy_10 : decode cX9_orderCopy 10 = .ok (.iconst 5, 1) := by decide +kernel
theorem dX9_orderCopy_11 : decode cX9_orderCopy 11 = .ok (.invokevirtual 319, 3) := by decide +kernel
theorem dX9_orderCopy_14 : decode cX9_orderCopy 14 = .ok (.return_, 1) := by decide +kernel
theorem dX9_orderCopy_15 : decode cX9_orderCopy 15 = .ok (.aload_n 2, 1) := by decide +kernel
theorem dX9_orderCopy_16 : decode cX9_orderCopy 16 = .ok (.iconst 5, 1) := by decide +kernel
theorem dX9_orderCopy_17 : decode cX9_orderCopy 17 = .ok (.putfield 233, 3) := by decide +kernel
theorem dX9_orderCopy_20 : decode cX9_orderCopy 20 = .ok (.aload_n 1, 1) := by decide +kernel
theorem dX9_orderCopy_21 : decode cX9_orderCopy 21 = .ok (.aload_n 2, 1) := by decide +kernel
theorem dX9_orderCopy_22 : decode cX9_orderCopy 22 = .ok (.putfield 267, 3) := by decide +kernel
theorem dX9_orderCopy_25 : decode cX9_orderCopy 25 = .ok (.aload_n 1, 1) := by decide +kernel
theorem dX9_orderCopy_26 : decode cX9_orderCopy 26 = .ok (.iload_n 3, 1) := by decide +kernel
theorem dX9_orderCopy_27 : decode cX9_orderCopy 27 = .ok (.putfield 336, 3) := by decide +kernel
theorem dX9_orderCopy_30 : decode cX9_orderCopy 30 = .ok (.aload_n 1, 1) := by decide +kernel
theorem dX9_orderCopy_31 : decode cX9_orderCopy 31 = .ok (.iload 4, 2) := by decide +kernel
theorem dX9_orderCopy_33 : decode cX9_orderCopy 33 = .ok (.putfield 339, 3) := by decide +kernel
theorem dX9_orderCopy_36 : decode cX9_orderCopy 36 = .ok (.aload_n 1, 1) := by decide +kernel
theorem dX9_orderCopy_37 : decode cX9_orderCopy 37 = .ok (.iconst 4, 1) := by decide +kernel
theorem dX9_orderCopy_38 : decode cX9_orderCopy 38 = .ok (.putfield 270, 3) := by decide +kernel
theorem dX9_orderCopy_41 : decode cX9_orderCopy 41 = .ok (.aload_n 0, 1) := by decide +kernel
theorem dX9_orderCopy_42 : decode cX9_orderCopy 42 = .ok (.getfield 54, 3) := by decide +kernel
theorem dX9_orderCopy_45 : decode cX9_orderCopy 45 = .ok (.aload_n 1, 1) := by decide +kernel
theorem dX9_orderCopy_46 : decode cX9_orderCopy 46 = .ok (.invokevirtual 322, 3) := by decide +kernel
theorem dX9_orderCopy_49 : decode cX9_orderCopy 49 = .ok (.return_, 1) := by decide +kernel
theorem dX9_giveBack_0 : decode cX9_giveBack 0 = .ok (.aload_n 2, 1) := by decide +kernel
theorem dX9_giveBack_1 : decode cX9_giveBack 1 = .ok (.getfield 239, 3) := by decide +kernel
theorem dX9_giveBack_4 : decode cX9_giveBack 4 = .ok (.aload_n 1, 1) := by decide +kernel
theorem dX9_giveBack_5 : decode cX9_giveBack 5 = .ok (.if_acmp .eq 10, 3) := by decide +kernel
theorem dX9_giveBack_8 : decode cX9_giveBack 8 = .ok (.aload_n 0, 1) := by decide +kernel
theorem dX9_giveBack_9 : decode cX9_giveBack 9 = .ok (.aload_n 1, 1) := by decide +kernel
theorem dX9_giveBack_10 : decode cX9_giveBack 10 = .ok (.iconst 5, 1) := by decide +kernel
theorem dX9_giveBack_11 : decode cX9_giveBack 11 = .ok (.invokevirtual 319, 3) := by decide +kernel
theorem dX9_giveBack_14 : decode cX9_giveBack 14 = .ok (.return_, 1) := by decide +kernel
theorem dX9_giveBack_15 : decode cX9_giveBack 15 = .ok (.aload_n 2, 1) := by decide +kernel
theorem dX9_giveBack_16 : decode cX9_giveBack 16 = .ok (.aconst_null, 1) := by decide +kernel
theorem dX9_giveBack_17 : decode cX9_giveBack 17 = .ok (.putfield 239, 3) := by decide +kernel
theorem dX9_giveBack_20 : decode cX9_giveBack 20 = .ok (.aload_n 2, 1) := by decide +kernel
theorem dX9_giveBack_21 : decode cX9_giveBack 21 = .ok (.iconst 2, 1) := by decide +kernel
theorem dX9_giveBack_22 : decode cX9_giveBack 22 = .ok (.putfield 233, 3) := by decide +kernel
theorem dX9_giveBack_25 : decode cX9_giveBack 25 = .ok (.aload_n 0, 1) := by decide +kernel
theorem dX9_giveBack_26 : decode cX9_giveBack 26 = .ok (.getfield 67, 3) := by decide +kernel
theorem dX9_giveBack_29 : decode cX9_giveBack 29 = .ok (.aload_n 0, 1) := by decide +kernel
theorem dX9_giveBack_30 : decode cX9_giveBack 30 = .ok (.getfield 78, 3) := by decide +kernel
theorem dX9_giveBack_33 : decode cX9_giveBack 33 = .ok (.aload_n 1, 1) := by decide +kernel
theorem dX9_giveBack_34 : decode cX9_giveBack 34 = .ok (.getfield 273, 3) := by decide +kernel
theorem dX9_giveBack_37 : decode cX9_giveBack 37 = .ok (.bipush 7, 2) := by decide +kernel
theorem dX9_giveBack_39 : decode cX9_giveBack 39 = .ok (.aload_n 2, 1) := by decide +kernel
theorem dX9_giveBack_40 : decode cX9_giveBack 40 = .ok (.getfield 253, 3) := by decide +kernel
theorem dX9_giveBack_43 : decode cX9_giveBack 43 = .ok (.invokevirtual 256, 3) := by decide +kernel
theorem dX9_giveBack_46 : decode cX9_giveBack 46 = .ok (.return_, 1) := by decide +kernel
theorem dX9_refuse_0 : decode cX9_refuse 0 = .ok (.aload_n 1, 1) := by decide +kernel
theorem dX9_refuse_1 : decode cX9_refuse 1 = .ok (.getfield 135, 3) := by decide +kernel
theorem dX9_refuse_4 : decode cX9_refuse 4 = .ok (.iload_n 2, 1) := by decide +kernel
theorem dX9_refuse_5 : decode cX9_refuse 5 = .ok (.invokevirtual 342, 3) := by decide +kernel
theorem dX9_refuse_8 : decode cX9_refuse 8 = .ok (.aload_n 0, 1) := by decide +kernel
theorem dX9_refuse_9 : decode cX9_refuse 9 = .ok (.getfield 67, 3) := by decide +kernel
theorem dX9_refuse_12 : decode cX9_refuse 12 = .ok (.aload_n 0, 1) := by decide +kernel
theorem dX9_refuse_13 : decode cX9_refuse 13 = .ok (.getfield 78, 3) := by decide +kernel
theorem dX9_refuse_16 : decode cX9_refuse 16 = .ok (.aload_n 1, 1) := by decide +kernel
theorem dX9_refuse_17 : decode cX9_refuse 17 = .ok (.getfield 273, 3) := by decide +kernel
theorem dX9_refuse_20 : decode cX9_refuse 20 = .ok (.iconst 4, 1) := by decide +kernel
theorem dX9_refuse_21 : decode cX9_refuse 21 = .ok (.iload_n 2, 1) := by decide +kernel
theorem dX9_refuse_22 : decode cX9_refuse 22 = .ok (.invokevirtual 256, 3) := by decide +kernel
theorem dX9_refuse_25 : decode cX9_refuse 25 = .ok (.return_, 1) := by decide +kernel
theorem dX9_depart_0 : decode cX9_depart 0 = .ok (.aload_n 0, 1) := by decide +kernel
theorem dX9_depart_1 : decode cX9_depart 1 = .ok (.getfield 47, 3) := by decide +kernel
theorem dX9_depart_4 : decode cX9_depart 4 = .ok (.aload_n 1, 1) := by decide +kernel
theorem dX9_depart_5 : decode cX9_depart 5 = .ok (.invokevirtual 263, 3) := by decide +kernel
theorem dX9_depart_8 : decode cX9_depart 8 = .ok (.aload_n 0, 1) := by decide +kernel
theorem dX9_depart_9 : decode cX9_depart 9 = .ok (.aload_n 1, 1) := by decide +kernel
theorem dX9_depart_10 : decode cX9_depart 10 = .ok (.invokevirtual 345, 3) := by decide +kernel
theorem dX9_depart_13 : decode cX9_depart 13 = .ok (.iconst 0, 1) := by decide +kernel
theorem dX9_depart_14 : decode cX9_depart 14 = .ok (.istore_n 3, 1) := by decide +kernel
theorem dX9_depart_15 : decode cX9_depart 15 = .ok (.iload_n 3, 1) := by decide +kernel
theorem dX9_depart_16 : decode cX9_depart 16 = .ok (.aload_n 0, 1) := by decide +kernel
theorem dX9_depart_17 : decode cX9_depart 17 = .ok (.getfield 88, 3) := by decide +kernel
theorem dX9_depart_20 : decode cX9_depart 20 = .ok (.if_icmp .ge 48, 3) := by decide +kernel
theorem dX9_depart_23 : decode cX9_depart 23 = .ok (.aload_n 0, 1) := by decide +kernel
theorem dX9_depart_24 : decode cX9_depart 24 = .ok (.getfield 20, 3) := by decide +kernel
theorem dX9_depart_27 : decode cX9_depart 27 = .ok (.iload_n 3, 1) := by decide +kernel
theorem dX9_depart_28 : decode cX9_depart 28 = .ok (.aaload, 1) := by decide +kernel
theorem dX9_depart_29 : decode cX9_depart 29 = .ok (.astore 4, 2) := by decide +kernel
theorem dX9_depart_31 : decode cX9_depart 31 = .ok (.aload 4, 2) := by decide +kernel
theorem dX9_depart_33 : decode cX9_depart 33 = .ok (.getfield 239, 3) := by decide +kernel
theorem dX9_depart_36 : decode cX9_depart 36 = .ok (.aload_n 1, 1) := by decide +kernel
theorem dX9_depart_37 : decode cX9_depart 37 = .ok (.if_acmp .ne 25, 3) := by decide +kernel
theorem dX9_depart_40 : decode cX9_depart 40 = .ok (.aload 4, 2) := by decide +kernel
theorem dX9_depart_42 : decode cX9_depart 42 = .ok (.aconst_null, 1) := by decide +kernel
theorem dX9_depart_43 : decode cX9_depart 43 = .ok (.putfield 239, 3) := by decide +kernel
theorem dX9_depart_46 : decode cX9_depart 46 = .ok (.aload 4, 2) := by decide +kernel
theorem dX9_depart_48 : decode cX9_depart 48 = .ok (.getfield 233, 3) := by decide +kernel
theorem dX9_depart_51 : decode cX9_depart 51 = .ok (.bipush 6, 2) := by decide +kernel
theorem dX9_depart_53 : decode cX9_depart 53 = .ok (.if_icmp .eq 9, 3) := by decide +kernel
theorem dX9_depart_56 : decode cX9_depart 56 = .ok (.aload 4, 2) := by decide +kernel
theorem dX9_depart_58 : decode cX9_depart 58 = .ok (.iconst 2, 1) := by decide +kernel
theorem dX9_depart_59 : decode cX9_depart 59 = .ok (.putfield 233, 3) := by decide +kernel
theorem dX9_depart_62 : decode cX9_depart 62 = .ok (.iinc 3 1, 3) := by decide +kernel
theorem dX9_depart_65 : decode cX9_depart 65 = .ok (.goto (-50), 3) := by decide +kernel
theorem dX9_depart_68 : decode cX9_depart 68 = .ok (.aload_n 1, 1) := by decide +kernel
theorem dX9_depart_69 : decode cX9_depart 69 = .ok (.getfield 328, 3) := by decide +kernel
theorem dX9_depart_72 : decode cX9_depart 72 = .ok (.ifnull 16, 3) := by decide +kernel
theorem dX9_depart_75 : decode cX9_depart 75 = .ok (.aload_n 1, 1) := by decide +kernel
theorem dX9_depart_76 : decode cX9_depart 76 = .ok (.getfield 328, 3) := by decide +kernel
theorem dX9_depart_79 : decode cX9_depart 79 = .ok (.aconst_null, 1) := by decide +kernel
theorem dX9_depart_80 : decode cX9_depart 80 = .ok (.putfield 348, 3) := by decide +kernel
theorem dX9_depart_83 : decode cX9_depart 83 = .ok (.aload_n 1, 1) := by decide +kernel
theorem dX9_depart_84 : decode cX9_depart 84 = .ok (.aconst_null, 1) := by decide +kernel
theorem dX9_depart_85 : decode cX9_depart 85 = .ok (.putfield 328, 3) := by decide +kernel
theorem dX9_depart_88 : decode cX9_depart 88 = .ok (.aload_n 1, 1) := by decide +kernel
theorem dX9_depart_89 : decode cX9_depart 89 = .ok (.iload_n 2, 1) := by decide +kernel
theorem dX9_depart_90 : decode cX9_depart 90 = .ok (.putfield 270, 3) := by decide +kernel
theorem dX9_depart_93 : decode cX9_depart 93 = .ok (.aload_n 0, 1) := by decide +kernel
theorem dX9_depart_94 : decode cX9_depart 94 = .ok (.getfield 67, 3) := by decide +kernel
theorem dX9_depart_97 : decode cX9_depart 97 = .ok (.aload_n 0, 1) := by decide +kernel
theorem dX9_depart_98 : decode cX9_depart 98 = .ok (.getfield 78, 3) := by decide +kernel
theorem dX9_depart_101 : decode cX9_depart 101 = .ok (.aload_n 1, 1) := by decide +kernel
theorem dX9_depart_102 : decode cX9_depart 102 = .ok (.getfield 273, 3) := by decide +kernel
theorem dX9_depart_105 : decode cX9_depart 105 = .ok (.bipush 8, 2) := by decide +kernel
theorem dX9_depart_107 : decode cX9_depart 107 = .ok (.iload_n 2, 1) := by decide +kernel
theorem dX9_depart_108 : decode cX9_depart 108 = .ok (.invokevirtual 256, 3) := by decide +kernel
theorem dX9_depart_111 : decode cX9_depart 111 = .ok (.return_, 1) := by decide +kernel
theorem dX9_dropTickets_0 : decode cX9_dropTickets 0 = .ok (.aload_n 0, 1) := by decide +kernel
theorem dX9_dropTickets_1 : decode cX9_dropTickets 1 = .ok (.getfield 51, 3) := by decide +kernel
theorem dX9_dropTickets_4 : decode cX9_dropTickets 4 = .ok (.aload_n 1, 1) := by decide +kernel
theorem dX9_dropTickets_5 : decode cX9_dropTickets 5 = .ok (.invokevirtual 263, 3) := by decide +kernel
theorem dX9_dropTickets_8 : decode cX9_dropTickets 8 = .ok (.aload_n 0, 1) := by decide +kernel
theorem dX9_dropTickets_9 : decode cX9_dropTickets 9 = .ok (.getfield 54, 3) := by decide +kernel
theorem dX9_dropTickets_12 : decode cX9_dropTickets 12 = .ok (.aload_n 1, 1) := by decide +kernel
theorem dX9_dropTickets_13 : decode cX9_dropTickets 13 = .ok (.invokevirtual 263, 3) := by decide +kernel
theorem dX9_dropTickets_16 : decode cX9_dropTickets 16 = .ok (.aload_n 1, 1) := by decide +kernel
theorem dX9_dropTickets_17 : decode cX9_dropTickets 17 = .ok (.getfield 267, 3) := by decide +kernel
theorem dX9_dropTickets_20 : decode cX9_dropTickets 20 = .ok (.astore_n 2, 1) := by decide +kernel
theorem dX9_dropTickets_21 : decode cX9_dropTickets 21 = .ok (.aload_n 2, 1) := by decide +kernel
theorem dX9_dropTickets_22 : decode cX9_dropTickets 22 = .ok (.ifnull 16, 3) := by decide +kernel
theorem dX9_dropTickets_25 : decode cX9_dropTickets 25 = .ok (.aload_n 2, 1) := by decide +kernel
theorem dX9_dropTickets_26 : decode cX9_dropTickets 26 = .ok (.getfield 260, 3) := by decide +kernel
theorem dX9_dropTickets_29 : decode cX9_dropTickets 29 = .ok (.aload_n 1, 1) := by decide +kernel
theorem dX9_dropTickets_30 : decode cX9_dropTickets 30 = .ok (.if_acmp .ne 8, 3) := by decide +kernel
theorem dX9_dropTickets_33 : decode cX9_dropTickets 33 = .ok (.aload_n 2, 1) := by decide +kernel
theorem dX9_dropTickets_34 : decode cX9_dropTickets 34 = .ok (.aconst_null, 1) := by decide +kernel
theorem dX9_dropTickets_35 : decode cX9_dropTickets 35 = .ok (.putfield 260, 3) := by decide +kernel
theorem dX9_dropTickets_38 : decode cX9_dropTickets 38 = .ok (.aload_n 1, 1) := by decide +kernel
theorem dX9_dropTickets_39 : decode cX9_dropTickets 39 = .ok (.aconst_null, 1) := by decide +kernel
theorem dX9_dropTickets_40 : decode cX9_dropTickets 40 = .ok (.putfield 267, 3) := by decide +kernel
theorem dX9_dropTickets_43 : decode cX9_dropTickets 43 = .ok (.return_, 1) := by decide +kernel
theorem dX9_readersCome_0 : decode cX9_readersCome 0 = .ok (.iconst 0, 1) := by decide +kernel
theorem dX9_readersCome_1 : decode cX9_readersCome 1 = .ok (.istore_n 1, 1) := by decide +kernel
theorem dX9_readersCome_2 : decode cX9_readersCome 2 = .ok (.iload_n 1, 1) := by decide +kernel
theorem dX9_readersCome_3 : decode cX9_readersCome 3 = .ok (.aload_n 0, 1) := by decide +kernel
theorem dX9_readersCome_4 : decode cX9_readersCome 4 = .ok (.getfield 104, 3) := by decide +kernel
theorem dX9_readersCome_7 : decode cX9_readersCome 7 = .ok (.if_icmp .ge 72, 3) := by decide +kernel
theorem dX9_readersCome_10 : decode cX9_readersCome 10 = .ok (.aload_n 0, 1) := by decide +kernel
theorem dX9_readersCome_11 : decode cX9_readersCome 11 = .ok (.getfield 27, 3) := by decide +kernel
theorem dX9_readersCome_14 : decode cX9_readersCome 14 = .ok (.iload_n 1, 1) := by decide +kernel
theorem dX9_readersCome_15 : decode cX9_readersCome 15 = .ok (.aaload, 1) := by decide +kernel
theorem dX9_readersCome_16 : decode cX9_readersCome 16 = .ok (.astore_n 2, 1) := by decide +kernel
theorem dX9_readersCome_17 : decode cX9_readersCome 17 = .ok (.aload_n 2, 1) := by decide +kernel
theorem dX9_readersCome_18 : decode cX9_readersCome 18 = .ok (.getfield 270, 3) := by decide +kernel
theorem dX9_readersCome_21 : decode cX9_readersCome 21 = .ok (.ifCond .ne 52, 3) := by decide +kernel
theorem dX9_readersCome_24 : decode cX9_readersCome 24 = .ok (.aload_n 2, 1) := by decide +kernel
theorem dX9_readersCome_25 : decode cX9_readersCome 25 = .ok (.getfield 111, 3) := by decide +kernel
theorem dX9_readersCome_28 : decode cX9_readersCome 28 = .ok (.aload_n 0, 1) := by decide +kernel
theorem dX9_readersCome_29 : decode cX9_readersCome 29 = .ok (.getfield 78, 3) := by decide +kernel
theorem dX9_readersCome_32 : decode cX9_readersCome 32 = .ok (.if_icmp .gt 41, 3) := by decide +kernel
theorem dX9_readersCome_35 : decode cX9_readersCome 35 = .ok (.aload_n 2, 1) := by decide +kernel
theorem dX9_readersCome_36 : decode cX9_readersCome 36 = .ok (.iconst 1, 1) := by decide +kernel
theorem dX9_readersCome_37 : decode cX9_readersCome 37 = .ok (.putfield 270, 3) := by decide +kernel
theorem dX9_readersCome_40 : decode cX9_readersCome 40 = .ok (.aload_n 2, 1) := by decide +kernel
theorem dX9_readersCome_41 : decode cX9_readersCome 41 = .ok (.aload_n 0, 1) := by decide +kernel
theorem dX9_readersCome_42 : decode cX9_readersCome 42 = .ok (.getfield 78, 3) := by decide +kernel
theorem dX9_readersCome_45 : decode cX9_readersCome 45 = .ok (.putfield 351, 3) := by decide +kernel
theorem dX9_readersCome_48 : decode cX9_readersCome 48 = .ok (.aload_n 0, 1) := by decide +kernel
theorem dX9_readersCome_49 : decode cX9_readersCome 49 = .ok (.getfield 47, 3) := by decide +kernel
theorem dX9_readersCome_52 : decode cX9_readersCome 52 = .ok (.aload_n 2, 1) := by decide +kernel
theorem dX9_readersCome_53 : decode cX9_readersCome 53 = .ok (.invokevirtual 354, 3) := by decide +kernel
theorem dX9_readersCome_56 : decode cX9_readersCome 56 = .ok (.aload_n 0, 1) := by decide +kernel
theorem dX9_readersCome_57 : decode cX9_readersCome 57 = .ok (.getfield 67, 3) := by decide +kernel
theorem dX9_readersCome_60 : decode cX9_readersCome 60 = .ok (.aload_n 0, 1) := by decide +kernel
theorem dX9_readersCome_61 : decode cX9_readersCome 61 = .ok (.getfield 78, 3) := by decide +kernel
theorem dX9_readersCome_64 : decode cX9_readersCome 64 = .ok (.aload_n 2, 1) := by decide +kernel
theorem dX9_readersCome_65 : decode cX9_readersCome 65 = .ok (.getfield 273, 3) := by decide +kernel
theorem dX9_readersCome_68 : decode cX9_readersCome 68 = .ok (.iconst 1, 1) := by decide +kernel
theorem dX9_readersCome_69 : decode cX9_readersCome 69 = .ok (.iconst 1, 1) := by decide +kernel
theorem dX9_readersCome_70 : decode cX9_readersCome 70 = .ok (.invokevirtual 256, 3) := by decide +kernel
theorem dX9_readersCome_73 : decode cX9_readersCome 73 = .ok (.iinc 1 1, 3) := by decide +kernel
theorem dX9_readersCome_76 : decode cX9_readersCome 76 = .ok (.goto (-74), 3) := by decide +kernel
theorem dX9_readersCome_79 : decode cX9_readersCome 79 = .ok (.return_, 1) := by decide +kernel
theorem dX9_giveDesks_0 : decode cX9_giveDesks 0 = .ok (.iconst 0, 1) := by decide +kernel
theorem dX9_giveDesks_1 : decode cX9_giveDesks 1 = .ok (.istore_n 1, 1) := by decide +kernel
theorem dX9_giveDesks_2 : decode cX9_giveDesks 2 = .ok (.iconst 0, 1) := by decide +kernel
theorem dX9_giveDesks_3 : decode cX9_giveDesks 3 = .ok (.istore_n 2, 1) := by decide +kernel
theorem dX9_giveDesks_4 : decode cX9_giveDesks 4 = .ok (.iload_n 2, 1) := by decide +kernel
theorem dX9_giveDesks_5 : decode cX9_giveDesks 5 = .ok (.aload_n 0, 1) := by decide +kernel
theorem dX9_giveDesks_6 : decode cX9_giveDesks 6 = .ok (.getfield 104, 3) := by decide +kernel
theorem dX9_giveDesks_9 : decode cX9_giveDesks 9 = .ok (.if_icmp .ge 48, 3) := by decide +kernel
theorem dX9_giveDesks_12 : decode cX9_giveDesks 12 = .ok (.aload_n 0, 1) := by decide +kernel
theorem dX9_giveDesks_13 : decode cX9_giveDesks 13 = .ok (.getfield 47, 3) := by decide +kernel
theorem dX9_giveDesks_16 : decode cX9_giveDesks 16 = .ok (.iload_n 1, 1) := by decide +kernel
theorem dX9_giveDesks_17 : decode cX9_giveDesks 17 = .ok (.invokevirtual 357, 3) := by decide +kernel
theorem dX9_giveDesks_20 : decode cX9_giveDesks 20 = .ok (.astore_n 3, 1) := by decide +kernel
theorem dX9_giveDesks_21 : decode cX9_giveDesks 21 = .ok (.aload_n 3, 1) := by decide +kernel
theorem dX9_giveDesks_22 : decode cX9_giveDesks 22 = .ok (.ifnonnull 4, 3) := by decide +kernel
theorem dX9_giveDesks_25 : decode cX9_giveDesks 25 = .ok (.return_, 1) := by decide +kernel
theorem dX9_giveDesks_26 : decode cX9_giveDesks 26 = .ok (.aload_n 0, 1) := by decide +kernel
theorem dX9_giveDesks_27 : decode cX9_giveDesks 27 = .ok (.aload_n 3, 1) := by decide +kernel
theorem dX9_giveDesks_28 : decode cX9_giveDesks 28 = .ok (.invokevirtual 361, 3) := by decide +kernel
theorem dX9_giveDesks_31 : decode cX9_giveDesks 31 = .ok (.astore 4, 2) := by decide +kernel
theorem dX9_giveDesks_33 : decode cX9_giveDesks 33 = .ok (.aload 4, 2) := by decide +kernel
theorem dX9_giveDesks_35 : decode cX9_giveDesks 35 = .ok (.ifnonnull 9, 3) := by decide +kernel
theorem dX9_giveDesks_38 : decode cX9_giveDesks 38 = .ok (.iinc 1 1, 3) := by decide +kernel
theorem dX9_giveDesks_41 : decode cX9_giveDesks 41 = .ok (.goto 10, 3) := by decide +kernel
theorem dX9_giveDesks_44 : decode cX9_giveDesks 44 = .ok (.aload_n 0, 1) := by decide +kernel
theorem dX9_giveDesks_45 : decode cX9_giveDesks 45 = .ok (.aload_n 3, 1) := by decide +kernel
theorem dX9_giveDesks_46 : decode cX9_giveDesks 46 = .ok (.aload 4, 2) := by decide +kernel
theorem dX9_giveDesks_48 : decode cX9_giveDesks 48 = .ok (.invokevirtual 365, 3) := by decide +kernel
theorem dX9_giveDesks_51 : decode cX9_giveDesks 51 = .ok (.iinc 2 1, 3) := by decide +kernel
theorem dX9_giveDesks_54 : decode cX9_giveDesks 54 = .ok (.goto (-50), 3) := by decide +kernel
theorem dX9_giveDesks_57 : decode cX9_giveDesks 57 = .ok (.return_, 1) := by decide +kernel
theorem dX9_freeDeskFor_0 : decode cX9_freeDeskFor 0 = .ok (.aload_n 0, 1) := by decide +kernel
theorem dX9_freeDeskFor_1 : decode cX9_freeDeskFor 1 = .ok (.iconst 1, 1) := by decide +kernel
theorem dX9_freeDeskFor_2 : decode cX9_freeDeskFor 2 = .ok (.invokevirtual 369, 3) := by decide +kernel
theorem dX9_freeDeskFor_5 : decode cX9_freeDeskFor 5 = .ok (.astore_n 2, 1) := by decide +kernel
theorem dX9_freeDeskFor_6 : decode cX9_freeDeskFor 6 = .ok (.aload_n 1, 1) := by decide +kernel
theorem dX9_freeDeskFor_7 : decode cX9_freeDeskFor 7 = .ok (.getfield 117, 3) := by decide +kernel
theorem dX9_freeDeskFor_10 : decode cX9_freeDeskFor 10 = .ok (.ifCond .eq 5, 3) := by decide +kernel
theorem dX9_freeDeskFor_13 : decode cX9_freeDeskFor 13 = .ok (.aload_n 2, 1) := by decide +kernel
theorem dX9_freeDeskFor_14 : decode cX9_freeDeskFor 14 = .ok (.areturn, 1) := by decide +kernel
theorem dX9_freeDeskFor_15 : decode cX9_freeDeskFor 15 = .ok (.aload_n 0, 1) := by decide +kernel
theorem dX9_freeDeskFor_16 : decode cX9_freeDeskFor 16 = .ok (.iconst 0, 1) := by decide +kernel
theorem dX9_freeDeskFor_17 : decode cX9_freeDeskFor 17 = .ok (.invokevirtual 369, 3) := by decide +kernel
theorem dX9_freeDeskFor_20 : decode cX9_freeDeskFor 20 = .ok (.astore_n 3, 1) := by decide +kernel
theorem dX9_freeDeskFor_21 : decode cX9_freeDeskFor 21 = .ok (.aload_n 3, 1) := by decide +kernel
theorem dX9_freeDeskFor_22 : decode cX9_freeDeskFor 22 = .ok (.ifnull 7, 3) := by decide +kernel
theorem dX9_freeDeskFor_25 : decode cX9_freeDeskFor 25 = .ok (.aload_n 3, 1) := by decide +kernel
theorem dX9_freeDeskFor_26 : decode cX9_freeDeskFor 26 = .ok (.goto 4, 3) := by decide +kernel
theorem dX9_freeDeskFor_29 : decode cX9_freeDeskFor 29 = .ok (.aload_n 2, 1) := by decide +kernel
theorem dX9_freeDeskFor_30 : decode cX9_freeDeskFor 30 = .ok (.areturn, 1) := by decide +kernel
theorem dX9_firstFreeDesk_0 : decode cX9_firstFreeDesk 0 = .ok (.iconst 0, 1) := by decide +kernel
theorem dX9_firstFreeDesk_1 : decode cX9_firstFreeDesk 1 = .ok (.istore_n 2, 1) := by decide +kernel
theorem dX9_firstFreeDesk_2 : decode cX9_firstFreeDesk 2 = .ok (.iload_n 2, 1) := by decide +kernel
theorem dX9_firstFreeDesk_3 : decode cX9_firstFreeDesk 3 = .ok (.aload_n 0, 1) := by decide +kernel
theorem dX9_firstFreeDesk_4 : decode cX9_firstFreeDesk 4 = .ok (.getfield 81, 3) := by decide +kernel
theorem dX9_firstFreeDesk_7 : decode cX9_firstFreeDesk 7 = .ok (.if_icmp .ge 41, 3) := by decide +kernel
theorem dX9_firstFreeDesk_10 : decode cX9_firstFreeDesk 10 = .ok (.aload_n 0, 1) := by decide +kernel
theorem dX9_firstFreeDesk_11 : decode cX9_firstFreeDesk 11 = .ok (.getfield 11, 3) := by decide +kernel
theorem dX9_firstFreeDesk_14 : decode cX9_firstFreeDesk 14 = .ok (.iload_n 2, 1) := by decide +kernel
theorem dX9_firstFreeDesk_15 : decode cX9_firstFreeDesk 15 = .ok (.aaload, 1) := by decide +kernel
theorem dX9_firstFreeDesk_16 : decode cX9_firstFreeDesk 16 = .ok (.getfield 348, 3) := by decide +kernel
theorem dX9_firstFreeDesk_19 : decode cX9_firstFreeDesk 19 = .ok (.ifnonnull 23, 3) := by decide +kernel
theorem dX9_firstFreeDesk_22 : decode cX9_firstFreeDesk 22 = .ok (.aload_n 0, 1) := by decide +kernel
theorem dX9_firstFreeDesk_23 : decode cX9_firstFreeDesk 23 = .ok (.getfield 11, 3) := by decide +kernel
theorem dX9_firstFreeDesk_26 : decode cX9_firstFreeDesk 26 = .ok (.iload_n 2, 1) := by decide +kernel
theorem dX9_firstFreeDesk_27 : decode cX9_firstFreeDesk 27 = .ok (.aaload, 1) := by decide +kernel
theorem dX9_firstFreeDesk_28 : decode cX9_firstFreeDesk 28 = .ok (.getfield 84, 3) := by decide +kernel
theorem dX9_firstFreeDesk_31 : decode cX9_firstFreeDesk 31 = .ok (.iload_n 1, 1) := by decide +kernel
theorem dX9_firstFreeDesk_32 : decode cX9_firstFreeDesk 32 = .ok (.if_icmp .ne 10, 3) := by decide +kernel
theorem dX9_firstFreeDesk_35 : decode cX9_firstFreeDesk 35 = .ok (.aload_n 0, 1) := by decide +kernel
theorem dX9_firstFreeDesk_36 : decode cX9_firstFreeDesk 36 = .ok (.getfield 11, 3) := by decide +kernel
theorem dX9_firstFreeDesk_39 : decode cX9_firstFreeDesk 39 = .ok (.iload_n 2, 1) := by decide +kernel
theorem dX9_firstFreeDesk_40 : decode cX9_firstFreeDesk 40 = .ok (.aaload, 1) := by decide +kernel
theorem dX9_firstFreeDesk_41 : decode cX9_firstFreeDesk 41 = .ok (.areturn, 1) := by decide +kernel
theorem dX9_firstFreeDesk_42 : decode cX9_firstFreeDesk 42 = .ok (.iinc 2 1, 3) := by decide +kernel
theorem dX9_firstFreeDesk_45 : decode cX9_firstFreeDesk 45 = .ok (.goto (-43), 3) := by decide +kernel
theorem dX9_firstFreeDesk_48 : decode cX9_firstFreeDesk 48 = .ok (.aconst_null, 1) := by decide +kernel
theorem dX9_firstFreeDesk_49 : decode cX9_firstFreeDesk 49 = .ok (.areturn, 1) := by decide +kernel
theorem dX9_seat_0 : decode cX9_seat 0 = .ok (.aload_n 0, 1) := by decide +kernel
theorem dX9_seat_1 : decode cX9_seat 1 = .ok (.getfield 47, 3) := by decide +kernel
theorem dX9_seat_4 : decode cX9_seat 4 = .ok (.aload_n 1, 1) := by decide +kernel
theorem dX9_seat_5 : decode cX9_seat 5 = .ok (.invokevirtual 263, 3) := by decide +kernel
theorem dX9_seat_8 : decode cX9_seat 8 = .ok (.aload_n 2, 1) := by decide +kernel
theorem dX9_seat_9 : decode cX9_seat 9 = .ok (.aload_n 1, 1) := by decide +kernel
theorem dX9_seat_10 : decode cX9_seat 10 = .ok (.putfield 348, 3) := by decide +kernel
theorem dX9_seat_13 : decode cX9_seat 13 = .ok (.aload_n 1, 1) := by decide +kernel
theorem dX9_seat_14 : decode cX9_seat 14 = .ok (.aload_n 2, 1) := by decide +kernel
theorem dX9_seat_15 : decode cX9_seat 15 = .ok (.putfield 328, 3) := by decide +kernel
theorem dX9_seat_18 : decode cX9_seat 18 = .ok (.aload_n 1, 1) := by decide +kernel
theorem dX9_seat_19 : decode cX9_seat 19 = .ok (.bipush 8, 2) := by decide +kernel
theorem dX9_seat_21 : decode cX9_seat 21 = .ok (.putfield 270, 3) := by decide +kernel
theorem dX9_seat_24 : decode cX9_seat 24 = .ok (.iconst 0, 1) := by decide +kernel
theorem dX9_seat_25 : decode cX9_seat 25 = .ok (.istore_n 3, 1) := by decide +kernel
theorem dX9_seat_26 : decode cX9_seat 26 = .ok (.iload_n 3, 1) := by decide +kernel
theorem dX9_seat_27 : decode cX9_seat 27 = .ok (.aload_n 0, 1) := by decide +kernel
theorem dX9_seat_28 : decode cX9_seat 28 = .ok (.getfield 47, 3) := by decide +kernel
theorem dX9_seat_31 : decode cX9_seat 31 = .ok (.getfield 373, 3) := by decide +kernel
theorem dX9_seat_34 : decode cX9_seat 34 = .ok (.if_icmp .ge 44, 3) := by decide +kernel
theorem dX9_seat_37 : decode cX9_seat 37 = .ok (.aload_n 0, 1) := by decide +kernel
theorem dX9_seat_38 : decode cX9_seat 38 = .ok (.getfield 47, 3) := by decide +kernel
theorem dX9_seat_41 : decode cX9_seat 41 = .ok (.iload_n 3, 1) := by decide +kernel
theorem dX9_seat_42 : decode cX9_seat 42 = .ok (.invokevirtual 357, 3) := by decide +kernel
theorem dX9_seat_45 : decode cX9_seat 45 = .ok (.astore 4, 2) := by decide +kernel
theorem dX9_seat_47 : decode cX9_seat 47 = .ok (.aload 4, 2) := by decide +kernel
theorem dX9_seat_49 : decode cX9_seat 49 = .ok (.ifnull 23, 3) := by decide +kernel
theorem dX9_seat_52 : decode cX9_seat 52 = .ok (.aload_n 1, 1) := by decide +kernel
theorem dX9_seat_53 : decode cX9_seat 53 = .ok (.aload 4, 2) := by decide +kernel
theorem dX9_seat_55 : decode cX9_seat 55 = .ok (.invokevirtual 374, 3) := by decide +kernel
theorem dX9_seat_58 : decode cX9_seat 58 = .ok (.ifCond .eq 14, 3) := by decide +kernel
theorem dX9_seat_61 : decode cX9_seat 61 = .ok (.aload 4, 2) := by decide +kernel
theorem dX9_seat_63 : decode cX9_seat 63 = .ok (.dup, 1) := by decide +kernel
theorem dX9_seat_64 : decode cX9_seat 64 = .ok (.getfield 377, 3) := by decide +kernel
theorem dX9_seat_67 : decode cX9_seat 67 = .ok (.iconst 1, 1) := by decide +kernel
theorem dX9_seat_68 : decode cX9_seat 68 = .ok (.iadd, 1) := by decide +kernel
theorem dX9_seat_69 : decode cX9_seat 69 = .ok (.putfield 377, 3) := by decide +kernel
theorem dX9_seat_72 : decode cX9_seat 72 = .ok (.iinc 3 1, 3) := by decide +kernel
theorem dX9_seat_75 : decode cX9_seat 75 = .ok (.goto (-49), 3) := by decide +kernel
theorem dX9_seat_78 : decode cX9_seat 78 = .ok (.aload_n 0, 1) := by decide +kernel
theorem dX9_seat_79 : decode cX9_seat 79 = .ok (.getfield 67, 3) := by decide +kernel
theorem dX9_seat_82 : decode cX9_seat 82 = .ok (.aload_n 0, 1) := by decide +kernel
theorem dX9_seat_83 : decode cX9_seat 83 = .ok (.getfield 78, 3) := by decide +kernel
theorem dX9_seat_86 : decode cX9_seat 86 = .ok (.aload_n 1, 1) := by decide +kernel
theorem dX9_seat_87 : decode cX9_seat 87 = .ok (.getfield 273, 3) := by decide +kernel
theorem dX9_seat_90 : decode cX9_seat 90 = .ok (.iconst 2, 1) := by decide +kernel
theorem dX9_seat_91 : decode cX9_seat 91 = .ok (.aload_n 2, 1) := by decide +kernel
theorem dX9_seat_92 : decode cX9_seat 92 = .ok (.getfield 380, 3) := by decide +kernel
theorem dX9_seat_95 : decode cX9_seat 95 = .ok (.invokevirtual 256, 3) := by decide +kernel
theorem dX9_seat_98 : decode cX9_seat 98 = .ok (.return_, 1) := by decide +kernel
theorem dX9_sendFetchers_0 : decode cX9_sendFetchers 0 = .ok (.iconst 0, 1) := by decide +kernel
theorem dX9_sendFetchers_1 : decode cX9_sendFetchers 1 = .ok (.istore_n 1, 1) := by decide +kernel
theorem dX9_sendFetchers_2 : decode cX9_sendFetchers 2 = .ok (.iload_n 1, 1) := by decide +kernel
theorem dX9_sendFetchers_3 : decode cX9_sendFetchers 3 = .ok (.aload_n 0, 1) := by decide +kernel
theorem dX9_sendFetchers_4 : decode cX9_sendFetchers 4 = .ok (.getfield 37, 3) := by decide +kernel
theorem dX9_sendFetchers_7 : decode cX9_sendFetchers 7 = .ok (.getfield 101, 3) := by decide +kernel
theorem dX9_sendFetchers_10 : decode cX9_sendFetchers 10 = .ok (.if_icmp .ge 37, 3) := by decide +kernel
theorem dX9_sendFetchers_13 : decode cX9_sendFetchers 13 = .ok (.aload_n 0, 1) := by decide +kernel
theorem dX9_sendFetchers_14 : decode cX9_sendFetchers 14 = .ok (.getfield 37, 3) := by decide +kernel
theorem dX9_sendFetchers_17 : decode cX9_sendFetchers 17 = .ok (.getfield 216, 3) := by decide +kernel
theorem dX9_sendFetchers_20 : decode cX9_sendFetchers 20 = .ok (.iload_n 1, 1) := by decide +kernel
theorem dX9_sendFetchers_21 : decode cX9_sendFetchers 21 = .ok (.aaload, 1) := by decide +kernel
theorem dX9_sendFetchers_22 : decode cX9_sendFetchers 22 = .ok (.getfield 227, 3) := by decide +kernel
theorem dX9_sendFetchers_25 : decode cX9_sendFetchers 25 = .ok (.ifnonnull 16, 3) := by decide +kernel
theorem dX9_sendFetchers_28 : decode cX9_sendFetchers 28 = .ok (.aload_n 0, 1) := by decide +kernel
theorem dX9_sendFetchers_29 : decode cX9_sendFetchers 29 = .ok (.aload_n 0, 1) := by decide +kernel
theorem dX9_sendFetchers_30 : decode cX9_sendFetchers 30 = .ok (.getfield 37, 3) := by decide +kernel
theorem dX9_sendFetchers_33 : decode cX9_sendFetchers 33 = .ok (.getfield 216, 3) := by decide +kernel
theorem dX9_sendFetchers_36 : decode cX9_sendFetchers 36 = .ok (.iload_n 1, 1) := by decide +kernel
theorem dX9_sendFetchers_37 : decode cX9_sendFetchers 37 = .ok (.aaload, 1) := by decide +kernel
theorem dX9_sendFetchers_38 : decode cX9_sendFetchers 38 = .ok (.invokevirtual 381, 3) := by decide +kernel
theorem dX9_sendFetchers_41 : decode cX9_sendFetchers 41 = .ok (.iinc 1 1, 3) := by decide +kernel
theorem dX9_sendFetchers_44 : decode cX9_sendFetchers 44 = .ok (.goto (-42), 3) := by decide +kernel
theorem dX9_sendFetchers_47 : decode cX9_sendFetchers 47 = .ok (.return_, 1) := by decide +kernel
theorem dX9_sendFetcher_0 : decode cX9_sendFetcher 0 = .ok (.aload_n 0, 1) := by decide +kernel
theorem dX9_sendFetcher_1 : decode cX9_sendFetcher 1 = .ok (.invokevirtual 384, 3) := by decide +kernel
theorem dX9_sendFetcher_4 : decode cX9_sendFetcher 4 = .ok (.astore_n 2, 1) := by decide +kernel
theorem dX9_sendFetcher_5 : decode cX9_sendFetcher 5 = .ok (.aload_n 2, 1) := by decide +kernel
theorem dX9_sendFetcher_6 : decode cX9_sendFetcher 6 = .ok (.ifnull 29, 3) := by decide +kernel
theorem dX9_sendFetcher_9 : decode cX9_sendFetcher 9 = .ok (.aload_n 2, 1) := by decide +kernel
theorem dX9_sendFetcher_10 : decode cX9_sendFetcher 10 = .ok (.iconst 4, 1) := by decide +kernel
theorem dX9_sendFetcher_11 : decode cX9_sendFetcher 11 = .ok (.putfield 233, 3) := by decide +kernel
theorem dX9_sendFetcher_14 : decode cX9_sendFetcher 14 = .ok (.aload_n 1, 1) := by decide +kernel
theorem dX9_sendFetcher_15 : decode cX9_sendFetcher 15 = .ok (.aload_n 2, 1) := by decide +kernel
theorem dX9_sendFetcher_16 : decode cX9_sendFetcher 16 = .ok (.aconst_null, 1) := by decide +kernel
theorem dX9_sendFetcher_17 : decode cX9_sendFetcher 17 = .ok (.aload_n 0, 1) := by decide +kernel
theorem dX9_sendFetcher_18 : decode cX9_sendFetcher 18 = .ok (.getfield 71, 3) := by decide +kernel
theorem dX9_sendFetcher_21 : decode cX9_sendFetcher 21 = .ok (.invokevirtual 388, 3) := by decide +kernel
theorem dX9_sendFetcher_24 : decode cX9_sendFetcher 24 = .ok (.aload_n 0, 1) := by decide +kernel
theorem dX9_sendFetcher_25 : decode cX9_sendFetcher 25 = .ok (.dup, 1) := by decide +kernel
theorem dX9_sendFetcher_26 : decode cX9_sendFetcher 26 = .ok (.getfield 392, 3) := by decide +kernel
theorem dX9_sendFetcher_29 : decode cX9_sendFetcher 29 = .ok (.iconst 1, 1) := by decide +kernel
theorem dX9_sendFetcher_30 : decode cX9_sendFetcher 30 = .ok (.iadd, 1) := by decide +kernel
theorem dX9_sendFetcher_31 : decode cX9_sendFetcher 31 = .ok (.putfield 392, 3) := by decide +kernel
theorem dX9_sendFetcher_34 : decode cX9_sendFetcher 34 = .ok (.return_, 1) := by decide +kernel
theorem dX9_sendFetcher_35 : decode cX9_sendFetcher 35 = .ok (.aload_n 0, 1) := by decide +kernel
theorem dX9_sendFetcher_36 : decode cX9_sendFetcher 36 = .ok (.invokevirtual 395, 3) := by decide +kernel
theorem dX9_sendFetcher_39 : decode cX9_sendFetcher 39 = .ok (.astore_n 3, 1) := by decide +kernel
theorem dX9_sendFetcher_40 : decode cX9_sendFetcher 40 = .ok (.aload_n 3, 1) := by decide +kernel
theorem dX9_sendFetcher_41 : decode cX9_sendFetcher 41 = .ok (.ifnull 41, 3) := by decide +kernel
theorem dX9_sendFetcher_44 : decode cX9_sendFetcher 44 = .ok (.aload_n 3, 1) := by decide +kernel
theorem dX9_sendFetcher_45 : decode cX9_sendFetcher 45 = .ok (.getfield 267, 3) := by decide +kernel
theorem dX9_sendFetcher_48 : decode cX9_sendFetcher 48 = .ok (.ifnull 34, 3) := by decide +kernel
theorem dX9_sendFetcher_51 : decode cX9_sendFetcher 51 = .ok (.aload_n 3, 1) := by decide +kernel
theorem dX9_sendFetcher_52 : decode cX9_sendFetcher 52 = .ok (.getfield 267, 3) := by decide +kernel
theorem dX9_sendFetcher_55 : decode cX9_sendFetcher 55 = .ok (.iconst 3, 1) := by decide +kernel
theorem dX9_sendFetcher_56 : decode cX9_sendFetcher 56 = .ok (.putfield 233, 3) := by decide +kernel
theorem dX9_sendFetcher_59 : decode cX9_sendFetcher 59 = .ok (.aload_n 1, 1) := by decide +kernel
theorem dX9_sendFetcher_60 : decode cX9_sendFetcher 60 = .ok (.aload_n 3, 1) := by decide +kernel
theorem dX9_sendFetcher_61 : decode cX9_sendFetcher 61 = .ok (.getfield 267, 3) := by decide +kernel
theorem dX9_sendFetcher_64 : decode cX9_sendFetcher 64 = .ok (.aload_n 3, 1) := by decide +kernel
theorem dX9_sendFetcher_65 : decode cX9_sendFetcher 65 = .ok (.aload_n 0, 1) := by decide +kernel
theorem dX9_sendFetcher_66 : decode cX9_sendFetcher 66 = .ok (.getfield 71, 3) := by decide +kernel
theorem dX9_sendFetcher_69 : decode cX9_sendFetcher 69 = .ok (.invokevirtual 388, 3) := by decide +kernel
theorem dX9_sendFetcher_72 : decode cX9_sendFetcher 72 = .ok (.aload_n 0, 1) := by decide +kernel
theorem dX9_sendFetcher_73 : decode cX9_sendFetcher 73 = .ok (.dup, 1) := by decide +kernel
theorem dX9_sendFetcher_74 : decode cX9_sendFetcher 74 = .ok (.getfield 392, 3) := by decide +kernel
theorem dX9_sendFetcher_77 : decode cX9_sendFetcher 77 = .ok (.iconst 1, 1) := by decide +kernel
theorem dX9_sendFetcher_78 : decode cX9_sendFetcher 78 = .ok (.iadd, 1) := by decide +kernel
theorem dX9_sendFetcher_79 : decode cX9_sendFetcher 79 = .ok (.putfield 392, 3) := by decide +kernel
theorem dX9_sendFetcher_82 : decode cX9_sendFetcher 82 = .ok (.return_, 1) := by decide +kernel
theorem dX9_firstLeftBox_0 : decode cX9_firstLeftBox 0 = .ok (.iconst 0, 1) := by decide +kernel
theorem dX9_firstLeftBox_1 : decode cX9_firstLeftBox 1 = .ok (.istore_n 1, 1) := by decide +kernel
theorem dX9_firstLeftBox_2 : decode cX9_firstLeftBox 2 = .ok (.iload_n 1, 1) := by decide +kernel
theorem dX9_firstLeftBox_3 : decode cX9_firstLeftBox 3 = .ok (.aload_n 0, 1) := by decide +kernel
theorem dX9_firstLeftBox_4 : decode cX9_firstLeftBox 4 = .ok (.getfield 88, 3) := by decide +kernel
theorem dX9_firstLeftBox_7 : decode cX9_firstLeftBox 7 = .ok (.if_icmp .ge 29, 3) := by decide +kernel
theorem dX9_firstLeftBox_10 : decode cX9_firstLeftBox 10 = .ok (.aload_n 0, 1) := by decide +kernel
theorem dX9_firstLeftBox_11 : decode cX9_firstLeftBox 11 = .ok (.getfield 20, 3) := by decide +kernel
theorem dX9_firstLeftBox_14 : decode cX9_firstLeftBox 14 = .ok (.iload_n 1, 1) := by decide +kernel
theorem dX9_firstLeftBox_15 : decode cX9_firstLeftBox 15 = .ok (.aaload, 1) := by decide +kernel
theorem dX9_firstLeftBox_16 : decode cX9_firstLeftBox 16 = .ok (.getfield 233, 3) := by decide +kernel
theorem dX9_firstLeftBox_19 : decode cX9_firstLeftBox 19 = .ok (.iconst 2, 1) := by decide +kernel
theorem dX9_firstLeftBox_20 : decode cX9_firstLeftBox 20 = .ok (.if_icmp .ne 10, 3) := by decide +kernel
theorem dX9_firstLeftBox_23 : decode cX9_firstLeftBox 23 = .ok (.aload_n 0, 1) := by decide +kernel
theorem dX9_firstLeftBox_24 : decode cX9_firstLeftBox 24 = .ok (.getfield 20, 3) := by decide +kernel
theorem dX9_firstLeftBox_27 : decode cX9_firstLeftBox 27 = .ok (.iload_n 1, 1) := by decide +kernel
theorem dX9_firstLeftBox_28 : decode cX9_firstLeftBox 28 = .ok (.aaload, 1) := by decide +kernel
theorem dX9_firstLeftBox_29 : decode cX9_firstLeftBox 29 = .ok (.areturn, 1) := by decide +kernel
theorem dX9_firstLeftBox_30 : decode cX9_firstLeftBox 30 = .ok (.iinc 1 1, 3) := by decide +kernel
theorem dX9_firstLeftBox_33 : decode cX9_firstLeftBox 33 = .ok (.goto (-31), 3) := by decide +kernel
theorem dX9_firstLeftBox_36 : decode cX9_firstLeftBox 36 = .ok (.aconst_null, 1) := by decide +kernel
theorem dX9_firstLeftBox_37 : decode cX9_firstLeftBox 37 = .ok (.areturn, 1) := by decide +kernel
theorem dX9_firstAskerOfHomeBox_0 : decode cX9_firstAskerOfHomeBox 0 = .ok (.iconst 0, 1) := by decide +kernel
theorem dX9_firstAskerOfHomeBox_1 : decode cX9_firstAskerOfHomeBox 1 = .ok (.istore_n 1, 1) := by decide +kernel
theorem dX9_firstAskerOfHomeBox_2 : decode cX9_firstAskerOfHomeBox 2 = .ok (.iload_n 1, 1) := by decide +kernel
theorem dX9_firstAskerOfHomeBox_3 : decode cX9_firstAskerOfHomeBox 3 = .ok (.aload_n 0, 1) := by decide +kernel
theorem dX9_firstAskerOfHomeBox_4 : decode cX9_firstAskerOfHomeBox 4 = .ok (.getfield 51, 3) := by decide +kernel
theorem dX9_firstAskerOfHomeBox_7 : decode cX9_firstAskerOfHomeBox 7 = .ok (.getfield 373, 3) := by decide +kernel
theorem dX9_firstAskerOfHomeBox_10 : decode cX9_firstAskerOfHomeBox 10 = .ok (.if_icmp .ge 32, 3) := by decide +kernel
theorem dX9_firstAskerOfHomeBox_13 : decode cX9_firstAskerOfHomeBox 13 = .ok (.aload_n 0, 1) := by decide +kernel
theorem dX9_firstAskerOfHomeBox_14 : decode cX9_firstAskerOfHomeBox 14 = .ok (.getfield 51, 3) := by decide +kernel
theorem dX9_firstAskerOfHomeBox_17 : decode cX9_firstAskerOfHomeBox 17 = .ok (.iload_n 1, 1) := by decide +kernel
theorem dX9_firstAskerOfHomeBox_18 : decode cX9_firstAskerOfHomeBox 18 = .ok (.invokevirtual 357, 3) := by decide +kernel
theorem dX9_firstAskerOfHomeBox_21 : decode cX9_firstAskerOfHomeBox 21 = .ok (.astore_n 2, 1) := by decide +kernel
theorem dX9_firstAskerOfHomeBox_22 : decode cX9_firstAskerOfHomeBox 22 = .ok (.aload_n 2, 1) := by decide +kernel
theorem dX9_firstAskerOfHomeBox_23 : decode cX9_firstAskerOfHomeBox 23 = .ok (.ifnull 13, 3) := by decide +kernel
theorem dX9_firstAskerOfHomeBox_26 : decode cX9_firstAskerOfHomeBox 26 = .ok (.aload_n 2, 1) := by decide +kernel
theorem dX9_firstAskerOfHomeBox_27 : decode cX9_firstAskerOfHomeBox 27 = .ok (.iconst 0, 1) := by decide +kernel
theorem dX9_firstAskerOfHomeBox_28 : decode cX9_firstAskerOfHomeBox 28 = .ok (.invokevirtual 399, 3) := by decide +kernel
theorem dX9_firstAskerOfHomeBox_31 : decode cX9_firstAskerOfHomeBox 31 = .ok (.ifCond .eq 5, 3) := by decide +kernel
theorem dX9_firstAskerOfHomeBox_34 : decode cX9_firstAskerOfHomeBox 34 = .ok (.aload_n 2, 1) := by decide +kernel
theorem dX9_firstAskerOfHomeBox_35 : decode cX9_firstAskerOfHomeBox 35 = .ok (.areturn, 1) := by decide +kernel
theorem dX9_firstAskerOfHomeBox_36 : decode cX9_firstAskerOfHomeBox 36 = .ok (.iinc 1 1, 3) := by decide +kernel
theorem dX9_firstAskerOfHomeBox_39 : decode cX9_firstAskerOfHomeBox 39 = .ok (.goto (-37), 3) := by decide +kernel
theorem dX9_firstAskerOfHomeBox_42 : decode cX9_firstAskerOfHomeBox 42 = .ok (.aconst_null, 1) := by decide +kernel
theorem dX9_firstAskerOfHomeBox_43 : decode cX9_firstAskerOfHomeBox 43 = .ok (.areturn, 1) := by decide +kernel
theorem dX9_beginCopies_0 : decode cX9_beginCopies 0 = .ok (.iconst 0, 1) := by decide +kernel
theorem dX9_beginCopies_1 : decode cX9_beginCopies 1 = .ok (.istore_n 1, 1) := by decide +kernel
theorem dX9_beginCopies_2 : decode cX9_beginCopies 2 = .ok (.iload_n 1, 1) := by decide +kernel
theorem dX9_beginCopies_3 : decode cX9_beginCopies 3 = .ok (.aload_n 0, 1) := by decide +kernel
theorem dX9_beginCopies_4 : decode cX9_beginCopies 4 = .ok (.getfield 41, 3) := by decide +kernel
theorem dX9_beginCopies_7 : decode cX9_beginCopies 7 = .ok (.getfield 101, 3) := by decide +kernel
theorem dX9_beginCopies_10 : decode cX9_beginCopies 10 = .ok (.if_icmp .ge 37, 3) := by decide +kernel
theorem dX9_beginCopies_13 : decode cX9_beginCopies 13 = .ok (.aload_n 0, 1) := by decide +kernel
theorem dX9_beginCopies_14 : decode cX9_beginCopies 14 = .ok (.getfield 41, 3) := by decide +kernel
theorem dX9_beginCopies_17 : decode cX9_beginCopies 17 = .ok (.getfield 216, 3) := by decide +kernel
theorem dX9_beginCopies_20 : decode cX9_beginCopies 20 = .ok (.iload_n 1, 1) := by decide +kernel
theorem dX9_beginCopies_21 : decode cX9_beginCopies 21 = .ok (.aaload, 1) := by decide +kernel
theorem dX9_beginCopies_22 : decode cX9_beginCopies 22 = .ok (.getfield 227, 3) := by decide +kernel
theorem dX9_beginCopies_25 : decode cX9_beginCopies 25 = .ok (.ifnonnull 16, 3) := by decide +kernel
theorem dX9_beginCopies_28 : decode cX9_beginCopies 28 = .ok (.aload_n 0, 1) := by decide +kernel
theorem dX9_beginCopies_29 : decode cX9_beginCopies 29 = .ok (.aload_n 0, 1) := by decide +kernel
theorem dX9_beginCopies_30 : decode cX9_beginCopies 30 = .ok (.getfield 41, 3) := by decide +kernel
theorem dX9_beginCopies_33 : decode cX9_beginCopies 33 = .ok (.getfield 216, 3) := by decide +kernel
theorem dX9_beginCopies_36 : decode cX9_beginCopies 36 = .ok (.iload_n 1, 1) := by decide +kernel
theorem dX9_beginCopies_37 : decode cX9_beginCopies 37 = .ok (.aaload, 1) := by decide +kernel
theorem dX9_beginCopies_38 : decode cX9_beginCopies 38 = .ok (.invokevirtual 402, 3) := by decide +kernel
theorem dX9_beginCopies_41 : decode cX9_beginCopies 41 = .ok (.iinc 1 1, 3) := by decide +kernel
theorem dX9_beginCopies_44 : decode cX9_beginCopies 44 = .ok (.goto (-42), 3) := by decide +kernel
theorem dX9_beginCopies_47 : decode cX9_beginCopies 47 = .ok (.return_, 1) := by decide +kernel
theorem dX9_beginCopy_0 : decode cX9_beginCopy 0 = .ok (.aload_n 0, 1) := by decide +kernel
theorem dX9_beginCopy_1 : decode cX9_beginCopy 1 = .ok (.invokevirtual 405, 3) := by decide +kernel
theorem dX9_beginCopy_4 : decode cX9_beginCopy 4 = .ok (.astore_n 2, 1) := by decide +kernel
theorem dX9_beginCopy_5 : decode cX9_beginCopy 5 = .ok (.aload_n 2, 1) := by decide +kernel
theorem dX9_beginCopy_6 : decode cX9_beginCopy 6 = .ok (.ifnull 10, 3) := by decide +kernel
theorem dX9_beginCopy_9 : decode cX9_beginCopy 9 = .ok (.aload_n 2, 1) := by decide +kernel
theorem dX9_beginCopy_10 : decode cX9_beginCopy 10 = .ok (.getfield 267, 3) := by decide +kernel
theorem dX9_beginCopy_13 : decode cX9_beginCopy 13 = .ok (.ifnonnull 4, 3) := by decide +kernel
theorem dX9_beginCopy_16 : decode cX9_beginCopy 16 = .ok (.return_, 1) := by decide +kernel
theorem dX9_beginCopy_17 : decode cX9_beginCopy 17 = .ok (.aload_n 2, 1) := by decide +kernel
theorem dX9_beginCopy_18 : decode cX9_beginCopy 18 = .ok (.getfield 267, 3) := by decide +kernel
theorem dX9_beginCopy_21 : decode cX9_beginCopy 21 = .ok (.bipush 6, 2) := by decide +kernel
theorem dX9_beginCopy_23 : decode cX9_beginCopy 23 = .ok (.putfield 233, 3) := by decide +kernel
theorem dX9_beginCopy_26 : decode cX9_beginCopy 26 = .ok (.aload_n 1, 1) := by decide +kernel
theorem dX9_beginCopy_27 : decode cX9_beginCopy 27 = .ok (.aload_n 2, 1) := by decide +kernel
theorem dX9_beginCopy_28 : decode cX9_beginCopy 28 = .ok (.getfield 267, 3) := by decide +kernel
theorem dX9_beginCopy_31 : decode cX9_beginCopy 31 = .ok (.aload_n 2, 1) := by decide +kernel
theorem dX9_beginCopy_32 : decode cX9_beginCopy 32 = .ok (.aload_n 2, 1) := by decide +kernel
theorem dX9_beginCopy_33 : decode cX9_beginCopy 33 = .ok (.getfield 336, 3) := by decide +kernel
theorem dX9_beginCopy_36 : decode cX9_beginCopy 36 = .ok (.invokevirtual 388, 3) := by decide +kernel
theorem dX9_beginCopy_39 : decode cX9_beginCopy 39 = .ok (.aload_n 0, 1) := by decide +kernel
theorem dX9_beginCopy_40 : decode cX9_beginCopy 40 = .ok (.aload_n 2, 1) := by decide +kernel
theorem dX9_beginCopy_41 : decode cX9_beginCopy 41 = .ok (.getfield 339, 3) := by decide +kernel
theorem dX9_beginCopy_44 : decode cX9_beginCopy 44 = .ok (.ifCond .eq 16, 3) := by decide +kernel
theorem dX9_beginCopy_47 : decode cX9_beginCopy 47 = .ok (.aload_n 0, 1) := by decide +kernel
theorem dX9_beginCopy_48 : decode cX9_beginCopy 48 = .ok (.getfield 408, 3) := by decide +kernel
theorem dX9_beginCopy_51 : decode cX9_beginCopy 51 = .ok (.iconst 1, 1) := by decide +kernel
theorem dX9_beginCopy_52 : decode cX9_beginCopy 52 = .ok (.iadd, 1) := by decide +kernel
theorem dX9_beginCopy_53 : decode cX9_beginCopy 53 = .ok (.iconst 3, 1) := by decide +kernel
theorem dX9_beginCopy_54 : decode cX9_beginCopy 54 = .ok (.invokestatic 411, 3) := by decide +kernel
theorem dX9_beginCopy_57 : decode cX9_beginCopy 57 = .ok (.goto 4, 3) := by decide +kernel
theorem dX9_beginCopy_60 : decode cX9_beginCopy 60 = .ok (.iconst 0, 1) := by decide +kernel
theorem dX9_beginCopy_61 : decode cX9_beginCopy 61 = .ok (.putfield 408, 3) := by decide +kernel
theorem dX9_beginCopy_64 : decode cX9_beginCopy 64 = .ok (.return_, 1) := by decide +kernel
theorem dX9_nextOrderer_0 : decode cX9_nextOrderer 0 = .ok (.aload_n 0, 1) := by decide +kernel
theorem dX9_nextOrderer_1 : decode cX9_nextOrderer 1 = .ok (.iconst 1, 1) := by decide +kernel
theorem dX9_nextOrderer_2 : decode cX9_nextOrderer 2 = .ok (.invokevirtual 417, 3) := by decide +kernel
theorem dX9_nextOrderer_5 : decode cX9_nextOrderer 5 = .ok (.astore_n 1, 1) := by decide +kernel
theorem dX9_nextOrderer_6 : decode cX9_nextOrderer 6 = .ok (.aload_n 0, 1) := by decide +kernel
theorem dX9_nextOrderer_7 : decode cX9_nextOrderer 7 = .ok (.iconst 0, 1) := by decide +kernel
theorem dX9_nextOrderer_8 : decode cX9_nextOrderer 8 = .ok (.invokevirtual 417, 3) := by decide +kernel
theorem dX9_nextOrderer_11 : decode cX9_nextOrderer 11 = .ok (.astore_n 2, 1) := by decide +kernel
theorem dX9_nextOrderer_12 : decode cX9_nextOrderer 12 = .ok (.aload_n 1, 1) := by decide +kernel
theorem dX9_nextOrderer_13 : decode cX9_nextOrderer 13 = .ok (.ifnull 15, 3) := by decide +kernel
theorem dX9_nextOrderer_16 : decode cX9_nextOrderer 16 = .ok (.aload_n 0, 1) := by decide +kernel
theorem dX9_nextOrderer_17 : decode cX9_nextOrderer 17 = .ok (.getfield 408, 3) := by decide +kernel
theorem dX9_nextOrderer_20 : decode cX9_nextOrderer 20 = .ok (.iconst 3, 1) := by decide +kernel
theorem dX9_nextOrderer_21 : decode cX9_nextOrderer 21 = .ok (.if_icmp .lt 9, 3) := by decide +kernel
theorem dX9_nextOrderer_24 : decode cX9_nextOrderer 24 = .ok (.aload_n 2, 1) := by decide +kernel
theorem dX9_nextOrderer_25 : decode cX9_nextOrderer 25 = .ok (.ifnull 5, 3) := by decide +kernel
theorem dX9_nextOrderer_28 : decode cX9_nextOrderer 28 = .ok (.aload_n 2, 1) := by decide +kernel
theorem dX9_nextOrderer_29 : decode cX9_nextOrderer 29 = .ok (.areturn, 1) := by decide +kernel
theorem dX9_nextOrderer_30 : decode cX9_nextOrderer 30 = .ok (.aload_n 1, 1) := by decide +kernel
theorem dX9_nextOrderer_31 : decode cX9_nextOrderer 31 = .ok (.areturn, 1) := by decide +kernel
theorem dX9_firstOrderer_0 : decode cX9_firstOrderer 0 = .ok (.iconst 0, 1) := by decide +kernel
theorem dX9_firstOrderer_1 : decode cX9_firstOrderer 1 = .ok (.istore_n 2, 1) := by decide +kernel
theorem dX9_firstOrderer_2 : decode cX9_firstOrderer 2 = .ok (.iload_n 2, 1) := by decide +kernel
theorem dX9_firstOrderer_3 : decode cX9_firstOrderer 3 = .ok (.aload_n 0, 1) := by decide +kernel
theorem dX9_firstOrderer_4 : decode cX9_firstOrderer 4 = .ok (.getfield 54, 3) := by decide +kernel
theorem dX9_firstOrderer_7 : decode cX9_firstOrderer 7 = .ok (.getfield 373, 3) := by decide +kernel
theorem dX9_firstOrderer_10 : decode cX9_firstOrderer 10 = .ok (.if_icmp .ge 40, 3) := by decide +kernel
theorem dX9_firstOrderer_13 : decode cX9_firstOrderer 13 = .ok (.aload_n 0, 1) := by decide +kernel
theorem dX9_firstOrderer_14 : decode cX9_firstOrderer 14 = .ok (.getfield 54, 3) := by decide +kernel
theorem dX9_firstOrderer_17 : decode cX9_firstOrderer 17 = .ok (.iload_n 2, 1) := by decide +kernel
theorem dX9_firstOrderer_18 : decode cX9_firstOrderer 18 = .ok (.invokevirtual 357, 3) := by decide +kernel
theorem dX9_firstOrderer_21 : decode cX9_firstOrderer 21 = .ok (.astore_n 3, 1) := by decide +kernel
theorem dX9_firstOrderer_22 : decode cX9_firstOrderer 22 = .ok (.aload_n 3, 1) := by decide +kernel
theorem dX9_firstOrderer_23 : decode cX9_firstOrderer 23 = .ok (.ifnull 21, 3) := by decide +kernel
theorem dX9_firstOrderer_26 : decode cX9_firstOrderer 26 = .ok (.aload_n 3, 1) := by decide +kernel
theorem dX9_firstOrderer_27 : decode cX9_firstOrderer 27 = .ok (.iconst 5, 1) := by decide +kernel
theorem dX9_firstOrderer_28 : decode cX9_firstOrderer 28 = .ok (.invokevirtual 399, 3) := by decide +kernel
theorem dX9_firstOrderer_31 : decode cX9_firstOrderer 31 = .ok (.ifCond .eq 13, 3) := by decide +kernel
theorem dX9_firstOrderer_34 : decode cX9_firstOrderer 34 = .ok (.aload_n 3, 1) := by decide +kernel
theorem dX9_firstOrderer_35 : decode cX9_firstOrderer 35 = .ok (.getfield 339, 3) := by decide +kernel
theorem dX9_firstOrderer_38 : decode cX9_firstOrderer 38 = .ok (.iload_n 1, 1) := by decide +kernel
theorem dX9_firstOrderer_39 : decode cX9_firstOrderer 39 = .ok (.if_icmp .ne 5, 3) := by decide +kernel
theorem dX9_firstOrderer_42 : decode cX9_firstOrderer 42 = .ok (.aload_n 3, 1) := by decide +kernel
theorem dX9_firstOrderer_43 : decode cX9_firstOrderer 43 = .ok (.areturn, 1) := by decide +kernel
theorem dX9_firstOrderer_44 : decode cX9_firstOrderer 44 = .ok (.iinc 2 1, 3) := by decide +kernel
theorem dX9_firstOrderer_47 : decode cX9_firstOrderer 47 = .ok (.goto (-45), 3) := by decide +kernel
theorem dX9_firstOrderer_50 : decode cX9_firstOrderer 50 = .ok (.aconst_null, 1) := by decide +kernel
theorem dX9_firstOrderer_51 : decode cX9_firstOrderer 51 = .ok (.areturn, 1) := by decide +kernel
theorem dX9_countWaiting_0 : decode cX9_countWaiting 0 = .ok (.iconst 0, 1) := by decide +kernel
theorem dX9_countWaiting_1 : decode cX9_countWaiting 1 = .ok (.istore_n 1, 1) := by decide +kernel
theorem dX9_countWaiting_2 : decode cX9_countWaiting 2 = .ok (.iload_n 1, 1) := by decide +kernel
theorem dX9_countWaiting_3 : decode cX9_countWaiting 3 = .ok (.aload_n 0, 1) := by decide +kernel
theorem dX9_countWaiting_4 : decode cX9_countWaiting 4 = .ok (.getfield 104, 3) := by decide +kernel
theorem dX9_countWaiting_7 : decode cX9_countWaiting 7 = .ok (.if_icmp .ge 90, 3) := by decide +kernel
theorem dX9_countWaiting_10 : decode cX9_countWaiting 10 = .ok (.aload_n 0, 1) := by decide +kernel
theorem dX9_countWaiting_11 : decode cX9_countWaiting 11 = .ok (.getfield 27, 3) := by decide +kernel
theorem dX9_countWaiting_14 : decode cX9_countWaiting 14 = .ok (.iload_n 1, 1) := by decide +kernel
theorem dX9_countWaiting_15 : decode cX9_countWaiting 15 = .ok (.aaload, 1) := by decide +kernel
theorem dX9_countWaiting_16 : decode cX9_countWaiting 16 = .ok (.astore_n 2, 1) := by decide +kernel
theorem dX9_countWaiting_17 : decode cX9_countWaiting 17 = .ok (.aload_n 2, 1) := by decide +kernel
theorem dX9_countWaiting_18 : decode cX9_countWaiting 18 = .ok (.getfield 270, 3) := by decide +kernel
theorem dX9_countWaiting_21 : decode cX9_countWaiting 21 = .ok (.tableswitch 70 1 4 #[31, 44, 70, 57], 31) := by decide +kernel
theorem dX9_countWaiting_52 : decode cX9_countWaiting 52 = .ok (.aload_n 2, 1) := by decide +kernel
theorem dX9_countWaiting_53 : decode cX9_countWaiting 53 = .ok (.dup, 1) := by decide +kernel
theorem dX9_countWaiting_54 : decode cX9_countWaiting 54 = .ok (.getfield 421, 3) := by decide +kernel
theorem dX9_countWaiting_57 : decode cX9_countWaiting 57 = .ok (.iconst 1, 1) := by decide +kernel
theorem dX9_countWaiting_58 : decode cX9_countWaiting 58 = .ok (.iadd, 1) := by decide +kernel
theorem dX9_countWaiting_59 : decode cX9_countWaiting 59 = .ok (.putfield 421, 3) := by decide +kernel
theorem dX9_countWaiting_62 : decode cX9_countWaiting 62 = .ok (.goto 29, 3) := by decide +kernel
theorem dX9_countWaiting_65 : decode cX9_countWaiting 65 = .ok (.aload_n 2, 1) := by decide +kernel
theorem dX9_countWaiting_66 : decode cX9_countWaiting 66 = .ok (.dup, 1) := by decide +kernel
theorem dX9_countWaiting_67 : decode cX9_countWaiting 67 = .ok (.getfield 424, 3) := by decide +kernel
theorem dX9_countWaiting_70 : decode cX9_countWaiting 70 = .ok (.iconst 1, 1) := by decide +kernel
theorem dX9_countWaiting_71 : decode cX9_countWaiting 71 = .ok (.iadd, 1) := by decide +kernel
theorem dX9_countWaiting_72 : decode cX9_countWaiting 72 = .ok (.putfield 424, 3) := by decide +kernel
theorem dX9_countWaiting_75 : decode cX9_countWaiting 75 = .ok (.goto 16, 3) := by decide +kernel
theorem dX9_countWaiting_78 : decode cX9_countWaiting 78 = .ok (.aload_n 2, 1) := by decide +kernel
theorem dX9_countWaiting_79 : decode cX9_countWaiting 79 = .ok (.dup, 1) := by decide +kernel
theorem dX9_countWaiting_80 : decode cX9_countWaiting 80 = .ok (.getfield 427, 3) := by decide +kernel
theorem dX9_countWaiting_83 : decode cX9_countWaiting 83 = .ok (.iconst 1, 1) := by decide +kernel
theorem dX9_countWaiting_84 : decode cX9_countWaiting 84 = .ok (.iadd, 1) := by decide +kernel
theorem dX9_countWaiting_85 : decode cX9_countWaiting 85 = .ok (.putfield 427, 3) := by decide +kernel
theorem dX9_countWaiting_88 : decode cX9_countWaiting 88 = .ok (.goto 3, 3) := by decide +kernel
theorem dX9_countWaiting_91 : decode cX9_countWaiting 91 = .ok (.iinc 1 1, 3) := by decide +kernel
theorem dX9_countWaiting_94 : decode cX9_countWaiting 94 = .ok (.goto (-92), 3) := by decide +kernel
theorem dX9_countWaiting_97 : decode cX9_countWaiting 97 = .ok (.return_, 1) := by decide +kernel
theorem dX9_about_0 : decode cX9_about 0 = .ok (.aload_n 0, 1) := by decide +kernel
theorem dX9_about_1 : decode cX9_about 1 = .ok (.iload_n 1, 1) := by decide +kernel
theorem dX9_about_2 : decode cX9_about 2 = .ok (.invokevirtual 128, 3) := by decide +kernel
theorem dX9_about_5 : decode cX9_about 5 = .ok (.ifCond .ne 5, 3) := by decide +kernel
theorem dX9_about_8 : decode cX9_about 8 = .ok (.iconst (-1), 1) := by decide +kernel
theorem dX9_about_9 : decode cX9_about 9 = .ok (.ireturn, 1) := by decide +kernel
theorem dX9_about_10 : decode cX9_about 10 = .ok (.aload_n 0, 1) := by decide +kernel
theorem dX9_about_11 : decode cX9_about 11 = .ok (.getfield 27, 3) := by decide +kernel
theorem dX9_about_14 : decode cX9_about 14 = .ok (.iload_n 1, 1) := by decide +kernel
theorem dX9_about_15 : decode cX9_about 15 = .ok (.aaload, 1) := by decide +kernel
theorem dX9_about_16 : decode cX9_about 16 = .ok (.astore_n 3, 1) := by decide +kernel
theorem dX9_about_17 : decode cX9_about 17 = .ok (.iload_n 2, 1) := by decide +kernel
theorem dX9_about_18 : decode cX9_about 18 = .ok (.tableswitch 146 0 10 #[58, 63, 82, 90, 96, 113, 118, 123, 128, 133, 138], 58) := by decide +kernel
theorem dX9_about_76 : decode cX9_about 76 = .ok (.aload_n 3, 1) := by decide +kernel
theorem dX9_about_77 : decode cX9_about 77 = .ok (.getfield 270, 3) := by decide +kernel
theorem dX9_about_80 : decode cX9_about 80 = .ok (.ireturn, 1) := by decide +kernel
theorem dX9_about_81 : decode cX9_about 81 = .ok (.aload_n 3, 1) := by decide +kernel
theorem dX9_about_82 : decode cX9_about 82 = .ok (.getfield 328, 3) := by decide +kernel
theorem dX9_about_85 : decode cX9_about 85 = .ok (.ifnonnull 7, 3) := by decide +kernel
theorem dX9_about_88 : decode cX9_about 88 = .ok (.iconst (-1), 1) := by decide +kernel
theorem dX9_about_89 : decode cX9_about 89 = .ok (.goto 10, 3) := by decide +kernel
theorem dX9_about_92 : decode cX9_about 92 = .ok (.aload_n 3, 1) := by decide +kernel
theorem dX9_about_93 : decode cX9_about 93 = .ok (.getfield 328, 3) := by decide +kernel
theorem dX9_about_96 : decode cX9_about 96 = .ok (.getfield 380, 3) := by decide +kernel
theorem dX9_about_99 : decode cX9_about 99 = .ok (.ireturn, 1) := by decide +kernel
theorem dX9_about_100 : decode cX9_about 100 = .ok (.aload_n 3, 1) := by decide +kernel
theorem dX9_about_101 : decode cX9_about 101 = .ok (.getfield 135, 3) := by decide +kernel
theorem dX9_about_104 : decode cX9_about 104 = .ok (.getfield 290, 3) := by decide +kernel
theorem dX9_about_107 : decode cX9_about 107 = .ok (.ireturn, 1) := by decide +kernel
theorem dX9_about_108 : decode cX9_about 108 = .ok (.aload_n 0, 1) := by decide +kernel
theorem dX9_about_109 : decode cX9_about 109 = .ok (.aload_n 3, 1) := by decide +kernel
theorem dX9_about_110 : decode cX9_about 110 = .ok (.invokevirtual 324, 3) := by decide +kernel
theorem dX9_about_113 : decode cX9_about 113 = .ok (.ireturn, 1) := by decide +kernel
theorem dX9_about_114 : decode cX9_about 114 = .ok (.aload_n 3, 1) := by decide +kernel
theorem dX9_about_115 : decode cX9_about 115 = .ok (.getfield 270, 3) := by decide +kernel
theorem dX9_about_118 : decode cX9_about 118 = .ok (.iconst 3, 1) := by decide +kernel
theorem dX9_about_119 : decode cX9_about 119 = .ok (.if_icmp .ne 10, 3) := by decide +kernel
theorem dX9_about_122 : decode cX9_about 122 = .ok (.aload_n 3, 1) := by decide +kernel
theorem dX9_about_123 : decode cX9_about 123 = .ok (.getfield 284, 3) := by decide +kernel
theorem dX9_about_126 : decode cX9_about 126 = .ok (.goto 4, 3) := by decide +kernel
theorem dX9_about_129 : decode cX9_about 129 = .ok (.iconst 0, 1) := by decide +kernel
theorem dX9_about_130 : decode cX9_about 130 = .ok (.ireturn, 1) := by decide +kernel
theorem dX9_about_131 : decode cX9_about 131 = .ok (.aload_n 3, 1) := by decide +kernel
theorem dX9_about_132 : decode cX9_about 132 = .ok (.getfield 421, 3) := by decide +kernel
theorem dX9_about_135 : decode cX9_about 135 = .ok (.ireturn, 1) := by decide +kernel
theorem dX9_about_136 : decode cX9_about 136 = .ok (.aload_n 3, 1) := by decide +kernel
theorem dX9_about_137 : decode cX9_about 137 = .ok (.getfield 424, 3) := by decide +kernel
theorem dX9_about_140 : decode cX9_about 140 = .ok (.ireturn, 1) := by decide +kernel
theorem dX9_about_141 : decode cX9_about 141 = .ok (.aload_n 3, 1) := by decide +kernel
theorem dX9_about_142 : decode cX9_about 142 = .ok (.getfield 427, 3) := by decide +kernel
theorem dX9_about_145 : decode cX9_about 145 = .ok (.ireturn, 1) := by decide +kernel
theorem dX9_about_146 : decode cX9_about 146 = .ok (.aload_n 3, 1) := by decide +kernel
theorem dX9_about_147 : decode cX9_about 147 = .ok (.getfield 377, 3) := by decide +kernel
theorem dX9_about_150 : decode cX9_about 150 = .ok (.ireturn, 1) := by decide +kernel
theorem dX9_about_151 : decode cX9_about 151 = .ok (.aload_n 3, 1) := by decide +kernel
theorem dX9_about_152 : decode cX9_about 152 = .ok (.getfield 281, 3) := by decide +kernel
theorem dX9_about_155 : decode cX9_about 155 = .ok (.ireturn, 1) := by decide +kernel
theorem dX9_about_156 : decode cX9_about 156 = .ok (.aload_n 3, 1) := by decide +kernel
theorem dX9_about_157 : decode cX9_about 157 = .ok (.getfield 135, 3) := by decide +kernel
theorem dX9_about_160 : decode cX9_about 160 = .ok (.getfield 430, 3) := by decide +kernel
theorem dX9_about_163 : decode cX9_about 163 = .ok (.ireturn, 1) := by decide +kernel
theorem dX9_about_164 : decode cX9_about 164 = .ok (.iconst (-1), 1) := by decide +kernel
theorem dX9_about_165 : decode cX9_about 165 = .ok (.ireturn, 1) := by decide +kernel
theorem dX9_held_0 : decode cX9_held 0 = .ok (.aload_n 0, 1) := by decide +kernel
theorem dX9_held_1 : decode cX9_held 1 = .ok (.iload_n 1, 1) := by decide +kernel
theorem dX9_held_2 : decode cX9_held 2 = .ok (.invokevirtual 128, 3) := by decide +kernel
theorem dX9_held_5 : decode cX9_held 5 = .ok (.ifCond .eq 7, 3) := by decide +kernel
theorem dX9_held_8 : decode cX9_held 8 = .ok (.iload_n 2, 1) := by decide +kernel
theorem dX9_held_9 : decode cX9_held 9 = .ok (.ifCond .ge 5, 3) := by decide +kernel
theorem dX9_held_12 : decode cX9_held 12 = .ok (.iconst (-1), 1) := by decide +kernel
theorem dX9_held_13 : decode cX9_held 13 = .ok (.ireturn, 1) := by decide +kernel
theorem dX9_held_14 : decode cX9_held 14 = .ok (.iload_n 2, 1) := by decide +kernel
theorem dX9_held_15 : decode cX9_held 15 = .ok (.istore_n 3, 1) := by decide +kernel
theorem dX9_held_16 : decode cX9_held 16 = .ok (.iconst 0, 1) := by decide +kernel
theorem dX9_held_17 : decode cX9_held 17 = .ok (.istore 4, 2) := by decide +kernel
theorem dX9_held_19 : decode cX9_held 19 = .ok (.iload 4, 2) := by decide +kernel
theorem dX9_held_21 : decode cX9_held 21 = .ok (.aload_n 0, 1) := by decide +kernel
theorem dX9_held_22 : decode cX9_held 22 = .ok (.getfield 88, 3) := by decide +kernel
theorem dX9_held_25 : decode cX9_held 25 = .ok (.if_icmp .ge 38, 3) := by decide +kernel
theorem dX9_held_28 : decode cX9_held 28 = .ok (.aload_n 0, 1) := by decide +kernel
theorem dX9_held_29 : decode cX9_held 29 = .ok (.getfield 20, 3) := by decide +kernel
theorem dX9_held_32 : decode cX9_held 32 = .ok (.iload 4, 2) := by decide +kernel
theorem dX9_held_34 : decode cX9_held 34 = .ok (.aaload, 1) := by decide +kernel
theorem dX9_held_35 : decode cX9_held 35 = .ok (.getfield 239, 3) := by decide +kernel
theorem dX9_held_38 : decode cX9_held 38 = .ok (.aload_n 0, 1) := by decide +kernel
theorem dX9_held_39 : decode cX9_held 39 = .ok (.getfield 27, 3) := by decide +kernel
theorem dX9_held_42 : decode cX9_held 42 = .ok (.iload_n 1, 1) := by decide +kernel
theorem dX9_held_43 : decode cX9_held 43 = .ok (.aaload, 1) := by decide +kernel
theorem dX9_held_44 : decode cX9_held 44 = .ok (.if_acmp .ne 13, 3) := by decide +kernel
theorem dX9_held_47 : decode cX9_held 47 = .ok (.iload_n 3, 1) := by decide +kernel
theorem dX9_held_48 : decode cX9_held 48 = .ok (.ifCond .ne 6, 3) := by decide +kernel
theorem dX9_held_51 : decode cX9_held 51 = .ok (.iload 4, 2) := by decide +kernel
theorem dX9_held_53 : decode cX9_held 53 = .ok (.ireturn, 1) := by decide +kernel
theorem dX9_held_54 : decode cX9_held 54 = .ok (.iinc 3 (-1), 3) := by decide +kernel
theorem dX9_held_57 : decode cX9_held 57 = .ok (.iinc 4 1, 3) := by decide +kernel
theorem dX9_held_60 : decode cX9_held 60 = .ok (.goto (-41), 3) := by decide +kernel
theorem dX9_held_63 : decode cX9_held 63 = .ok (.iconst (-1), 1) := by decide +kernel
theorem dX9_held_64 : decode cX9_held 64 = .ok (.ireturn, 1) := by decide +kernel
theorem dX9_refused_0 : decode cX9_refused 0 = .ok (.aload_n 0, 1) := by decide +kernel
theorem dX9_refused_1 : decode cX9_refused 1 = .ok (.iload_n 1, 1) := by decide +kernel
theorem dX9_refused_2 : decode cX9_refused 2 = .ok (.invokevirtual 128, 3) := by decide +kernel
theorem dX9_refused_5 : decode cX9_refused 5 = .ok (.ifCond .ne 5, 3) := by decide +kernel
theorem dX9_refused_8 : decode cX9_refused 8 = .ok (.iconst (-1), 1) := by decide +kernel
theorem dX9_refused_9 : decode cX9_refused 9 = .ok (.ireturn, 1) := by decide +kernel
theorem dX9_refused_10 : decode cX9_refused 10 = .ok (.aload_n 0, 1) := by decide +kernel
theorem dX9_refused_11 : decode cX9_refused 11 = .ok (.getfield 27, 3) := by decide +kernel
theorem dX9_refused_14 : decode cX9_refused 14 = .ok (.iload_n 1, 1) := by decide +kernel
theorem dX9_refused_15 : decode cX9_refused 15 = .ok (.aaload, 1) := by decide +kernel
theorem dX9_refused_16 : decode cX9_refused 16 = .ok (.getfield 135, 3) := by decide +kernel
theorem dX9_refused_19 : decode cX9_refused 19 = .ok (.iload_n 2, 1) := by decide +kernel
theorem dX9_refused_20 : decode cX9_refused 20 = .ok (.invokevirtual 433, 3) := by decide +kernel
theorem dX9_refused_23 : decode cX9_refused 23 = .ok (.ireturn, 1) := by decide +kernel
theorem dX9_place_0 : decode cX9_place 0 = .ok (.aload_n 0, 1) := by decide +kernel
theorem dX9_place_1 : decode cX9_place 1 = .ok (.iload_n 1, 1) := by decide +kernel
theorem dX9_place_2 : decode cX9_place 2 = .ok (.invokevirtual 120, 3) := by decide +kernel
theorem dX9_place_5 : decode cX9_place 5 = .ok (.ifCond .eq 15, 3) := by decide +kernel
theorem dX9_place_8 : decode cX9_place 8 = .ok (.aload_n 0, 1) := by decide +kernel
theorem dX9_place_9 : decode cX9_place 9 = .ok (.getfield 20, 3) := by decide +kernel
theorem dX9_place_12 : decode cX9_place 12 = .ok (.iload_n 1, 1) := by decide +kernel
theorem dX9_place_13 : decode cX9_place 13 = .ok (.aaload, 1) := by decide +kernel
theorem dX9_place_14 : decode cX9_place 14 = .ok (.getfield 233, 3) := by decide +kernel
theorem dX9_place_17 : decode cX9_place 17 = .ok (.goto 4, 3) := by decide +kernel
theorem dX9_place_20 : decode cX9_place 20 = .ok (.iconst (-1), 1) := by decide +kernel
theorem dX9_place_21 : decode cX9_place 21 = .ok (.ireturn, 1) := by decide +kernel
theorem dX9_whose_0 : decode cX9_whose 0 = .ok (.aload_n 0, 1) := by decide +kernel
theorem dX9_whose_1 : decode cX9_whose 1 = .ok (.iload_n 1, 1) := by decide +kernel
theorem dX9_whose_2 : decode cX9_whose 2 = .ok (.invokevirtual 120, 3) := by decide +kernel
theorem dX9_whose_5 : decode cX9_whose 5 = .ok (.ifCond .ne 5, 3) := by decide +kernel
theorem dX9_whose_8 : decode cX9_whose 8 = .ok (.iconst (-1), 1) := by decide +kernel
theorem dX9_whose_9 : decode cX9_whose 9 = .ok (.ireturn, 1) := by decide +kernel
theorem dX9_whose_10 : decode cX9_whose 10 = .ok (.aload_n 0, 1) := by decide +kernel
theorem dX9_whose_11 : decode cX9_whose 11 = .ok (.getfield 20, 3) := by decide +kernel
theorem dX9_whose_14 : decode cX9_whose 14 = .ok (.iload_n 1, 1) := by decide +kernel
theorem dX9_whose_15 : decode cX9_whose 15 = .ok (.aaload, 1) := by decide +kernel
theorem dX9_whose_16 : decode cX9_whose 16 = .ok (.getfield 239, 3) := by decide +kernel
theorem dX9_whose_19 : decode cX9_whose 19 = .ok (.astore_n 2, 1) := by decide +kernel
theorem dX9_whose_20 : decode cX9_whose 20 = .ok (.aload_n 2, 1) := by decide +kernel
theorem dX9_whose_21 : decode cX9_whose 21 = .ok (.ifnull 7, 3) := by decide +kernel
theorem dX9_whose_24 : decode cX9_whose 24 = .ok (.aload_n 2, 1) := by decide +kernel
theorem dX9_whose_25 : decode cX9_whose 25 = .ok (.goto 12, 3) := by decide +kernel
theorem dX9_whose_28 : decode cX9_whose 28 = .ok (.aload_n 0, 1) := by decide +kernel
theorem dX9_whose_29 : decode cX9_whose 29 = .ok (.getfield 20, 3) := by decide +kernel
theorem dX9_whose_32 : decode cX9_whose 32 = .ok (.iload_n 1, 1) := by decide +kernel
theorem dX9_whose_33 : decode cX9_whose 33 = .ok (.aaload, 1) := by decide +kernel
theorem dX9_whose_34 : decode cX9_whose 34 = .ok (.getfield 260, 3) := by decide +kernel
theorem dX9_whose_37 : decode cX9_whose 37 = .ok (.invokestatic 437, 3) := by decide +kernel
theorem dX9_whose_40 : decode cX9_whose 40 = .ok (.ireturn, 1) := by decide +kernel
theorem dX9_seated_0 : decode cX9_seated 0 = .ok (.iload_n 1, 1) := by decide +kernel
theorem dX9_seated_1 : decode cX9_seated 1 = .ok (.iconst 0, 1) := by decide +kernel
theorem dX9_seated_2 : decode cX9_seated 2 = .ok (.aload_n 0, 1) := by decide +kernel
theorem dX9_seated_3 : decode cX9_seated 3 = .ok (.getfield 81, 3) := by decide +kernel
theorem dX9_seated_6 : decode cX9_seated 6 = .ok (.iconst 1, 1) := by decide +kernel
theorem dX9_seated_7 : decode cX9_seated 7 = .ok (.isub, 1) := by decide +kernel
theorem dX9_seated_8 : decode cX9_seated 8 = .ok (.invokestatic 91, 3) := by decide +kernel
theorem dX9_seated_11 : decode cX9_seated 11 = .ok (.ifCond .eq 18, 3) := by decide +kernel
theorem dX9_seated_14 : decode cX9_seated 14 = .ok (.aload_n 0, 1) := by decide +kernel
theorem dX9_seated_15 : decode cX9_seated 15 = .ok (.getfield 11, 3) := by decide +kernel
theorem dX9_seated_18 : decode cX9_seated 18 = .ok (.iload_n 1, 1) := by decide +kernel
theorem dX9_seated_19 : decode cX9_seated 19 = .ok (.aaload, 1) := by decide +kernel
theorem dX9_seated_20 : decode cX9_seated 20 = .ok (.getfield 348, 3) := by decide +kernel
theorem dX9_seated_23 : decode cX9_seated 23 = .ok (.invokestatic 437, 3) := by decide +kernel
theorem dX9_seated_26 : decode cX9_seated 26 = .ok (.goto 4, 3) := by decide +kernel
theorem dX9_seated_29 : decode cX9_seated 29 = .ok (.iconst (-1), 1) := by decide +kernel
theorem dX9_seated_30 : decode cX9_seated 30 = .ok (.ireturn, 1) := by decide +kernel
theorem dX9_worker_0 : decode cX9_worker 0 = .ok (.iload_n 1, 1) := by decide +kernel
theorem dX9_worker_1 : decode cX9_worker 1 = .ok (.ifCond .eq 12, 3) := by decide +kernel
theorem dX9_worker_4 : decode cX9_worker 4 = .ok (.aload_n 0, 1) := by decide +kernel
theorem dX9_worker_5 : decode cX9_worker 5 = .ok (.iload_n 1, 1) := by decide +kernel
theorem dX9_worker_6 : decode cX9_worker 6 = .ok (.iload_n 2, 1) := by decide +kernel
theorem dX9_worker_7 : decode cX9_worker 7 = .ok (.invokevirtual 145, 3) := by decide +kernel
theorem dX9_worker_10 : decode cX9_worker 10 = .ok (.ifCond .ne 5, 3) := by decide +kernel
theorem dX9_worker_13 : decode cX9_worker 13 = .ok (.iconst (-1), 1) := by decide +kernel
theorem dX9_worker_14 : decode cX9_worker 14 = .ok (.ireturn, 1) := by decide +kernel
theorem dX9_worker_15 : decode cX9_worker 15 = .ok (.iload_n 1, 1) := by decide +kernel
theorem dX9_worker_16 : decode cX9_worker 16 = .ok (.iconst 1, 1) := by decide +kernel
theorem dX9_worker_17 : decode cX9_worker 17 = .ok (.if_icmp .ne 15, 3) := by decide +kernel
theorem dX9_worker_20 : decode cX9_worker 20 = .ok (.aload_n 0, 1) := by decide +kernel
theorem dX9_worker_21 : decode cX9_worker 21 = .ok (.getfield 37, 3) := by decide +kernel
theorem dX9_worker_24 : decode cX9_worker 24 = .ok (.getfield 216, 3) := by decide +kernel
theorem dX9_worker_27 : decode cX9_worker 27 = .ok (.iload_n 2, 1) := by decide +kernel
theorem dX9_worker_28 : decode cX9_worker 28 = .ok (.aaload, 1) := by decide +kernel
theorem dX9_worker_29 : decode cX9_worker 29 = .ok (.goto 12, 3) := by decide +kernel
theorem dX9_worker_32 : decode cX9_worker 32 = .ok (.aload_n 0, 1) := by decide +kernel
theorem dX9_worker_33 : decode cX9_worker 33 = .ok (.getfield 41, 3) := by decide +kernel
theorem dX9_worker_36 : decode cX9_worker 36 = .ok (.getfield 216, 3) := by decide +kernel
theorem dX9_worker_39 : decode cX9_worker 39 = .ok (.iload_n 2, 1) := by decide +kernel
theorem dX9_worker_40 : decode cX9_worker 40 = .ok (.aaload, 1) := by decide +kernel
theorem dX9_worker_41 : decode cX9_worker 41 = .ok (.astore 4, 2) := by decide +kernel
theorem dX9_worker_43 : decode cX9_worker 43 = .ok (.iload_n 3, 1) := by decide +kernel
theorem dX9_worker_44 : decode cX9_worker 44 = .ok (.ifCond .ne 24, 3) := by decide +kernel
theorem dX9_worker_47 : decode cX9_worker 47 = .ok (.aload 4, 2) := by decide +kernel
theorem dX9_worker_49 : decode cX9_worker 49 = .ok (.getfield 227, 3) := by decide +kernel
theorem dX9_worker_52 : decode cX9_worker 52 = .ok (.ifnonnull 7, 3) := by decide +kernel
theorem dX9_worker_55 : decode cX9_worker 55 = .ok (.iconst (-1), 1) := by decide +kernel
theorem dX9_worker_56 : decode cX9_worker 56 = .ok (.goto 11, 3) := by decide +kernel
theorem dX9_worker_59 : decode cX9_worker 59 = .ok (.aload 4, 2) := by decide +kernel
theorem dX9_worker_61 : decode cX9_worker 61 = .ok (.getfield 227, 3) := by decide +kernel
theorem dX9_worker_64 : decode cX9_worker 64 = .ok (.getfield 253, 3) := by decide +kernel
theorem dX9_worker_67 : decode cX9_worker 67 = .ok (.ireturn, 1) := by decide +kernel
theorem dX9_worker_68 : decode cX9_worker 68 = .ok (.iload_n 3, 1) := by decide +kernel
theorem dX9_worker_69 : decode cX9_worker 69 = .ok (.iconst 1, 1) := by decide +kernel
theorem dX9_worker_70 : decode cX9_worker 70 = .ok (.if_icmp .ne 11, 3) := by decide +kernel
theorem dX9_worker_73 : decode cX9_worker 73 = .ok (.aload 4, 2) := by decide +kernel
theorem dX9_worker_75 : decode cX9_worker 75 = .ok (.getfield 243, 3) := by decide +kernel
theorem dX9_worker_78 : decode cX9_worker 78 = .ok (.goto 4, 3) := by decide +kernel
theorem dX9_worker_81 : decode cX9_worker 81 = .ok (.iconst (-1), 1) := by decide +kernel
theorem dX9_worker_82 : decode cX9_worker 82 = .ok (.ireturn, 1) := by decide +kernel
theorem dX9_queue_0 : decode cX9_queue 0 = .ok (.aload_n 0, 1) := by decide +kernel
theorem dX9_queue_1 : decode cX9_queue 1 = .ok (.iload_n 1, 1) := by decide +kernel
theorem dX9_queue_2 : decode cX9_queue 2 = .ok (.invokevirtual 440, 3) := by decide +kernel
theorem dX9_queue_5 : decode cX9_queue 5 = .ok (.astore_n 3, 1) := by decide +kernel
theorem dX9_queue_6 : decode cX9_queue 6 = .ok (.aload_n 3, 1) := by decide +kernel
theorem dX9_queue_7 : decode cX9_queue 7 = .ok (.ifnull 8, 3) := by decide +kernel
theorem dX9_queue_10 : decode cX9_queue 10 = .ok (.iload_n 2, 1) := by decide +kernel
theorem dX9_queue_11 : decode cX9_queue 11 = .ok (.iconst (-1), 1) := by decide +kernel
theorem dX9_queue_12 : decode cX9_queue 12 = .ok (.if_icmp .ge 5, 3) := by decide +kernel
theorem dX9_queue_15 : decode cX9_queue 15 = .ok (.iconst (-1), 1) := by decide +kernel
theorem dX9_queue_16 : decode cX9_queue 16 = .ok (.ireturn, 1) := by decide +kernel
theorem dX9_queue_17 : decode cX9_queue 17 = .ok (.iconst 0, 1) := by decide +kernel
theorem dX9_queue_18 : decode cX9_queue 18 = .ok (.istore 4, 2) := by decide +kernel
theorem dX9_queue_20 : decode cX9_queue 20 = .ok (.iconst 0, 1) := by decide +kernel
theorem dX9_queue_21 : decode cX9_queue 21 = .ok (.istore 5, 2) := by decide +kernel
theorem dX9_queue_23 : decode cX9_queue 23 = .ok (.iload 5, 2) := by decide +kernel
theorem dX9_queue_25 : decode cX9_queue 25 = .ok (.aload_n 3, 1) := by decide +kernel
theorem dX9_queue_26 : decode cX9_queue 26 = .ok (.getfield 373, 3) := by decide +kernel
theorem dX9_queue_29 : decode cX9_queue 29 = .ok (.if_icmp .ge 47, 3) := by decide +kernel
theorem dX9_queue_32 : decode cX9_queue 32 = .ok (.aload_n 3, 1) := by decide +kernel
theorem dX9_queue_33 : decode cX9_queue 33 = .ok (.iload 5, 2) := by decide +kernel
theorem dX9_queue_35 : decode cX9_queue 35 = .ok (.invokevirtual 357, 3) := by decide +kernel
theorem dX9_queue_38 : decode cX9_queue 38 = .ok (.astore 6, 2) := by decide +kernel
theorem dX9_queue_40 : decode cX9_queue 40 = .ok (.aload 6, 2) := by decide +kernel
theorem dX9_queue_42 : decode cX9_queue 42 = .ok (.ifnull 28, 3) := by decide +kernel
theorem dX9_queue_45 : decode cX9_queue 45 = .ok (.aload_n 0, 1) := by decide +kernel
theorem dX9_queue_46 : decode cX9_queue 46 = .ok (.iload_n 1, 1) := by decide +kernel
theorem dX9_queue_47 : decode cX9_queue 47 = .ok (.aload 6, 2) := by decide +kernel
theorem dX9_queue_49 : decode cX9_queue 49 = .ok (.invokevirtual 444, 3) := by decide +kernel
theorem dX9_queue_52 : decode cX9_queue 52 = .ok (.ifCond .eq 18, 3) := by decide +kernel
theorem dX9_queue_55 : decode cX9_queue 55 = .ok (.iload 4, 2) := by decide +kernel
theorem dX9_queue_57 : decode cX9_queue 57 = .ok (.iload_n 2, 1) := by decide +kernel
theorem dX9_queue_58 : decode cX9_queue 58 = .ok (.if_icmp .ne 9, 3) := by decide +kernel
theorem dX9_queue_61 : decode cX9_queue 61 = .ok (.aload 6, 2) := by decide +kernel
theorem dX9_queue_63 : decode cX9_queue 63 = .ok (.getfield 273, 3) := by decide +kernel
theorem dX9_queue_66 : decode cX9_queue 66 = .ok (.ireturn, 1) := by decide +kernel
theorem dX9_queue_67 : decode cX9_queue 67 = .ok (.iinc 4 1, 3) := by decide +kernel
theorem dX9_queue_70 : decode cX9_queue 70 = .ok (.iinc 5 1, 3) := by decide +kernel
theorem dX9_queue_73 : decode cX9_queue 73 = .ok (.goto (-50), 3) := by decide +kernel
theorem dX9_queue_76 : decode cX9_queue 76 = .ok (.iload_n 2, 1) := by decide +kernel
theorem dX9_queue_77 : decode cX9_queue 77 = .ok (.iconst (-1), 1) := by decide +kernel
theorem dX9_queue_78 : decode cX9_queue 78 = .ok (.if_icmp .ne 8, 3) := by decide +kernel
theorem dX9_queue_81 : decode cX9_queue 81 = .ok (.iload 4, 2) := by decide +kernel
theorem dX9_queue_83 : decode cX9_queue 83 = .ok (.goto 4, 3) := by decide +kernel
theorem dX9_queue_86 : decode cX9_queue 86 = .ok (.iconst (-1), 1) := by decide +kernel
theorem dX9_queue_87 : decode cX9_queue 87 = .ok (.ireturn, 1) := by decide +kernel
theorem dX9_lineOf_0 : decode cX9_lineOf 0 = .ok (.iload_n 1, 1) := by decide +kernel
theorem dX9_lineOf_1 : decode cX9_lineOf 1 = .ok (.tableswitch 42 0 2 #[27, 32, 37], 27) := by decide +kernel
theorem dX9_lineOf_28 : decode cX9_lineOf 28 = .ok (.aload_n 0, 1) := by decide +kernel
theorem dX9_lineOf_29 : decode cX9_lineOf 29 = .ok (.getfield 47, 3) := by decide +kernel
theorem dX9_lineOf_32 : decode cX9_lineOf 32 = .ok (.areturn, 1) := by decide +kernel
theorem dX9_lineOf_33 : decode cX9_lineOf 33 = .ok (.aload_n 0, 1) := by decide +kernel
theorem dX9_lineOf_34 : decode cX9_lineOf 34 = .ok (.getfield 51, 3) := by decide +kernel
theorem dX9_lineOf_37 : decode cX9_lineOf 37 = .ok (.areturn, 1) := by decide +kernel
theorem dX9_lineOf_38 : decode cX9_lineOf 38 = .ok (.aload_n 0, 1) := by decide +kernel
theorem dX9_lineOf_39 : decode cX9_lineOf 39 = .ok (.getfield 54, 3) := by decide +kernel
theorem dX9_lineOf_42 : decode cX9_lineOf 42 = .ok (.areturn, 1) := by decide +kernel
theorem dX9_lineOf_43 : decode cX9_lineOf 43 = .ok (.aconst_null, 1) := by decide +kernel
theorem dX9_lineOf_44 : decode cX9_lineOf 44 = .ok (.areturn, 1) := by decide +kernel
theorem dX9_waitsStill_0 : decode cX9_waitsStill 0 = .ok (.iload_n 1, 1) := by decide +kernel
theorem dX9_waitsStill_1 : decode cX9_waitsStill 1 = .ok (.iconst 1, 1) := by decide +kernel
theorem dX9_waitsStill_2 : decode cX9_waitsStill 2 = .ok (.if_icmp .ne 17, 3) := by decide +kernel
theorem dX9_waitsStill_5 : decode cX9_waitsStill 5 = .ok (.aload_n 2, 1) := by decide +kernel
theorem dX9_waitsStill_6 : decode cX9_waitsStill 6 = .ok (.iconst 3, 1) := by decide +kernel
theorem dX9_waitsStill_7 : decode cX9_waitsStill 7 = .ok (.invokevirtual 399, 3) := by decide +kernel
theorem dX9_waitsStill_10 : decode cX9_waitsStill 10 = .ok (.ifCond .ne 7, 3) := by decide +kernel
theorem dX9_waitsStill_13 : decode cX9_waitsStill 13 = .ok (.iconst 1, 1) := by decide +kernel
theorem dX9_waitsStill_14 : decode cX9_waitsStill 14 = .ok (.goto 4, 3) := by decide +kernel
theorem dX9_waitsStill_17 : decode cX9_waitsStill 17 = .ok (.iconst 0, 1) := by decide +kernel
theorem dX9_waitsStill_18 : decode cX9_waitsStill 18 = .ok (.ireturn, 1) := by decide +kernel
theorem dX9_waitsStill_19 : decode cX9_waitsStill 19 = .ok (.iload_n 1, 1) := by decide +kernel
theorem dX9_waitsStill_20 : decode cX9_waitsStill 20 = .ok (.iconst 2, 1) := by decide +kernel
theorem dX9_waitsStill_21 : decode cX9_waitsStill 21 = .ok (.if_icmp .ne 11, 3) := by decide +kernel
theorem dX9_waitsStill_24 : decode cX9_waitsStill 24 = .ok (.aload_n 2, 1) := by decide +kernel
theorem dX9_waitsStill_25 : decode cX9_waitsStill 25 = .ok (.iconst 5, 1) := by decide +kernel
theorem dX9_waitsStill_26 : decode cX9_waitsStill 26 = .ok (.invokevirtual 399, 3) := by decide +kernel
theorem dX9_waitsStill_29 : decode cX9_waitsStill 29 = .ok (.ifCond .eq 7, 3) := by decide +kernel
theorem dX9_waitsStill_32 : decode cX9_waitsStill 32 = .ok (.iconst 1, 1) := by decide +kernel
theorem dX9_waitsStill_33 : decode cX9_waitsStill 33 = .ok (.goto 4, 3) := by decide +kernel
theorem dX9_waitsStill_36 : decode cX9_waitsStill 36 = .ok (.iconst 0, 1) := by decide +kernel
theorem dX9_waitsStill_37 : decode cX9_waitsStill 37 = .ok (.ireturn, 1) := by decide +kernel
theorem dX9_event_0 : decode cX9_event 0 = .ok (.aload_n 0, 1) := by decide +kernel
theorem dX9_event_1 : decode cX9_event 1 = .ok (.getfield 67, 3) := by decide +kernel
theorem dX9_event_4 : decode cX9_event 4 = .ok (.iload_n 1, 1) := by decide +kernel
theorem dX9_event_5 : decode cX9_event 5 = .ok (.iload_n 2, 1) := by decide +kernel
theorem dX9_event_6 : decode cX9_event 6 = .ok (.invokevirtual 447, 3) := by decide +kernel
theorem dX9_event_9 : decode cX9_event 9 = .ok (.ifCond .ne 14, 3) := by decide +kernel
theorem dX9_event_12 : decode cX9_event 12 = .ok (.new 450, 3) := by decide +kernel
theorem dX9_event_15 : decode cX9_event 15 = .ok (.dup, 1) := by decide +kernel
theorem dX9_event_16 : decode cX9_event 16 = .ok (.ldc_w 452, 3) := by decide +kernel
theorem dX9_event_19 : decode cX9_event 19 = .ok (.invokespecial 454, 3) := by decide +kernel
theorem dX9_event_22 : decode cX9_event 22 = .ok (.athrow, 1) := by decide +kernel
theorem dX9_event_23 : decode cX9_event 23 = .ok (.aload_n 0, 1) := by decide +kernel
theorem dX9_event_24 : decode cX9_event 24 = .ok (.getfield 67, 3) := by decide +kernel
theorem dX9_event_27 : decode cX9_event 27 = .ok (.iload_n 1, 1) := by decide +kernel
theorem dX9_event_28 : decode cX9_event 28 = .ok (.iload_n 2, 1) := by decide +kernel
theorem dX9_event_29 : decode cX9_event 29 = .ok (.invokevirtual 457, 3) := by decide +kernel
theorem dX9_event_32 : decode cX9_event 32 = .ok (.ireturn, 1) := by decide +kernel
theorem dX9_count_0 : decode cX9_count 0 = .ok (.iload_n 1, 1) := by decide +kernel
theorem dX9_count_1 : decode cX9_count 1 = .ok (.tableswitch 155 0 14 #[75, 80, 85, 90, 95, 103, 108, 121, 121, 121, 127, 132, 137, 142, 150], 75) := by decide +kernel
theorem dX9_count_76 : decode cX9_count 76 = .ok (.aload_n 0, 1) := by decide +kernel
theorem dX9_count_77 : decode cX9_count 77 = .ok (.getfield 78, 3) := by decide +kernel
theorem dX9_count_80 : decode cX9_count 80 = .ok (.ireturn, 1) := by decide +kernel
theorem dX9_count_81 : decode cX9_count 81 = .ok (.aload_n 0, 1) := by decide +kernel
theorem dX9_count_82 : decode cX9_count 82 = .ok (.getfield 81, 3) := by decide +kernel
theorem dX9_count_85 : decode cX9_count 85 = .ok (.ireturn, 1) := by decide +kernel
theorem dX9_count_86 : decode cX9_count 86 = .ok (.aload_n 0, 1) := by decide +kernel
theorem dX9_count_87 : decode cX9_count 87 = .ok (.getfield 88, 3) := by decide +kernel
theorem dX9_count_90 : decode cX9_count 90 = .ok (.ireturn, 1) := by decide +kernel
theorem dX9_count_91 : decode cX9_count 91 = .ok (.aload_n 0, 1) := by decide +kernel
theorem dX9_count_92 : decode cX9_count 92 = .ok (.getfield 104, 3) := by decide +kernel
theorem dX9_count_95 : decode cX9_count 95 = .ok (.ireturn, 1) := by decide +kernel
theorem dX9_count_96 : decode cX9_count 96 = .ok (.aload_n 0, 1) := by decide +kernel
theorem dX9_count_97 : decode cX9_count 97 = .ok (.getfield 67, 3) := by decide +kernel
theorem dX9_count_100 : decode cX9_count 100 = .ok (.getfield 460, 3) := by decide +kernel
theorem dX9_count_103 : decode cX9_count 103 = .ok (.ireturn, 1) := by decide +kernel
theorem dX9_count_104 : decode cX9_count 104 = .ok (.aload_n 0, 1) := by decide +kernel
theorem dX9_count_105 : decode cX9_count 105 = .ok (.invokevirtual 461, 3) := by decide +kernel
theorem dX9_count_108 : decode cX9_count 108 = .ok (.ireturn, 1) := by decide +kernel
theorem dX9_count_109 : decode cX9_count 109 = .ok (.aload_n 0, 1) := by decide +kernel
theorem dX9_count_110 : decode cX9_count 110 = .ok (.invokevirtual 465, 3) := by decide +kernel
theorem dX9_count_113 : decode cX9_count 113 = .ok (.ifCond .eq 7, 3) := by decide +kernel
theorem dX9_count_116 : decode cX9_count 116 = .ok (.iconst 1, 1) := by decide +kernel
theorem dX9_count_117 : decode cX9_count 117 = .ok (.goto 4, 3) := by decide +kernel
theorem dX9_count_120 : decode cX9_count 120 = .ok (.iconst 0, 1) := by decide +kernel
theorem dX9_count_121 : decode cX9_count 121 = .ok (.ireturn, 1) := by decide +kernel
theorem dX9_count_122 : decode cX9_count 122 = .ok (.aload_n 0, 1) := by decide +kernel
theorem dX9_count_123 : decode cX9_count 123 = .ok (.iload_n 1, 1) := by decide +kernel
theorem dX9_count_124 : decode cX9_count 124 = .ok (.invokevirtual 468, 3) := by decide +kernel
theorem dX9_count_127 : decode cX9_count 127 = .ok (.ireturn, 1) := by decide +kernel
theorem dX9_count_128 : decode cX9_count 128 = .ok (.aload_n 0, 1) := by decide +kernel
theorem dX9_count_129 : decode cX9_count 129 = .ok (.getfield 278, 3) := by decide +kernel
theorem dX9_count_132 : decode cX9_count 132 = .ok (.ireturn, 1) := by decide +kernel
theorem dX9_count_133 : decode cX9_count 133 = .ok (.aload_n 0, 1) := by decide +kernel
theorem dX9_count_134 : decode cX9_count 134 = .ok (.getfield 392, 3) := by decide +kernel
theorem dX9_count_137 : decode cX9_count 137 = .ok (.ireturn, 1) := by decide +kernel
theorem dX9_count_138 : decode cX9_count 138 = .ok (.aload_n 0, 1) := by decide +kernel
theorem dX9_count_139 : decode cX9_count 139 = .ok (.getfield 75, 3) := by decide +kernel
theorem dX9_count_142 : decode cX9_count 142 = .ok (.ireturn, 1) := by decide +kernel
theorem dX9_count_143 : decode cX9_count 143 = .ok (.aload_n 0, 1) := by decide +kernel
theorem dX9_count_144 : decode cX9_count 144 = .ok (.getfield 60, 3) := by decide +kernel
theorem dX9_count_147 : decode cX9_count 147 = .ok (.getfield 190, 3) := by decide +kernel
theorem dX9_count_150 : decode cX9_count 150 = .ok (.ireturn, 1) := by decide +kernel
theorem dX9_count_151 : decode cX9_count 151 = .ok (.aload_n 0, 1) := by decide +kernel
theorem dX9_count_152 : decode cX9_count 152 = .ok (.getfield 408, 3) := by decide +kernel
theorem dX9_count_155 : decode cX9_count 155 = .ok (.ireturn, 1) := by decide +kernel
theorem dX9_count_156 : decode cX9_count 156 = .ok (.iconst (-1), 1) := by decide +kernel
theorem dX9_count_157 : decode cX9_count 157 = .ok (.ireturn, 1) := by decide +kernel
theorem dX9_boxesAtHome_0 : decode cX9_boxesAtHome 0 = .ok (.iconst 0, 1) := by decide +kernel
theorem dX9_boxesAtHome_1 : decode cX9_boxesAtHome 1 = .ok (.istore_n 1, 1) := by decide +kernel
theorem dX9_boxesAtHome_2 : decode cX9_boxesAtHome 2 = .ok (.iconst 0, 1) := by decide +kernel
theorem dX9_boxesAtHome_3 : decode cX9_boxesAtHome 3 = .ok (.istore_n 2, 1) := by decide +kernel
theorem dX9_boxesAtHome_4 : decode cX9_boxesAtHome 4 = .ok (.iload_n 2, 1) := by decide +kernel
theorem dX9_boxesAtHome_5 : decode cX9_boxesAtHome 5 = .ok (.aload_n 0, 1) := by decide +kernel
theorem dX9_boxesAtHome_6 : decode cX9_boxesAtHome 6 = .ok (.getfield 88, 3) := by decide +kernel
theorem dX9_boxesAtHome_9 : decode cX9_boxesAtHome 9 = .ok (.if_icmp .ge 24, 3) := by decide +kernel
theorem dX9_boxesAtHome_12 : decode cX9_boxesAtHome 12 = .ok (.aload_n 0, 1) := by decide +kernel
theorem dX9_boxesAtHome_13 : decode cX9_boxesAtHome 13 = .ok (.getfield 20, 3) := by decide +kernel
theorem dX9_boxesAtHome_16 : decode cX9_boxesAtHome 16 = .ok (.iload_n 2, 1) := by decide +kernel
theorem dX9_boxesAtHome_17 : decode cX9_boxesAtHome 17 = .ok (.aaload, 1) := by decide +kernel
theorem dX9_boxesAtHome_18 : decode cX9_boxesAtHome 18 = .ok (.getfield 233, 3) := by decide +kernel
theorem dX9_boxesAtHome_21 : decode cX9_boxesAtHome 21 = .ok (.ifCond .ne 6, 3) := by decide +kernel
theorem dX9_boxesAtHome_24 : decode cX9_boxesAtHome 24 = .ok (.iinc 1 1, 3) := by decide +kernel
theorem dX9_boxesAtHome_27 : decode cX9_boxesAtHome 27 = .ok (.iinc 2 1, 3) := by decide +kernel
theorem dX9_boxesAtHome_30 : decode cX9_boxesAtHome 30 = .ok (.goto (-26), 3) := by decide +kernel
theorem dX9_boxesAtHome_33 : decode cX9_boxesAtHome 33 = .ok (.iload_n 1, 1) := by decide +kernel
theorem dX9_boxesAtHome_34 : decode cX9_boxesAtHome 34 = .ok (.ireturn, 1) := by decide +kernel
theorem dX9_isQuiet_0 : decode cX9_isQuiet 0 = .ok (.iconst 0, 1) := by decide +kernel
theorem dX9_isQuiet_1 : decode cX9_isQuiet 1 = .ok (.istore_n 1, 1) := by decide +kernel
theorem dX9_isQuiet_2 : decode cX9_isQuiet 2 = .ok (.iload_n 1, 1) := by decide +kernel
theorem dX9_isQuiet_3 : decode cX9_isQuiet 3 = .ok (.aload_n 0, 1) := by decide +kernel
theorem dX9_isQuiet_4 : decode cX9_isQuiet 4 = .ok (.getfield 104, 3) := by decide +kernel
theorem dX9_isQuiet_7 : decode cX9_isQuiet 7 = .ok (.if_icmp .ge 23, 3) := by decide +kernel
theorem dX9_isQuiet_10 : decode cX9_isQuiet 10 = .ok (.aload_n 0, 1) := by decide +kernel
theorem dX9_isQuiet_11 : decode cX9_isQuiet 11 = .ok (.getfield 27, 3) := by decide +kernel
theorem dX9_isQuiet_14 : decode cX9_isQuiet 14 = .ok (.iload_n 1, 1) := by decide +kernel
theorem dX9_isQuiet_15 : decode cX9_isQuiet 15 = .ok (.aaload, 1) := by decide +kernel
theorem dX9_isQuiet_16 : decode cX9_isQuiet 16 = .ok (.invokestatic 131, 3) := by decide +kernel
theorem dX9_isQuiet_19 : decode cX9_isQuiet 19 = .ok (.ifCond .ne 5, 3) := by decide +kernel
theorem dX9_isQuiet_22 : decode cX9_isQuiet 22 = .ok (.iconst 0, 1) := by decide +kernel
theorem dX9_isQuiet_23 : decode cX9_isQuiet 23 = .ok (.ireturn, 1) := by decide +kernel
theorem dX9_isQuiet_24 : decode cX9_isQuiet 24 = .ok (.iinc 1 1, 3) := by decide +kernel
theorem dX9_isQuiet_27 : decode cX9_isQuiet 27 = .ok (.goto (-25), 3) := by decide +kernel
theorem dX9_isQuiet_30 : decode cX9_isQuiet 30 = .ok (.aload_n 0, 1) := by decide +kernel
theorem dX9_isQuiet_31 : decode cX9_isQuiet 31 = .ok (.invokevirtual 461, 3) := by decide +kernel
theorem dX9_isQuiet_34 : decode cX9_isQuiet 34 = .ok (.aload_n 0, 1) := by decide +kernel
theorem dX9_isQuiet_35 : decode cX9_isQuiet 35 = .ok (.getfield 88, 3) := by decide +kernel
theorem dX9_isQuiet_38 : decode cX9_isQuiet 38 = .ok (.if_icmp .ne 7, 3) := by decide +kernel
theorem dX9_isQuiet_41 : decode cX9_isQuiet 41 = .ok (.iconst 1, 1) := by decide +kernel
theorem dX9_isQuiet_42 : decode cX9_isQuiet 42 = .ok (.goto 4, 3) := by decide +kernel
theorem dX9_isQuiet_45 : decode cX9_isQuiet 45 = .ok (.iconst 0, 1) := by decide +kernel
theorem dX9_isQuiet_46 : decode cX9_isQuiet 46 = .ok (.ireturn, 1) := by decide +kernel
theorem dX9_greatestWaited_0 : decode cX9_greatestWaited 0 = .ok (.iconst 0, 1) := by decide +kernel
theorem dX9_greatestWaited_1 : decode cX9_greatestWaited 1 = .ok (.istore_n 2, 1) := by decide +kernel
theorem dX9_greatestWaited_2 : decode cX9_greatestWaited 2 = .ok (.iconst 0, 1) := by decide +kernel
theorem dX9_greatestWaited_3 : decode cX9_greatestWaited 3 = .ok (.istore_n 3, 1) := by decide +kernel
theorem dX9_greatestWaited_4 : decode cX9_greatestWaited 4 = .ok (.iload_n 3, 1) := by decide +kernel
theorem dX9_greatestWaited_5 : decode cX9_greatestWaited 5 = .ok (.aload_n 0, 1) := by decide +kernel
theorem dX9_greatestWaited_6 : decode cX9_greatestWaited 6 = .ok (.getfield 104, 3) := by decide +kernel
theorem dX9_greatestWaited_9 : decode cX9_greatestWaited 9 = .ok (.if_icmp .ge 59, 3) := by decide +kernel
theorem dX9_greatestWaited_12 : decode cX9_greatestWaited 12 = .ok (.aload_n 0, 1) := by decide +kernel
theorem dX9_greatestWaited_13 : decode cX9_greatestWaited 13 = .ok (.getfield 27, 3) := by decide +kernel
theorem dX9_greatestWaited_16 : decode cX9_greatestWaited 16 = .ok (.iload_n 3, 1) := by decide +kernel
theorem dX9_greatestWaited_17 : decode cX9_greatestWaited 17 = .ok (.aaload, 1) := by decide +kernel
theorem dX9_greatestWaited_18 : decode cX9_greatestWaited 18 = .ok (.astore 4, 2) := by decide +kernel
theorem dX9_greatestWaited_20 : decode cX9_greatestWaited 20 = .ok (.iload_n 1, 1) := by decide +kernel
theorem dX9_greatestWaited_21 : decode cX9_greatestWaited 21 = .ok (.bipush 7, 2) := by decide +kernel
theorem dX9_greatestWaited_23 : decode cX9_greatestWaited 23 = .ok (.if_icmp .ne 11, 3) := by decide +kernel
theorem dX9_greatestWaited_26 : decode cX9_greatestWaited 26 = .ok (.aload 4, 2) := by decide +kernel
theorem dX9_greatestWaited_28 : decode cX9_greatestWaited 28 = .ok (.getfield 421, 3) := by decide +kernel
theorem dX9_greatestWaited_31 : decode cX9_greatestWaited 31 = .ok (.goto 22, 3) := by decide +kernel
theorem dX9_greatestWaited_34 : decode cX9_greatestWaited 34 = .ok (.iload_n 1, 1) := by decide +kernel
theorem dX9_greatestWaited_35 : decode cX9_greatestWaited 35 = .ok (.bipush 8, 2) := by decide +kernel
theorem dX9_greatestWaited_37 : decode cX9_greatestWaited 37 = .ok (.if_icmp .ne 11, 3) := by decide +kernel
theorem dX9_greatestWaited_40 : decode cX9_greatestWaited 40 = .ok (.aload 4, 2) := by decide +kernel
theorem dX9_greatestWaited_42 : decode cX9_greatestWaited 42 = .ok (.getfield 424, 3) := by decide +kernel
theorem dX9_greatestWaited_45 : decode cX9_greatestWaited 45 = .ok (.goto 8, 3) := by decide +kernel
theorem dX9_greatestWaited_48 : decode cX9_greatestWaited 48 = .ok (.aload 4, 2) := by decide +kernel
theorem dX9_greatestWaited_50 : decode cX9_greatestWaited 50 = .ok (.getfield 427, 3) := by decide +kernel
theorem dX9_greatestWaited_53 : decode cX9_greatestWaited 53 = .ok (.istore 5, 2) := by decide +kernel
theorem dX9_greatestWaited_55 : decode cX9_greatestWaited 55 = .ok (.iload_n 2, 1) := by decide +kernel
theorem dX9_greatestWaited_56 : decode cX9_greatestWaited 56 = .ok (.iload 5, 2) := by decide +kernel
theorem dX9_greatestWaited_58 : decode cX9_greatestWaited 58 = .ok (.invokestatic 471, 3) := by decide +kernel
theorem dX9_greatestWaited_61 : decode cX9_greatestWaited 61 = .ok (.istore_n 2, 1) := by decide +kernel
theorem dX9_greatestWaited_62 : decode cX9_greatestWaited 62 = .ok (.iinc 3 1, 3) := by decide +kernel
theorem dX9_greatestWaited_65 : decode cX9_greatestWaited 65 = .ok (.goto (-61), 3) := by decide +kernel
theorem dX9_greatestWaited_68 : decode cX9_greatestWaited 68 = .ok (.iload_n 2, 1) := by decide +kernel
theorem dX9_greatestWaited_69 : decode cX9_greatestWaited 69 = .ok (.ireturn, 1) := by decide +kernel
theorem dX9_isWithin_0 : decode cX9_isWithin 0 = .ok (.iload_n 0, 1) := by decide +kernel
theorem dX9_isWithin_1 : decode cX9_isWithin 1 = .ok (.iload_n 1, 1) := by decide +kernel
theorem dX9_isWithin_2 : decode cX9_isWithin 2 = .ok (.if_icmp .lt 12, 3) := by decide +kernel
theorem dX9_isWithin_5 : decode cX9_isWithin 5 = .ok (.iload_n 0, 1) := by decide +kernel
theorem dX9_isWithin_6 : decode cX9_isWithin 6 = .ok (.iload_n 2, 1) := by decide +kernel
theorem dX9_isWithin_7 : decode cX9_isWithin 7 = .ok (.if_icmp .gt 7, 3) := by decide +kernel
theorem dX9_isWithin_10 : decode cX9_isWithin 10 = .ok (.iconst 1, 1) := by decide +kernel
theorem dX9_isWithin_11 : decode cX9_isWithin 11 = .ok (.goto 4, 3) := by decide +kernel
theorem dX9_isWithin_14 : decode cX9_isWithin 14 = .ok (.iconst 0, 1) := by decide +kernel
theorem dX9_isWithin_15 : decode cX9_isWithin 15 = .ok (.ireturn, 1) := by decide +kernel
theorem dX9_isReader_0 : decode cX9_isReader 0 = .ok (.iload_n 1, 1) := by decide +kernel
theorem dX9_isReader_1 : decode cX9_isReader 1 = .ok (.ifCond .lt 15, 3) := by decide +kernel
theorem dX9_isReader_4 : decode cX9_isReader 4 = .ok (.iload_n 1, 1) := by decide +kernel
theorem dX9_isReader_5 : decode cX9_isReader 5 = .ok (.aload_n 0, 1) := by decide +kernel
theorem dX9_isReader_6 : decode cX9_isReader 6 = .ok (.getfield 104, 3) := by decide +kernel
theorem dX9_isReader_9 : decode cX9_isReader 9 = .ok (.if_icmp .ge 7, 3) := by decide +kernel
theorem dX9_isReader_12 : decode cX9_isReader 12 = .ok (.iconst 1, 1) := by decide +kernel
theorem dX9_isReader_13 : decode cX9_isReader 13 = .ok (.goto 4, 3) := by decide +kernel
theorem dX9_isReader_16 : decode cX9_isReader 16 = .ok (.iconst 0, 1) := by decide +kernel
theorem dX9_isReader_17 : decode cX9_isReader 17 = .ok (.ireturn, 1) := by decide +kernel
theorem dX9_isBox_0 : decode cX9_isBox 0 = .ok (.iload_n 1, 1) := by decide +kernel
theorem dX9_isBox_1 : decode cX9_isBox 1 = .ok (.ifCond .lt 15, 3) := by decide +kernel
theorem dX9_isBox_4 : decode cX9_isBox 4 = .ok (.iload_n 1, 1) := by decide +kernel
theorem dX9_isBox_5 : decode cX9_isBox 5 = .ok (.aload_n 0, 1) := by decide +kernel
theorem dX9_isBox_6 : decode cX9_isBox 6 = .ok (.getfield 88, 3) := by decide +kernel
theorem dX9_isBox_9 : decode cX9_isBox 9 = .ok (.if_icmp .ge 7, 3) := by decide +kernel
theorem dX9_isBox_12 : decode cX9_isBox 12 = .ok (.iconst 1, 1) := by decide +kernel
theorem dX9_isBox_13 : decode cX9_isBox 13 = .ok (.goto 4, 3) := by decide +kernel
theorem dX9_isBox_16 : decode cX9_isBox 16 = .ok (.iconst 0, 1) := by decide +kernel
theorem dX9_isBox_17 : decode cX9_isBox 17 = .ok (.ireturn, 1) := by decide +kernel
theorem dX9_bellHasBeen_0 : decode cX9_bellHasBeen 0 = .ok (.aload_n 0, 1) := by decide +kernel
theorem dX9_bellHasBeen_1 : decode cX9_bellHasBeen 1 = .ok (.getfield 75, 3) := by decide +kernel
theorem dX9_bellHasBeen_4 : decode cX9_bellHasBeen 4 = .ok (.iconst (-1), 1) := by decide +kernel
theorem dX9_bellHasBeen_5 : decode cX9_bellHasBeen 5 = .ok (.if_icmp .eq 18, 3) := by decide +kernel
theorem dX9_bellHasBeen_8 : decode cX9_bellHasBeen 8 = .ok (.aload_n 0, 1) := by decide +kernel
theorem dX9_bellHasBeen_9 : decode cX9_bellHasBeen 9 = .ok (.getfield 78, 3) := by decide +kernel
theorem dX9_bellHasBeen_12 : decode cX9_bellHasBeen 12 = .ok (.aload_n 0, 1) := by decide +kernel
theorem dX9_bellHasBeen_13 : decode cX9_bellHasBeen 13 = .ok (.getfield 75, 3) := by decide +kernel
theorem dX9_bellHasBeen_16 : decode cX9_bellHasBeen 16 = .ok (.if_icmp .lt 7, 3) := by decide +kernel
theorem dX9_bellHasBeen_19 : decode cX9_bellHasBeen 19 = .ok (.iconst 1, 1) := by decide +kernel
theorem dX9_bellHasBeen_20 : decode cX9_bellHasBeen 20 = .ok (.goto 4, 3) := by decide +kernel
theorem dX9_bellHasBeen_23 : decode cX9_bellHasBeen 23 = .ok (.iconst 0, 1) := by decide +kernel
theorem dX9_bellHasBeen_24 : decode cX9_bellHasBeen 24 = .ok (.ireturn, 1) := by decide +kernel
theorem dX9_isAway_0 : decode cX9_isAway 0 = .ok (.aload_n 0, 1) := by decide +kernel
theorem dX9_isAway_1 : decode cX9_isAway 1 = .ok (.getfield 270, 3) := by decide +kernel
theorem dX9_isAway_4 : decode cX9_isAway 4 = .ok (.iconst 5, 1) := by decide +kernel
theorem dX9_isAway_5 : decode cX9_isAway 5 = .ok (.if_icmp .eq 21, 3) := by decide +kernel
theorem dX9_isAway_8 : decode cX9_isAway 8 = .ok (.aload_n 0, 1) := by decide +kernel
theorem dX9_isAway_9 : decode cX9_isAway 9 = .ok (.getfield 270, 3) := by decide +kernel
theorem dX9_isAway_12 : decode cX9_isAway 12 = .ok (.bipush 6, 2) := by decide +kernel
theorem dX9_isAway_14 : decode cX9_isAway 14 = .ok (.if_icmp .eq 12, 3) := by decide +kernel
theorem dX9_isAway_17 : decode cX9_isAway 17 = .ok (.aload_n 0, 1) := by decide +kernel
theorem dX9_isAway_18 : decode cX9_isAway 18 = .ok (.getfield 270, 3) := by decide +kernel
theorem dX9_isAway_21 : decode cX9_isAway 21 = .ok (.bipush 7, 2) := by decide +kernel
theorem dX9_isAway_23 : decode cX9_isAway 23 = .ok (.if_icmp .ne 7, 3) := by decide +kernel
theorem dX9_isAway_26 : decode cX9_isAway 26 = .ok (.iconst 1, 1) := by decide +kernel
theorem dX9_isAway_27 : decode cX9_isAway 27 = .ok (.goto 4, 3) := by decide +kernel
theorem dX9_isAway_30 : decode cX9_isAway 30 = .ok (.iconst 0, 1) := by decide +kernel
theorem dX9_isAway_31 : decode cX9_isAway 31 = .ok (.ireturn, 1) := by decide +kernel
theorem dX9_isInRoom_0 : decode cX9_isInRoom 0 = .ok (.aload_n 0, 1) := by decide +kernel
theorem dX9_isInRoom_1 : decode cX9_isInRoom 1 = .ok (.getfield 270, 3) := by decide +kernel
theorem dX9_isInRoom_4 : decode cX9_isInRoom 4 = .ok (.ifCond .eq 14, 3) := by decide +kernel
theorem dX9_isInRoom_7 : decode cX9_isInRoom 7 = .ok (.aload_n 0, 1) := by decide +kernel
theorem dX9_isInRoom_8 : decode cX9_isInRoom 8 = .ok (.invokestatic 131, 3) := by decide +kernel
theorem dX9_isInRoom_11 : decode cX9_isInRoom 11 = .ok (.ifCond .ne 7, 3) := by decide +kernel
theorem dX9_isInRoom_14 : decode cX9_isInRoom 14 = .ok (.iconst 1, 1) := by decide +kernel
theorem dX9_isInRoom_15 : decode cX9_isInRoom 15 = .ok (.goto 4, 3) := by decide +kernel
theorem dX9_isInRoom_18 : decode cX9_isInRoom 18 = .ok (.iconst 0, 1) := by decide +kernel
theorem dX9_isInRoom_19 : decode cX9_isInRoom 19 = .ok (.ireturn, 1) := by decide +kernel
theorem dX9_numberOf_0 : decode cX9_numberOf 0 = .ok (.aload_n 0, 1) := by decide +kernel
theorem dX9_numberOf_1 : decode cX9_numberOf 1 = .ok (.ifnonnull 7, 3) := by decide +kernel
theorem dX9_numberOf_4 : decode cX9_numberOf 4 = .ok (.iconst (-1), 1) := by decide +kernel
theorem dX9_numberOf_5 : decode cX9_numberOf 5 = .ok (.goto 7, 3) := by decide +kernel
theorem dX9_numberOf_8 : decode cX9_numberOf 8 = .ok (.aload_n 0, 1) := by decide +kernel
theorem dX9_numberOf_9 : decode cX9_numberOf 9 = .ok (.getfield 273, 3) := by decide +kernel
theorem dX9_numberOf_12 : decode cX9_numberOf 12 = .ok (.ireturn, 1) := by decide +kernel
theorem dX9_heldBy_0 : decode cX9_heldBy 0 = .ok (.iconst 0, 1) := by decide +kernel
theorem dX9_heldBy_1 : decode cX9_heldBy 1 = .ok (.istore_n 2, 1) := by decide +kernel
theorem dX9_heldBy_2 : decode cX9_heldBy 2 = .ok (.iconst 0, 1) := by decide +kernel
theorem dX9_heldBy_3 : decode cX9_heldBy 3 = .ok (.istore_n 3, 1) := by decide +kernel
theorem dX9_heldBy_4 : decode cX9_heldBy 4 = .ok (.iload_n 3, 1) := by decide +kernel
theorem dX9_heldBy_5 : decode cX9_heldBy 5 = .ok (.aload_n 0, 1) := by decide +kernel
theorem dX9_heldBy_6 : decode cX9_heldBy 6 = .ok (.getfield 88, 3) := by decide +kernel
theorem dX9_heldBy_9 : decode cX9_heldBy 9 = .ok (.if_icmp .ge 25, 3) := by decide +kernel
theorem dX9_heldBy_12 : decode cX9_heldBy 12 = .ok (.aload_n 0, 1) := by decide +kernel
theorem dX9_heldBy_13 : decode cX9_heldBy 13 = .ok (.getfield 20, 3) := by decide +kernel
theorem dX9_heldBy_16 : decode cX9_heldBy 16 = .ok (.iload_n 3, 1) := by decide +kernel
theorem dX9_heldBy_17 : decode cX9_heldBy 17 = .ok (.aaload, 1) := by decide +kernel
theorem dX9_heldBy_18 : decode cX9_heldBy 18 = .ok (.getfield 239, 3) := by decide +kernel
theorem dX9_heldBy_21 : decode cX9_heldBy 21 = .ok (.aload_n 1, 1) := by decide +kernel
theorem dX9_heldBy_22 : decode cX9_heldBy 22 = .ok (.if_acmp .ne 6, 3) := by decide +kernel
theorem dX9_heldBy_25 : decode cX9_heldBy 25 = .ok (.iinc 2 1, 3) := by decide +kernel
theorem dX9_heldBy_28 : decode cX9_heldBy 28 = .ok (.iinc 3 1, 3) := by decide +kernel
theorem dX9_heldBy_31 : decode cX9_heldBy 31 = .ok (.goto (-27), 3) := by decide +kernel
theorem dX9_heldBy_34 : decode cX9_heldBy 34 = .ok (.iload_n 2, 1) := by decide +kernel
theorem dX9_heldBy_35 : decode cX9_heldBy 35 = .ok (.ireturn, 1) := by decide +kernel
