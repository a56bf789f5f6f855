theorem ixm {tbl ws : List Cond} (ix : List Nat) (h : (ix.map fun i => tbl[i]?) = ws.map some) : ∀ w ∈ ws, w ∈ tbl := by
  intro w hw
  have h2 : some w ∈ ix.map (fun i => tbl[i]?) := by
    rw [h]
    exact List.mem_map.mpr ⟨w, hw, rfl⟩
  obtain ⟨i, _, e⟩ := List.mem_map.mp h2
  exact List.mem_of_getElem? e
theorem wi_r1 : ∀ w ∈ wsL_law0_r1, w ∈ lw_tbl := ixm [95, 96, 79, 828, 829, 90, 1221, 97, 98, 99, 100, 101, 102, 103, 343, 105, 80, 121, 344, 123, 81, 149, 345, 151] (by decide +kernel)
theorem wi_r2 : ∀ w ∈ wsL_law0_r2, w ∈ lw_tbl := ixm [82, 253, 254, 84, 346, 347, 291, 292, 87, 348, 349, 350, 306, 307, 88, 351, 329, 330, 89, 352, 356, 358, 106, 107] (by decide +kernel)
theorem wi_r3 : ∀ w ∈ wsL_law0_r3, w ∈ lw_tbl := ixm [108, 109, 110, 124, 125, 126, 127, 128, 152, 153, 154, 155, 195, 156, 157, 83, 197, 158, 159, 160, 161, 193, 162, 164] (by decide +kernel)
theorem wi_r4 : ∀ w ∈ wsL_law0_r4, w ∈ lw_tbl := ixm [166, 194, 168, 170, 255, 256, 257, 258, 259, 260, 85, 261, 262, 282, 264, 86, 284, 266, 267, 268, 293, 294, 295, 296] (by decide +kernel)
theorem wi_r5 : ∀ w ∈ wsL_law0_r5, w ∈ lw_tbl := ixm [297, 298, 308, 309, 310, 311, 312, 314, 316, 331, 332, 333, 334, 335, 830, 831, 832, 833, 839, 840, 841, 842, 843, 844] (by decide +kernel)
theorem wi_r6 : ∀ w ∈ wsL_law0_r6, w ∈ lw_tbl := ixm [845, 846, 847, 848, 849, 850, 851, 852, 853, 858, 859, 860, 861, 862, 863, 864, 865, 866, 867, 868, 869, 870, 871, 872] (by decide +kernel)
theorem wi_r7 : ∀ w ∈ wsL_law0_r7, w ∈ lw_tbl := ixm [873, 874, 875, 876, 877, 878, 879, 880, 882, 883, 884, 885, 887, 888, 889, 890, 401, 402, 403, 404, 357, 353, 112, 1009] (by decide +kernel)
theorem wi_r8 : ∀ w ∈ wsL_law0_r8, w ∈ lw_tbl := ixm [1010, 1011, 1012, 834, 838, 835, 405, 406, 407, 408, 354, 130, 131, 409, 410, 411, 1013, 1014, 1015, 1016, 836, 1017, 1018, 1019] (by decide +kernel)
theorem wi_r9 : ∀ w ∈ wsL_law0_r9, w ∈ lw_tbl := ixm [412, 413, 414, 415, 285, 1020, 1021, 1022, 1023, 416, 417, 418, 419, 355, 200, 202, 203, 420, 422, 0, 423, 1024, 1025, 1026] (by decide +kernel)
theorem wi_r10 : ∀ w ∈ wsL_law0_r10, w ∈ lw_tbl := ixm [1027, 837, 424, 425, 426, 427, 428, 430, 1, 431, 432, 434, 2, 435, 198, 436, 438, 3, 439, 440, 441, 442, 204, 443] (by decide +kernel)
theorem wi_r11 : ∀ w ∈ wsL_law0_r11, w ∈ lw_tbl := ixm [444, 445, 446, 171, 1028, 1029, 1030, 1031, 1032, 1034, 47, 1035, 1036, 1038, 48, 1039, 1040, 1042, 49, 1043, 1044, 1046, 50, 1047] (by decide +kernel)
theorem wi_r12 : ∀ w ∈ wsL_law0_r12, w ∈ lw_tbl := ixm [447, 448, 449, 450, 1048, 1049, 1050, 1051, 451, 452, 453, 454, 1052, 1053, 1054, 1055, 455, 456, 457, 458, 1056, 1057, 1058, 1059] (by decide +kernel)
theorem wi_r13 : ∀ w ∈ wsL_law0_r13, w ∈ lw_tbl := ixm [459, 460, 461, 462, 1060, 1061, 1062, 1063, 463, 464, 465, 466, 467, 469, 4, 470, 471, 472, 473, 474, 475, 476, 477, 478] (by decide +kernel)
theorem wi_r14 : ∀ w ∈ wsL_law0_r14, w ∈ lw_tbl := ixm [318, 1064, 1065, 1066, 1067, 886, 479, 480, 481, 482, 483, 485, 5, 486, 487, 489, 6, 490, 319, 313, 315, 317, 491, 493] (by decide +kernel)
theorem wi_r15 : ∀ w ∈ wsL_law0_r15, w ∈ lw_tbl := ixm [7, 494, 283, 495, 496, 497, 498, 500, 8, 501, 134, 133, 207, 113, 196, 502, 503, 504, 505, 299, 506, 508, 9, 509] (by decide +kernel)
theorem wi_r16 : ∀ w ∈ wsL_law0_r16, w ∈ lw_tbl := ixm [209, 135, 510, 511, 512, 513, 336, 514, 516, 10, 517, 270, 518, 519, 520, 521, 269, 271, 273, 522, 524, 11, 525, 526] (by decide +kernel)
theorem wi_r17 : ∀ w ∈ wsL_law0_r17, w ∈ lw_tbl := ixm [527, 528, 529, 530, 532, 12, 533, 534, 536, 13, 537, 274, 272, 538, 540, 14, 541, 129, 542, 544, 15, 545, 546, 548] (by decide +kernel)
theorem wi_r18 : ∀ w ∈ wsL_law0_r18, w ∈ lw_tbl := ixm [16, 549, 359, 217, 550, 552, 17, 553, 210, 554, 556, 18, 557, 558, 560, 19, 561, 173, 172, 165, 167, 163, 169, 562] (by decide +kernel)
theorem wi_r19 : ∀ w ∈ wsL_law0_r19, w ∈ lw_tbl := ixm [564, 20, 565, 566, 568, 21, 569, 570, 572, 22, 573, 574, 576, 23, 577, 578, 580, 24, 581, 582, 583, 584, 585, 174] (by decide +kernel)
theorem wi_r20 : ∀ w ∈ wsL_law0_r20, w ∈ lw_tbl := ixm [586, 587, 588, 589, 590, 592, 25, 593, 211, 212, 594, 596, 26, 597, 598, 600, 27, 601, 206, 602, 603, 604, 605, 606] (by decide +kernel)
theorem wi_r21 : ∀ w ∈ wsL_law0_r21, w ∈ lw_tbl := ixm [607, 608, 609, 201, 199, 610, 612, 28, 613, 614, 615, 616, 617, 618, 620, 29, 621, 622, 624, 30, 625, 626, 628, 31] (by decide +kernel)
theorem wi_r22 : ∀ w ∈ wsL_law0_r22, w ∈ lw_tbl := ixm [629, 300, 216, 111, 630, 631, 632, 633, 205, 634, 636, 32, 637, 638, 640, 33, 641, 360, 642, 644, 34, 645, 646, 647] (by decide +kernel)
theorem wi_r23 : ∀ w ∈ wsL_law0_r23, w ∈ lw_tbl := ixm [648, 649, 650, 652, 35, 653, 654, 655, 656, 657, 208, 132, 658, 660, 36, 661, 662, 664, 37, 665, 361, 674, 675, 676] (by decide +kernel)
theorem wi_r24 : ∀ w ∈ wsL_law0_r24, w ∈ lw_tbl := ixm [666, 668, 38, 669, 670, 672, 39, 673, 677, 679, 40, 680, 213, 214, 215, 1068, 1069, 1070, 1071, 1072, 1074, 51, 1075, 1076] (by decide +kernel)
theorem wi_r25 : ∀ w ∈ wsL_law0_r25, w ∈ lw_tbl := ixm [1078, 52, 1079, 1080, 1082, 53, 1083, 1084, 1086, 54, 1087, 1088, 1090, 55, 1091, 1092, 1094, 56, 1095, 1096, 1098, 57, 1099, 1100] (by decide +kernel)
theorem wi_r26 : ∀ w ∈ wsL_law0_r26, w ∈ lw_tbl := ixm [1102, 58, 1103, 881, 1104, 1106, 59, 1107, 1108, 1110, 60, 1111, 1112, 1114, 61, 1115, 856, 1116, 1118, 62, 1119, 1120, 1122, 63] (by decide +kernel)
theorem wi_r27 : ∀ w ∈ wsL_law0_r27, w ∈ lw_tbl := ixm [1123, 854, 1124, 1126, 64, 1127, 1128, 1130, 65, 1131, 1132, 1134, 66, 1135, 1136, 1138, 67, 1139, 891, 1140, 1142, 68, 1143, 1144] (by decide +kernel)
theorem wi_r28 : ∀ w ∈ wsL_law0_r28, w ∈ lw_tbl := ixm [1146, 69, 1147, 1148, 1150, 70, 1151, 1152, 1154, 71, 1155, 855, 1156, 1158, 72, 1159, 1160, 1162, 73, 1163, 1164, 1166, 74, 1167] (by decide +kernel)
theorem wi_r29 : ∀ w ∈ wsL_law0_r29, w ∈ lw_tbl := ixm [857, 1172, 1168, 1170, 75, 1171, 681, 682, 683, 684, 175, 1173, 1174, 1175, 1176, 685, 686, 687, 688, 1177, 1178, 1179, 1180, 689] (by decide +kernel)
theorem wi_r30 : ∀ w ∈ wsL_law0_r30, w ∈ lw_tbl := ixm [690, 691, 692, 693, 694, 695, 696, 1181, 1182, 1183, 1184, 697, 698, 699, 700, 1185, 1186, 1187, 1188, 701, 702, 703, 704, 705] (by decide +kernel)
theorem wi_r31 : ∀ w ∈ wsL_law0_r31, w ∈ lw_tbl := ixm [706, 707, 1189, 1190, 1191, 1192, 708, 709, 710, 711, 1193, 1194, 1195, 1196, 712, 713, 714, 715, 1197, 1198, 1199, 1200, 716, 717] (by decide +kernel)
theorem wi_r32 : ∀ w ∈ wsL_law0_r32, w ∈ lw_tbl := ixm [718, 719, 720, 722, 41, 723, 724, 726, 42, 727, 1201, 1202, 1203, 1204, 745, 746, 78, 747, 748, 749, 750, 751, 752, 757] (by decide +kernel)
theorem wi_r33 : ∀ w ∈ wsL_law0_r33, w ∈ lw_tbl := ixm [94, 753, 754, 755, 756, 823, 824, 825, 826, 827, 1205, 1206, 1207, 1208, 728, 729, 730, 731, 337, 732, 734, 43, 735, 736] (by decide +kernel)
theorem wi_r34 : ∀ w ∈ wsL_law0_r34, w ∈ lw_tbl := ixm [738, 44, 739, 740, 742, 45, 743, 744, 1209, 1210, 1211, 1212, 1213, 1215, 76, 1216, 1217, 1219, 77, 1220] (by decide +kernel)
theorem wi_wsX90 : ∀ w ∈ wsX90, w ∈ lw_tbl := by decide +kernel
theorem wi_wsX100 : ∀ w ∈ wsX100, w ∈ lw_tbl := by decide +kernel
theorem wi_wsX10 : ∀ w ∈ wsX10, w ∈ lw_tbl := by decide +kernel
theorem wi_wsX00 : ∀ w ∈ wsX00, w ∈ lw_tbl := by decide +kernel
theorem wi_wsX60 : ∀ w ∈ wsX60, w ∈ lw_tbl := by decide +kernel
theorem wi_wsX70 : ∀ w ∈ wsX70, w ∈ lw_tbl := by decide +kernel
theorem wi_wsX30 : ∀ w ∈ wsX30, w ∈ lw_tbl := by decide +kernel
theorem wi_wsX40 : ∀ w ∈ wsX40, w ∈ lw_tbl := by decide +kernel
theorem wi_wsX20 : ∀ w ∈ wsX20, w ∈ lw_tbl := by decide +kernel
theorem wi_wsX50 : ∀ w ∈ wsX50, w ∈ lw_tbl := by decide +kernel
theorem wi_wsX80 : ∀ w ∈ wsX80, w ∈ lw_tbl := by decide +kernel
