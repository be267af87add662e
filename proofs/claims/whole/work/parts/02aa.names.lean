set_option maxRecDepth 20000 in
theorem in_wsL_law0_r1 : ∀ w ∈ wsL_law0_r1, w ∈ lw_tbl := fun w h => (goodIn_r (big := lw_tbl) wsL_law0_r1 [61, 62, 45, 886, 887, 51, 1241, 1240, 63, 64, 65, 66, 67, 68, 69, 70, 46, 196, 83, 84, 47, 197, 198, 134] (by decide +kernel) (by decide +kernel) w h).1
set_option maxRecDepth 20000 in
theorem in_wsL_law0_r2 : ∀ w ∈ wsL_law0_r2, w ∈ lw_tbl := fun w h => (goodIn_r (big := lw_tbl) wsL_law0_r2 [135, 48, 199, 154, 155, 49, 200, 179, 180, 50, 201, 202, 72, 73, 74, 82, 75, 86, 87, 88, 133, 89, 94, 105] (by decide +kernel) (by decide +kernel) w h).1
set_option maxRecDepth 20000 in
theorem in_wsL_law0_r3 : ∀ w ∈ wsL_law0_r3, w ∈ lw_tbl := fun w h => (goodIn_r (big := lw_tbl) wsL_law0_r3 [109, 136, 137, 138, 139, 140, 143, 157, 158, 159, 160, 161, 182, 183, 184, 185, 187, 888, 889, 890, 891, 893, 894, 895] (by decide +kernel) (by decide +kernel) w h).1
set_option maxRecDepth 20000 in
theorem in_wsL_law0_r4 : ∀ w ∈ wsL_law0_r4, w ∈ lw_tbl := fun w h => (goodIn_r (big := lw_tbl) wsL_law0_r4 [897, 920, 898, 474, 899, 398, 399, 44, 400, 401, 402, 403, 404, 405, 406, 407, 55, 479, 56, 475, 476, 477, 478, 76] (by decide +kernel) (by decide +kernel) w h).1
set_option maxRecDepth 20000 in
theorem in_wsL_law0_r5 : ∀ w ∈ wsL_law0_r5, w ∈ lw_tbl := fun w h => (goodIn_r (big := lw_tbl) wsL_law0_r5 [495, 496, 497, 498, 925, 926, 927, 928, 929, 900, 930, 931, 932, 933, 935, 17, 936, 892, 921, 922, 923, 924, 218, 219] (by decide +kernel) (by decide +kernel) w h).1
set_option maxRecDepth 20000 in
theorem in_wsL_law0_r6 : ∀ w ∈ wsL_law0_r6, w ∈ lw_tbl := fun w h => (goodIn_r (big := lw_tbl) wsL_law0_r6 [220, 221, 222, 223, 224, 225, 937, 938, 939, 940, 226, 227, 228, 229, 230, 231, 232, 233, 234, 236, 0, 237, 238, 240] (by decide +kernel) (by decide +kernel) w h).1
set_option maxRecDepth 20000 in
theorem in_wsL_law0_r7 : ∀ w ∈ wsL_law0_r7, w ∈ lw_tbl := fun w h => (goodIn_r (big := lw_tbl) wsL_law0_r7 [1, 241, 242, 244, 2, 245, 246, 247, 248, 249, 941, 942, 943, 944, 945, 947, 18, 948, 949, 950, 499, 500, 501, 502] (by decide +kernel) (by decide +kernel) w h).1
set_option maxRecDepth 20000 in
theorem in_wsL_law0_r8 : ∀ w ∈ wsL_law0_r8, w ∈ lw_tbl := fun w h => (goodIn_r (big := lw_tbl) wsL_law0_r8 [503, 504, 505, 507, 508, 509, 510, 511, 512, 57, 513, 951, 952, 953, 954, 514, 515, 516, 517, 518, 519, 520, 521, 282] (by decide +kernel) (by decide +kernel) w h).1
set_option maxRecDepth 20000 in
theorem in_wsL_law0_r9 : ∀ w ∈ wsL_law0_r9, w ∈ lw_tbl := fun w h => (goodIn_r (big := lw_tbl) wsL_law0_r9 [283, 284, 90, 955, 956, 957, 958, 959, 960, 961, 962, 523, 524, 525, 526, 527, 528, 529, 530, 531, 532, 533, 534, 535] (by decide +kernel) (by decide +kernel) w h).1
set_option maxRecDepth 20000 in
theorem in_wsL_law0_r10 : ∀ w ∈ wsL_law0_r10, w ∈ lw_tbl := fun w h => (goodIn_r (big := lw_tbl) wsL_law0_r10 [536, 537, 58, 553, 554, 555, 557, 558, 559, 560, 315, 316, 317, 318, 319, 320, 321, 561, 563, 7, 564, 565, 567, 8] (by decide +kernel) (by decide +kernel) w h).1
set_option maxRecDepth 20000 in
theorem in_wsL_law0_r11 : ∀ w ∈ wsL_law0_r11, w ∈ lw_tbl := fun w h => (goodIn_r (big := lw_tbl) wsL_law0_r11 [568, 569, 570, 571, 296, 297, 298, 299, 572, 573, 574, 963, 964, 965, 966, 967, 968, 969, 970, 971, 973, 19, 974, 975] (by decide +kernel) (by decide +kernel) w h).1
set_option maxRecDepth 20000 in
theorem in_wsL_law0_r12 : ∀ w ∈ wsL_law0_r12, w ∈ lw_tbl := fun w h => (goodIn_r (big := lw_tbl) wsL_law0_r12 [976, 977, 978, 979, 980, 981, 982, 983, 984, 985, 986, 987, 988, 989, 990, 991, 992, 575, 576, 577, 578, 579, 580, 581] (by decide +kernel) (by decide +kernel) w h).1
set_option maxRecDepth 20000 in
theorem in_wsL_law0_r13 : ∀ w ∈ wsL_law0_r13, w ∈ lw_tbl := fun w h => (goodIn_r (big := lw_tbl) wsL_law0_r13 [582, 286, 287, 288, 107, 993, 994, 995, 996, 250, 251, 252, 253, 997, 998, 999, 1000, 583, 584, 585, 586, 587, 588, 589] (by decide +kernel) (by decide +kernel) w h).1
set_option maxRecDepth 20000 in
theorem in_wsL_law0_r14 : ∀ w ∈ wsL_law0_r14, w ∈ lw_tbl := fun w h => (goodIn_r (big := lw_tbl) wsL_law0_r14 [590, 591, 592, 594, 312, 313, 314, 1001, 1002, 1003, 1004, 1005, 1006, 1007, 1008, 1009, 1011, 20, 1012, 595, 596, 597, 598, 599] (by decide +kernel) (by decide +kernel) w h).1
set_option maxRecDepth 20000 in
theorem in_wsL_law0_r15 : ∀ w ∈ wsL_law0_r15, w ∈ lw_tbl := fun w h => (goodIn_r (big := lw_tbl) wsL_law0_r15 [600, 601, 602, 603, 604, 605, 611, 346, 59, 347, 606, 607, 608, 609, 610, 290, 291, 292, 293, 294, 295, 301, 302, 303] (by decide +kernel) (by decide +kernel) w h).1
set_option maxRecDepth 20000 in
theorem in_wsL_law0_r16 : ∀ w ∈ wsL_law0_r16, w ∈ lw_tbl := fun w h => (goodIn_r (big := lw_tbl) wsL_law0_r16 [304, 305, 306, 307, 308, 309, 310, 311, 612, 1013, 1014, 1015, 1016, 1017, 1019, 21, 1020, 1021, 1023, 22, 1024, 1025, 1026, 1027] (by decide +kernel) (by decide +kernel) w h).1
set_option maxRecDepth 20000 in
theorem in_wsL_law0_r17 : ∀ w ∈ wsL_law0_r17, w ∈ lw_tbl := fun w h => (goodIn_r (big := lw_tbl) wsL_law0_r17 [1028, 1030, 23, 1031, 1032, 1033, 1034, 1035, 1036, 1037, 613, 614, 615, 616, 617, 618, 619, 620, 621, 622, 623, 1038, 1039, 1040] (by decide +kernel) (by decide +kernel) w h).1
set_option maxRecDepth 20000 in
theorem in_wsL_law0_r18 : ∀ w ∈ wsL_law0_r18, w ∈ lw_tbl := fun w h => (goodIn_r (big := lw_tbl) wsL_law0_r18 [1041, 624, 625, 626, 627, 628, 629, 630, 631, 1042, 1043, 1044, 1045, 632, 633, 634, 635, 636, 637, 638, 1046, 1047, 1048, 1049] (by decide +kernel) (by decide +kernel) w h).1
set_option maxRecDepth 20000 in
theorem in_wsL_law0_r19 : ∀ w ∈ wsL_law0_r19, w ∈ lw_tbl := fun w h => (goodIn_r (big := lw_tbl) wsL_law0_r19 [639, 640, 641, 642, 643, 644, 645, 646, 647, 648, 649, 650, 651, 653, 654, 655, 1050, 1051, 1052, 1053, 1054, 1055, 1056, 1057] (by decide +kernel) (by decide +kernel) w h).1
set_option maxRecDepth 20000 in
theorem in_wsL_law0_r20 : ∀ w ∈ wsL_law0_r20, w ∈ lw_tbl := fun w h => (goodIn_r (big := lw_tbl) wsL_law0_r20 [1058, 1059, 1060, 656, 657, 658, 659, 660, 661, 662, 663, 665, 9, 666, 667, 668, 669, 670, 671, 672, 673, 674, 323, 324] (by decide +kernel) (by decide +kernel) w h).1
set_option maxRecDepth 20000 in
theorem in_wsL_law0_r21 : ∀ w ∈ wsL_law0_r21, w ∈ lw_tbl := fun w h => (goodIn_r (big := lw_tbl) wsL_law0_r21 [325, 326, 327, 328, 675, 676, 678, 10, 679, 1061, 1062, 1063, 1064, 1065, 1067, 24, 1068, 1069, 1070, 1071, 680, 681, 682, 683] (by decide +kernel) (by decide +kernel) w h).1
set_option maxRecDepth 20000 in
theorem in_wsL_law0_r22 : ∀ w ∈ wsL_law0_r22, w ∈ lw_tbl := fun w h => (goodIn_r (big := lw_tbl) wsL_law0_r22 [684, 685, 686, 687, 688, 689, 691, 692, 693, 694, 695, 697, 11, 698, 258, 259, 260, 261, 145, 144, 262, 264, 3, 265] (by decide +kernel) (by decide +kernel) w h).1
set_option maxRecDepth 20000 in
theorem in_wsL_law0_r23 : ∀ w ∈ wsL_law0_r23, w ∈ lw_tbl := fun w h => (goodIn_r (big := lw_tbl) wsL_law0_r23 [266, 267, 268, 269, 97, 99, 101, 103, 270, 271, 272, 700, 701, 702, 703, 704, 706, 12, 707, 360, 361, 60, 362, 363] (by decide +kernel) (by decide +kernel) w h).1
set_option maxRecDepth 20000 in
theorem in_wsL_law0_r24 : ∀ w ∈ wsL_law0_r24, w ∈ lw_tbl := fun w h => (goodIn_r (big := lw_tbl) wsL_law0_r24 [364, 365, 1072, 1073, 1074, 1075, 1076, 1078, 25, 1079, 1080, 1081, 1083, 26, 1084, 1085, 1087, 27, 1088, 896, 1089, 1091, 28, 1092] (by decide +kernel) (by decide +kernel) w h).1
set_option maxRecDepth 20000 in
theorem in_wsL_law0_r25 : ∀ w ∈ wsL_law0_r25, w ∈ lw_tbl := fun w h => (goodIn_r (big := lw_tbl) wsL_law0_r25 [1093, 1095, 29, 1096, 1097, 1098, 1099, 708, 709, 710, 711, 712, 713, 714, 716, 717, 718, 719, 720, 721, 722, 723, 1100, 1101] (by decide +kernel) (by decide +kernel) w h).1
set_option maxRecDepth 20000 in
theorem in_wsL_law0_r26 : ∀ w ∈ wsL_law0_r26, w ∈ lw_tbl := fun w h => (goodIn_r (big := lw_tbl) wsL_law0_r26 [1102, 1103, 724, 725, 726, 727, 728, 729, 730, 731, 732, 733, 734, 1104, 1105, 1106, 1107, 1108, 1110, 30, 1111, 735, 736, 737] (by decide +kernel) (by decide +kernel) w h).1
set_option maxRecDepth 20000 in
theorem in_wsL_law0_r27 : ∀ w ∈ wsL_law0_r27, w ∈ lw_tbl := fun w h => (goodIn_r (big := lw_tbl) wsL_law0_r27 [738, 739, 740, 741, 742, 743, 744, 745, 746, 747, 749, 13, 750, 1112, 1113, 1114, 1115, 1116, 1118, 31, 1119, 751, 752, 753] (by decide +kernel) (by decide +kernel) w h).1
set_option maxRecDepth 20000 in
theorem in_wsL_law0_r28 : ∀ w ∈ wsL_law0_r28, w ∈ lw_tbl := fun w h => (goodIn_r (big := lw_tbl) wsL_law0_r28 [754, 755, 756, 757, 758, 760, 349, 350, 351, 1120, 1121, 1122, 1123, 1124, 1126, 32, 1127, 761, 762, 763, 764, 765, 766, 767] (by decide +kernel) (by decide +kernel) w h).1
set_option maxRecDepth 20000 in
theorem in_wsL_law0_r29 : ∀ w ∈ wsL_law0_r29, w ∈ lw_tbl := fun w h => (goodIn_r (big := lw_tbl) wsL_law0_r29 [769, 357, 358, 359, 1128, 1129, 1130, 1131, 1132, 1134, 33, 1135, 254, 255, 256, 257, 273, 274, 275, 276, 277, 278, 279, 280] (by decide +kernel) (by decide +kernel) w h).1
set_option maxRecDepth 20000 in
theorem in_wsL_law0_r30 : ∀ w ∈ wsL_law0_r30, w ∈ lw_tbl := fun w h => (goodIn_r (big := lw_tbl) wsL_law0_r30 [162, 163, 164, 165, 281, 285, 289, 322, 329, 330, 331, 332, 333, 334, 335, 336, 337, 338, 339, 340, 345, 341, 343, 4] (by decide +kernel) (by decide +kernel) w h).1
set_option maxRecDepth 20000 in
theorem in_wsL_law0_r31 : ∀ w ∈ wsL_law0_r31, w ∈ lw_tbl := fun w h => (goodIn_r (big := lw_tbl) wsL_law0_r31 [344, 348, 352, 353, 354, 355, 356, 1136, 1137, 1138, 1139, 1140, 1142, 34, 1143, 1144, 1146, 35, 1147, 1148, 1150, 36, 1151, 1152] (by decide +kernel) (by decide +kernel) w h).1
set_option maxRecDepth 20000 in
theorem in_wsL_law0_r32 : ∀ w ∈ wsL_law0_r32, w ∈ lw_tbl := fun w h => (goodIn_r (big := lw_tbl) wsL_law0_r32 [1154, 37, 1155, 1156, 1158, 38, 1159, 770, 771, 772, 773, 774, 775, 776, 1160, 1161, 1162, 1163, 1164, 778, 779, 780, 781, 782] (by decide +kernel) (by decide +kernel) w h).1
set_option maxRecDepth 20000 in
theorem in_wsL_law0_r33 : ∀ w ∈ wsL_law0_r33, w ∈ lw_tbl := fun w h => (goodIn_r (big := lw_tbl) wsL_law0_r33 [783, 784, 786, 787, 788, 789, 1165, 1166, 1167, 1168, 790, 791, 792, 793, 794, 795, 796, 370, 797, 1169, 1170, 1171, 1172, 366] (by decide +kernel) (by decide +kernel) w h).1
set_option maxRecDepth 20000 in
theorem in_wsL_law0_r34 : ∀ w ∈ wsL_law0_r34, w ∈ lw_tbl := fun w h => (goodIn_r (big := lw_tbl) wsL_law0_r34 [367, 368, 369, 371, 1173, 1174, 1175, 1176, 372, 373, 374, 375, 376, 1177, 1178, 1179, 1180, 377, 378, 379, 380, 381, 382, 383] (by decide +kernel) (by decide +kernel) w h).1
set_option maxRecDepth 20000 in
theorem in_wsL_law0_r35 : ∀ w ∈ wsL_law0_r35, w ∈ lw_tbl := fun w h => (goodIn_r (big := lw_tbl) wsL_law0_r35 [384, 385, 386, 388, 5, 389, 1181, 1182, 1183, 1184, 1185, 1187, 39, 1188, 798, 799, 800, 801, 802, 803, 804, 806, 1189, 1190] (by decide +kernel) (by decide +kernel) w h).1
set_option maxRecDepth 20000 in
theorem in_wsL_law0_r36 : ∀ w ∈ wsL_law0_r36, w ∈ lw_tbl := fun w h => (goodIn_r (big := lw_tbl) wsL_law0_r36 [1191, 1192, 1193, 390, 391, 392, 393, 394, 395, 396, 397, 1194, 1195, 1196, 1197, 807, 808, 809, 810, 811, 812, 813, 815, 816] (by decide +kernel) (by decide +kernel) w h).1
set_option maxRecDepth 20000 in
theorem in_wsL_law0_r37 : ∀ w ∈ wsL_law0_r37, w ∈ lw_tbl := fun w h => (goodIn_r (big := lw_tbl) wsL_law0_r37 [817, 818, 820, 821, 822, 823, 824, 826, 14, 827, 828, 829, 830, 831, 832, 833, 834, 835, 836, 1198, 1199, 1200, 1201, 1202] (by decide +kernel) (by decide +kernel) w h).1
set_option maxRecDepth 20000 in
theorem in_wsL_law0_r38 : ∀ w ∈ wsL_law0_r38, w ∈ lw_tbl := fun w h => (goodIn_r (big := lw_tbl) wsL_law0_r38 [1203, 1204, 1205, 1210, 1206, 1208, 40, 1209, 1211, 1213, 41, 1214, 1215, 1217, 42, 1218, 837, 838, 839, 840, 841, 842, 843, 845] (by decide +kernel) (by decide +kernel) w h).1
set_option maxRecDepth 20000 in
theorem in_wsL_law0_r39 : ∀ w ∈ wsL_law0_r39, w ∈ lw_tbl := fun w h => (goodIn_r (big := lw_tbl) wsL_law0_r39 [846, 851, 847, 849, 15, 850, 852, 853, 1219, 1220, 1221, 1222, 1223, 1224, 1225, 1227, 43, 1228, 1229, 1230, 1231, 854, 855, 856] (by decide +kernel) (by decide +kernel) w h).1
set_option maxRecDepth 20000 in
theorem in_wsL_law0_r40 : ∀ w ∈ wsL_law0_r40, w ∈ lw_tbl := fun w h => (goodIn_r (big := lw_tbl) wsL_law0_r40 [857, 858, 859, 860, 861, 862, 863, 865, 867, 16, 868, 869, 870, 871, 872, 189, 873, 1232, 1233, 1234, 1235, 874, 875, 876] (by decide +kernel) (by decide +kernel) w h).1
set_option maxRecDepth 20000 in
theorem in_wsL_law0_r41 : ∀ w ∈ wsL_law0_r41, w ∈ lw_tbl := fun w h => (goodIn_r (big := lw_tbl) wsL_law0_r41 [877, 878, 879, 880, 882, 883, 884, 885, 1236, 1237, 1238, 1239] (by decide +kernel) (by decide +kernel) w h).1
theorem in_wsX60 : ∀ w ∈ wsX60, w ∈ lw_tbl := by decide +kernel
theorem in_wsX70 : ∀ w ∈ wsX70, w ∈ lw_tbl := by decide +kernel
theorem in_wsX50 : ∀ w ∈ wsX50, w ∈ lw_tbl := by decide +kernel
theorem in_wsX40 : ∀ w ∈ wsX40, w ∈ lw_tbl := by decide +kernel
theorem in_wsX10 : ∀ w ∈ wsX10, w ∈ lw_tbl := by decide +kernel
theorem in_wsX00 : ∀ w ∈ wsX00, w ∈ lw_tbl := by decide +kernel
theorem in_wsX30 : ∀ w ∈ wsX30, w ∈ lw_tbl := by decide +kernel
theorem wsL_law_in0 : ∀ w ∈ wsL_law0, w ∈ lw_tbl := by
  show ∀ w ∈ (wsL_law0_r1 ++ (wsL_law0_r2 ++ (wsL_law0_r3 ++ (wsL_law0_r4 ++ (wsL_law0_r5 ++ (wsL_law0_r6 ++ (wsL_law0_r7 ++ (wsL_law0_r8 ++ (wsL_law0_r9 ++ (wsL_law0_r10 ++ (wsL_law0_r11 ++ (wsL_law0_r12 ++ (wsL_law0_r13 ++ (wsL_law0_r14 ++ (wsL_law0_r15 ++ (wsL_law0_r16 ++ (wsL_law0_r17 ++ (wsL_law0_r18 ++ (wsL_law0_r19 ++ (wsL_law0_r20 ++ (wsL_law0_r21 ++ (wsL_law0_r22 ++ (wsL_law0_r23 ++ (wsL_law0_r24 ++ (wsL_law0_r25 ++ (wsL_law0_r26 ++ (wsL_law0_r27 ++ (wsL_law0_r28 ++ (wsL_law0_r29 ++ (wsL_law0_r30 ++ (wsL_law0_r31 ++ (wsL_law0_r32 ++ (wsL_law0_r33 ++ (wsL_law0_r34 ++ (wsL_law0_r35 ++ (wsL_law0_r36 ++ (wsL_law0_r37 ++ (wsL_law0_r38 ++ (wsL_law0_r39 ++ (wsL_law0_r40 ++ wsL_law0_r41)))))))))))))))))))))))))))))))))))))))) ++ wsX60 ++ wsX70 ++ wsX50 ++ wsX40 ++ wsX10 ++ wsX00 ++ wsX30 ++ ([] : List Cond), w ∈ lw_tbl
  exact List.forall_mem_append.mpr ⟨List.forall_mem_append.mpr ⟨List.forall_mem_append.mpr ⟨List.forall_mem_append.mpr ⟨List.forall_mem_append.mpr ⟨List.forall_mem_append.mpr ⟨List.forall_mem_append.mpr ⟨List.forall_mem_append.mpr ⟨List.forall_mem_append.mpr ⟨in_wsL_law0_r1, List.forall_mem_append.mpr ⟨in_wsL_law0_r2, List.forall_mem_append.mpr ⟨in_wsL_law0_r3, List.forall_mem_append.mpr ⟨in_wsL_law0_r4, List.forall_mem_append.mpr ⟨in_wsL_law0_r5, List.forall_mem_append.mpr ⟨in_wsL_law0_r6, List.forall_mem_append.mpr ⟨in_wsL_law0_r7, List.forall_mem_append.mpr ⟨in_wsL_law0_r8, List.forall_mem_append.mpr ⟨in_wsL_law0_r9, List.forall_mem_append.mpr ⟨in_wsL_law0_r10, List.forall_mem_append.mpr ⟨in_wsL_law0_r11, List.forall_mem_append.mpr ⟨in_wsL_law0_r12, List.forall_mem_append.mpr ⟨in_wsL_law0_r13, List.forall_mem_append.mpr ⟨in_wsL_law0_r14, List.forall_mem_append.mpr ⟨in_wsL_law0_r15, List.forall_mem_append.mpr ⟨in_wsL_law0_r16, List.forall_mem_append.mpr ⟨in_wsL_law0_r17, List.forall_mem_append.mpr ⟨in_wsL_law0_r18, List.forall_mem_append.mpr ⟨in_wsL_law0_r19, List.forall_mem_append.mpr ⟨in_wsL_law0_r20, List.forall_mem_append.mpr ⟨in_wsL_law0_r21, List.forall_mem_append.mpr ⟨in_wsL_law0_r22, List.forall_mem_append.mpr ⟨in_wsL_law0_r23, List.forall_mem_append.mpr ⟨in_wsL_law0_r24, List.forall_mem_append.mpr ⟨in_wsL_law0_r25, List.forall_mem_append.mpr ⟨in_wsL_law0_r26, List.forall_mem_append.mpr ⟨in_wsL_law0_r27, List.forall_mem_append.mpr ⟨in_wsL_law0_r28, List.forall_mem_append.mpr ⟨in_wsL_law0_r29, List.forall_mem_append.mpr ⟨in_wsL_law0_r30, List.forall_mem_append.mpr ⟨in_wsL_law0_r31, List.forall_mem_append.mpr ⟨in_wsL_law0_r32, List.forall_mem_append.mpr ⟨in_wsL_law0_r33, List.forall_mem_append.mpr ⟨in_wsL_law0_r34, List.forall_mem_append.mpr ⟨in_wsL_law0_r35, List.forall_mem_append.mpr ⟨in_wsL_law0_r36, List.forall_mem_append.mpr ⟨in_wsL_law0_r37, List.forall_mem_append.mpr ⟨in_wsL_law0_r38, List.forall_mem_append.mpr ⟨in_wsL_law0_r39, List.forall_mem_append.mpr ⟨in_wsL_law0_r40, in_wsL_law0_r41⟩⟩⟩⟩⟩⟩⟩⟩⟩⟩⟩⟩⟩⟩⟩⟩⟩⟩⟩⟩⟩⟩⟩⟩⟩⟩⟩⟩⟩⟩⟩⟩⟩⟩⟩⟩⟩⟩⟩⟩, in_wsX60⟩, in_wsX70⟩, in_wsX50⟩, in_wsX40⟩, in_wsX10⟩, in_wsX00⟩, in_wsX30⟩, fun _ h => absurd h List.not_mem_nil⟩
