set_option maxRecDepth 20000 in
theorem zin_wsL_law_r1 : ∀ w ∈ wsL_law_r1, w ∈ lw_tbl := fun w h => (goodIn_r wsL_law_r1 [79, 80, 69, 748, 749, 75, 81, 82, 83, 84, 85, 86, 87, 88, 70, 197, 198, 199, 138, 139, 71, 200, 151, 152] (by decide +kernel) (by decide +kernel) w h).1
set_option maxRecDepth 20000 in
theorem zin_wsL_law_r2 : ∀ w ∈ wsL_law_r2, w ∈ lw_tbl := fun w h => (goodIn_r wsL_law_r2 [72, 201, 161, 162, 73, 202, 181, 182, 74, 203, 137, 204, 205, 89, 90, 91, 92, 93, 96, 99, 102, 107, 111, 112] (by decide +kernel) (by decide +kernel) w h).1
set_option maxRecDepth 20000 in
theorem zin_wsL_law_r3 : ∀ w ∈ wsL_law_r3, w ∈ lw_tbl := fun w h => (goodIn_r wsL_law_r3 [117, 140, 141, 142, 143, 144, 145, 153, 154, 155, 156, 157, 163, 164, 165, 166, 167, 170, 168, 169, 183, 184, 185, 186] (by decide +kernel) (by decide +kernel) w h).1
set_option maxRecDepth 20000 in
theorem zin_wsL_law_r4 : ∀ w ∈ wsL_law_r4, w ∈ lw_tbl := fun w h => (goodIn_r wsL_law_r4 [187, 189, 750, 751, 752, 753, 754, 755, 756, 757, 758, 759, 763, 764, 765, 766, 770, 774, 775, 776, 760, 225, 226, 227] (by decide +kernel) (by decide +kernel) w h).1
set_option maxRecDepth 20000 in
theorem zin_wsL_law_r5 : ∀ w ∈ wsL_law_r5, w ∈ lw_tbl := fun w h => (goodIn_r wsL_law_r5 [228, 229, 230, 231, 232, 233, 234, 235, 236, 238, 0, 239, 240, 241, 242, 243, 244, 830, 831, 832, 833, 767, 834, 835] (by decide +kernel) (by decide +kernel) w h).1
set_option maxRecDepth 20000 in
theorem zin_wsL_law_r6 : ∀ w ∈ wsL_law_r6, w ∈ lw_tbl := fun w h => (goodIn_r wsL_law_r6 [836, 837, 839, 22, 840, 245, 246, 247, 248, 249, 250, 251, 252, 375, 338, 77, 339, 253, 255, 1, 256, 257, 258, 259] (by decide +kernel) (by decide +kernel) w h).1
set_option maxRecDepth 20000 in
theorem zin_wsL_law_r7 : ∀ w ∈ wsL_law_r7, w ∈ lw_tbl := fun w h => (goodIn_r wsL_law_r7 [260, 261, 262, 263, 264, 265, 266, 267, 268, 269, 270, 272, 271, 76, 273, 275, 2, 276, 119, 277, 279, 3, 280, 281] (by decide +kernel) (by decide +kernel) w h).1
set_option maxRecDepth 20000 in
theorem zin_wsL_law_r8 : ∀ w ∈ wsL_law_r8, w ∈ lw_tbl := fun w h => (goodIn_r wsL_law_r8 [283, 4, 284, 285, 287, 5, 288, 289, 291, 6, 292, 293, 294, 295, 296, 297, 298, 299, 300, 301, 302, 304, 7, 305] (by decide +kernel) (by decide +kernel) w h).1
set_option maxRecDepth 20000 in
theorem zin_wsL_law_r9 : ∀ w ∈ wsL_law_r9, w ∈ lw_tbl := fun w h => (goodIn_r wsL_law_r9 [95, 306, 308, 8, 309, 115, 110, 310, 312, 9, 313, 106, 314, 315, 316, 317, 318, 319, 320, 321, 322, 323, 324, 325] (by decide +kernel) (by decide +kernel) w h).1
set_option maxRecDepth 20000 in
theorem zin_wsL_law_r10 : ∀ w ∈ wsL_law_r10, w ∈ lw_tbl := fun w h => (goodIn_r wsL_law_r10 [326, 327, 328, 329, 337, 347, 348, 349, 331, 332, 333, 334, 335, 336, 340, 341, 78, 342, 343, 345, 10, 346, 350, 352] (by decide +kernel) (by decide +kernel) w h).1
set_option maxRecDepth 20000 in
theorem zin_wsL_law_r11 : ∀ w ∈ wsL_law_r11, w ∈ lw_tbl := fun w h => (goodIn_r wsL_law_r11 [11, 353, 354, 356, 12, 357, 358, 359, 360, 361, 362, 363, 364, 365, 366, 367, 368, 369, 370, 371, 372, 373, 374, 376] (by decide +kernel) (by decide +kernel) w h).1
set_option maxRecDepth 20000 in
theorem zin_wsL_law_r12 : ∀ w ∈ wsL_law_r12, w ∈ lw_tbl := fun w h => (goodIn_r wsL_law_r12 [377, 378, 379, 841, 842, 843, 844, 768, 769, 845, 847, 23, 848, 849, 851, 24, 852, 853, 855, 25, 856, 857, 859, 26] (by decide +kernel) (by decide +kernel) w h).1
set_option maxRecDepth 20000 in
theorem zin_wsL_law_r13 : ∀ w ∈ wsL_law_r13, w ∈ lw_tbl := fun w h => (goodIn_r wsL_law_r13 [860, 861, 862, 863, 864, 866, 27, 867, 868, 869, 870, 871, 873, 28, 874, 773, 772, 761, 875, 877, 29, 878, 879, 881] (by decide +kernel) (by decide +kernel) w h).1
set_option maxRecDepth 20000 in
theorem zin_wsL_law_r14 : ∀ w ∈ wsL_law_r14, w ∈ lw_tbl := fun w h => (goodIn_r wsL_law_r14 [30, 882, 883, 885, 31, 886, 887, 888, 889, 890, 892, 32, 893, 894, 896, 33, 897, 898, 900, 34, 901, 902, 904, 35] (by decide +kernel) (by decide +kernel) w h).1
set_option maxRecDepth 20000 in
theorem zin_wsL_law_r15 : ∀ w ∈ wsL_law_r15, w ∈ lw_tbl := fun w h => (goodIn_r wsL_law_r15 [905, 906, 908, 36, 909, 910, 912, 37, 913, 914, 916, 38, 917, 918, 920, 39, 921, 762, 922, 923, 924, 925, 927, 40] (by decide +kernel) (by decide +kernel) w h).1
set_option maxRecDepth 20000 in
theorem zin_wsL_law_r16 : ∀ w ∈ wsL_law_r16, w ∈ lw_tbl := fun w h => (goodIn_r wsL_law_r16 [928, 929, 930, 931, 932, 933, 934, 935, 937, 41, 938, 939, 941, 42, 942, 943, 945, 43, 946, 947, 949, 44, 950, 951] (by decide +kernel) (by decide +kernel) w h).1
set_option maxRecDepth 20000 in
theorem zin_wsL_law_r17 : ∀ w ∈ wsL_law_r17, w ∈ lw_tbl := fun w h => (goodIn_r wsL_law_r17 [953, 45, 954, 955, 957, 46, 958, 959, 960, 961, 962, 964, 47, 965, 966, 967, 968, 380, 381, 382, 383, 94, 384, 385] (by decide +kernel) (by decide +kernel) w h).1
set_option maxRecDepth 20000 in
theorem zin_wsL_law_r18 : ∀ w ∈ wsL_law_r18, w ∈ lw_tbl := fun w h => (goodIn_r wsL_law_r18 [386, 977, 978, 979, 980, 387, 388, 389, 390, 97, 100, 104, 108, 391, 393, 13, 394, 116, 395, 396, 397, 398, 399, 400] (by decide +kernel) (by decide +kernel) w h).1
set_option maxRecDepth 20000 in
theorem zin_wsL_law_r19 : ∀ w ∈ wsL_law_r19, w ∈ lw_tbl := fun w h => (goodIn_r wsL_law_r19 [401, 402, 403, 404, 405, 406, 407, 408, 981, 982, 983, 984, 409, 410, 411, 412, 985, 986, 987, 988, 413, 414, 415, 416] (by decide +kernel) (by decide +kernel) w h).1
set_option maxRecDepth 20000 in
theorem zin_wsL_law_r20 : ∀ w ∈ wsL_law_r20, w ∈ lw_tbl := fun w h => (goodIn_r wsL_law_r20 [989, 990, 991, 992, 417, 418, 419, 420, 993, 994, 995, 996, 421, 422, 423, 424, 997, 998, 999, 1000, 425, 426, 427, 428] (by decide +kernel) (by decide +kernel) w h).1
set_option maxRecDepth 20000 in
theorem zin_wsL_law_r21 : ∀ w ∈ wsL_law_r21, w ∈ lw_tbl := fun w h => (goodIn_r wsL_law_r21 [1001, 1002, 1003, 1004, 429, 430, 431, 432, 118, 433, 1005, 1006, 1007, 1008, 1009, 1011, 48, 1012, 1013, 1014, 1015, 434, 435, 436] (by decide +kernel) (by decide +kernel) w h).1
set_option maxRecDepth 20000 in
theorem zin_wsL_law_r22 : ∀ w ∈ wsL_law_r22, w ∈ lw_tbl := fun w h => (goodIn_r wsL_law_r22 [437, 438, 439, 440, 441, 442, 1016, 1017, 1018, 1019, 1020, 1021, 1022, 1023, 1025, 49, 1026, 1027, 1029, 50, 1030, 443, 444, 445] (by decide +kernel) (by decide +kernel) w h).1
set_option maxRecDepth 20000 in
theorem zin_wsL_law_r23 : ∀ w ∈ wsL_law_r23, w ∈ lw_tbl := fun w h => (goodIn_r wsL_law_r23 [446, 1031, 1032, 1033, 1034, 1035, 1037, 51, 1038, 447, 448, 449, 450, 1039, 1040, 1041, 1042, 451, 452, 453, 454, 455, 456, 457] (by decide +kernel) (by decide +kernel) w h).1
set_option maxRecDepth 20000 in
theorem zin_wsL_law_r24 : ∀ w ∈ wsL_law_r24, w ∈ lw_tbl := fun w h => (goodIn_r wsL_law_r24 [458, 459, 460, 462, 14, 463, 114, 464, 465, 466, 467, 468, 469, 470, 471, 472, 473, 474, 475, 476, 477, 478, 1043, 1044] (by decide +kernel) (by decide +kernel) w h).1
set_option maxRecDepth 20000 in
theorem zin_wsL_law_r25 : ∀ w ∈ wsL_law_r25, w ∈ lw_tbl := fun w h => (goodIn_r wsL_law_r25 [1045, 1046, 1047, 1049, 52, 1050, 1051, 1053, 53, 1054, 1055, 1057, 54, 1058, 479, 480, 481, 482, 483, 484, 485, 486, 487, 488] (by decide +kernel) (by decide +kernel) w h).1
set_option maxRecDepth 20000 in
theorem zin_wsL_law_r26 : ∀ w ∈ wsL_law_r26, w ∈ lw_tbl := fun w h => (goodIn_r wsL_law_r26 [490, 15, 491, 109, 493, 494, 495, 1059, 1060, 1061, 1062, 1063, 1064, 1065, 1066, 1068, 55, 1069, 496, 497, 498, 499, 500, 501] (by decide +kernel) (by decide +kernel) w h).1
set_option maxRecDepth 20000 in
theorem zin_wsL_law_r27 : ∀ w ∈ wsL_law_r27, w ∈ lw_tbl := fun w h => (goodIn_r wsL_law_r27 [502, 503, 504, 506, 16, 507, 508, 509, 510, 511, 1070, 1071, 1072, 1073, 1074, 1076, 56, 1077, 513, 514, 515, 516, 517, 518] (by decide +kernel) (by decide +kernel) w h).1
set_option maxRecDepth 20000 in
theorem zin_wsL_law_r28 : ∀ w ∈ wsL_law_r28, w ∈ lw_tbl := fun w h => (goodIn_r wsL_law_r28 [519, 520, 1078, 1079, 1080, 1081, 521, 522, 523, 524, 525, 526, 527, 528, 529, 530, 531, 532, 105, 533, 1082, 1083, 1084, 1085] (by decide +kernel) (by decide +kernel) w h).1
set_option maxRecDepth 20000 in
theorem zin_wsL_law_r29 : ∀ w ∈ wsL_law_r29, w ∈ lw_tbl := fun w h => (goodIn_r wsL_law_r29 [1086, 1088, 57, 1089, 534, 535, 536, 537, 538, 539, 540, 541, 98, 1090, 1091, 1092, 1093, 542, 543, 544, 545, 546, 547, 548] (by decide +kernel) (by decide +kernel) w h).1
set_option maxRecDepth 20000 in
theorem zin_wsL_law_r30 : ∀ w ∈ wsL_law_r30, w ∈ lw_tbl := fun w h => (goodIn_r wsL_law_r30 [549, 550, 551, 552, 553, 1094, 1095, 1096, 1097, 1098, 1100, 58, 1101, 1102, 554, 555, 556, 557, 558, 559, 560, 561, 113, 103] (by decide +kernel) (by decide +kernel) w h).1
set_option maxRecDepth 20000 in
theorem zin_wsL_law_r31 : ∀ w ∈ wsL_law_r31, w ∈ lw_tbl := fun w h => (goodIn_r wsL_law_r31 [1103, 1104, 1105, 1106, 563, 564, 565, 566, 567, 568, 569, 570, 571, 573, 17, 574, 101, 1107, 1108, 1109, 1110, 575, 576, 577] (by decide +kernel) (by decide +kernel) w h).1
set_option maxRecDepth 20000 in
theorem zin_wsL_law_r32 : ∀ w ∈ wsL_law_r32, w ∈ lw_tbl := fun w h => (goodIn_r wsL_law_r32 [578, 579, 580, 581, 582, 584, 1111, 1112, 1113, 1114, 1115, 1117, 59, 1118, 585, 586, 587, 588, 589, 590, 591, 592, 593, 594] (by decide +kernel) (by decide +kernel) w h).1
set_option maxRecDepth 20000 in
theorem zin_wsL_law_r33 : ∀ w ∈ wsL_law_r33, w ∈ lw_tbl := fun w h => (goodIn_r wsL_law_r33 [595, 596, 597, 599, 598, 1119, 1120, 1121, 1122, 600, 601, 602, 603, 604, 605, 606, 607, 608, 609, 610, 611, 612, 1123, 1124] (by decide +kernel) (by decide +kernel) w h).1
set_option maxRecDepth 20000 in
theorem zin_wsL_law_r34 : ∀ w ∈ wsL_law_r34, w ∈ lw_tbl := fun w h => (goodIn_r wsL_law_r34 [1125, 1126, 1127, 1129, 60, 1130, 613, 614, 615, 616, 617, 618, 619, 620, 621, 622, 624, 18, 625, 626, 627, 628, 629, 630] (by decide +kernel) (by decide +kernel) w h).1
set_option maxRecDepth 20000 in
theorem zin_wsL_law_r35 : ∀ w ∈ wsL_law_r35, w ∈ lw_tbl := fun w h => (goodIn_r wsL_law_r35 [631, 632, 633, 634, 635, 1131, 1132, 1133, 1134, 1135, 1137, 61, 1138, 1139, 1140, 1141, 1142, 1143, 1144, 1145, 636, 637, 638, 639] (by decide +kernel) (by decide +kernel) w h).1
set_option maxRecDepth 20000 in
theorem zin_wsL_law_r36 : ∀ w ∈ wsL_law_r36, w ∈ lw_tbl := fun w h => (goodIn_r wsL_law_r36 [640, 641, 642, 643, 1146, 1147, 1148, 1149, 644, 645, 646, 647, 648, 649, 650, 651, 652, 654, 19, 655, 1150, 1151, 1152, 1153] (by decide +kernel) (by decide +kernel) w h).1
set_option maxRecDepth 20000 in
theorem zin_wsL_law_r37 : ∀ w ∈ wsL_law_r37, w ∈ lw_tbl := fun w h => (goodIn_r wsL_law_r37 [1154, 1156, 62, 1157, 656, 657, 658, 659, 660, 661, 662, 663, 664, 666, 20, 667, 190, 188, 668, 669, 670, 671, 1158, 1159] (by decide +kernel) (by decide +kernel) w h).1
set_option maxRecDepth 20000 in
theorem zin_wsL_law_r38 : ∀ w ∈ wsL_law_r38, w ∈ lw_tbl := fun w h => (goodIn_r wsL_law_r38 [1160, 1161, 1162, 1164, 63, 1165, 1166, 1168, 64, 1169, 777, 672, 673, 674, 675, 676, 677, 678, 679, 680, 682, 21, 683, 1170] (by decide +kernel) (by decide +kernel) w h).1
set_option maxRecDepth 20000 in
theorem zin_wsL_law_r39 : ∀ w ∈ wsL_law_r39, w ∈ lw_tbl := fun w h => (goodIn_r wsL_law_r39 [1171, 1172, 1173, 1174, 1176, 65, 1177, 684, 685, 686, 687, 688, 689, 690, 691, 692, 693, 694, 695, 696, 1178, 1179, 1180, 1181] (by decide +kernel) (by decide +kernel) w h).1
set_option maxRecDepth 20000 in
theorem zin_wsL_law_r40 : ∀ w ∈ wsL_law_r40, w ∈ lw_tbl := fun w h => (goodIn_r wsL_law_r40 [697, 698, 699, 700, 701, 702, 703, 704, 705, 706, 707, 708, 1182, 1183, 1184, 1185, 709, 710, 711, 712, 1186, 1187, 1188, 1189] (by decide +kernel) (by decide +kernel) w h).1
set_option maxRecDepth 20000 in
theorem zin_wsL_law_r41 : ∀ w ∈ wsL_law_r41, w ∈ lw_tbl := fun w h => (goodIn_r wsL_law_r41 [713, 714, 715, 716, 717, 718, 719, 720, 721, 722, 723, 724, 725, 726, 727, 728, 729, 730, 1190, 1191, 1192, 1193, 778, 1194] (by decide +kernel) (by decide +kernel) w h).1
set_option maxRecDepth 20000 in
theorem zin_wsL_law_r42 : ∀ w ∈ wsL_law_r42, w ∈ lw_tbl := fun w h => (goodIn_r wsL_law_r42 [1196, 66, 1197, 1198, 1199, 1200, 1201, 1203, 67, 1204, 731, 732, 733, 734, 735, 969, 970, 971, 972, 771, 736, 737, 738, 739] (by decide +kernel) (by decide +kernel) w h).1
set_option maxRecDepth 20000 in
theorem zin_wsL_law_r43 : ∀ w ∈ wsL_law_r43, w ∈ lw_tbl := fun w h => (goodIn_r wsL_law_r43 [973, 974, 975, 976, 740, 741, 742, 743, 191, 171, 744, 745, 746, 747, 1205, 1206, 1207, 1208] (by decide +kernel) (by decide +kernel) w h).1
set_option maxRecDepth 20000 in
theorem zin_wsX50 : ∀ w ∈ wsX50, w ∈ lw_tbl := fun w h => (goodIn_r wsX50 [206, 208, 210, 212, 214, 216, 218, 220, 222] (by decide +kernel) (by decide +kernel) w h).1
set_option maxRecDepth 20000 in
theorem zin_wsX60 : ∀ w ∈ wsX60, w ∈ lw_tbl := fun w h => (goodIn_r wsX60 [779, 781, 783, 785, 787, 789, 791, 793, 795, 797, 799, 801, 803, 805, 807, 809, 811, 813, 815, 817, 819, 821, 823, 825, 827] (by decide +kernel) (by decide +kernel) w h).1
set_option maxRecDepth 20000 in
theorem zin_wsX30 : ∀ w ∈ wsX30, w ∈ lw_tbl := fun w h => (goodIn_r wsX30 [120, 122, 124, 126, 128, 130, 132, 134] (by decide +kernel) (by decide +kernel) w h).1
set_option maxRecDepth 20000 in
theorem zin_wsX10 : ∀ w ∈ wsX10, w ∈ lw_tbl := fun w h => (goodIn_r wsX10 [146, 148] (by decide +kernel) (by decide +kernel) w h).1
set_option maxRecDepth 20000 in
theorem zin_wsX00 : ∀ w ∈ wsX00, w ∈ lw_tbl := fun w h => (goodIn_r wsX00 [158] (by decide +kernel) (by decide +kernel) w h).1
set_option maxRecDepth 20000 in
theorem zin_wsX40 : ∀ w ∈ wsX40, w ∈ lw_tbl := fun w h => (goodIn_r wsX40 [172, 174, 176, 178] (by decide +kernel) (by decide +kernel) w h).1
set_option maxRecDepth 20000 in
theorem zin_wsX20 : ∀ w ∈ wsX20, w ∈ lw_tbl := fun w h => (goodIn_r wsX20 [192, 194] (by decide +kernel) (by decide +kernel) w h).1
theorem zin_ap {a b : List Cond} (ha : ∀ w ∈ a, w ∈ lw_tbl) (hb : ∀ w ∈ b, w ∈ lw_tbl) : ∀ w ∈ a ++ b, w ∈ lw_tbl := fun w h => (List.mem_append.mp h).elim (ha w) (hb w)
theorem wsL_law_in : ∀ w ∈ wsL_law, w ∈ lw_tbl := (zin_ap (zin_ap (zin_ap (zin_ap (zin_ap (zin_ap (zin_ap (zin_ap (zin_ap zin_wsL_law_r1 (zin_ap zin_wsL_law_r2 (zin_ap zin_wsL_law_r3 (zin_ap zin_wsL_law_r4 (zin_ap zin_wsL_law_r5 (zin_ap zin_wsL_law_r6 (zin_ap zin_wsL_law_r7 (zin_ap zin_wsL_law_r8 (zin_ap zin_wsL_law_r9 (zin_ap zin_wsL_law_r10 (zin_ap zin_wsL_law_r11 (zin_ap zin_wsL_law_r12 (zin_ap zin_wsL_law_r13 (zin_ap zin_wsL_law_r14 (zin_ap zin_wsL_law_r15 (zin_ap zin_wsL_law_r16 (zin_ap zin_wsL_law_r17 (zin_ap zin_wsL_law_r18 (zin_ap zin_wsL_law_r19 (zin_ap zin_wsL_law_r20 (zin_ap zin_wsL_law_r21 (zin_ap zin_wsL_law_r22 (zin_ap zin_wsL_law_r23 (zin_ap zin_wsL_law_r24 (zin_ap zin_wsL_law_r25 (zin_ap zin_wsL_law_r26 (zin_ap zin_wsL_law_r27 (zin_ap zin_wsL_law_r28 (zin_ap zin_wsL_law_r29 (zin_ap zin_wsL_law_r30 (zin_ap zin_wsL_law_r31 (zin_ap zin_wsL_law_r32 (zin_ap zin_wsL_law_r33 (zin_ap zin_wsL_law_r34 (zin_ap zin_wsL_law_r35 (zin_ap zin_wsL_law_r36 (zin_ap zin_wsL_law_r37 (zin_ap zin_wsL_law_r38 (zin_ap zin_wsL_law_r39 (zin_ap zin_wsL_law_r40 (zin_ap zin_wsL_law_r41 (zin_ap zin_wsL_law_r42 zin_wsL_law_r43)))))))))))))))))))))))))))))))))))))))))) zin_wsX50) zin_wsX60) zin_wsX30) zin_wsX10) zin_wsX00) zin_wsX40) zin_wsX20) (fun _ h => absurd h List.not_mem_nil))

theorem inlX0 : ∀ w ∈ wsX00, w ∈ wsL_law := fun _ h => List.mem_append_left _ (List.mem_append_left _ (List.mem_append_left _ (List.mem_append_right _ h)))
theorem inX0 : ∀ w ∈ wsX00, w ∈ lw_tbl := fun w h => wsL_law_in w (inlX0 w h)
theorem inlX1 : ∀ w ∈ wsX10, w ∈ wsL_law := fun _ h => List.mem_append_left _ (List.mem_append_left _ (List.mem_append_left _ (List.mem_append_left _ (List.mem_append_right _ h))))
theorem inX1 : ∀ w ∈ wsX10, w ∈ lw_tbl := fun w h => wsL_law_in w (inlX1 w h)
theorem inlX2 : ∀ w ∈ wsX20, w ∈ wsL_law := fun _ h => List.mem_append_left _ (List.mem_append_right _ h)
theorem inX2 : ∀ w ∈ wsX20, w ∈ lw_tbl := fun w h => wsL_law_in w (inlX2 w h)
theorem inlX3 : ∀ w ∈ wsX30, w ∈ wsL_law := fun _ h => List.mem_append_left _ (List.mem_append_left _ (List.mem_append_left _ (List.mem_append_left _ (List.mem_append_left _ (List.mem_append_right _ h)))))
theorem inX3 : ∀ w ∈ wsX30, w ∈ lw_tbl := fun w h => wsL_law_in w (inlX3 w h)
theorem inlX4 : ∀ w ∈ wsX40, w ∈ wsL_law := fun _ h => List.mem_append_left _ (List.mem_append_left _ (List.mem_append_right _ h))
theorem inX4 : ∀ w ∈ wsX40, w ∈ lw_tbl := fun w h => wsL_law_in w (inlX4 w h)
theorem inlX5 : ∀ w ∈ wsX50, w ∈ wsL_law := fun _ h => List.mem_append_left _ (List.mem_append_left _ (List.mem_append_left _ (List.mem_append_left _ (List.mem_append_left _ (List.mem_append_left _ (List.mem_append_left _ (List.mem_append_right _ h)))))))
theorem inX5 : ∀ w ∈ wsX50, w ∈ lw_tbl := fun w h => wsL_law_in w (inlX5 w h)
theorem inlX6 : ∀ w ∈ wsX60, w ∈ wsL_law := fun _ h => List.mem_append_left _ (List.mem_append_left _ (List.mem_append_left _ (List.mem_append_left _ (List.mem_append_left _ (List.mem_append_left _ (List.mem_append_right _ h))))))
theorem inX6 : ∀ w ∈ wsX60, w ∈ lw_tbl := fun w h => wsL_law_in w (inlX6 w h)
theorem inJ6 : ∀ w ∈ wsJ60, w ∈ lw_tbl := by decide +kernel
theorem inJ9 : ∀ w ∈ wsJ90, w ∈ lw_tbl := by decide +kernel
theorem inJ10 : ∀ w ∈ wsJ100, w ∈ lw_tbl := by decide +kernel

