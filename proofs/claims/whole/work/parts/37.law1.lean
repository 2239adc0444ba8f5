set_option maxRecDepth 20000 in
theorem wsL_law_r1_in : ∀ w ∈ wsL_law_r1, w ∈ lw_tbl := j_words [73, 74, 59, 736, 737, 63, 1157, 75, 76, 77, 78, 79, 80, 81, 82, 60, 152, 97, 153, 99, 155, 101, 102, 61] (by decide +kernel)
set_option maxRecDepth 20000 in
theorem wsL_law_r2_in : ∀ w ∈ wsL_law_r2, w ∈ lw_tbl := j_words [157, 158, 160, 96, 161, 139, 140, 62, 162, 84, 85, 86, 87, 104, 105, 106, 107, 109, 114, 142, 143, 144, 145, 146] (by decide +kernel)
set_option maxRecDepth 20000 in
theorem wsL_law_r3_in : ∀ w ∈ wsL_law_r3, w ∈ lw_tbl := j_words [738, 739, 740, 741, 742, 743, 746, 751, 752, 753, 754, 755, 757, 758, 759, 848, 761, 764, 766, 772, 773, 774, 775, 186] (by decide +kernel)
set_option maxRecDepth 20000 in
theorem wsL_law_r4_in : ∀ w ∈ wsL_law_r4, w ∈ lw_tbl := j_words [187, 188, 189, 89, 190, 191, 192, 193, 194, 195, 196, 197, 198, 199, 200, 90, 849, 850, 851, 852, 853, 760, 201, 202] (by decide +kernel)
set_option maxRecDepth 20000 in
theorem wsL_law_r5_in : ∀ w ∈ wsL_law_r5, w ∈ lw_tbl := j_words [203, 204, 854, 855, 856, 857, 205, 206, 207, 208, 209, 210, 211, 212, 213, 215, 0, 216, 217, 218, 219, 220, 221, 222] (by decide +kernel)
set_option maxRecDepth 20000 in
theorem wsL_law_r6_in : ∀ w ∈ wsL_law_r6, w ∈ lw_tbl := j_words [858, 859, 860, 861, 767, 862, 864, 22, 865, 771, 768, 866, 868, 23, 869, 769, 770, 870, 871, 872, 873, 874, 875, 223] (by decide +kernel)
set_option maxRecDepth 20000 in
theorem wsL_law_r7_in : ∀ w ∈ wsL_law_r7, w ∈ lw_tbl := j_words [224, 225, 226, 154, 227, 228, 229, 230, 231, 232, 233, 234, 235, 236, 237, 64, 238, 239, 240, 241, 242, 244, 246, 876] (by decide +kernel)
set_option maxRecDepth 20000 in
theorem wsL_law_r8_in : ∀ w ∈ wsL_law_r8, w ∈ lw_tbl := j_words [877, 878, 879, 756, 254, 255, 256, 257, 258, 260, 1, 261, 262, 263, 264, 265, 880, 881, 882, 883, 884, 886, 24, 887] (by decide +kernel)
set_option maxRecDepth 20000 in
theorem wsL_law_r9_in : ∀ w ∈ wsL_law_r9, w ∈ lw_tbl := j_words [888, 890, 25, 891, 266, 267, 268, 269, 156, 299, 303, 307, 270, 271, 272, 273, 274, 275, 276, 277, 278, 279, 280, 281] (by decide +kernel)
set_option maxRecDepth 20000 in
theorem wsL_law_r10_in : ∀ w ∈ wsL_law_r10, w ∈ lw_tbl := j_words [282, 283, 66, 318, 319, 67, 329, 330, 68, 340, 65, 284, 285, 286, 287, 288, 289, 290, 291, 320, 321, 322, 323, 331] (by decide +kernel)
set_option maxRecDepth 20000 in
theorem wsL_law_r11_in : ∀ w ∈ wsL_law_r11, w ∈ lw_tbl := j_words [332, 333, 334, 341, 892, 893, 894, 895, 750, 896, 897, 898, 899, 900, 901, 347, 348, 349, 350, 351, 353, 2, 354, 355] (by decide +kernel)
set_option maxRecDepth 20000 in
theorem wsL_law_r12_in : ∀ w ∈ wsL_law_r12, w ∈ lw_tbl := j_words [356, 357, 282, 318, 329, 902, 903, 904, 905, 906, 908, 26, 909, 358, 359, 360, 361, 362, 365, 366, 363, 369, 298, 302] (by decide +kernel)
set_option maxRecDepth 20000 in
theorem wsL_law_r13_in : ∀ w ∈ wsL_law_r13, w ∈ lw_tbl := j_words [306, 370, 373, 371, 374, 375, 376, 383, 370, 371, 372, 377, 378, 379, 380, 381, 382, 384, 387, 388, 385, 393, 384, 386] (by decide +kernel)
set_option maxRecDepth 20000 in
theorem wsL_law_r14_in : ∀ w ∈ wsL_law_r14, w ∈ lw_tbl := j_words [385, 389, 390, 391, 292, 293, 392, 362, 364, 367, 368, 910, 911, 912, 913, 914, 916, 27, 917, 918, 920, 28, 921, 394] (by decide +kernel)
set_option maxRecDepth 20000 in
theorem wsL_law_r15_in : ∀ w ∈ wsL_law_r15, w ∈ lw_tbl := j_words [395, 396, 397, 922, 923, 924, 925, 398, 399, 400, 401, 108, 402, 403, 404, 405, 110, 116, 406, 408, 3, 409, 120, 926] (by decide +kernel)
set_option maxRecDepth 20000 in
theorem wsL_law_r16_in : ∀ w ∈ wsL_law_r16, w ∈ lw_tbl := j_words [927, 928, 929, 930, 931, 932, 933, 935, 29, 936, 747, 744, 937, 939, 30, 940, 749, 411, 412, 413, 414, 415, 416, 417] (by decide +kernel)
set_option maxRecDepth 20000 in
theorem wsL_law_r17_in : ∀ w ∈ wsL_law_r17, w ∈ lw_tbl := j_words [418, 419, 420, 69, 421, 118, 941, 942, 943, 944, 945, 947, 31, 948, 748, 422, 423, 424, 425, 949, 950, 951, 952, 426] (by decide +kernel)
set_option maxRecDepth 20000 in
theorem wsL_law_r18_in : ∀ w ∈ wsL_law_r18, w ∈ lw_tbl := j_words [427, 428, 429, 430, 431, 432, 433, 953, 954, 955, 956, 957, 959, 32, 960, 434, 435, 436, 437, 961, 962, 963, 964, 438] (by decide +kernel)
set_option maxRecDepth 20000 in
theorem wsL_law_r19_in : ∀ w ∈ wsL_law_r19, w ∈ lw_tbl := j_words [439, 440, 441, 115, 965, 966, 967, 968, 442, 443, 444, 445, 111, 446, 447, 448, 449, 300, 450, 452, 4, 453, 304, 243] (by decide +kernel)
set_option maxRecDepth 20000 in
theorem wsL_law_r20_in : ∀ w ∈ wsL_law_r20, w ∈ lw_tbl := j_words [112, 308, 245, 454, 456, 5, 457, 458, 459, 460, 461, 463, 6, 464, 465, 466, 467, 468, 469, 470, 471, 472, 473, 473] (by decide +kernel)
set_option maxRecDepth 20000 in
theorem wsL_law_r21_in : ∀ w ∈ wsL_law_r21, w ∈ lw_tbl := j_words [474, 475, 478, 476, 479, 480, 481, 484, 475, 476, 477, 482, 483, 485, 488, 486, 489, 490, 491, 294, 295, 494, 485, 486] (by decide +kernel)
set_option maxRecDepth 20000 in
theorem wsL_law_r22_in : ∀ w ∈ wsL_law_r22, w ∈ lw_tbl := j_words [487, 492, 493, 495, 497, 7, 498, 499, 500, 501, 502, 503, 504, 505, 507, 8, 508, 509, 510, 511, 512, 969, 970, 971] (by decide +kernel)
set_option maxRecDepth 20000 in
theorem wsL_law_r23_in : ∀ w ∈ wsL_law_r23, w ∈ lw_tbl := j_words [972, 973, 975, 33, 976, 977, 979, 34, 980, 981, 982, 983, 984, 985, 986, 988, 35, 989, 745, 990, 992, 36, 993, 994] (by decide +kernel)
set_option maxRecDepth 20000 in
theorem wsL_law_r24_in : ∀ w ∈ wsL_law_r24, w ∈ lw_tbl := j_words [996, 37, 997, 998, 1000, 38, 1001, 1002, 1004, 39, 1005, 1006, 1008, 40, 1009, 513, 514, 515, 516, 517, 519, 9, 520, 521] (by decide +kernel)
set_option maxRecDepth 20000 in
theorem wsL_law_r25_in : ∀ w ∈ wsL_law_r25, w ∈ lw_tbl := j_words [522, 523, 524, 525, 527, 526, 70, 1010, 1011, 1012, 1013, 1014, 1016, 41, 1017, 1018, 1020, 42, 1021, 765, 1022, 1024, 43, 1025] (by decide +kernel)
set_option maxRecDepth 20000 in
theorem wsL_law_r26_in : ∀ w ∈ wsL_law_r26, w ∈ lw_tbl := j_words [528, 529, 530, 531, 532, 533, 534, 535, 1026, 1027, 1028, 1029, 536, 537, 538, 539, 540, 541, 542, 543, 71, 544, 296, 301] (by decide +kernel)
set_option maxRecDepth 20000 in
theorem wsL_law_r27_in : ∀ w ∈ wsL_law_r27, w ∈ lw_tbl := j_words [305, 545, 546, 547, 548, 549, 550, 551, 552, 553, 554, 555, 556, 557, 558, 559, 1030, 1031, 1032, 1033, 1034, 1035, 1036, 1038] (by decide +kernel)
set_option maxRecDepth 20000 in
theorem wsL_law_r28_in : ∀ w ∈ wsL_law_r28, w ∈ lw_tbl := j_words [44, 1039, 1040, 1041, 1042, 1043, 1044, 1045, 1046, 1048, 45, 1049, 1050, 1051, 1052, 1053, 560, 561, 562, 563, 564, 565, 566, 567] (by decide +kernel)
set_option maxRecDepth 20000 in
theorem wsL_law_r29_in : ∀ w ∈ wsL_law_r29, w ∈ lw_tbl := j_words [568, 569, 570, 570, 571, 574, 572, 575, 576, 577, 580, 571, 572, 573, 578, 579, 581, 1054, 1055, 1056, 1057, 1058, 1059, 1060] (by decide +kernel)
set_option maxRecDepth 20000 in
theorem wsL_law_r30_in : ∀ w ∈ wsL_law_r30, w ∈ lw_tbl := j_words [1061, 1063, 46, 1064, 1065, 1067, 47, 1068, 582, 583, 584, 585, 586, 1069, 1070, 1071, 1072, 1073, 587, 588, 589, 590, 591, 592] (by decide +kernel)
set_option maxRecDepth 20000 in
theorem wsL_law_r31_in : ∀ w ∈ wsL_law_r31, w ∈ lw_tbl := j_words [593, 594, 595, 597, 10, 598, 599, 601, 11, 602, 603, 604, 72, 605, 606, 608, 12, 609, 297, 610, 612, 13, 613, 614] (by decide +kernel)
set_option maxRecDepth 20000 in
theorem wsL_law_r32_in : ∀ w ∈ wsL_law_r32, w ∈ lw_tbl := j_words [617, 618, 615, 621, 614, 616, 619, 620, 622, 625, 626, 623, 629, 622, 624, 627, 628, 630, 630, 631, 633, 14, 634, 635] (by decide +kernel)
set_option maxRecDepth 20000 in
theorem wsL_law_r33_in : ∀ w ∈ wsL_law_r33, w ∈ lw_tbl := j_words [635, 636, 639, 640, 637, 643, 636, 638, 641, 642, 644, 646, 15, 647, 648, 649, 650, 651, 652, 653, 654, 655, 656, 658] (by decide +kernel)
set_option maxRecDepth 20000 in
theorem wsL_law_r34_in : ∀ w ∈ wsL_law_r34, w ∈ lw_tbl := j_words [16, 659, 660, 661, 662, 663, 664, 666, 17, 667, 1074, 1075, 1076, 1077, 1078, 1080, 48, 1081, 1082, 1084, 49, 1085, 1090, 1086] (by decide +kernel)
set_option maxRecDepth 20000 in
theorem wsL_law_r35_in : ∀ w ∈ wsL_law_r35, w ∈ lw_tbl := j_words [1088, 50, 1089, 1091, 1093, 51, 1094, 1095, 1097, 52, 1098, 668, 669, 670, 671, 672, 673, 674, 675, 676, 677, 678, 679, 1099] (by decide +kernel)
set_option maxRecDepth 20000 in
theorem wsL_law_r36_in : ∀ w ∈ wsL_law_r36, w ∈ lw_tbl := j_words [1100, 1101, 1102, 1103, 1105, 53, 1106, 680, 681, 682, 683, 684, 686, 18, 687, 1107, 1108, 1109, 1110, 688, 689, 690, 691, 1111] (by decide +kernel)
set_option maxRecDepth 20000 in
theorem wsL_law_r37_in : ∀ w ∈ wsL_law_r37, w ∈ lw_tbl := j_words [1112, 1113, 1114, 1115, 1117, 54, 1118, 692, 693, 694, 695, 696, 697, 698, 1119, 1120, 1121, 1122, 699, 700, 701, 702, 703, 1123] (by decide +kernel)
set_option maxRecDepth 20000 in
theorem wsL_law_r38_in : ∀ w ∈ wsL_law_r38, w ∈ lw_tbl := j_words [1124, 1125, 1126, 704, 705, 706, 707, 159, 1127, 1128, 1129, 1130, 762, 763, 708, 709, 710, 711, 1131, 1132, 1133, 1134, 712, 713] (by decide +kernel)
set_option maxRecDepth 20000 in
theorem wsL_law_r39_in : ∀ w ∈ wsL_law_r39, w ∈ lw_tbl := j_words [714, 715, 113, 117, 119, 121, 1135, 1136, 1137, 1138, 1139, 1141, 55, 1142, 716, 717, 718, 719, 720, 725, 88, 721, 723, 19] (by decide +kernel)
set_option maxRecDepth 20000 in
theorem wsL_law_r40_in : ∀ w ∈ wsL_law_r40, w ∈ lw_tbl := j_words [724, 726, 728, 20, 729, 730, 732, 21, 733, 734, 735, 1143, 1144, 1145, 1146, 1147, 776, 1148, 1150, 56, 1151, 1152, 1153, 1155] (by decide +kernel)
set_option maxRecDepth 20000 in
theorem wsL_law_r41_in : ∀ w ∈ wsL_law_r41, w ∈ lw_tbl := j_words [57, 1156] (by decide +kernel)
set_option maxRecDepth 20000 in
theorem wsX90_tin : ∀ w ∈ wsX90, w ∈ lw_tbl := j_words [163, 165, 167, 169, 171, 173, 175, 177, 179, 181, 183] (by decide +kernel)
set_option maxRecDepth 20000 in
theorem wsX100_tin : ∀ w ∈ wsX100, w ∈ lw_tbl := j_words [777, 779, 781, 783, 785, 787, 789, 791, 793, 795, 797, 799, 801, 803, 805, 807, 809, 811, 813, 815, 817, 819, 821, 823, 825, 827, 829, 831, 833, 835, 837, 839, 841, 843, 845] (by decide +kernel)
set_option maxRecDepth 20000 in
theorem wsX40_tin : ∀ w ∈ wsX40, w ∈ lw_tbl := j_words [91, 93] (by decide +kernel)
set_option maxRecDepth 20000 in
theorem wsX20_tin : ∀ w ∈ wsX20, w ∈ lw_tbl := j_words [122, 124, 126, 128, 130, 132, 134, 136] (by decide +kernel)
set_option maxRecDepth 20000 in
theorem wsX80_tin : ∀ w ∈ wsX80, w ∈ lw_tbl := j_words [147, 149] (by decide +kernel)
set_option maxRecDepth 20000 in
theorem wsX10_tin : ∀ w ∈ wsX10, w ∈ lw_tbl := j_words [247, 249, 251] (by decide +kernel)
set_option maxRecDepth 20000 in
theorem wsX00_tin : ∀ w ∈ wsX00, w ∈ lw_tbl := j_words [335, 336, 337, 338] (by decide +kernel)
set_option maxRecDepth 20000 in
theorem wsX50_tin : ∀ w ∈ wsX50, w ∈ lw_tbl := j_words [342, 343, 344, 345] (by decide +kernel)
set_option maxRecDepth 20000 in
theorem wsX60_tin : ∀ w ∈ wsX60, w ∈ lw_tbl := j_words [309, 311, 313, 315] (by decide +kernel)
set_option maxRecDepth 20000 in
theorem wsX70_tin : ∀ w ∈ wsX70, w ∈ lw_tbl := j_words [324, 325, 326, 327] (by decide +kernel)
theorem wsL_law_in : ∀ w ∈ wsL_law, w ∈ lw_tbl := List.forall_mem_append.mpr ⟨List.forall_mem_append.mpr ⟨List.forall_mem_append.mpr ⟨List.forall_mem_append.mpr ⟨List.forall_mem_append.mpr ⟨List.forall_mem_append.mpr ⟨List.forall_mem_append.mpr ⟨List.forall_mem_append.mpr ⟨List.forall_mem_append.mpr ⟨List.forall_mem_append.mpr ⟨List.forall_mem_append.mpr ⟨List.forall_mem_append.mpr ⟨wsL_law_r1_in, List.forall_mem_append.mpr ⟨wsL_law_r2_in, List.forall_mem_append.mpr ⟨wsL_law_r3_in, List.forall_mem_append.mpr ⟨wsL_law_r4_in, List.forall_mem_append.mpr ⟨wsL_law_r5_in, List.forall_mem_append.mpr ⟨wsL_law_r6_in, List.forall_mem_append.mpr ⟨wsL_law_r7_in, List.forall_mem_append.mpr ⟨wsL_law_r8_in, List.forall_mem_append.mpr ⟨wsL_law_r9_in, List.forall_mem_append.mpr ⟨wsL_law_r10_in, List.forall_mem_append.mpr ⟨wsL_law_r11_in, List.forall_mem_append.mpr ⟨wsL_law_r12_in, List.forall_mem_append.mpr ⟨wsL_law_r13_in, List.forall_mem_append.mpr ⟨wsL_law_r14_in, List.forall_mem_append.mpr ⟨wsL_law_r15_in, List.forall_mem_append.mpr ⟨wsL_law_r16_in, List.forall_mem_append.mpr ⟨wsL_law_r17_in, List.forall_mem_append.mpr ⟨wsL_law_r18_in, List.forall_mem_append.mpr ⟨wsL_law_r19_in, List.forall_mem_append.mpr ⟨wsL_law_r20_in, List.forall_mem_append.mpr ⟨wsL_law_r21_in, List.forall_mem_append.mpr ⟨wsL_law_r22_in, List.forall_mem_append.mpr ⟨wsL_law_r23_in, List.forall_mem_append.mpr ⟨wsL_law_r24_in, List.forall_mem_append.mpr ⟨wsL_law_r25_in, List.forall_mem_append.mpr ⟨wsL_law_r26_in, List.forall_mem_append.mpr ⟨wsL_law_r27_in, List.forall_mem_append.mpr ⟨wsL_law_r28_in, List.forall_mem_append.mpr ⟨wsL_law_r29_in, List.forall_mem_append.mpr ⟨wsL_law_r30_in, List.forall_mem_append.mpr ⟨wsL_law_r31_in, List.forall_mem_append.mpr ⟨wsL_law_r32_in, List.forall_mem_append.mpr ⟨wsL_law_r33_in, List.forall_mem_append.mpr ⟨wsL_law_r34_in, List.forall_mem_append.mpr ⟨wsL_law_r35_in, List.forall_mem_append.mpr ⟨wsL_law_r36_in, List.forall_mem_append.mpr ⟨wsL_law_r37_in, List.forall_mem_append.mpr ⟨wsL_law_r38_in, List.forall_mem_append.mpr ⟨wsL_law_r39_in, List.forall_mem_append.mpr ⟨wsL_law_r40_in, wsL_law_r41_in⟩⟩⟩⟩⟩⟩⟩⟩⟩⟩⟩⟩⟩⟩⟩⟩⟩⟩⟩⟩⟩⟩⟩⟩⟩⟩⟩⟩⟩⟩⟩⟩⟩⟩⟩⟩⟩⟩⟩⟩, wsX90_tin⟩, wsX100_tin⟩, wsX40_tin⟩, wsX20_tin⟩, wsX80_tin⟩, wsX10_tin⟩, wsX00_tin⟩, wsX50_tin⟩, wsX60_tin⟩, wsX70_tin⟩, (fun _ h => absurd h List.not_mem_nil)⟩
theorem inlX0 : ∀ w ∈ wsX00, w ∈ wsL_law := fun _ h => List.mem_append_left _ (List.mem_append_left _ (List.mem_append_left _ (List.mem_append_left _ (List.mem_append_right _ h))))
theorem inX0 : ∀ w ∈ wsX00, w ∈ lw_tbl := fun w h => wsL_law_in w (inlX0 w h)
theorem inlX1 : ∀ w ∈ wsX10, w ∈ wsL_law := fun _ h => List.mem_append_left _ (List.mem_append_left _ (List.mem_append_left _ (List.mem_append_left _ (List.mem_append_left _ (List.mem_append_right _ h)))))
theorem inX1 : ∀ w ∈ wsX10, w ∈ lw_tbl := fun w h => wsL_law_in w (inlX1 w h)
theorem inlX2 : ∀ w ∈ wsX20, w ∈ wsL_law := fun _ h => List.mem_append_left _ (List.mem_append_left _ (List.mem_append_left _ (List.mem_append_left _ (List.mem_append_left _ (List.mem_append_left _ (List.mem_append_left _ (List.mem_append_right _ h)))))))
theorem inX2 : ∀ w ∈ wsX20, w ∈ lw_tbl := fun w h => wsL_law_in w (inlX2 w h)
theorem inX3 : ∀ w ∈ wsX30, w ∈ lw_tbl := by decide +kernel
theorem inlX4 : ∀ w ∈ wsX40, w ∈ wsL_law := fun _ h => List.mem_append_left _ (List.mem_append_left _ (List.mem_append_left _ (List.mem_append_left _ (List.mem_append_left _ (List.mem_append_left _ (List.mem_append_left _ (List.mem_append_left _ (List.mem_append_right _ h))))))))
theorem inX4 : ∀ w ∈ wsX40, w ∈ lw_tbl := fun w h => wsL_law_in w (inlX4 w h)
theorem inlX5 : ∀ w ∈ wsX50, w ∈ wsL_law := fun _ h => List.mem_append_left _ (List.mem_append_left _ (List.mem_append_left _ (List.mem_append_right _ h)))
theorem inX5 : ∀ w ∈ wsX50, w ∈ lw_tbl := fun w h => wsL_law_in w (inlX5 w h)
theorem inlX6 : ∀ w ∈ wsX60, w ∈ wsL_law := fun _ h => List.mem_append_left _ (List.mem_append_left _ (List.mem_append_right _ h))
theorem inX6 : ∀ w ∈ wsX60, w ∈ lw_tbl := fun w h => wsL_law_in w (inlX6 w h)
theorem inlX7 : ∀ w ∈ wsX70, w ∈ wsL_law := fun _ h => List.mem_append_left _ (List.mem_append_right _ h)
theorem inX7 : ∀ w ∈ wsX70, w ∈ lw_tbl := fun w h => wsL_law_in w (inlX7 w h)
theorem inlX8 : ∀ w ∈ wsX80, w ∈ wsL_law := fun _ h => List.mem_append_left _ (List.mem_append_left _ (List.mem_append_left _ (List.mem_append_left _ (List.mem_append_left _ (List.mem_append_left _ (List.mem_append_right _ h))))))
theorem inX8 : ∀ w ∈ wsX80, w ∈ lw_tbl := fun w h => wsL_law_in w (inlX8 w h)
theorem inlX9 : ∀ w ∈ wsX90, w ∈ wsL_law := fun _ h => List.mem_append_left _ (List.mem_append_left _ (List.mem_append_left _ (List.mem_append_left _ (List.mem_append_left _ (List.mem_append_left _ (List.mem_append_left _ (List.mem_append_left _ (List.mem_append_left _ (List.mem_append_left _ (List.mem_append_right _ h))))))))))
theorem inX9 : ∀ w ∈ wsX90, w ∈ lw_tbl := fun w h => wsL_law_in w (inlX9 w h)
theorem inlX10 : ∀ w ∈ wsX100, w ∈ wsL_law := fun _ h => List.mem_append_left _ (List.mem_append_left _ (List.mem_append_left _ (List.mem_append_left _ (List.mem_append_left _ (List.mem_append_left _ (List.mem_append_left _ (List.mem_append_left _ (List.mem_append_left _ (List.mem_append_right _ h)))))))))
theorem inX10 : ∀ w ∈ wsX100, w ∈ lw_tbl := fun w h => wsL_law_in w (inlX10 w h)
theorem inJ9 : ∀ w ∈ wsJ90, w ∈ lw_tbl := by decide +kernel
theorem inJ10 : ∀ w ∈ wsJ100, w ∈ lw_tbl := by decide +kernel
theorem inJ7 : ∀ w ∈ wsJ70, w ∈ lw_tbl := by decide +kernel
