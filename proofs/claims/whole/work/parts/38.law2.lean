set_option maxRecDepth 20000 in
theorem ggL_law_X9_init : GoodIn wsL_law wsX9_init := goodIn_r _ [9, 10, 11, 12, 13, 14, 15, 16, 17, 18, 19, 20, 21, 22, 23, 24, 25, 26, 27, 28, 29, 30, 31, 32, 33, 34, 35, 36, 37, 38, 39, 40, 41, 42, 43, 44, 45, 46, 47, 1008, 1009, 962, 963, 964, 965, 966, 967, 968, 969, 970, 971, 972, 1010, 1011, 1012, 1013, 1014, 1015, 1016, 1017, 1018, 1019] (by decide +kernel) (by decide +kernel)
set_option maxRecDepth 20000 in
theorem gL_law_X9_init : GoodIn wsL_law (wsX9_init) := ggL_law_X9_init
set_option maxRecDepth 20000 in
theorem ggL_law_X10_init : GoodIn wsL_law wsX10_init := goodIn_r _ [50, 51, 11, 12, 27, 52, 53, 54, 55, 56, 57, 58, 59, 60, 61, 62, 63, 64, 65, 66, 67, 68, 69, 70, 973, 974, 975, 976, 977, 978, 979, 980, 981, 982, 983, 984, 985, 986, 987, 988, 989, 990, 991, 992, 993, 994, 995, 996, 997, 998, 999, 1000, 1001, 1002, 1003, 1004, 1005, 1006, 1007] (by decide +kernel) (by decide +kernel)
set_option maxRecDepth 20000 in
theorem gL_law_X10_init : GoodIn wsL_law (wsX10_init) := ggL_law_X10_init
set_option maxRecDepth 20000 in
theorem ggL_law_X9_letters : GoodIn wsL_law wsX9_letters := goodIn_r _ [74, 16, 75, 76, 77, 15, 78, 79, 80, 81, 82, 83, 84, 85, 86, 87, 36, 962, 963, 964, 965, 966, 967, 968, 969, 970, 971, 972, 1008, 1009] (by decide +kernel) (by decide +kernel)
set_option maxRecDepth 20000 in
theorem gL_law_X9_letters : GoodIn wsL_law (wsV RL 15 RX9 yX9_letters wsX9_letters) := goodIn_app (goodIn_of _ (by decide +kernel)) ggL_law_X9_letters
set_option maxRecDepth 20000 in
theorem ggL_law_X10_letters : GoodIn wsL_law wsX10_letters := goodIn_r _ [91, 92, 93, 64, 973, 974, 975, 976, 977, 978, 979, 980, 981, 982, 983, 984, 985, 986, 987, 988, 989, 990, 991, 992, 993, 994, 995, 996, 997, 998, 999, 1000, 1001, 1002, 1003, 1004, 1005, 1006, 1007] (by decide +kernel) (by decide +kernel)
set_option maxRecDepth 20000 in
theorem gL_law_X10_letters : GoodIn wsL_law (wsV RL 19 RX10 yX10_letters wsX10_letters) := goodIn_app (goodIn_of _ (by decide +kernel)) ggL_law_X10_letters
set_option maxRecDepth 20000 in
theorem ggL_law_X9_blank : GoodIn wsL_law wsX9_blank := goodIn_r _ [97, 16, 75, 962, 963, 964, 965, 966, 967, 968, 969, 970, 971, 972, 1008, 1009] (by decide +kernel) (by decide +kernel)
set_option maxRecDepth 20000 in
theorem gL_law_X9_blank : GoodIn wsL_law (wsV RL 20 RX9 yX9_blank wsX9_blank) := goodIn_app (goodIn_of _ (by decide +kernel)) ggL_law_X9_blank
set_option maxRecDepth 20000 in
theorem ggL_law_X10_blank : GoodIn wsL_law wsX10_blank := goodIn_r _ [101, 93, 973, 974, 975, 976, 977, 978, 979, 980, 981, 982, 983, 984, 985, 986, 987, 988, 989, 990, 991, 992, 993, 994, 995, 996, 997, 998, 999, 1000, 1001, 1002, 1003, 1004, 1005, 1006, 1007] (by decide +kernel) (by decide +kernel)
set_option maxRecDepth 20000 in
theorem gL_law_X10_blank : GoodIn wsL_law (wsV RL 24 RX10 yX10_blank wsX10_blank) := goodIn_app (goodIn_of _ (by decide +kernel)) ggL_law_X10_blank
set_option maxRecDepth 20000 in
theorem ggL_law_X9_fault : GoodIn wsL_law wsX9_fault := goodIn_r _ [105, 16, 106, 107, 108, 15, 109, 87, 110, 111, 112, 113, 36, 114, 115, 116, 117, 118, 119, 962, 963, 964, 965, 966, 967, 968, 969, 970, 971, 972, 1008, 1009] (by decide +kernel) (by decide +kernel)
set_option maxRecDepth 20000 in
theorem gL_law_X9_fault : GoodIn wsL_law (wsV RL 25 RX9 yX9_fault wsX9_fault) := goodIn_app (goodIn_of _ (by decide +kernel)) ggL_law_X9_fault
set_option maxRecDepth 20000 in
theorem ggL_law_X10_fault : GoodIn wsL_law wsX10_fault := goodIn_r _ [123, 124, 125, 126, 127, 5, 128, 129, 93, 64, 130, 131, 132, 133, 134, 135, 136, 137, 138, 139, 140, 141, 142, 973, 974, 975, 976, 977, 978, 979, 980, 981, 982, 983, 984, 985, 986, 987, 988, 989, 990, 991, 992, 993, 994, 995, 996, 997, 998, 999, 1000, 1001, 1002, 1003, 1004, 1005, 1006, 1007] (by decide +kernel) (by decide +kernel)
set_option maxRecDepth 20000 in
theorem gL_law_X10_fault : GoodIn wsL_law (wsV RL 28 RX10 yX10_fault wsX10_fault) := goodIn_app (goodIn_of _ (by decide +kernel)) ggL_law_X10_fault
set_option maxRecDepth 20000 in
theorem ggL_law_X9_custom : GoodIn wsL_law wsX9_custom := goodIn_r _ [146, 16, 147, 18, 75, 148, 149, 150, 15, 151, 87, 152, 107, 108, 109, 110, 111, 112, 113, 36, 114, 115, 116, 117, 118, 119, 153, 154, 155, 156, 157, 158, 159, 160, 161, 162, 163, 11, 12, 164, 165, 166, 962, 963, 964, 965, 966, 967, 968, 969, 970, 971, 972, 1008, 1009, 1020, 1021, 1022] (by decide +kernel) (by decide +kernel)
set_option maxRecDepth 20000 in
theorem gL_law_X9_custom : GoodIn wsL_law (wsV RL 29 RX9 yX9_custom wsX9_custom) := goodIn_app (goodIn_of _ (by decide +kernel)) ggL_law_X9_custom
set_option maxRecDepth 20000 in
theorem ggL_law_X10_custom : GoodIn wsL_law wsX10_custom := goodIn_r _ [170, 130, 171, 60, 135, 61, 136, 62, 129, 93, 125, 126, 127, 5, 128, 64, 124, 131, 132, 133, 134, 137, 138, 139, 140, 141, 142, 973, 974, 975, 976, 977, 978, 979, 980, 981, 982, 983, 984, 985, 986, 987, 988, 989, 990, 991, 992, 993, 994, 995, 996, 997, 998, 999, 1000, 1001, 1002, 1003, 1004, 1005, 1006, 1007] (by decide +kernel) (by decide +kernel)
set_option maxRecDepth 20000 in
theorem gL_law_X10_custom : GoodIn wsL_law (wsV RL 32 RX10 yX10_custom wsX10_custom) := goodIn_app (goodIn_of _ (by decide +kernel)) ggL_law_X10_custom
set_option maxRecDepth 20000 in
theorem ggL_law_X9_customTold : GoodIn wsL_law wsX9_customTold := goodIn_r _ [175, 176, 177, 178, 2, 179, 18, 180, 181, 182, 159, 183, 164, 165, 166, 962, 963, 964, 965, 966, 967, 968, 969, 970, 971, 972, 1020, 1021, 1022] (by decide +kernel) (by decide +kernel)
set_option maxRecDepth 20000 in
theorem gL_law_X9_customTold : GoodIn wsL_law (wsV RL 33 RX9 yX9_customTold wsX9_customTold) := goodIn_app (goodIn_of _ (by decide +kernel)) ggL_law_X9_customTold
set_option maxRecDepth 20000 in
theorem ggL_law_X10_customTold : GoodIn wsL_law wsX10_customTold := goodIn_r _ [187, 188, 189, 190, 5, 191, 171, 140, 141, 142, 192, 193, 194, 195, 60, 61, 62, 973, 974, 975, 976, 977, 978, 979, 980, 981, 982, 983, 984, 985, 986, 987, 988, 989, 990, 991, 992, 993, 994, 995, 996, 997, 998, 999, 1000, 1001, 1002, 1003, 1004, 1005, 1006, 1007] (by decide +kernel) (by decide +kernel)
set_option maxRecDepth 20000 in
theorem gL_law_X10_customTold : GoodIn wsL_law (wsV RL 37 RX10 yX10_customTold wsX10_customTold) := goodIn_app (goodIn_of _ (by decide +kernel)) ggL_law_X10_customTold
set_option maxRecDepth 20000 in
theorem ggL_law_X9_parish : GoodIn wsL_law wsX9_parish := goodIn_r _ [199, 200, 201, 202, 203, 20, 204, 205, 2, 206, 207, 208, 209, 210, 211, 212, 213, 214, 215, 216, 217, 218, 219, 220, 221, 222, 223, 224, 19, 225, 226, 227, 228, 229, 230, 231, 232, 233, 11, 12, 234, 235, 236, 237, 238, 239, 240, 241, 242, 243, 962, 963, 964, 965, 966, 967, 968, 969, 970, 971, 972, 1023, 1024, 1025, 1026, 1027, 1028, 1029, 1030, 1031, 1032, 1033, 1034, 1035, 1036, 1037, 1038] (by decide +kernel) (by decide +kernel)
set_option maxRecDepth 20000 in
theorem gL_law_X9_parish : GoodIn wsL_law (wsV RL 38 RX9 yX9_parish wsX9_parish) := goodIn_app (goodIn_of _ (by decide +kernel)) ggL_law_X9_parish
set_option maxRecDepth 20000 in
theorem ggL_law_X10_parish : GoodIn wsL_law wsX10_parish := goodIn_r _ [247, 248, 55, 56, 57, 58, 59, 140, 141, 5, 142, 249, 250, 251, 252, 253, 254, 973, 974, 975, 976, 977, 978, 979, 980, 981, 982, 983, 984, 985, 986, 987, 988, 989, 990, 991, 992, 993, 994, 995, 996, 997, 998, 999, 1000, 1001, 1002, 1003, 1004, 1005, 1006, 1007] (by decide +kernel) (by decide +kernel)
set_option maxRecDepth 20000 in
theorem gL_law_X10_parish : GoodIn wsL_law (wsV RL 42 RX10 yX10_parish wsX10_parish) := goodIn_app (goodIn_of _ (by decide +kernel)) ggL_law_X10_parish
set_option maxRecDepth 20000 in
theorem ggL_law_X9_as : GoodIn wsL_law wsX9_as := goodIn_r _ [258, 259, 260, 261, 2, 262, 20, 263, 264, 265, 266, 267, 268, 962, 963, 964, 965, 966, 967, 968, 969, 970, 971, 972] (by decide +kernel) (by decide +kernel)
set_option maxRecDepth 20000 in
theorem gL_law_X9_as : GoodIn wsL_law (wsV RL 43 RX9 yX9_as wsX9_as) := goodIn_app (goodIn_of _ (by decide +kernel)) ggL_law_X9_as
set_option maxRecDepth 20000 in
theorem ggL_law_X10_as : GoodIn wsL_law wsX10_as := goodIn_r _ [272, 55, 273, 274, 275, 5, 276, 248, 140, 141, 142, 973, 974, 975, 976, 977, 978, 979, 980, 981, 982, 983, 984, 985, 986, 987, 988, 989, 990, 991, 992, 993, 994, 995, 996, 997, 998, 999, 1000, 1001, 1002, 1003, 1004, 1005, 1006, 1007] (by decide +kernel) (by decide +kernel)
set_option maxRecDepth 20000 in
theorem gL_law_X10_as : GoodIn wsL_law (wsV RL 46 RX10 yX10_as wsX10_as) := goodIn_app (goodIn_of _ (by decide +kernel)) ggL_law_X10_as
set_option maxRecDepth 20000 in
theorem ggL_law_X9_about : GoodIn wsL_law wsX9_about := goodIn_r _ [280, 259, 260, 261, 2, 262, 20, 281, 282, 283, 284, 226, 285, 234, 286, 287, 288, 289, 290, 291, 292, 293, 224, 294, 295, 296, 297, 298, 299, 300, 218, 301, 302, 303, 221, 304, 305, 306, 307, 308, 309, 310, 311, 312, 313, 314, 315, 316, 317, 318, 319, 320, 321, 322, 962, 963, 964, 965, 966, 967, 968, 969, 970, 971, 972, 1023, 1024, 1025, 1026, 1027, 1028, 1029, 1030, 1031, 1032, 1033, 1034, 1035, 1036, 1037, 1038] (by decide +kernel) (by decide +kernel)
set_option maxRecDepth 20000 in
theorem gL_law_X9_about : GoodIn wsL_law (wsV RL 47 RX9 yX9_about wsX9_about) := goodIn_app (goodIn_of _ (by decide +kernel)) ggL_law_X9_about
set_option maxRecDepth 20000 in
theorem ggL_law_X10_about : GoodIn wsL_law wsX10_about := goodIn_r _ [326, 273, 274, 275, 5, 276, 248, 140, 141, 142, 327, 328, 329, 330, 55, 56, 57, 58, 59, 331, 332, 333, 334, 973, 974, 975, 976, 977, 978, 979, 980, 981, 982, 983, 984, 985, 986, 987, 988, 989, 990, 991, 992, 993, 994, 995, 996, 997, 998, 999, 1000, 1001, 1002, 1003, 1004, 1005, 1006, 1007] (by decide +kernel) (by decide +kernel)
set_option maxRecDepth 20000 in
theorem gL_law_X10_about : GoodIn wsL_law (wsV RL 50 RX10 yX10_about wsX10_about) := goodIn_app (goodIn_of _ (by decide +kernel)) ggL_law_X10_about
set_option maxRecDepth 20000 in
theorem ggL_law_X9_change : GoodIn wsL_law wsX9_change := goodIn_r _ [338, 201, 202, 203, 259, 260, 261, 2, 262, 20, 210, 211, 212, 281, 282, 283, 284, 226, 285, 234, 286, 287, 288, 289, 290, 291, 292, 293, 224, 294, 295, 296, 297, 298, 299, 300, 218, 301, 302, 303, 221, 304, 305, 306, 307, 308, 309, 310, 311, 312, 313, 314, 315, 316, 317, 318, 319, 320, 321, 322, 1023, 1024, 1025, 1026, 1027, 1028, 1029, 1030, 1031, 1032, 1033, 1034, 1035, 1036, 1037, 1038, 962, 963, 964, 965, 966, 967, 968, 969, 970, 971, 972] (by decide +kernel) (by decide +kernel)
set_option maxRecDepth 20000 in
theorem gL_law_X9_change : GoodIn wsL_law (wsV RL 51 RX9 yX9_change wsX9_change) := goodIn_app (goodIn_of _ (by decide +kernel)) ggL_law_X9_change
set_option maxRecDepth 20000 in
theorem ggL_law_X10_change : GoodIn wsL_law wsX10_change := goodIn_r _ [342, 57, 58, 59, 273, 274, 275, 5, 276, 248, 140, 141, 142, 252, 253, 254, 327, 328, 329, 330, 55, 56, 331, 332, 333, 334, 973, 974, 975, 976, 977, 978, 979, 980, 981, 982, 983, 984, 985, 986, 987, 988, 989, 990, 991, 992, 993, 994, 995, 996, 997, 998, 999, 1000, 1001, 1002, 1003, 1004, 1005, 1006, 1007] (by decide +kernel) (by decide +kernel)
set_option maxRecDepth 20000 in
theorem gL_law_X10_change : GoodIn wsL_law (wsV RL 55 RX10 yX10_change wsX10_change) := goodIn_app (goodIn_of _ (by decide +kernel)) ggL_law_X10_change
set_option maxRecDepth 20000 in
theorem ggL_law_X9_lay : GoodIn wsL_law wsX9_lay := goodIn_r _ [346, 24, 347, 207, 208, 2, 209, 348, 349, 350, 23, 351, 352, 353, 354, 355, 356, 357, 40, 358, 41, 962, 963, 964, 965, 966, 967, 968, 969, 970, 971, 972, 1010, 1011, 1012, 1013, 1014, 1015, 1016, 1017] (by decide +kernel) (by decide +kernel)
set_option maxRecDepth 20000 in
theorem gL_law_X9_lay : GoodIn wsL_law (wsV RL 56 RX9 yX9_lay wsX9_lay) := goodIn_app (goodIn_of _ (by decide +kernel)) ggL_law_X9_lay
set_option maxRecDepth 20000 in
theorem ggL_law_X10_lay : GoodIn wsL_law wsX10_lay := goodIn_r _ [362, 53, 363, 364, 5, 365, 140, 141, 142, 366, 367, 368, 369, 370, 371, 372, 373, 374, 375, 376, 52, 973, 974, 975, 976, 977, 978, 979, 980, 981, 982, 983, 984, 985, 986, 987, 988, 989, 990, 991, 992, 993, 994, 995, 996, 997, 998, 999, 1000, 1001, 1002, 1003, 1004, 1005, 1006, 1007] (by decide +kernel) (by decide +kernel)
set_option maxRecDepth 20000 in
theorem gL_law_X10_lay : GoodIn wsL_law (wsV RL 59 RX10 yX10_lay wsX10_lay) := goodIn_app (goodIn_of _ (by decide +kernel)) ggL_law_X10_lay
set_option maxRecDepth 20000 in
theorem ggL_law_X9_take : GoodIn wsL_law wsX9_take := goodIn_r _ [380, 24, 347, 207, 208, 2, 209, 381, 382, 383, 23, 384, 40, 385, 386, 387, 388, 389, 962, 963, 964, 965, 966, 967, 968, 969, 970, 971, 972, 1010, 1011, 1012, 1013, 1014, 1015, 1016, 1017] (by decide +kernel) (by decide +kernel)
set_option maxRecDepth 20000 in
theorem gL_law_X9_take : GoodIn wsL_law (wsV RL 60 RX9 yX9_take wsX9_take) := goodIn_app (goodIn_of _ (by decide +kernel)) ggL_law_X9_take
set_option maxRecDepth 20000 in
theorem ggL_law_X10_take : GoodIn wsL_law wsX10_take := goodIn_r _ [393, 53, 363, 364, 5, 365, 140, 141, 142, 394, 395, 396, 397, 398, 973, 974, 975, 976, 977, 978, 979, 980, 981, 982, 983, 984, 985, 986, 987, 988, 989, 990, 991, 992, 993, 994, 995, 996, 997, 998, 999, 1000, 1001, 1002, 1003, 1004, 1005, 1006, 1007] (by decide +kernel) (by decide +kernel)
set_option maxRecDepth 20000 in
theorem gL_law_X10_take : GoodIn wsL_law (wsV RL 63 RX10 yX10_take wsX10_take) := goodIn_app (goodIn_of _ (by decide +kernel)) ggL_law_X10_take
set_option maxRecDepth 20000 in
theorem ggL_law_X9_height : GoodIn wsL_law wsX9_height := goodIn_r _ [402, 24, 347, 207, 208, 2, 209, 962, 963, 964, 965, 966, 967, 968, 969, 970, 971, 972, 1010, 1011, 1012, 1013, 1014, 1015, 1016, 1017] (by decide +kernel) (by decide +kernel)
set_option maxRecDepth 20000 in
theorem gL_law_X9_height : GoodIn wsL_law (wsV RL 64 RX9 yX9_height wsX9_height) := goodIn_app (goodIn_of _ (by decide +kernel)) ggL_law_X9_height
set_option maxRecDepth 20000 in
theorem ggL_law_X10_height : GoodIn wsL_law wsX10_height := goodIn_r _ [406, 53, 363, 364, 5, 365, 140, 141, 142, 973, 974, 975, 976, 977, 978, 979, 980, 981, 982, 983, 984, 985, 986, 987, 988, 989, 990, 991, 992, 993, 994, 995, 996, 997, 998, 999, 1000, 1001, 1002, 1003, 1004, 1005, 1006, 1007] (by decide +kernel) (by decide +kernel)
set_option maxRecDepth 20000 in
theorem gL_law_X10_height : GoodIn wsL_law (wsV RL 68 RX10 yX10_height wsX10_height) := goodIn_app (goodIn_of _ (by decide +kernel)) ggL_law_X10_height
set_option maxRecDepth 20000 in
theorem ggL_law_X9_mark : GoodIn wsL_law wsX9_mark := goodIn_r _ [410, 24, 207, 208, 2, 209, 411, 412, 413, 23, 414, 40, 41, 962, 963, 964, 965, 966, 967, 968, 969, 970, 971, 972, 1010, 1011, 1012, 1013, 1014, 1015, 1016, 1017] (by decide +kernel) (by decide +kernel)
set_option maxRecDepth 20000 in
theorem gL_law_X9_mark : GoodIn wsL_law (wsV RL 69 RX9 yX9_mark wsX9_mark) := goodIn_app (goodIn_of _ (by decide +kernel)) ggL_law_X9_mark
set_option maxRecDepth 20000 in
theorem ggL_law_X10_mark : GoodIn wsL_law wsX10_mark := goodIn_r _ [418, 363, 364, 5, 365, 140, 141, 142, 419, 420, 421, 422, 53, 52, 973, 974, 975, 976, 977, 978, 979, 980, 981, 982, 983, 984, 985, 986, 987, 988, 989, 990, 991, 992, 993, 994, 995, 996, 997, 998, 999, 1000, 1001, 1002, 1003, 1004, 1005, 1006, 1007] (by decide +kernel) (by decide +kernel)
set_option maxRecDepth 20000 in
theorem gL_law_X10_mark : GoodIn wsL_law (wsV RL 72 RX10 yX10_mark wsX10_mark) := goodIn_app (goodIn_of _ (by decide +kernel)) ggL_law_X10_mark
set_option maxRecDepth 20000 in
theorem ggL_law_X9_dated : GoodIn wsL_law wsX9_dated := goodIn_r _ [426, 24, 347, 207, 208, 2, 209, 411, 412, 413, 23, 414, 40, 41, 962, 963, 964, 965, 966, 967, 968, 969, 970, 971, 972, 1010, 1011, 1012, 1013, 1014, 1015, 1016, 1017] (by decide +kernel) (by decide +kernel)
set_option maxRecDepth 20000 in
theorem gL_law_X9_dated : GoodIn wsL_law (wsV RL 73 RX9 yX9_dated wsX9_dated) := goodIn_app (goodIn_of _ (by decide +kernel)) ggL_law_X9_dated
set_option maxRecDepth 20000 in
theorem ggL_law_X10_dated : GoodIn wsL_law wsX10_dated := goodIn_r _ [430, 53, 52, 363, 364, 5, 365, 140, 141, 142, 973, 974, 975, 976, 977, 978, 979, 980, 981, 982, 983, 984, 985, 986, 987, 988, 989, 990, 991, 992, 993, 994, 995, 996, 997, 998, 999, 1000, 1001, 1002, 1003, 1004, 1005, 1006, 1007] (by decide +kernel) (by decide +kernel)
set_option maxRecDepth 20000 in
theorem gL_law_X10_dated : GoodIn wsL_law (wsV RL 76 RX10 yX10_dated wsX10_dated) := goodIn_app (goodIn_of _ (by decide +kernel)) ggL_law_X10_dated
set_option maxRecDepth 20000 in
theorem ggL_law_X9_seed : GoodIn wsL_law wsX9_seed := goodIn_r _ [434, 24, 435, 962, 963, 964, 965, 966, 967, 968, 969, 970, 971, 972, 1010, 1011, 1012, 1013, 1014, 1015, 1016, 1017] (by decide +kernel) (by decide +kernel)
set_option maxRecDepth 20000 in
theorem gL_law_X9_seed : GoodIn wsL_law (wsV RL 77 RX9 yX9_seed wsX9_seed) := goodIn_app (goodIn_of _ (by decide +kernel)) ggL_law_X9_seed
set_option maxRecDepth 20000 in
theorem ggL_law_X10_seed : GoodIn wsL_law wsX10_seed := goodIn_r _ [439, 54, 973, 974, 975, 976, 977, 978, 979, 980, 981, 982, 983, 984, 985, 986, 987, 988, 989, 990, 991, 992, 993, 994, 995, 996, 997, 998, 999, 1000, 1001, 1002, 1003, 1004, 1005, 1006, 1007] (by decide +kernel) (by decide +kernel)
set_option maxRecDepth 20000 in
theorem gL_law_X10_seed : GoodIn wsL_law (wsV RL 80 RX10 yX10_seed wsX10_seed) := goodIn_app (goodIn_of _ (by decide +kernel)) ggL_law_X10_seed
set_option maxRecDepth 20000 in
theorem ggL_law_X9_weeks : GoodIn wsL_law wsX9_weeks := goodIn_r _ [443, 24, 444, 20, 176, 177, 178, 2, 179, 18, 445, 446, 447, 23, 448, 352, 449, 450, 451, 452, 453, 454, 455, 456, 457, 458, 459, 460, 461, 462, 463, 42, 464, 465, 466, 467, 468, 469, 470, 471, 472, 473, 40, 474, 475, 476, 477, 478, 306, 307, 308, 226, 309, 479, 311, 312, 313, 314, 218, 315, 316, 317, 318, 480, 349, 350, 351, 353, 354, 355, 356, 357, 358, 41, 208, 209, 481, 482, 483, 484, 485, 224, 486, 487, 488, 489, 490, 491, 492, 493, 494, 495, 496, 497, 221, 498, 499, 500, 501, 502, 503, 504, 505, 506, 507, 508, 509, 510, 511, 382, 383, 384, 385, 386, 387, 388, 389, 512, 412, 413, 414, 513, 514, 515, 159, 516, 166, 517, 518, 519, 520, 521, 522, 523, 524, 962, 963, 964, 965, 966, 967, 968, 969, 970, 971, 972, 1010, 1011, 1012, 1013, 1014, 1015, 1016, 1017, 1023, 1024, 1025, 1026, 1027, 1028, 1029, 1030, 1031, 1032, 1033, 1034, 1035, 1036, 1037, 1038, 1020, 1021, 1022] (by decide +kernel) (by decide +kernel)
set_option maxRecDepth 20000 in
theorem gL_law_X9_weeks : GoodIn wsL_law (wsV RL 81 RX9 yX9_weeks wsX9_weeks) := goodIn_app (goodIn_of _ (by decide +kernel)) ggL_law_X9_weeks
set_option maxRecDepth 20000 in
theorem ggL_law_X10_weeks : GoodIn wsL_law wsX10_weeks := goodIn_r _ [528, 371, 188, 189, 190, 5, 191, 171, 140, 141, 142, 529, 530, 531, 532, 248, 57, 58, 59, 62, 53, 533, 534, 535, 536, 537, 54, 538, 539, 540, 541, 542, 543, 544, 545, 60, 546, 547, 548, 549, 550, 551, 552, 553, 554, 555, 556, 557, 558, 331, 332, 333, 334, 55, 56, 366, 367, 368, 369, 370, 372, 373, 374, 375, 376, 52, 559, 560, 561, 562, 61, 419, 420, 421, 422, 394, 395, 396, 397, 398, 563, 564, 565, 566, 973, 974, 975, 976, 977, 978, 979, 980, 981, 982, 983, 984, 985, 986, 987, 988, 989, 990, 991, 992, 993, 994, 995, 996, 997, 998, 999, 1000, 1001, 1002, 1003, 1004, 1005, 1006, 1007] (by decide +kernel) (by decide +kernel)
set_option maxRecDepth 20000 in
theorem gL_law_X10_weeks : GoodIn wsL_law (wsV RL 84 RX10 yX10_weeks wsX10_weeks) := goodIn_app (goodIn_of _ (by decide +kernel)) ggL_law_X10_weeks
set_option maxRecDepth 20000 in
theorem ggL_law_X9_would : GoodIn wsL_law wsX9_would := goodIn_r _ [570, 26, 347, 176, 177, 178, 2, 179, 18, 207, 208, 209, 571, 572, 573, 574, 24, 20, 575, 576, 577, 23, 578, 40, 579, 580, 581, 582, 41, 352, 456, 42, 353, 389, 358, 445, 446, 447, 448, 449, 450, 451, 452, 453, 454, 455, 457, 458, 459, 460, 461, 462, 463, 464, 465, 466, 467, 468, 469, 470, 471, 472, 473, 474, 475, 476, 477, 478, 306, 307, 308, 226, 309, 479, 311, 312, 313, 314, 218, 315, 316, 317, 318, 480, 349, 350, 351, 354, 355, 356, 357, 481, 482, 483, 484, 485, 224, 486, 487, 488, 489, 490, 491, 492, 493, 494, 495, 496, 497, 221, 498, 499, 500, 501, 502, 503, 504, 505, 506, 507, 508, 509, 510, 511, 382, 383, 384, 385, 386, 387, 388, 512, 412, 413, 414, 513, 514, 515, 159, 516, 166, 517, 518, 519, 520, 962, 963, 964, 965, 966, 967, 968, 969, 970, 971, 972, 1010, 1011, 1012, 1013, 1014, 1015, 1016, 1017, 1023, 1024, 1025, 1026, 1027, 1028, 1029, 1030, 1031, 1032, 1033, 1034, 1035, 1036, 1037, 1038, 1020, 1021, 1022] (by decide +kernel) (by decide +kernel)
set_option maxRecDepth 20000 in
theorem gL_law_X9_would : GoodIn wsL_law (wsV RL 85 RX9 yX9_would wsX9_would) := goodIn_app (goodIn_of _ (by decide +kernel)) ggL_law_X9_would
set_option maxRecDepth 20000 in
theorem ggL_law_X10_would : GoodIn wsL_law wsX10_would := goodIn_r _ [586, 188, 189, 190, 5, 191, 171, 140, 141, 142, 363, 364, 365, 587, 588, 589, 590, 53, 591, 592, 593, 594, 54, 595, 66, 52, 371, 546, 370, 398, 376, 529, 530, 531, 532, 248, 57, 58, 59, 62, 533, 534, 535, 536, 537, 538, 539, 540, 541, 542, 543, 544, 545, 60, 547, 548, 549, 550, 551, 552, 553, 554, 555, 556, 557, 558, 331, 332, 333, 334, 55, 56, 366, 367, 368, 369, 372, 373, 374, 375, 559, 560, 561, 562, 61, 419, 420, 421, 422, 394, 395, 396, 397, 596, 597, 598, 599, 973, 974, 975, 976, 977, 978, 979, 980, 981, 982, 983, 984, 985, 986, 987, 988, 989, 990, 991, 992, 993, 994, 995, 996, 997, 998, 999, 1000, 1001, 1002, 1003, 1004, 1005, 1006, 1007] (by decide +kernel) (by decide +kernel)
set_option maxRecDepth 20000 in
theorem gL_law_X10_would : GoodIn wsL_law (wsV RL 88 RX10 yX10_would wsX10_would) := goodIn_app (goodIn_of _ (by decide +kernel)) ggL_law_X10_would
set_option maxRecDepth 20000 in
theorem ggL_law_X9_order : GoodIn wsL_law wsX9_order := goodIn_r _ [603, 24, 604, 605, 606, 23, 607, 40, 208, 2, 209, 962, 963, 964, 965, 966, 967, 968, 969, 970, 971, 972, 1010, 1011, 1012, 1013, 1014, 1015, 1016, 1017] (by decide +kernel) (by decide +kernel)
set_option maxRecDepth 20000 in
theorem gL_law_X9_order : GoodIn wsL_law (wsV RL 89 RX9 yX9_order wsX9_order) := goodIn_app (goodIn_of _ (by decide +kernel)) ggL_law_X9_order
set_option maxRecDepth 20000 in
theorem ggL_law_X10_order : GoodIn wsL_law wsX10_order := goodIn_r _ [611, 53, 363, 364, 5, 365, 140, 141, 142, 973, 974, 975, 976, 977, 978, 979, 980, 981, 982, 983, 984, 985, 986, 987, 988, 989, 990, 991, 992, 993, 994, 995, 996, 997, 998, 999, 1000, 1001, 1002, 1003, 1004, 1005, 1006, 1007] (by decide +kernel) (by decide +kernel)
set_option maxRecDepth 20000 in
theorem gL_law_X10_order : GoodIn wsL_law (wsV RL 92 RX10 yX10_order wsX10_order) := goodIn_app (goodIn_of _ (by decide +kernel)) ggL_law_X10_order
set_option maxRecDepth 20000 in
theorem ggL_law_X9_odds : GoodIn wsL_law wsX9_odds := goodIn_r _ [615, 616, 617, 201, 259, 260, 261, 2, 262, 20, 618, 619, 620, 621, 622, 623, 624, 625, 626, 627, 628, 629, 630, 631, 632, 633, 634, 635, 636, 637, 638, 639, 1023, 1024, 1025, 1026, 1027, 1028, 1029, 1030, 1031, 1032, 1033, 1034, 1035, 1036, 1037, 1038, 962, 963, 964, 965, 966, 967, 968, 969, 970, 971, 972] (by decide +kernel) (by decide +kernel)
set_option maxRecDepth 20000 in
theorem gL_law_X9_odds : GoodIn wsL_law (wsV RL 93 RX9 yX9_odds wsX9_odds) := goodIn_app (goodIn_of _ (by decide +kernel)) ggL_law_X9_odds
set_option maxRecDepth 20000 in
theorem ggL_law_X10_odds : GoodIn wsL_law wsX10_odds := goodIn_r _ [643, 644, 57, 645, 273, 274, 275, 5, 276, 248, 140, 141, 142, 646, 647, 648, 649, 541, 58, 59, 650, 651, 652, 653, 654, 655, 656, 657, 658, 659, 660, 661, 662, 663, 973, 974, 975, 976, 977, 978, 979, 980, 981, 982, 983, 984, 985, 986, 987, 988, 989, 990, 991, 992, 993, 994, 995, 996, 997, 998, 999, 1000, 1001, 1002, 1003, 1004, 1005, 1006, 1007] (by decide +kernel) (by decide +kernel)
set_option maxRecDepth 20000 in
theorem gL_law_X10_odds : GoodIn wsL_law (wsV RL 97 RX10 yX10_odds wsX10_odds) := goodIn_app (goodIn_of _ (by decide +kernel)) ggL_law_X10_odds
set_option maxRecDepth 20000 in
theorem ggL_law_X9_chance : GoodIn wsL_law wsX9_chance := goodIn_r _ [667, 616, 617, 259, 260, 261, 2, 262, 20, 668, 669, 670, 671, 672, 620, 673, 622, 674, 306, 307, 308, 226, 309, 675, 311, 312, 313, 314, 218, 315, 316, 317, 318, 676, 677, 678, 679, 680, 221, 681, 682, 683, 684, 685, 686, 687, 688, 619, 621, 623, 624, 625, 626, 627, 628, 629, 630, 631, 632, 633, 634, 635, 636, 637, 638, 639, 962, 963, 964, 965, 966, 967, 968, 969, 970, 971, 972, 1023, 1024, 1025, 1026, 1027, 1028, 1029, 1030, 1031, 1032, 1033, 1034, 1035, 1036, 1037, 1038] (by decide +kernel) (by decide +kernel)
set_option maxRecDepth 20000 in
theorem gL_law_X9_chance : GoodIn wsL_law (wsV RL 98 RX9 yX9_chance wsX9_chance) := goodIn_app (goodIn_of _ (by decide +kernel)) ggL_law_X9_chance
set_option maxRecDepth 20000 in
theorem ggL_law_X10_chance : GoodIn wsL_law wsX10_chance := goodIn_r _ [692, 644, 645, 273, 274, 275, 5, 276, 248, 140, 141, 142, 693, 694, 695, 696, 697, 698, 699, 57, 700, 701, 702, 703, 55, 331, 332, 333, 334, 56, 646, 647, 648, 649, 541, 58, 59, 650, 651, 652, 653, 654, 655, 656, 657, 658, 659, 660, 661, 662, 663, 973, 974, 975, 976, 977, 978, 979, 980, 981, 982, 983, 984, 985, 986, 987, 988, 989, 990, 991, 992, 993, 994, 995, 996, 997, 998, 999, 1000, 1001, 1002, 1003, 1004, 1005, 1006, 1007] (by decide +kernel) (by decide +kernel)
set_option maxRecDepth 20000 in
theorem gL_law_X10_chance : GoodIn wsL_law (wsV RL 102 RX10 yX10_chance wsX10_chance) := goodIn_app (goodIn_of _ (by decide +kernel)) ggL_law_X10_chance
set_option maxRecDepth 20000 in
theorem ggL_law_X9_sinned : GoodIn wsL_law wsX9_sinned := goodIn_r _ [707, 616, 617, 708, 259, 260, 261, 2, 262, 20, 668, 669, 670, 671, 672, 620, 673, 622, 674, 306, 307, 308, 226, 309, 675, 311, 312, 313, 314, 218, 315, 316, 317, 318, 676, 677, 678, 679, 680, 221, 681, 682, 683, 684, 685, 686, 687, 688, 619, 621, 623, 624, 625, 626, 627, 628, 629, 630, 634, 635, 636, 637, 638, 639, 962, 963, 964, 965, 966, 967, 968, 969, 970, 971, 972, 1023, 1024, 1025, 1026, 1027, 1028, 1029, 1030, 1031, 1032, 1033, 1034, 1035, 1036, 1037, 1038] (by decide +kernel) (by decide +kernel)
set_option maxRecDepth 20000 in
theorem gL_law_X9_sinned : GoodIn wsL_law (wsV RL 103 RX9 yX9_sinned wsX9_sinned) := goodIn_app (goodIn_of _ (by decide +kernel)) ggL_law_X9_sinned
set_option maxRecDepth 20000 in
theorem ggL_law_X10_sinned : GoodIn wsL_law wsX10_sinned := goodIn_r _ [712, 644, 645, 713, 273, 274, 275, 5, 276, 248, 140, 141, 142, 693, 694, 695, 696, 697, 698, 699, 57, 700, 701, 702, 703, 55, 331, 332, 333, 334, 56, 646, 647, 648, 649, 541, 58, 59, 650, 651, 652, 653, 654, 655, 661, 662, 663, 973, 974, 975, 976, 977, 978, 979, 980, 981, 982, 983, 984, 985, 986, 987, 988, 989, 990, 991, 992, 993, 994, 995, 996, 997, 998, 999, 1000, 1001, 1002, 1003, 1004, 1005, 1006, 1007] (by decide +kernel) (by decide +kernel)
set_option maxRecDepth 20000 in
theorem gL_law_X10_sinned : GoodIn wsL_law (wsV RL 106 RX10 yX10_sinned wsX10_sinned) := goodIn_app (goodIn_of _ (by decide +kernel)) ggL_law_X10_sinned
set_option maxRecDepth 20000 in
theorem ggL_law_X9_bounds : GoodIn wsL_law wsX9_bounds := goodIn_r _ [717, 32, 20, 718, 719, 720, 31, 721, 722, 723, 724, 725, 726, 727, 728, 729, 46, 730, 731, 732, 733, 734, 735, 736, 737, 738, 739, 740, 741, 742, 47, 743, 744, 745, 746, 226, 747, 287, 288, 748, 749, 750, 751, 752, 753, 754, 755, 756, 757, 758, 759, 760, 761, 306, 307, 308, 309, 762, 311, 312, 313, 314, 218, 315, 316, 317, 318, 763, 764, 765, 766, 767, 677, 678, 679, 680, 221, 681, 682, 768, 684, 685, 686, 687, 769, 770, 771, 772, 773, 774, 775, 776, 777, 778, 779, 780, 781, 782, 783, 784, 785, 786, 787, 788, 789, 790, 791, 792, 793, 794, 795, 796, 797, 798, 799, 800, 801, 962, 963, 964, 965, 966, 967, 968, 969, 970, 971, 972, 1018, 1019, 1023, 1024, 1025, 1026, 1027, 1028, 1029, 1030, 1031, 1032, 1033, 1034, 1035, 1036, 1037, 1038] (by decide +kernel) (by decide +kernel)
set_option maxRecDepth 20000 in
theorem gL_law_X9_bounds : GoodIn wsL_law (wsV RL 107 RX9 yX9_bounds wsX9_bounds) := goodIn_app (goodIn_of _ (by decide +kernel)) ggL_law_X9_bounds
set_option maxRecDepth 20000 in
theorem ggL_law_X10_bounds : GoodIn wsL_law wsX10_bounds := goodIn_r _ [805, 140, 141, 5, 142, 806, 807, 808, 809, 67, 68, 248, 810, 811, 812, 813, 814, 815, 816, 817, 818, 69, 70, 57, 819, 820, 821, 822, 58, 59, 700, 701, 702, 703, 55, 331, 332, 333, 334, 56, 823, 824, 825, 826, 973, 974, 975, 976, 977, 978, 979, 980, 981, 982, 983, 984, 985, 986, 987, 988, 989, 990, 991, 992, 993, 994, 995, 996, 997, 998, 999, 1000, 1001, 1002, 1003, 1004, 1005, 1006, 1007] (by decide +kernel) (by decide +kernel)
set_option maxRecDepth 20000 in
theorem gL_law_X10_bounds : GoodIn wsL_law (wsV RL 110 RX10 yX10_bounds wsX10_bounds) := goodIn_app (goodIn_of _ (by decide +kernel)) ggL_law_X10_bounds
set_option maxRecDepth 20000 in
theorem ggL_law_X9_shows : GoodIn wsL_law wsX9_shows := goodIn_r _ [830, 26, 24, 20, 176, 177, 178, 2, 179, 18, 207, 208, 209, 575, 576, 577, 23, 578, 40, 579, 580, 581, 582, 41, 352, 456, 42, 353, 389, 358, 348, 349, 350, 351, 354, 355, 356, 357, 445, 446, 447, 448, 449, 450, 451, 452, 453, 454, 455, 457, 458, 459, 460, 461, 462, 463, 464, 465, 466, 467, 468, 469, 470, 471, 472, 473, 474, 475, 476, 477, 478, 306, 307, 308, 226, 309, 479, 311, 312, 313, 314, 218, 315, 316, 317, 318, 480, 481, 482, 483, 484, 485, 224, 486, 487, 488, 489, 490, 491, 492, 493, 494, 495, 496, 497, 221, 498, 499, 500, 501, 502, 503, 504, 505, 506, 507, 508, 509, 510, 511, 382, 383, 384, 385, 386, 387, 388, 512, 412, 413, 414, 513, 514, 515, 159, 516, 166, 517, 518, 519, 520, 831, 832, 833, 834, 835, 836, 837, 838, 962, 963, 964, 965, 966, 967, 968, 969, 970, 971, 972, 1010, 1011, 1012, 1013, 1014, 1015, 1016, 1017, 1023, 1024, 1025, 1026, 1027, 1028, 1029, 1030, 1031, 1032, 1033, 1034, 1035, 1036, 1037, 1038, 1020, 1021, 1022] (by decide +kernel) (by decide +kernel)
set_option maxRecDepth 20000 in
theorem gL_law_X9_shows : GoodIn wsL_law (wsV RL 111 RX9 yX9_shows wsX9_shows) := goodIn_app (goodIn_of _ (by decide +kernel)) ggL_law_X9_shows
set_option maxRecDepth 20000 in
theorem ggL_law_X10_shows : GoodIn wsL_law wsX10_shows := goodIn_r _ [842, 188, 189, 190, 5, 191, 171, 140, 141, 142, 363, 364, 365, 591, 592, 593, 594, 54, 595, 66, 52, 53, 371, 546, 370, 398, 376, 366, 367, 368, 369, 372, 373, 374, 375, 843, 844, 845, 846, 529, 530, 531, 532, 248, 57, 58, 59, 62, 533, 534, 535, 536, 537, 538, 539, 540, 541, 542, 543, 544, 545, 60, 547, 548, 549, 550, 551, 552, 553, 554, 555, 556, 557, 558, 331, 332, 333, 334, 55, 56, 559, 560, 561, 562, 61, 419, 420, 421, 422, 394, 395, 396, 397, 596, 597, 598, 599, 973, 974, 975, 976, 977, 978, 979, 980, 981, 982, 983, 984, 985, 986, 987, 988, 989, 990, 991, 992, 993, 994, 995, 996, 997, 998, 999, 1000, 1001, 1002, 1003, 1004, 1005, 1006, 1007] (by decide +kernel) (by decide +kernel)
set_option maxRecDepth 20000 in
theorem gL_law_X10_shows : GoodIn wsL_law (wsV RL 114 RX10 yX10_shows wsX10_shows) := goodIn_app (goodIn_of _ (by decide +kernel)) ggL_law_X10_shows
set_option maxRecDepth 20000 in
theorem ggL_law_X9_gone : GoodIn wsL_law wsX9_gone := goodIn_r _ [850, 26, 24, 347, 176, 177, 178, 2, 179, 18, 207, 208, 209, 575, 576, 577, 23, 578, 40, 579, 580, 581, 582, 41, 352, 456, 42, 353, 389, 358, 851, 852, 853, 854, 20, 445, 446, 447, 448, 449, 450, 451, 452, 453, 454, 455, 457, 458, 459, 460, 461, 462, 463, 464, 465, 466, 467, 468, 469, 470, 471, 472, 473, 474, 475, 476, 477, 478, 306, 307, 308, 226, 309, 479, 311, 312, 313, 314, 218, 315, 316, 317, 318, 480, 349, 350, 351, 354, 355, 356, 357, 481, 482, 483, 484, 485, 224, 486, 487, 488, 489, 490, 491, 492, 493, 494, 495, 496, 497, 221, 498, 499, 500, 501, 502, 503, 504, 505, 506, 507, 508, 509, 510, 511, 382, 383, 384, 385, 386, 387, 388, 512, 412, 413, 414, 513, 514, 515, 159, 516, 166, 517, 518, 519, 520, 962, 963, 964, 965, 966, 967, 968, 969, 970, 971, 972, 1010, 1011, 1012, 1013, 1014, 1015, 1016, 1017, 1023, 1024, 1025, 1026, 1027, 1028, 1029, 1030, 1031, 1032, 1033, 1034, 1035, 1036, 1037, 1038, 1020, 1021, 1022] (by decide +kernel) (by decide +kernel)
set_option maxRecDepth 20000 in
theorem gL_law_X9_gone : GoodIn wsL_law (wsV RL 115 RX9 yX9_gone wsX9_gone) := goodIn_app (goodIn_of _ (by decide +kernel)) ggL_law_X9_gone
set_option maxRecDepth 20000 in
theorem ggL_law_X10_gone : GoodIn wsL_law wsX10_gone := goodIn_r _ [858, 53, 188, 189, 190, 5, 191, 171, 140, 141, 142, 363, 364, 365, 591, 592, 593, 594, 54, 595, 66, 52, 371, 546, 370, 398, 376, 529, 530, 531, 532, 248, 57, 58, 59, 62, 533, 534, 535, 536, 537, 538, 539, 540, 541, 542, 543, 544, 545, 60, 547, 548, 549, 550, 551, 552, 553, 554, 555, 556, 557, 558, 331, 332, 333, 334, 55, 56, 366, 367, 368, 369, 372, 373, 374, 375, 559, 560, 561, 562, 61, 419, 420, 421, 422, 394, 395, 396, 397, 596, 597, 598, 599, 973, 974, 975, 976, 977, 978, 979, 980, 981, 982, 983, 984, 985, 986, 987, 988, 989, 990, 991, 992, 993, 994, 995, 996, 997, 998, 999, 1000, 1001, 1002, 1003, 1004, 1005, 1006, 1007] (by decide +kernel) (by decide +kernel)
set_option maxRecDepth 20000 in
theorem gL_law_X10_gone : GoodIn wsL_law (wsV RL 118 RX10 yX10_gone wsX10_gone) := goodIn_app (goodIn_of _ (by decide +kernel)) ggL_law_X10_gone
set_option maxRecDepth 20000 in
theorem ggL_law_X9_saved : GoodIn wsL_law wsX9_saved := goodIn_r _ [862, 24, 347, 26, 176, 177, 178, 2, 179, 18, 207, 208, 209, 575, 576, 577, 23, 578, 40, 579, 580, 581, 582, 41, 352, 456, 42, 353, 389, 358, 348, 349, 350, 351, 354, 355, 356, 357, 851, 852, 853, 854, 20, 445, 446, 447, 448, 449, 450, 451, 452, 453, 454, 455, 457, 458, 459, 460, 461, 462, 463, 464, 465, 466, 467, 468, 469, 470, 471, 472, 473, 474, 475, 476, 477, 478, 306, 307, 308, 226, 309, 479, 311, 312, 313, 314, 218, 315, 316, 317, 318, 480, 481, 482, 483, 484, 485, 224, 486, 487, 488, 489, 490, 491, 492, 493, 494, 495, 496, 497, 221, 498, 499, 500, 501, 502, 503, 504, 505, 506, 507, 508, 509, 510, 511, 382, 383, 384, 385, 386, 387, 388, 512, 412, 413, 414, 513, 514, 515, 159, 516, 166, 517, 518, 519, 520, 962, 963, 964, 965, 966, 967, 968, 969, 970, 971, 972, 1010, 1011, 1012, 1013, 1014, 1015, 1016, 1017, 1023, 1024, 1025, 1026, 1027, 1028, 1029, 1030, 1031, 1032, 1033, 1034, 1035, 1036, 1037, 1038, 1020, 1021, 1022] (by decide +kernel) (by decide +kernel)
set_option maxRecDepth 20000 in
theorem gL_law_X9_saved : GoodIn wsL_law (wsV RL 119 RX9 yX9_saved wsX9_saved) := goodIn_app (goodIn_of _ (by decide +kernel)) ggL_law_X9_saved
set_option maxRecDepth 20000 in
theorem ggL_law_X10_saved : GoodIn wsL_law wsX10_saved := goodIn_r _ [866, 188, 189, 190, 5, 191, 171, 140, 141, 142, 363, 364, 365, 867, 868, 869, 870, 53, 591, 592, 593, 594, 54, 595, 66, 52, 371, 546, 370, 398, 376, 366, 367, 368, 369, 372, 373, 374, 375, 529, 530, 531, 532, 248, 57, 58, 59, 62, 533, 534, 535, 536, 537, 538, 539, 540, 541, 542, 543, 544, 545, 60, 547, 548, 549, 550, 551, 552, 553, 554, 555, 556, 557, 558, 331, 332, 333, 334, 55, 56, 559, 560, 561, 562, 61, 419, 420, 421, 422, 394, 395, 396, 397, 596, 597, 598, 599, 973, 974, 975, 976, 977, 978, 979, 980, 981, 982, 983, 984, 985, 986, 987, 988, 989, 990, 991, 992, 993, 994, 995, 996, 997, 998, 999, 1000, 1001, 1002, 1003, 1004, 1005, 1006, 1007] (by decide +kernel) (by decide +kernel)
set_option maxRecDepth 20000 in
theorem gL_law_X10_saved : GoodIn wsL_law (wsV RL 122 RX10 yX10_saved wsX10_saved) := goodIn_app (goodIn_of _ (by decide +kernel)) ggL_law_X10_saved
set_option maxRecDepth 20000 in
theorem ggL_law_X9_unlike : GoodIn wsL_law wsX9_unlike := goodIn_r _ [874, 28, 26, 347, 875, 876, 387, 877, 176, 177, 178, 2, 179, 18, 571, 572, 573, 574, 24, 20, 575, 576, 577, 23, 578, 40, 579, 580, 581, 582, 41, 352, 456, 42, 353, 389, 358, 445, 446, 447, 448, 449, 450, 451, 452, 453, 454, 455, 457, 458, 459, 460, 461, 462, 463, 464, 465, 466, 467, 468, 469, 470, 471, 472, 473, 474, 475, 476, 477, 478, 306, 307, 308, 226, 309, 479, 311, 312, 313, 314, 218, 315, 316, 317, 318, 480, 349, 350, 351, 354, 355, 356, 357, 208, 209, 481, 482, 483, 484, 485, 224, 486, 487, 488, 489, 490, 491, 492, 493, 494, 495, 496, 497, 221, 498, 499, 500, 501, 502, 503, 504, 505, 506, 507, 508, 509, 510, 511, 382, 383, 384, 385, 386, 388, 512, 412, 413, 414, 513, 514, 515, 159, 516, 166, 517, 518, 519, 520, 962, 963, 964, 965, 966, 967, 968, 969, 970, 971, 972, 1010, 1011, 1012, 1013, 1014, 1015, 1016, 1017, 1023, 1024, 1025, 1026, 1027, 1028, 1029, 1030, 1031, 1032, 1033, 1034, 1035, 1036, 1037, 1038, 1020, 1021, 1022] (by decide +kernel) (by decide +kernel)
set_option maxRecDepth 20000 in
theorem gL_law_X9_unlike : GoodIn wsL_law (wsV RL 123 RX9 yX9_unlike wsX9_unlike) := goodIn_app (goodIn_of _ (by decide +kernel)) ggL_law_X9_unlike
set_option maxRecDepth 20000 in
theorem ggL_law_X10_unlike : GoodIn wsL_law wsX10_unlike := goodIn_r _ [881, 188, 189, 190, 5, 191, 171, 140, 141, 142, 587, 588, 589, 590, 53, 591, 592, 593, 594, 54, 595, 66, 52, 371, 546, 370, 398, 376, 529, 530, 531, 532, 248, 57, 58, 59, 62, 533, 534, 535, 536, 537, 538, 539, 540, 541, 542, 543, 544, 545, 60, 547, 548, 549, 550, 551, 552, 553, 554, 555, 556, 557, 558, 331, 332, 333, 334, 55, 56, 366, 367, 368, 369, 372, 373, 374, 375, 559, 560, 561, 562, 61, 419, 420, 421, 422, 394, 395, 396, 397, 596, 597, 598, 599, 973, 974, 975, 976, 977, 978, 979, 980, 981, 982, 983, 984, 985, 986, 987, 988, 989, 990, 991, 992, 993, 994, 995, 996, 997, 998, 999, 1000, 1001, 1002, 1003, 1004, 1005, 1006, 1007] (by decide +kernel) (by decide +kernel)
set_option maxRecDepth 20000 in
theorem gL_law_X10_unlike : GoodIn wsL_law (wsV RL 126 RX10 yX10_unlike wsX10_unlike) := goodIn_app (goodIn_of _ (by decide +kernel)) ggL_law_X10_unlike
set_option maxRecDepth 20000 in
theorem ggL_law_X9_lie : GoodIn wsL_law wsX9_lie := goodIn_r _ [885, 24, 347, 207, 208, 2, 209, 521, 522, 523, 23, 524, 40, 886, 836, 837, 838, 962, 963, 964, 965, 966, 967, 968, 969, 970, 971, 972, 1010, 1011, 1012, 1013, 1014, 1015, 1016, 1017] (by decide +kernel) (by decide +kernel)
set_option maxRecDepth 20000 in
theorem gL_law_X9_lie : GoodIn wsL_law (wsV RL 127 RX9 yX9_lie wsX9_lie) := goodIn_app (goodIn_of _ (by decide +kernel)) ggL_law_X9_lie
set_option maxRecDepth 20000 in
theorem ggL_law_X10_lie : GoodIn wsL_law wsX10_lie := goodIn_r _ [890, 53, 363, 364, 5, 365, 140, 141, 142, 563, 564, 565, 566, 973, 974, 975, 976, 977, 978, 979, 980, 981, 982, 983, 984, 985, 986, 987, 988, 989, 990, 991, 992, 993, 994, 995, 996, 997, 998, 999, 1000, 1001, 1002, 1003, 1004, 1005, 1006, 1007] (by decide +kernel) (by decide +kernel)
set_option maxRecDepth 20000 in
theorem gL_law_X10_lie : GoodIn wsL_law (wsV RL 130 RX10 yX10_lie wsX10_lie) := goodIn_app (goodIn_of _ (by decide +kernel)) ggL_law_X10_lie
set_option maxRecDepth 20000 in
theorem ggL_law_X9_image : GoodIn wsL_law wsX9_image := goodIn_r _ [894, 25, 24, 895, 575, 576, 577, 23, 578, 40, 579, 580, 581, 582, 41, 352, 456, 42, 353, 389, 358, 521, 522, 523, 524, 962, 963, 964, 965, 966, 967, 968, 969, 970, 971, 972, 1010, 1011, 1012, 1013, 1014, 1015, 1016, 1017] (by decide +kernel) (by decide +kernel)
set_option maxRecDepth 20000 in
theorem gL_law_X9_image : GoodIn wsL_law (wsV RL 131 RX9 yX9_image wsX9_image) := goodIn_app (goodIn_of _ (by decide +kernel)) ggL_law_X9_image
set_option maxRecDepth 20000 in
theorem ggL_law_X10_image : GoodIn wsL_law wsX10_image := goodIn_r _ [899, 900, 595, 901, 65, 66, 591, 592, 593, 5, 594, 54, 52, 53, 371, 546, 370, 398, 376, 563, 564, 565, 566, 973, 974, 975, 976, 977, 978, 979, 980, 981, 982, 983, 984, 985, 986, 987, 988, 989, 990, 991, 992, 993, 994, 995, 996, 997, 998, 999, 1000, 1001, 1002, 1003, 1004, 1005, 1006, 1007] (by decide +kernel) (by decide +kernel)
set_option maxRecDepth 20000 in
theorem gL_law_X10_image : GoodIn wsL_law (wsV RL 134 RX10 yX10_image wsX10_image) := goodIn_app (goodIn_of _ (by decide +kernel)) ggL_law_X10_image
set_option maxRecDepth 20000 in
theorem ggL_law_X9_restore : GoodIn wsL_law wsX9_restore := goodIn_r _ [905, 895, 24, 25, 575, 576, 577, 23, 578, 40, 579, 580, 581, 582, 41, 352, 456, 42, 353, 389, 358, 521, 522, 523, 524, 962, 963, 964, 965, 966, 967, 968, 969, 970, 971, 972, 1010, 1011, 1012, 1013, 1014, 1015, 1016, 1017] (by decide +kernel) (by decide +kernel)
set_option maxRecDepth 20000 in
theorem gL_law_X9_restore : GoodIn wsL_law (wsV RL 135 RX9 yX9_restore wsX9_restore) := goodIn_app (goodIn_of _ (by decide +kernel)) ggL_law_X9_restore
set_option maxRecDepth 20000 in
theorem ggL_law_X10_restore : GoodIn wsL_law wsX10_restore := goodIn_r _ [909, 900, 901, 595, 66, 65, 596, 597, 598, 5, 599, 54, 52, 53, 371, 546, 370, 398, 376, 563, 564, 565, 566, 973, 974, 975, 976, 977, 978, 979, 980, 981, 982, 983, 984, 985, 986, 987, 988, 989, 990, 991, 992, 993, 994, 995, 996, 997, 998, 999, 1000, 1001, 1002, 1003, 1004, 1005, 1006, 1007] (by decide +kernel) (by decide +kernel)
set_option maxRecDepth 20000 in
theorem gL_law_X10_restore : GoodIn wsL_law (wsV RL 138 RX10 yX10_restore wsX10_restore) := goodIn_app (goodIn_of _ (by decide +kernel)) ggL_law_X10_restore
set_option maxRecDepth 20000 in
theorem ggL_law_X9_count : GoodIn wsL_law wsX9_count := goodIn_r _ [913, 200, 147, 24, 444, 435, 914, 915, 916, 917, 16, 75, 521, 522, 523, 23, 524, 40, 962, 963, 964, 965, 966, 967, 968, 969, 970, 971, 972, 1010, 1011, 1012, 1013, 1014, 1015, 1016, 1017, 1008, 1009] (by decide +kernel) (by decide +kernel)
set_option maxRecDepth 20000 in
theorem gL_law_X9_count : GoodIn wsL_law (wsV RL 139 RX9 yX9_count wsX9_count) := goodIn_app (goodIn_of _ (by decide +kernel)) ggL_law_X9_count
set_option maxRecDepth 20000 in
theorem ggL_law_X10_count : GoodIn wsL_law wsX10_count := goodIn_r _ [921, 922, 923, 924, 5, 925, 248, 171, 371, 54, 546, 370, 398, 376, 93, 563, 564, 565, 566, 53, 973, 974, 975, 976, 977, 978, 979, 980, 981, 982, 983, 984, 985, 986, 987, 988, 989, 990, 991, 992, 993, 994, 995, 996, 997, 998, 999, 1000, 1001, 1002, 1003, 1004, 1005, 1006, 1007] (by decide +kernel) (by decide +kernel)
set_option maxRecDepth 20000 in
theorem gL_law_X10_count : GoodIn wsL_law (wsV RL 142 RX10 yX10_count wsX10_count) := goodIn_app (goodIn_of _ (by decide +kernel)) ggL_law_X10_count
set_option maxRecDepth 20000 in
theorem ggL_law_X9_digest : GoodIn wsL_law wsX9_digest := goodIn_r _ [929, 930, 931, 16, 75, 932, 933, 934, 935, 2, 936, 24, 347, 411, 412, 413, 23, 414, 40, 41, 208, 209, 937, 938, 939, 940, 20, 281, 282, 283, 284, 226, 285, 234, 286, 287, 288, 289, 290, 291, 292, 293, 224, 294, 295, 296, 297, 298, 299, 300, 218, 301, 302, 303, 221, 304, 305, 306, 307, 308, 309, 310, 311, 312, 313, 314, 315, 316, 317, 318, 319, 320, 321, 322, 941, 942, 943, 944, 18, 26, 180, 181, 182, 159, 183, 164, 165, 166, 575, 576, 577, 578, 579, 580, 581, 582, 352, 456, 42, 353, 389, 358, 445, 446, 447, 448, 449, 450, 451, 452, 453, 454, 455, 457, 458, 459, 460, 461, 462, 463, 464, 465, 466, 467, 468, 469, 470, 471, 472, 473, 474, 475, 476, 477, 478, 479, 480, 349, 350, 351, 354, 355, 356, 357, 481, 482, 483, 484, 485, 486, 487, 488, 489, 490, 491, 492, 493, 494, 495, 496, 497, 498, 499, 500, 501, 502, 503, 504, 505, 506, 507, 508, 509, 510, 511, 382, 383, 384, 385, 386, 387, 388, 512, 513, 514, 515, 516, 517, 518, 519, 520, 945, 715, 716, 717, 32, 718, 719, 720, 31, 721, 722, 723, 724, 725, 726, 727, 728, 729, 46, 730, 731, 732, 733, 734, 735, 736, 737, 738, 739, 740, 741, 742, 47, 743, 744, 745, 746, 747, 748, 749, 750, 751, 752, 753, 754, 755, 756, 757, 758, 759, 760, 761, 762, 763, 764, 765, 766, 767, 677, 678, 679, 680, 681, 682, 768, 684, 685, 686, 687, 769, 770, 771, 772, 773, 774, 775, 776, 777, 778, 779, 780, 781, 782, 783, 784, 785, 786, 787, 788, 789, 790, 791, 792, 793, 794, 795, 796, 797, 798, 799, 800, 801, 946, 911, 912, 913, 200, 147, 444, 435, 914, 915, 916, 917, 521, 522, 523, 524, 962, 963, 964, 965, 966, 967, 968, 969, 970, 971, 972, 1008, 1009, 1010, 1011, 1012, 1013, 1014, 1015, 1016, 1017, 1023, 1024, 1025, 1026, 1027, 1028, 1029, 1030, 1031, 1032, 1033, 1034, 1035, 1036, 1037, 1038, 1020, 1021, 1022, 1018, 1019] (by decide +kernel) (by decide +kernel)
set_option maxRecDepth 20000 in
theorem gL_law_X9_digest : GoodIn wsL_law (wsV RL 143 RX9 yX9_digest wsX9_digest) := goodIn_app (goodIn_of _ (by decide +kernel)) ggL_law_X9_digest
set_option maxRecDepth 20000 in
theorem ggL_law_X10_digest : GoodIn wsL_law wsX10_digest := goodIn_r _ [950, 951, 952, 53, 248, 171, 93, 64, 953, 954, 955, 5, 956, 957, 419, 420, 421, 422, 52, 327, 328, 329, 330, 55, 56, 57, 58, 59, 331, 332, 333, 334, 958, 959, 960, 961, 192, 193, 194, 195, 60, 61, 62, 587, 588, 589, 590, 591, 592, 593, 594, 54, 595, 66, 371, 546, 370, 398, 376, 529, 530, 531, 532, 533, 534, 535, 536, 537, 538, 539, 540, 541, 542, 543, 544, 545, 547, 548, 549, 550, 551, 552, 553, 554, 555, 556, 557, 558, 366, 367, 368, 369, 372, 373, 374, 375, 559, 560, 561, 562, 394, 395, 396, 397, 596, 597, 598, 599, 806, 807, 808, 809, 67, 68, 810, 811, 812, 813, 814, 815, 816, 817, 818, 69, 70, 140, 141, 142, 819, 820, 821, 822, 700, 701, 702, 703, 823, 824, 825, 826, 922, 923, 924, 925, 563, 564, 565, 566, 973, 974, 975, 976, 977, 978, 979, 980, 981, 982, 983, 984, 985, 986, 987, 988, 989, 990, 991, 992, 993, 994, 995, 996, 997, 998, 999, 1000, 1001, 1002, 1003, 1004, 1005, 1006, 1007] (by decide +kernel) (by decide +kernel)
set_option maxRecDepth 20000 in
theorem gL_law_X10_digest : GoodIn wsL_law (wsV RL 147 RX10 yX10_digest wsX10_digest) := goodIn_app (goodIn_of _ (by decide +kernel)) ggL_law_X10_digest
theorem dL_law_0 : decode cL_law 0 = .ok (.new 7, 3) := by decide +kernel
theorem dL_law_3 : decode cL_law 3 = .ok (.dup, 1) := by decide +kernel
theorem dL_law_4 : decode cL_law 4 = .ok (.invokespecial 9, 3) := by decide +kernel
theorem dL_law_7 : decode cL_law 7 = .ok (.astore_n 1, 1) := by decide +kernel
theorem dL_law_8 : decode cL_law 8 = .ok (.new 10, 3) := by decide +kernel
theorem dL_law_11 : decode cL_law 11 = .ok (.dup, 1) := by decide +kernel
theorem dL_law_12 : decode cL_law 12 = .ok (.invokespecial 12, 3) := by decide +kernel
theorem dL_law_15 : decode cL_law 15 = .ok (.astore_n 2, 1) := by decide +kernel
theorem dL_law_16 : decode cL_law 16 = .ok (.iconst 0, 1) := by decide +kernel
theorem dL_law_17 : decode cL_law 17 = .ok (.istore_n 3, 1) := by decide +kernel
theorem dL_law_18 : decode cL_law 18 = .ok (.iload_n 3, 1) := by decide +kernel
theorem dL_law_19 : decode cL_law 19 = .ok (.aload_n 0, 1) := by decide +kernel
theorem dL_law_20 : decode cL_law 20 = .ok (.arraylength, 1) := by decide +kernel
theorem dL_law_21 : decode cL_law 21 = .ok (.bipush 6, 2) := by decide +kernel
theorem dL_law_23 : decode cL_law 23 = .ok (.isub, 1) := by decide +kernel
theorem dL_law_24 : decode cL_law 24 = .ok (.if_icmp .gt 1151, 3) := by decide +kernel
theorem dL_law_27 : decode cL_law 27 = .ok (.aload_n 0, 1) := by decide +kernel
theorem dL_law_28 : decode cL_law 28 = .ok (.iload_n 3, 1) := by decide +kernel
theorem dL_law_29 : decode cL_law 29 = .ok (.iaload, 1) := by decide +kernel
theorem dL_law_30 : decode cL_law 30 = .ok (.bipush 31, 2) := by decide +kernel
theorem dL_law_32 : decode cL_law 32 = .ok (.iand, 1) := by decide +kernel
theorem dL_law_33 : decode cL_law 33 = .ok (.tableswitch 1136 0 30 #[139, 192, 205, 218, 231, 264, 327, 360, 393, 436, 469, 502, 525, 558, 591, 614, 647, 690, 713, 767, 811, 855, 888, 931, 964, 1007, 1050, 1073, 1086, 1099, 1122], 139) := by decide +kernel
theorem dL_law_172 : decode cL_law 172 = .ok (.aload_n 1, 1) := by decide +kernel
theorem dL_law_173 : decode cL_law 173 = .ok (.aload_n 0, 1) := by decide +kernel
theorem dL_law_174 : decode cL_law 174 = .ok (.iload_n 3, 1) := by decide +kernel
theorem dL_law_175 : decode cL_law 175 = .ok (.iconst 1, 1) := by decide +kernel
theorem dL_law_176 : decode cL_law 176 = .ok (.iadd, 1) := by decide +kernel
theorem dL_law_177 : decode cL_law 177 = .ok (.iaload, 1) := by decide +kernel
theorem dL_law_178 : decode cL_law 178 = .ok (.i2l, 1) := by decide +kernel
theorem dL_law_179 : decode cL_law 179 = .ok (.bipush 32, 2) := by decide +kernel
theorem dL_law_181 : decode cL_law 181 = .ok (.lshl, 1) := by decide +kernel
theorem dL_law_182 : decode cL_law 182 = .ok (.aload_n 0, 1) := by decide +kernel
theorem dL_law_183 : decode cL_law 183 = .ok (.iload_n 3, 1) := by decide +kernel
theorem dL_law_184 : decode cL_law 184 = .ok (.iconst 2, 1) := by decide +kernel
theorem dL_law_185 : decode cL_law 185 = .ok (.iadd, 1) := by decide +kernel
theorem dL_law_186 : decode cL_law 186 = .ok (.iaload, 1) := by decide +kernel
theorem dL_law_187 : decode cL_law 187 = .ok (.i2l, 1) := by decide +kernel
theorem dL_law_188 : decode cL_law 188 = .ok (.ldc2_w 13, 3) := by decide +kernel
theorem dL_law_191 : decode cL_law 191 = .ok (.land, 1) := by decide +kernel
theorem dL_law_192 : decode cL_law 192 = .ok (.lor, 1) := by decide +kernel
theorem dL_law_193 : decode cL_law 193 = .ok (.invokevirtual 15, 3) := by decide +kernel
theorem dL_law_196 : decode cL_law 196 = .ok (.aload_n 2, 1) := by decide +kernel
theorem dL_law_197 : decode cL_law 197 = .ok (.aload_n 0, 1) := by decide +kernel
theorem dL_law_198 : decode cL_law 198 = .ok (.iload_n 3, 1) := by decide +kernel
theorem dL_law_199 : decode cL_law 199 = .ok (.iconst 1, 1) := by decide +kernel
theorem dL_law_200 : decode cL_law 200 = .ok (.iadd, 1) := by decide +kernel
theorem dL_law_201 : decode cL_law 201 = .ok (.iaload, 1) := by decide +kernel
theorem dL_law_202 : decode cL_law 202 = .ok (.i2l, 1) := by decide +kernel
theorem dL_law_203 : decode cL_law 203 = .ok (.bipush 32, 2) := by decide +kernel
theorem dL_law_205 : decode cL_law 205 = .ok (.lshl, 1) := by decide +kernel
theorem dL_law_206 : decode cL_law 206 = .ok (.aload_n 0, 1) := by decide +kernel
theorem dL_law_207 : decode cL_law 207 = .ok (.iload_n 3, 1) := by decide +kernel
theorem dL_law_208 : decode cL_law 208 = .ok (.iconst 2, 1) := by decide +kernel
theorem dL_law_209 : decode cL_law 209 = .ok (.iadd, 1) := by decide +kernel
theorem dL_law_210 : decode cL_law 210 = .ok (.iaload, 1) := by decide +kernel
theorem dL_law_211 : decode cL_law 211 = .ok (.i2l, 1) := by decide +kernel
theorem dL_law_212 : decode cL_law 212 = .ok (.ldc2_w 13, 3) := by decide +kernel
theorem dL_law_215 : decode cL_law 215 = .ok (.land, 1) := by decide +kernel
theorem dL_law_216 : decode cL_law 216 = .ok (.lor, 1) := by decide +kernel
theorem dL_law_217 : decode cL_law 217 = .ok (.invokevirtual 19, 3) := by decide +kernel
theorem dL_law_220 : decode cL_law 220 = .ok (.if_icmp .eq 949, 3) := by decide +kernel
theorem dL_law_223 : decode cL_law 223 = .ok (.iconst 0, 1) := by decide +kernel
theorem dL_law_224 : decode cL_law 224 = .ok (.ireturn, 1) := by decide +kernel
theorem dL_law_225 : decode cL_law 225 = .ok (.aload_n 1, 1) := by decide +kernel
theorem dL_law_226 : decode cL_law 226 = .ok (.invokevirtual 20, 3) := by decide +kernel
theorem dL_law_229 : decode cL_law 229 = .ok (.aload_n 2, 1) := by decide +kernel
theorem dL_law_230 : decode cL_law 230 = .ok (.invokevirtual 24, 3) := by decide +kernel
theorem dL_law_233 : decode cL_law 233 = .ok (.if_icmp .eq 936, 3) := by decide +kernel
theorem dL_law_236 : decode cL_law 236 = .ok (.iconst 0, 1) := by decide +kernel
theorem dL_law_237 : decode cL_law 237 = .ok (.ireturn, 1) := by decide +kernel
theorem dL_law_238 : decode cL_law 238 = .ok (.aload_n 1, 1) := by decide +kernel
theorem dL_law_239 : decode cL_law 239 = .ok (.invokevirtual 25, 3) := by decide +kernel
theorem dL_law_242 : decode cL_law 242 = .ok (.aload_n 2, 1) := by decide +kernel
theorem dL_law_243 : decode cL_law 243 = .ok (.invokevirtual 28, 3) := by decide +kernel
theorem dL_law_246 : decode cL_law 246 = .ok (.if_icmp .eq 923, 3) := by decide +kernel
theorem dL_law_249 : decode cL_law 249 = .ok (.iconst 0, 1) := by decide +kernel
theorem dL_law_250 : decode cL_law 250 = .ok (.ireturn, 1) := by decide +kernel
theorem dL_law_251 : decode cL_law 251 = .ok (.aload_n 1, 1) := by decide +kernel
theorem dL_law_252 : decode cL_law 252 = .ok (.invokevirtual 29, 3) := by decide +kernel
theorem dL_law_255 : decode cL_law 255 = .ok (.aload_n 2, 1) := by decide +kernel
theorem dL_law_256 : decode cL_law 256 = .ok (.invokevirtual 32, 3) := by decide +kernel
theorem dL_law_259 : decode cL_law 259 = .ok (.if_icmp .eq 910, 3) := by decide +kernel
theorem dL_law_262 : decode cL_law 262 = .ok (.iconst 0, 1) := by decide +kernel
theorem dL_law_263 : decode cL_law 263 = .ok (.ireturn, 1) := by decide +kernel
theorem dL_law_264 : decode cL_law 264 = .ok (.aload_n 1, 1) := by decide +kernel
theorem dL_law_265 : decode cL_law 265 = .ok (.aload_n 0, 1) := by decide +kernel
theorem dL_law_266 : decode cL_law 266 = .ok (.iload_n 3, 1) := by decide +kernel
theorem dL_law_267 : decode cL_law 267 = .ok (.iconst 1, 1) := by decide +kernel
theorem dL_law_268 : decode cL_law 268 = .ok (.iadd, 1) := by decide +kernel
theorem dL_law_269 : decode cL_law 269 = .ok (.iaload, 1) := by decide +kernel
theorem dL_law_270 : decode cL_law 270 = .ok (.aload_n 0, 1) := by decide +kernel
theorem dL_law_271 : decode cL_law 271 = .ok (.iload_n 3, 1) := by decide +kernel
theorem dL_law_272 : decode cL_law 272 = .ok (.iconst 2, 1) := by decide +kernel
theorem dL_law_273 : decode cL_law 273 = .ok (.iadd, 1) := by decide +kernel
