set_option maxRecDepth 20000 in
theorem ggL_law_X5_judge : GoodIn wsL_law wsX5_judge := goodIn_r _ [939, 21, 33, 940, 941, 942, 20, 943, 880, 881, 54, 553, 506, 507, 508, 53, 509, 151, 152, 14, 153, 41, 154, 155, 156, 157, 42, 43, 44, 45, 47, 48, 573, 213, 214, 215, 560, 209, 210, 211, 46, 212, 216, 217, 218, 219, 220, 134, 135, 136, 221, 222, 223, 224, 2, 225, 226, 227, 228, 229, 230, 231, 232, 233, 234, 235, 236, 237, 238, 239, 240, 241, 242, 243, 244, 245, 246, 247, 248, 944, 945, 946, 32, 947, 73, 1026, 1027, 1028, 1029, 1030, 1031, 1032, 1033, 1034, 1075, 1076, 1068, 1069, 1060, 1061, 1062, 1063, 1064, 1065, 1066, 1067] (by decide +kernel) (by decide +kernel)
set_option maxRecDepth 20000 in
theorem gL_law_X5_judge : GoodIn wsL_law (wsV RL 143 RX5 yX5_judge wsX5_judge) := goodIn_app (goodIn_of _ (by decide +kernel)) ggL_law_X5_judge
set_option maxRecDepth 20000 in
theorem ggL_law_X6_judge : GoodIn wsL_law wsX6_judge := goodIn_r _ [951, 898, 91, 517, 518, 519, 5, 520, 299, 300, 301, 302, 303, 304, 79, 80, 81, 82, 83, 92, 305, 306, 307, 308, 309, 88, 310, 311, 312, 313, 341, 342, 343, 344, 337, 338, 339, 340, 89, 345, 346, 347, 348, 349, 350, 351, 352, 353, 354, 355, 356, 357, 358, 359, 360, 361, 362, 363, 364, 365, 366, 367, 368, 369, 370, 371, 372, 373, 374, 375, 376, 377, 378, 379, 380, 381, 382, 383, 384, 385, 386, 387, 388, 389, 390, 391, 392, 393, 394, 395, 396, 397, 398, 399, 400, 521, 522, 523, 524, 1035, 1036, 1037, 1038, 1039, 1040, 1041, 1042, 1043, 1044, 1045, 1046, 1047, 1048, 1049, 1050, 1051, 1052, 1053, 1054, 1055, 1056, 1057, 1058, 1059] (by decide +kernel) (by decide +kernel)
set_option maxRecDepth 20000 in
theorem gL_law_X6_judge : GoodIn wsL_law (wsV RL 146 RX6 yX6_judge wsX6_judge) := goodIn_app (goodIn_of _ (by decide +kernel)) ggL_law_X6_judge
set_option maxRecDepth 20000 in
theorem ggL_law_X5_clear : GoodIn wsL_law wsX5_clear := goodIn_r _ [955, 33, 944, 945, 946, 32, 947, 73, 1026, 1027, 1028, 1029, 1030, 1031, 1032, 1033, 1034, 1075, 1076] (by decide +kernel) (by decide +kernel)
set_option maxRecDepth 20000 in
theorem gL_law_X5_clear : GoodIn wsL_law (wsV RL 147 RX5 yX5_clear wsX5_clear) := goodIn_app (goodIn_of _ (by decide +kernel)) ggL_law_X5_clear
set_option maxRecDepth 20000 in
theorem ggL_law_X6_clear : GoodIn wsL_law wsX6_clear := goodIn_r _ [959, 898, 1035, 1036, 1037, 1038, 1039, 1040, 1041, 1042, 1043, 1044, 1045, 1046, 1047, 1048, 1049, 1050, 1051, 1052, 1053, 1054, 1055, 1056, 1057, 1058, 1059] (by decide +kernel) (by decide +kernel)
set_option maxRecDepth 20000 in
theorem gL_law_X6_clear : GoodIn wsL_law (wsV RL 150 RX6 yX6_clear wsX6_clear) := goodIn_app (goodIn_of _ (by decide +kernel)) ggL_law_X6_clear
set_option maxRecDepth 20000 in
theorem ggL_law_X5_lots : GoodIn wsL_law wsX5_lots := goodIn_r _ [963, 21, 97, 98, 2, 99, 426, 427, 428, 429, 430, 431, 104, 105, 106, 107, 35, 964, 965, 966, 20, 967, 54, 558, 666, 603, 553, 506, 507, 508, 53, 509, 151, 152, 14, 153, 41, 154, 155, 156, 157, 42, 43, 44, 45, 47, 48, 968, 969, 970, 971, 972, 973, 974, 975, 976, 606, 205, 206, 207, 208, 209, 210, 211, 46, 212, 213, 214, 215, 216, 217, 218, 219, 220, 134, 135, 136, 221, 222, 223, 224, 225, 226, 227, 228, 229, 230, 231, 232, 233, 234, 235, 236, 237, 238, 239, 240, 241, 242, 243, 244, 245, 246, 247, 248, 249, 250, 251, 252, 253, 254, 255, 256, 257, 258, 259, 260, 261, 262, 977, 841, 842, 843, 1026, 1027, 1028, 1029, 1030, 1031, 1032, 1033, 1034, 1068, 1069, 1060, 1061, 1062, 1063, 1064, 1065, 1066, 1067] (by decide +kernel) (by decide +kernel)
set_option maxRecDepth 20000 in
theorem gL_law_X5_lots : GoodIn wsL_law (wsV RL 151 RX5 yX5_lots wsX5_lots) := goodIn_app (goodIn_of _ (by decide +kernel)) ggL_law_X5_lots
set_option maxRecDepth 20000 in
theorem ggL_law_X6_lots : GoodIn wsL_law wsX6_lots := goodIn_r _ [981, 982, 92, 82, 83, 118, 119, 5, 120, 296, 297, 298, 121, 122, 123, 124, 78, 517, 518, 519, 520, 299, 300, 301, 302, 303, 304, 79, 80, 81, 305, 306, 307, 308, 309, 88, 310, 311, 312, 313, 983, 984, 985, 986, 987, 988, 989, 333, 334, 335, 336, 337, 338, 339, 340, 89, 341, 342, 343, 344, 345, 346, 347, 348, 349, 350, 351, 352, 353, 354, 355, 356, 357, 358, 359, 360, 361, 362, 363, 364, 365, 366, 367, 368, 369, 370, 371, 372, 373, 374, 375, 376, 377, 378, 379, 380, 381, 382, 383, 384, 385, 386, 387, 388, 389, 390, 391, 392, 393, 394, 395, 396, 397, 398, 399, 400, 494, 495, 496, 497, 498, 499, 500, 990, 991, 992, 993, 521, 522, 523, 524, 1035, 1036, 1037, 1038, 1039, 1040, 1041, 1042, 1043, 1044, 1045, 1046, 1047, 1048, 1049, 1050, 1051, 1052, 1053, 1054, 1055, 1056, 1057, 1058, 1059] (by decide +kernel) (by decide +kernel)
set_option maxRecDepth 20000 in
theorem gL_law_X6_lots : GoodIn wsL_law (wsV RL 154 RX6 yX6_lots wsX6_lots) := goodIn_app (goodIn_of _ (by decide +kernel)) ggL_law_X6_lots
set_option maxRecDepth 20000 in
theorem ggL_law_X5_image : GoodIn wsL_law wsX5_image := goodIn_r _ [997, 16, 15, 36, 488, 998, 151, 152, 14, 153, 41, 154, 155, 156, 157, 42, 43, 44, 45, 47, 48, 1026, 1027, 1028, 1029, 1030, 1031, 1032, 1033, 1034, 1060, 1061, 1062, 1063, 1064, 1065, 1066, 1067] (by decide +kernel) (by decide +kernel)
set_option maxRecDepth 20000 in
theorem gL_law_X5_image : GoodIn wsL_law (wsV RL 155 RX5 yX5_image wsX5_image) := goodIn_app (goodIn_of _ (by decide +kernel)) ggL_law_X5_image
set_option maxRecDepth 20000 in
theorem ggL_law_X6_image : GoodIn wsL_law wsX6_image := goodIn_r _ [1002, 1003, 305, 299, 300, 301, 5, 302, 303, 304, 79, 80, 81, 82, 83, 92, 306, 307, 308, 309, 88, 310, 311, 312, 313, 1035, 1036, 1037, 1038, 1039, 1040, 1041, 1042, 1043, 1044, 1045, 1046, 1047, 1048, 1049, 1050, 1051, 1052, 1053, 1054, 1055, 1056, 1057, 1058, 1059] (by decide +kernel) (by decide +kernel)
set_option maxRecDepth 20000 in
theorem gL_law_X6_image : GoodIn wsL_law (wsV RL 158 RX6 yX6_image wsX6_image) := goodIn_app (goodIn_of _ (by decide +kernel)) ggL_law_X6_image
set_option maxRecDepth 20000 in
theorem ggL_law_X5_on : GoodIn wsL_law wsX5_on := goodIn_r _ [1007, 36, 15, 16, 488, 104, 105, 106, 2, 107, 35, 998, 151, 152, 14, 153, 41, 154, 155, 156, 157, 42, 43, 44, 45, 47, 48, 1026, 1027, 1028, 1029, 1030, 1031, 1032, 1033, 1034, 1060, 1061, 1062, 1063, 1064, 1065, 1066, 1067] (by decide +kernel) (by decide +kernel)
set_option maxRecDepth 20000 in
theorem gL_law_X5_on : GoodIn wsL_law (wsV RL 159 RX5 yX5_on wsX5_on) := goodIn_app (goodIn_of _ (by decide +kernel)) ggL_law_X5_on
set_option maxRecDepth 20000 in
theorem ggL_law_X6_on : GoodIn wsL_law wsX6_on := goodIn_r _ [1011, 1003, 305, 121, 122, 123, 5, 124, 78, 299, 300, 301, 302, 303, 304, 79, 80, 81, 82, 83, 92, 306, 307, 308, 309, 88, 310, 311, 312, 313, 1035, 1036, 1037, 1038, 1039, 1040, 1041, 1042, 1043, 1044, 1045, 1046, 1047, 1048, 1049, 1050, 1051, 1052, 1053, 1054, 1055, 1056, 1057, 1058, 1059] (by decide +kernel) (by decide +kernel)
set_option maxRecDepth 20000 in
theorem gL_law_X6_on : GoodIn wsL_law (wsV RL 162 RX6 yX6_on wsX6_on) := goodIn_app (goodIn_of _ (by decide +kernel)) ggL_law_X6_on
set_option maxRecDepth 20000 in
theorem ggL_law_X5_count : GoodIn wsL_law wsX5_count := goodIn_r _ [1015, 35, 15, 425, 488, 33, 1016, 29, 1017, 437, 254, 255, 14, 256, 47, 226, 227, 228, 229, 45, 840, 841, 842, 843, 1018, 1019, 1020, 1021, 41, 438, 213, 214, 215, 1026, 1027, 1028, 1029, 1030, 1031, 1032, 1033, 1034, 1060, 1061, 1062, 1063, 1064, 1065, 1066, 1067, 1075, 1076, 1071, 1072, 1073, 1074] (by decide +kernel) (by decide +kernel)
set_option maxRecDepth 20000 in
theorem gL_law_X5_count : GoodIn wsL_law (wsV RL 163 RX5 yX5_count wsX5_count) := goodIn_app (goodIn_of _ (by decide +kernel)) ggL_law_X5_count
set_option maxRecDepth 20000 in
theorem ggL_law_X6_count : GoodIn wsL_law wsX6_count := goodIn_r _ [1025, 78, 92, 305, 79, 898, 117, 296, 297, 5, 298, 494, 495, 496, 497, 349, 350, 351, 352, 353, 354, 355, 356, 357, 358, 359, 360, 83, 990, 991, 992, 993, 341, 342, 343, 344, 1035, 1036, 1037, 1038, 1039, 1040, 1041, 1042, 1043, 1044, 1045, 1046, 1047, 1048, 1049, 1050, 1051, 1052, 1053, 1054, 1055, 1056, 1057, 1058, 1059] (by decide +kernel) (by decide +kernel)
set_option maxRecDepth 20000 in
theorem gL_law_X6_count : GoodIn wsL_law (wsV RL 166 RX6 yX6_count wsX6_count) := goodIn_app (goodIn_of _ (by decide +kernel)) ggL_law_X6_count
