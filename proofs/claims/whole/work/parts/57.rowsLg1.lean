set_option maxRecDepth 20000 in
theorem ggL_law_X5_init : GoodIn wsL_law wsX5_init := goodIn_r _ [8, 9, 10, 11, 12, 13, 14, 15, 16, 17, 18, 19, 20, 21, 22, 23, 24, 25, 26, 27, 28, 29, 30, 31, 32, 33, 34, 35, 36, 37, 38, 39, 40, 41, 42, 43, 44, 45, 46, 47, 48, 49, 50, 51, 52, 53, 54, 55, 56, 57, 58, 59, 60, 61, 62, 63, 64, 65, 66, 67, 68, 69, 70, 71, 72, 73, 1060, 1061, 1062, 1063, 1064, 1065, 1066, 1067, 1026, 1027, 1028, 1029, 1030, 1031, 1032, 1033, 1034, 1068, 1069, 1070, 1071, 1072, 1073, 1074, 1075, 1076] (by decide +kernel) (by decide +kernel)
set_option maxRecDepth 20000 in
theorem gL_law_X5_init : GoodIn wsL_law (wsX5_init) := ggL_law_X5_init
set_option maxRecDepth 20000 in
theorem ggL_law_X6_init : GoodIn wsL_law wsX6_init := goodIn_r _ [76, 77, 10, 11, 34, 78, 79, 80, 81, 82, 83, 84, 85, 86, 87, 88, 89, 90, 91, 92, 1035, 1036, 1037, 1038, 1039, 1040, 1041, 1042, 1043, 1044, 1045, 1046, 1047, 1048, 1049, 1050, 1051, 1052, 1053, 1054, 1055, 1056, 1057, 1058, 1059] (by decide +kernel) (by decide +kernel)
set_option maxRecDepth 20000 in
theorem gL_law_X6_init : GoodIn wsL_law (wsX6_init) := ggL_law_X6_init
set_option maxRecDepth 20000 in
theorem ggL_law_X5_letter : GoodIn wsL_law wsX5_letter := goodIn_r _ [96, 29, 97, 98, 2, 99, 100, 101, 102, 28, 103, 65, 104, 105, 106, 107, 35, 108, 109, 110, 111, 64, 112, 1026, 1027, 1028, 1029, 1030, 1031, 1032, 1033, 1034, 1071, 1072, 1073, 1074] (by decide +kernel) (by decide +kernel)
set_option maxRecDepth 20000 in
theorem gL_law_X5_letter : GoodIn wsL_law (wsV RL 13 RX5 yX5_letter wsX5_letter) := goodIn_app (goodIn_of _ (by decide +kernel)) ggL_law_X5_letter
set_option maxRecDepth 20000 in
theorem ggL_law_X6_letter : GoodIn wsL_law wsX6_letter := goodIn_r _ [116, 117, 84, 118, 119, 5, 120, 121, 122, 123, 124, 78, 1035, 1036, 1037, 1038, 1039, 1040, 1041, 1042, 1043, 1044, 1045, 1046, 1047, 1048, 1049, 1050, 1051, 1052, 1053, 1054, 1055, 1056, 1057, 1058, 1059] (by decide +kernel) (by decide +kernel)
set_option maxRecDepth 20000 in
theorem gL_law_X6_letter : GoodIn wsL_law (wsV RL 17 RX6 yX6_letter wsX6_letter) := goodIn_app (goodIn_of _ (by decide +kernel)) ggL_law_X6_letter
set_option maxRecDepth 20000 in
theorem ggL_law_X5_slope : GoodIn wsL_law wsX5_slope := goodIn_r _ [128, 29, 129, 130, 131, 28, 132, 67, 66, 65, 64, 133, 134, 135, 136, 137, 138, 139, 140, 141, 142, 143, 144, 145, 146, 147, 148, 149, 150, 151, 152, 14, 153, 41, 154, 155, 156, 157, 42, 43, 44, 45, 47, 48, 158, 159, 160, 161, 162, 163, 164, 165, 166, 167, 168, 169, 170, 171, 172, 173, 174, 175, 176, 177, 178, 179, 180, 181, 182, 183, 184, 185, 186, 187, 188, 189, 190, 191, 192, 193, 194, 195, 196, 197, 198, 199, 200, 201, 202, 203, 204, 205, 206, 207, 208, 209, 210, 211, 46, 212, 213, 214, 215, 216, 217, 218, 219, 220, 221, 222, 223, 224, 2, 225, 226, 227, 228, 229, 230, 231, 232, 233, 234, 235, 236, 237, 238, 239, 240, 241, 242, 243, 244, 245, 246, 247, 248, 249, 250, 251, 252, 253, 254, 255, 256, 257, 258, 259, 260, 261, 262, 263, 264, 265, 266, 1026, 1027, 1028, 1029, 1030, 1031, 1032, 1033, 1034, 1071, 1072, 1073, 1074, 1060, 1061, 1062, 1063, 1064, 1065, 1066, 1067] (by decide +kernel) (by decide +kernel)
set_option maxRecDepth 20000 in
theorem gL_law_X5_slope : GoodIn wsL_law (wsV RL 18 RX5 yX5_slope wsX5_slope) := goodIn_app (goodIn_of _ (by decide +kernel)) ggL_law_X5_slope
set_option maxRecDepth 20000 in
theorem ggL_law_X6_slope : GoodIn wsL_law wsX6_slope := goodIn_r _ [270, 271, 272, 117, 86, 273, 274, 275, 5, 276, 85, 277, 278, 279, 280, 84, 281, 282, 283, 284, 285, 286, 287, 288, 87, 289, 290, 291, 292, 293, 294, 295, 296, 297, 298, 299, 300, 301, 302, 303, 304, 79, 80, 81, 82, 83, 92, 305, 306, 307, 308, 309, 88, 310, 311, 312, 313, 314, 315, 316, 317, 318, 319, 320, 321, 322, 323, 324, 325, 326, 327, 328, 329, 330, 331, 332, 333, 334, 335, 336, 337, 338, 339, 340, 89, 341, 342, 343, 344, 345, 346, 347, 348, 349, 350, 351, 352, 353, 354, 355, 356, 357, 358, 359, 360, 361, 362, 363, 364, 365, 366, 367, 368, 369, 370, 371, 372, 373, 374, 375, 376, 377, 378, 379, 380, 381, 382, 383, 384, 385, 386, 387, 388, 389, 390, 391, 392, 393, 394, 395, 396, 397, 398, 399, 400, 1035, 1036, 1037, 1038, 1039, 1040, 1041, 1042, 1043, 1044, 1045, 1046, 1047, 1048, 1049, 1050, 1051, 1052, 1053, 1054, 1055, 1056, 1057, 1058, 1059] (by decide +kernel) (by decide +kernel)
set_option maxRecDepth 20000 in
theorem gL_law_X6_slope : GoodIn wsL_law (wsV RL 22 RX6 yX6_slope wsX6_slope) := goodIn_app (goodIn_of _ (by decide +kernel)) ggL_law_X6_slope
set_option maxRecDepth 20000 in
theorem ggL_law_X5_depth : GoodIn wsL_law wsX5_depth := goodIn_r _ [404, 15, 405, 406, 407, 2, 408, 104, 105, 106, 107, 35, 1026, 1027, 1028, 1029, 1030, 1031, 1032, 1033, 1034, 1060, 1061, 1062, 1063, 1064, 1065, 1066, 1067] (by decide +kernel) (by decide +kernel)
set_option maxRecDepth 20000 in
theorem gL_law_X5_depth : GoodIn wsL_law (wsV RL 23 RX5 yX5_depth wsX5_depth) := goodIn_app (goodIn_of _ (by decide +kernel)) ggL_law_X5_depth
set_option maxRecDepth 20000 in
theorem ggL_law_X6_depth : GoodIn wsL_law wsX6_depth := goodIn_r _ [412, 79, 318, 319, 5, 320, 121, 122, 123, 124, 78, 1035, 1036, 1037, 1038, 1039, 1040, 1041, 1042, 1043, 1044, 1045, 1046, 1047, 1048, 1049, 1050, 1051, 1052, 1053, 1054, 1055, 1056, 1057, 1058, 1059] (by decide +kernel) (by decide +kernel)
set_option maxRecDepth 20000 in
theorem gL_law_X6_depth : GoodIn wsL_law (wsV RL 26 RX6 yX6_depth wsX6_depth) := goodIn_app (goodIn_of _ (by decide +kernel)) ggL_law_X6_depth
set_option maxRecDepth 20000 in
theorem ggL_law_X5_person : GoodIn wsL_law wsX5_person := goodIn_r _ [416, 15, 417, 418, 419, 420, 421, 422, 423, 2, 424, 425, 426, 427, 428, 429, 430, 431, 104, 105, 106, 107, 35, 432, 433, 434, 14, 435, 47, 44, 224, 225, 436, 258, 232, 259, 260, 261, 262, 437, 254, 255, 256, 226, 227, 228, 229, 45, 438, 213, 214, 215, 41, 439, 217, 218, 219, 220, 134, 135, 136, 43, 221, 222, 223, 230, 231, 233, 234, 235, 236, 237, 42, 1026, 1027, 1028, 1029, 1030, 1031, 1032, 1033, 1034, 1060, 1061, 1062, 1063, 1064, 1065, 1066, 1067] (by decide +kernel) (by decide +kernel)
set_option maxRecDepth 20000 in
theorem gL_law_X5_person : GoodIn wsL_law (wsV RL 27 RX5 yX5_person wsX5_person) := goodIn_app (goodIn_of _ (by decide +kernel)) ggL_law_X5_person
set_option maxRecDepth 20000 in
theorem ggL_law_X6_person : GoodIn wsL_law wsX6_person := goodIn_r _ [443, 80, 81, 82, 83, 325, 326, 327, 5, 328, 92, 121, 122, 123, 124, 78, 387, 388, 389, 390, 383, 384, 385, 386, 349, 350, 351, 352, 353, 354, 355, 356, 361, 362, 363, 364, 365, 366, 379, 380, 381, 382, 357, 358, 359, 360, 341, 342, 343, 344, 79, 367, 368, 369, 370, 371, 372, 373, 374, 375, 376, 377, 378, 391, 392, 393, 394, 395, 396, 397, 1035, 1036, 1037, 1038, 1039, 1040, 1041, 1042, 1043, 1044, 1045, 1046, 1047, 1048, 1049, 1050, 1051, 1052, 1053, 1054, 1055, 1056, 1057, 1058, 1059] (by decide +kernel) (by decide +kernel)
set_option maxRecDepth 20000 in
theorem gL_law_X6_person : GoodIn wsL_law (wsV RL 31 RX6 yX6_person wsX6_person) := goodIn_app (goodIn_of _ (by decide +kernel)) ggL_law_X6_person
set_option maxRecDepth 20000 in
theorem ggL_law_X5_place : GoodIn wsL_law wsX5_place := goodIn_r _ [447, 15, 438, 213, 214, 14, 215, 41, 1026, 1027, 1028, 1029, 1030, 1031, 1032, 1033, 1034, 1060, 1061, 1062, 1063, 1064, 1065, 1066, 1067] (by decide +kernel) (by decide +kernel)
set_option maxRecDepth 20000 in
theorem gL_law_X5_place : GoodIn wsL_law (wsV RL 32 RX5 yX5_place wsX5_place) := goodIn_app (goodIn_of _ (by decide +kernel)) ggL_law_X5_place
set_option maxRecDepth 20000 in
theorem ggL_law_X6_place : GoodIn wsL_law wsX6_place := goodIn_r _ [451, 341, 342, 343, 5, 344, 79, 1035, 1036, 1037, 1038, 1039, 1040, 1041, 1042, 1043, 1044, 1045, 1046, 1047, 1048, 1049, 1050, 1051, 1052, 1053, 1054, 1055, 1056, 1057, 1058, 1059] (by decide +kernel) (by decide +kernel)
set_option maxRecDepth 20000 in
theorem gL_law_X6_place : GoodIn wsL_law (wsV RL 35 RX6 yX6_place wsX6_place) := goodIn_app (goodIn_of _ (by decide +kernel)) ggL_law_X6_place
set_option maxRecDepth 20000 in
theorem ggL_law_X5_digs : GoodIn wsL_law wsX5_digs := goodIn_r _ [455, 15, 405, 406, 407, 2, 408, 97, 98, 99, 429, 430, 431, 104, 105, 106, 107, 35, 1026, 1027, 1028, 1029, 1030, 1031, 1032, 1033, 1034, 1060, 1061, 1062, 1063, 1064, 1065, 1066, 1067] (by decide +kernel) (by decide +kernel)
set_option maxRecDepth 20000 in
theorem gL_law_X5_digs : GoodIn wsL_law (wsV RL 36 RX5 yX5_digs wsX5_digs) := goodIn_app (goodIn_of _ (by decide +kernel)) ggL_law_X5_digs
set_option maxRecDepth 20000 in
theorem ggL_law_X6_digs : GoodIn wsL_law wsX6_digs := goodIn_r _ [459, 79, 318, 319, 5, 320, 118, 119, 120, 121, 122, 123, 124, 78, 1035, 1036, 1037, 1038, 1039, 1040, 1041, 1042, 1043, 1044, 1045, 1046, 1047, 1048, 1049, 1050, 1051, 1052, 1053, 1054, 1055, 1056, 1057, 1058, 1059] (by decide +kernel) (by decide +kernel)
set_option maxRecDepth 20000 in
theorem gL_law_X6_digs : GoodIn wsL_law (wsV RL 39 RX6 yX6_digs wsX6_digs) := goodIn_app (goodIn_of _ (by decide +kernel)) ggL_law_X6_digs
set_option maxRecDepth 20000 in
theorem ggL_law_X5_believes : GoodIn wsL_law wsX5_believes := goodIn_r _ [463, 15, 420, 421, 422, 423, 2, 424, 425, 97, 98, 99, 429, 430, 431, 104, 105, 106, 107, 35, 1026, 1027, 1028, 1029, 1030, 1031, 1032, 1033, 1034, 1060, 1061, 1062, 1063, 1064, 1065, 1066, 1067] (by decide +kernel) (by decide +kernel)
set_option maxRecDepth 20000 in
theorem gL_law_X5_believes : GoodIn wsL_law (wsV RL 40 RX5 yX5_believes wsX5_believes) := goodIn_app (goodIn_of _ (by decide +kernel)) ggL_law_X5_believes
set_option maxRecDepth 20000 in
theorem ggL_law_X6_believes : GoodIn wsL_law wsX6_believes := goodIn_r _ [467, 83, 325, 326, 327, 5, 328, 92, 118, 119, 120, 121, 122, 123, 124, 78, 1035, 1036, 1037, 1038, 1039, 1040, 1041, 1042, 1043, 1044, 1045, 1046, 1047, 1048, 1049, 1050, 1051, 1052, 1053, 1054, 1055, 1056, 1057, 1058, 1059] (by decide +kernel) (by decide +kernel)
set_option maxRecDepth 20000 in
theorem gL_law_X6_believes : GoodIn wsL_law (wsV RL 43 RX6 yX6_believes wsX6_believes) := goodIn_app (goodIn_of _ (by decide +kernel)) ggL_law_X6_believes
