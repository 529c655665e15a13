set_option maxRecDepth 20000 in
theorem ggL_law_X5_init : GoodIn wsL_law wsX5_init := goodIn_r _ [8, 9, 10, 11, 12, 13, 14, 15, 16, 17, 18, 19, 20, 21, 22, 23, 24, 25, 26, 27, 28, 29, 30, 31, 32, 33, 34, 35, 36, 37, 38, 39, 40, 41, 42, 43, 44, 45, 46, 47, 48, 49, 50, 51, 52, 53, 54, 55, 56, 57, 58, 59, 60, 61, 62, 63, 64, 65, 66, 67, 68, 69, 70, 71, 72, 73, 1060, 1061, 1062, 1063, 1064, 1065, 1066, 1067, 1026, 1027, 1028, 1029, 1030, 1031, 1032, 1033, 1034, 1068, 1069, 1070, 1071, 1072, 1073, 1074, 1075, 1076] (by decide +kernel) (by decide +kernel)
set_option maxRecDepth 20000 in
theorem gL_law_X5_init : GoodIn wsL_law (wsX5_init) := ggL_law_X5_init
set_option maxRecDepth 20000 in
theorem ggL_law_X6_init : GoodIn wsL_law wsX6_init := goodIn_r _ [76, 77, 10, 11, 34, 78, 79, 80, 81, 82, 83, 84, 85, 86, 87, 88, 89, 90, 91, 92, 1035, 1036, 1037, 1038, 1039, 1040, 1041, 1042, 1043, 1044, 1045, 1046, 1047, 1048, 1049, 1050, 1051, 1052, 1053, 1054, 1055, 1056, 1057, 1058, 1059] (by decide +kernel) (by decide +kernel)
set_option maxRecDepth 20000 in
theorem gL_law_X6_init : GoodIn wsL_law (wsX6_init) := ggL_law_X6_init
set_option maxRecDepth 20000 in
theorem ggL_law_X5_letter : GoodIn wsL_law wsX5_letter := goodIn_r _ [96, 29, 97, 98, 2, 99, 100, 101, 102, 28, 103, 65, 104, 105, 106, 107, 35, 108, 109, 110, 111, 64, 112, 1026, 1027, 1028, 1029, 1030, 1031, 1032, 1033, 1034, 1071, 1072, 1073, 1074] (by decide +kernel) (by decide +kernel)
set_option maxRecDepth 20000 in
theorem gL_law_X5_letter : GoodIn wsL_law (wsV RL 13 RX5 yX5_letter wsX5_letter) := goodIn_app (goodIn_of _ (by decide +kernel)) ggL_law_X5_letter
set_option maxRecDepth 20000 in
theorem ggL_law_X6_letter : GoodIn wsL_law wsX6_letter := goodIn_r _ [116, 117, 84, 118, 119, 5, 120, 121, 122, 123, 124, 78, 1035, 1036, 1037, 1038, 1039, 1040, 1041, 1042, 1043, 1044, 1045, 1046, 1047, 1048, 1049, 1050, 1051, 1052, 1053, 1054, 1055, 1056, 1057, 1058, 1059] (by decide +kernel) (by decide +kernel)
set_option maxRecDepth 20000 in
theorem gL_law_X6_letter : GoodIn wsL_law (wsV RL 17 RX6 yX6_letter wsX6_letter) := goodIn_app (goodIn_of _ (by decide +kernel)) ggL_law_X6_letter
set_option maxRecDepth 20000 in
theorem ggL_law_X5_slope : GoodIn wsL_law wsX5_slope := goodIn_r _ [128, 29, 129, 130, 131, 28, 132, 67, 66, 65, 64, 133, 134, 135, 136, 137, 138, 139, 140, 141, 142, 143, 144, 145, 146, 147, 148, 149, 150, 151, 152, 14, 153, 41, 154, 155, 156, 157, 42, 43, 44, 45, 47, 48, 158, 159, 160, 161, 162, 163, 164, 165, 166, 167, 168, 169, 170, 171, 172, 173, 174, 175, 176, 177, 178, 179, 180, 181, 182, 183, 184, 185, 186, 187, 188, 189, 190, 191, 192, 193, 194, 195, 196, 197, 198, 199, 200, 201, 202, 203, 204, 205, 206, 207, 208, 209, 210, 211, 46, 212, 213, 214, 215, 216, 217, 218, 219, 220, 221, 222, 223, 224, 2, 225, 226, 227, 228, 229, 230, 231, 232, 233, 234, 235, 236, 237, 238, 239, 240, 241, 242, 243, 244, 245, 246, 247, 248, 249, 250, 251, 252, 253, 254, 255, 256, 257, 258, 259, 260, 261, 262, 263, 264, 265, 266, 1026, 1027, 1028, 1029, 1030, 1031, 1032, 1033, 1034, 1071, 1072, 1073, 1074, 1060, 1061, 1062, 1063, 1064, 1065, 1066, 1067] (by decide +kernel) (by decide +kernel)
set_option maxRecDepth 20000 in
theorem gL_law_X5_slope : GoodIn wsL_law (wsV RL 18 RX5 yX5_slope wsX5_slope) := goodIn_app (goodIn_of _ (by decide +kernel)) ggL_law_X5_slope
set_option maxRecDepth 20000 in
theorem ggL_law_X6_slope : GoodIn wsL_law wsX6_slope := goodIn_r _ [270, 271, 272, 117, 86, 273, 274, 275, 5, 276, 85, 277, 278, 279, 280, 84, 281, 282, 283, 284, 285, 286, 287, 288, 87, 289, 290, 291, 292, 293, 294, 295, 296, 297, 298, 299, 300, 301, 302, 303, 304, 79, 80, 81, 82, 83, 92, 305, 306, 307, 308, 309, 88, 310, 311, 312, 313, 314, 315, 316, 317, 318, 319, 320, 321, 322, 323, 324, 325, 326, 327, 328, 329, 330, 331, 332, 333, 334, 335, 336, 337, 338, 339, 340, 89, 341, 342, 343, 344, 345, 346, 347, 348, 349, 350, 351, 352, 353, 354, 355, 356, 357, 358, 359, 360, 361, 362, 363, 364, 365, 366, 367, 368, 369, 370, 371, 372, 373, 374, 375, 376, 377, 378, 379, 380, 381, 382, 383, 384, 385, 386, 387, 388, 389, 390, 391, 392, 393, 394, 395, 396, 397, 398, 399, 400, 1035, 1036, 1037, 1038, 1039, 1040, 1041, 1042, 1043, 1044, 1045, 1046, 1047, 1048, 1049, 1050, 1051, 1052, 1053, 1054, 1055, 1056, 1057, 1058, 1059] (by decide +kernel) (by decide +kernel)
set_option maxRecDepth 20000 in
theorem gL_law_X6_slope : GoodIn wsL_law (wsV RL 22 RX6 yX6_slope wsX6_slope) := goodIn_app (goodIn_of _ (by decide +kernel)) ggL_law_X6_slope
set_option maxRecDepth 20000 in
theorem ggL_law_X5_depth : GoodIn wsL_law wsX5_depth := goodIn_r _ [404, 15, 405, 406, 407, 2, 408, 104, 105, 106, 107, 35, 1026, 1027, 1028, 1029, 1030, 1031, 1032, 1033, 1034, 1060, 1061, 1062, 1063, 1064, 1065, 1066, 1067] (by decide +kernel) (by decide +kernel)
set_option maxRecDepth 20000 in
theorem gL_law_X5_depth : GoodIn wsL_law (wsV RL 23 RX5 yX5_depth wsX5_depth) := goodIn_app (goodIn_of _ (by decide +kernel)) ggL_law_X5_depth
set_option maxRecDepth 20000 in
theorem ggL_law_X6_depth : GoodIn wsL_law wsX6_depth := goodIn_r _ [412, 79, 318, 319, 5, 320, 121, 122, 123, 124, 78, 1035, 1036, 1037, 1038, 1039, 1040, 1041, 1042, 1043, 1044, 1045, 1046, 1047, 1048, 1049, 1050, 1051, 1052, 1053, 1054, 1055, 1056, 1057, 1058, 1059] (by decide +kernel) (by decide +kernel)
set_option maxRecDepth 20000 in
theorem gL_law_X6_depth : GoodIn wsL_law (wsV RL 26 RX6 yX6_depth wsX6_depth) := goodIn_app (goodIn_of _ (by decide +kernel)) ggL_law_X6_depth
set_option maxRecDepth 20000 in
theorem ggL_law_X5_person : GoodIn wsL_law wsX5_person := goodIn_r _ [416, 15, 417, 418, 419, 420, 421, 422, 423, 2, 424, 425, 426, 427, 428, 429, 430, 431, 104, 105, 106, 107, 35, 432, 433, 434, 14, 435, 47, 44, 224, 225, 436, 258, 232, 259, 260, 261, 262, 437, 254, 255, 256, 226, 227, 228, 229, 45, 438, 213, 214, 215, 41, 439, 217, 218, 219, 220, 134, 135, 136, 43, 221, 222, 223, 230, 231, 233, 234, 235, 236, 237, 42, 1026, 1027, 1028, 1029, 1030, 1031, 1032, 1033, 1034, 1060, 1061, 1062, 1063, 1064, 1065, 1066, 1067] (by decide +kernel) (by decide +kernel)
set_option maxRecDepth 20000 in
theorem gL_law_X5_person : GoodIn wsL_law (wsV RL 27 RX5 yX5_person wsX5_person) := goodIn_app (goodIn_of _ (by decide +kernel)) ggL_law_X5_person
set_option maxRecDepth 20000 in
theorem ggL_law_X6_person : GoodIn wsL_law wsX6_person := goodIn_r _ [443, 80, 81, 82, 83, 325, 326, 327, 5, 328, 92, 121, 122, 123, 124, 78, 387, 388, 389, 390, 383, 384, 385, 386, 349, 350, 351, 352, 353, 354, 355, 356, 361, 362, 363, 364, 365, 366, 379, 380, 381, 382, 357, 358, 359, 360, 341, 342, 343, 344, 79, 367, 368, 369, 370, 371, 372, 373, 374, 375, 376, 377, 378, 391, 392, 393, 394, 395, 396, 397, 1035, 1036, 1037, 1038, 1039, 1040, 1041, 1042, 1043, 1044, 1045, 1046, 1047, 1048, 1049, 1050, 1051, 1052, 1053, 1054, 1055, 1056, 1057, 1058, 1059] (by decide +kernel) (by decide +kernel)
set_option maxRecDepth 20000 in
theorem gL_law_X6_person : GoodIn wsL_law (wsV RL 31 RX6 yX6_person wsX6_person) := goodIn_app (goodIn_of _ (by decide +kernel)) ggL_law_X6_person
set_option maxRecDepth 20000 in
theorem ggL_law_X5_place : GoodIn wsL_law wsX5_place := goodIn_r _ [447, 15, 438, 213, 214, 14, 215, 41, 1026, 1027, 1028, 1029, 1030, 1031, 1032, 1033, 1034, 1060, 1061, 1062, 1063, 1064, 1065, 1066, 1067] (by decide +kernel) (by decide +kernel)
set_option maxRecDepth 20000 in
theorem gL_law_X5_place : GoodIn wsL_law (wsV RL 32 RX5 yX5_place wsX5_place) := goodIn_app (goodIn_of _ (by decide +kernel)) ggL_law_X5_place
set_option maxRecDepth 20000 in
theorem ggL_law_X6_place : GoodIn wsL_law wsX6_place := goodIn_r _ [451, 341, 342, 343, 5, 344, 79, 1035, 1036, 1037, 1038, 1039, 1040, 1041, 1042, 1043, 1044, 1045, 1046, 1047, 1048, 1049, 1050, 1051, 1052, 1053, 1054, 1055, 1056, 1057, 1058, 1059] (by decide +kernel) (by decide +kernel)
set_option maxRecDepth 20000 in
theorem gL_law_X6_place : GoodIn wsL_law (wsV RL 35 RX6 yX6_place wsX6_place) := goodIn_app (goodIn_of _ (by decide +kernel)) ggL_law_X6_place
set_option maxRecDepth 20000 in
theorem ggL_law_X5_digs : GoodIn wsL_law wsX5_digs := goodIn_r _ [455, 15, 405, 406, 407, 2, 408, 97, 98, 99, 429, 430, 431, 104, 105, 106, 107, 35, 1026, 1027, 1028, 1029, 1030, 1031, 1032, 1033, 1034, 1060, 1061, 1062, 1063, 1064, 1065, 1066, 1067] (by decide +kernel) (by decide +kernel)
set_option maxRecDepth 20000 in
theorem gL_law_X5_digs : GoodIn wsL_law (wsV RL 36 RX5 yX5_digs wsX5_digs) := goodIn_app (goodIn_of _ (by decide +kernel)) ggL_law_X5_digs
set_option maxRecDepth 20000 in
theorem ggL_law_X6_digs : GoodIn wsL_law wsX6_digs := goodIn_r _ [459, 79, 318, 319, 5, 320, 118, 119, 120, 121, 122, 123, 124, 78, 1035, 1036, 1037, 1038, 1039, 1040, 1041, 1042, 1043, 1044, 1045, 1046, 1047, 1048, 1049, 1050, 1051, 1052, 1053, 1054, 1055, 1056, 1057, 1058, 1059] (by decide +kernel) (by decide +kernel)
set_option maxRecDepth 20000 in
theorem gL_law_X6_digs : GoodIn wsL_law (wsV RL 39 RX6 yX6_digs wsX6_digs) := goodIn_app (goodIn_of _ (by decide +kernel)) ggL_law_X6_digs
set_option maxRecDepth 20000 in
theorem ggL_law_X5_believes : GoodIn wsL_law wsX5_believes := goodIn_r _ [463, 15, 420, 421, 422, 423, 2, 424, 425, 97, 98, 99, 429, 430, 431, 104, 105, 106, 107, 35, 1026, 1027, 1028, 1029, 1030, 1031, 1032, 1033, 1034, 1060, 1061, 1062, 1063, 1064, 1065, 1066, 1067] (by decide +kernel) (by decide +kernel)
set_option maxRecDepth 20000 in
theorem gL_law_X5_believes : GoodIn wsL_law (wsV RL 40 RX5 yX5_believes wsX5_believes) := goodIn_app (goodIn_of _ (by decide +kernel)) ggL_law_X5_believes
set_option maxRecDepth 20000 in
theorem ggL_law_X6_believes : GoodIn wsL_law wsX6_believes := goodIn_r _ [467, 83, 325, 326, 327, 5, 328, 92, 118, 119, 120, 121, 122, 123, 124, 78, 1035, 1036, 1037, 1038, 1039, 1040, 1041, 1042, 1043, 1044, 1045, 1046, 1047, 1048, 1049, 1050, 1051, 1052, 1053, 1054, 1055, 1056, 1057, 1058, 1059] (by decide +kernel) (by decide +kernel)
set_option maxRecDepth 20000 in
theorem gL_law_X6_believes : GoodIn wsL_law (wsV RL 43 RX6 yX6_believes wsX6_believes) := goodIn_app (goodIn_of _ (by decide +kernel)) ggL_law_X6_believes
set_option maxRecDepth 20000 in
theorem ggL_law_X5_sits : GoodIn wsL_law wsX5_sits := goodIn_r _ [471, 15, 419, 421, 422, 423, 2, 424, 425, 406, 407, 408, 429, 430, 431, 104, 105, 106, 107, 35, 1026, 1027, 1028, 1029, 1030, 1031, 1032, 1033, 1034, 1060, 1061, 1062, 1063, 1064, 1065, 1066, 1067] (by decide +kernel) (by decide +kernel)
set_option maxRecDepth 20000 in
theorem gL_law_X5_sits : GoodIn wsL_law (wsV RL 44 RX5 yX5_sits wsX5_sits) := goodIn_app (goodIn_of _ (by decide +kernel)) ggL_law_X5_sits
set_option maxRecDepth 20000 in
theorem ggL_law_X6_sits : GoodIn wsL_law wsX6_sits := goodIn_r _ [475, 82, 325, 326, 327, 5, 328, 92, 318, 319, 320, 121, 122, 123, 124, 78, 1035, 1036, 1037, 1038, 1039, 1040, 1041, 1042, 1043, 1044, 1045, 1046, 1047, 1048, 1049, 1050, 1051, 1052, 1053, 1054, 1055, 1056, 1057, 1058, 1059] (by decide +kernel) (by decide +kernel)
set_option maxRecDepth 20000 in
theorem gL_law_X6_sits : GoodIn wsL_law (wsV RL 47 RX6 yX6_sits wsX6_sits) := goodIn_app (goodIn_of _ (by decide +kernel)) ggL_law_X6_sits
set_option maxRecDepth 20000 in
theorem ggL_law_X5_turn : GoodIn wsL_law wsX5_turn := goodIn_r _ [479, 15, 417, 418, 421, 422, 423, 2, 424, 425, 426, 427, 428, 97, 98, 99, 429, 430, 431, 104, 105, 106, 107, 35, 1026, 1027, 1028, 1029, 1030, 1031, 1032, 1033, 1034, 1060, 1061, 1062, 1063, 1064, 1065, 1066, 1067] (by decide +kernel) (by decide +kernel)
set_option maxRecDepth 20000 in
theorem gL_law_X5_turn : GoodIn wsL_law (wsV RL 48 RX5 yX5_turn wsX5_turn) := goodIn_app (goodIn_of _ (by decide +kernel)) ggL_law_X5_turn
set_option maxRecDepth 20000 in
theorem ggL_law_X6_turn : GoodIn wsL_law wsX6_turn := goodIn_r _ [483, 80, 81, 325, 326, 327, 5, 328, 92, 296, 297, 298, 118, 119, 120, 121, 122, 123, 124, 78, 1035, 1036, 1037, 1038, 1039, 1040, 1041, 1042, 1043, 1044, 1045, 1046, 1047, 1048, 1049, 1050, 1051, 1052, 1053, 1054, 1055, 1056, 1057, 1058, 1059] (by decide +kernel) (by decide +kernel)
set_option maxRecDepth 20000 in
theorem gL_law_X6_turn : GoodIn wsL_law (wsV RL 52 RX6 yX6_turn wsX6_turn) := goodIn_app (goodIn_of _ (by decide +kernel)) ggL_law_X6_turn
set_option maxRecDepth 20000 in
theorem ggL_law_X5_years : GoodIn wsL_law wsX5_years := goodIn_r _ [487, 15, 488, 97, 98, 2, 99, 104, 105, 106, 107, 35, 489, 205, 206, 14, 207, 208, 209, 210, 211, 47, 46, 48, 45, 44, 212, 213, 214, 215, 41, 216, 217, 218, 219, 220, 134, 135, 136, 43, 221, 222, 223, 224, 225, 226, 227, 228, 229, 230, 231, 232, 233, 234, 235, 236, 237, 42, 238, 239, 240, 241, 242, 243, 244, 245, 246, 247, 248, 249, 250, 251, 252, 253, 254, 255, 256, 257, 258, 259, 260, 261, 262, 1026, 1027, 1028, 1029, 1030, 1031, 1032, 1033, 1034, 1060, 1061, 1062, 1063, 1064, 1065, 1066, 1067] (by decide +kernel) (by decide +kernel)
set_option maxRecDepth 20000 in
theorem gL_law_X5_years : GoodIn wsL_law (wsV RL 53 RX5 yX5_years wsX5_years) := goodIn_app (goodIn_of _ (by decide +kernel)) ggL_law_X5_years
set_option maxRecDepth 20000 in
theorem ggL_law_X6_years : GoodIn wsL_law wsX6_years := goodIn_r _ [493, 305, 118, 119, 5, 120, 121, 122, 123, 124, 78, 333, 334, 335, 336, 337, 338, 339, 340, 92, 89, 79, 83, 82, 341, 342, 343, 344, 345, 346, 347, 348, 349, 350, 351, 352, 353, 354, 355, 356, 357, 358, 359, 360, 361, 362, 363, 364, 365, 366, 367, 368, 369, 370, 80, 371, 372, 373, 374, 81, 375, 376, 377, 378, 379, 380, 381, 382, 383, 384, 385, 386, 387, 388, 389, 390, 391, 392, 393, 394, 395, 396, 397, 398, 399, 400, 494, 495, 496, 497, 498, 499, 500, 1035, 1036, 1037, 1038, 1039, 1040, 1041, 1042, 1043, 1044, 1045, 1046, 1047, 1048, 1049, 1050, 1051, 1052, 1053, 1054, 1055, 1056, 1057, 1058, 1059] (by decide +kernel) (by decide +kernel)
set_option maxRecDepth 20000 in
theorem gL_law_X6_years : GoodIn wsL_law (wsV RL 56 RX6 yX6_years wsX6_years) := goodIn_app (goodIn_of _ (by decide +kernel)) ggL_law_X6_years
set_option maxRecDepth 20000 in
theorem ggL_law_X5_behind : GoodIn wsL_law wsX5_behind := goodIn_r _ [504, 21, 17, 420, 419, 421, 422, 423, 2, 424, 15, 425, 97, 98, 99, 426, 427, 428, 429, 430, 431, 104, 105, 106, 107, 35, 505, 506, 507, 20, 508, 54, 53, 509, 151, 152, 14, 153, 41, 154, 155, 156, 157, 42, 43, 44, 45, 47, 48, 489, 205, 206, 207, 208, 209, 210, 211, 46, 212, 213, 214, 215, 216, 217, 218, 219, 220, 134, 135, 136, 221, 222, 223, 224, 225, 226, 227, 228, 229, 230, 231, 232, 233, 234, 235, 236, 237, 238, 239, 240, 241, 242, 243, 244, 245, 246, 247, 248, 249, 250, 251, 252, 253, 254, 255, 256, 257, 258, 259, 260, 261, 262, 1026, 1027, 1028, 1029, 1030, 1031, 1032, 1033, 1034, 1060, 1061, 1062, 1063, 1064, 1065, 1066, 1067, 1068, 1069] (by decide +kernel) (by decide +kernel)
set_option maxRecDepth 20000 in
theorem gL_law_X5_behind : GoodIn wsL_law (wsV RL 57 RX5 yX5_behind wsX5_behind) := goodIn_app (goodIn_of _ (by decide +kernel)) ggL_law_X5_behind
set_option maxRecDepth 20000 in
theorem ggL_law_X6_behind : GoodIn wsL_law wsX6_behind := goodIn_r _ [513, 83, 82, 325, 326, 327, 5, 328, 92, 514, 515, 516, 118, 119, 120, 296, 297, 298, 121, 122, 123, 124, 78, 517, 518, 519, 520, 299, 300, 301, 302, 303, 304, 79, 80, 81, 305, 306, 307, 308, 309, 88, 310, 311, 312, 313, 333, 334, 335, 336, 337, 338, 339, 340, 89, 341, 342, 343, 344, 345, 346, 347, 348, 349, 350, 351, 352, 353, 354, 355, 356, 357, 358, 359, 360, 361, 362, 363, 364, 365, 366, 367, 368, 369, 370, 371, 372, 373, 374, 375, 376, 377, 378, 379, 380, 381, 382, 383, 384, 385, 386, 387, 388, 389, 390, 391, 392, 393, 394, 395, 396, 397, 398, 399, 400, 521, 522, 523, 524, 1035, 1036, 1037, 1038, 1039, 1040, 1041, 1042, 1043, 1044, 1045, 1046, 1047, 1048, 1049, 1050, 1051, 1052, 1053, 1054, 1055, 1056, 1057, 1058, 1059] (by decide +kernel) (by decide +kernel)
set_option maxRecDepth 20000 in
theorem gL_law_X6_behind : GoodIn wsL_law (wsV RL 60 RX6 yX6_behind wsX6_behind) := goodIn_app (goodIn_of _ (by decide +kernel)) ggL_law_X6_behind
set_option maxRecDepth 20000 in
theorem ggL_law_X5_then : GoodIn wsL_law wsX5_then := goodIn_r _ [528, 21, 17, 97, 98, 2, 99, 426, 427, 428, 429, 430, 431, 104, 105, 106, 107, 35, 505, 506, 507, 20, 508, 54, 53, 509, 151, 152, 14, 153, 41, 154, 155, 156, 157, 42, 43, 44, 45, 47, 48, 489, 205, 206, 207, 208, 209, 210, 211, 46, 212, 213, 214, 215, 216, 217, 218, 219, 220, 134, 135, 136, 221, 222, 223, 224, 225, 226, 227, 228, 229, 230, 231, 232, 233, 234, 235, 236, 237, 238, 239, 240, 241, 242, 243, 244, 245, 246, 247, 248, 249, 250, 251, 252, 253, 254, 255, 256, 257, 258, 259, 260, 261, 262, 438, 1026, 1027, 1028, 1029, 1030, 1031, 1032, 1033, 1034, 1068, 1069, 1060, 1061, 1062, 1063, 1064, 1065, 1066, 1067] (by decide +kernel) (by decide +kernel)
set_option maxRecDepth 20000 in
theorem gL_law_X5_then : GoodIn wsL_law (wsV RL 61 RX5 yX5_then wsX5_then) := goodIn_app (goodIn_of _ (by decide +kernel)) ggL_law_X5_then
set_option maxRecDepth 20000 in
theorem ggL_law_X6_then : GoodIn wsL_law wsX6_then := goodIn_r _ [532, 514, 515, 5, 516, 118, 119, 120, 296, 297, 298, 121, 122, 123, 124, 78, 533, 534, 535, 536, 517, 518, 519, 520, 299, 300, 301, 302, 303, 304, 79, 80, 81, 82, 83, 92, 305, 306, 307, 308, 309, 88, 310, 311, 312, 313, 333, 334, 335, 336, 337, 338, 339, 340, 89, 341, 342, 343, 344, 345, 346, 347, 348, 349, 350, 351, 352, 353, 354, 355, 356, 357, 358, 359, 360, 361, 362, 363, 364, 365, 366, 367, 368, 369, 370, 371, 372, 373, 374, 375, 376, 377, 378, 379, 380, 381, 382, 383, 384, 385, 386, 387, 388, 389, 390, 391, 392, 393, 394, 395, 396, 397, 398, 399, 400, 494, 495, 496, 497, 521, 522, 523, 524, 498, 499, 500, 1035, 1036, 1037, 1038, 1039, 1040, 1041, 1042, 1043, 1044, 1045, 1046, 1047, 1048, 1049, 1050, 1051, 1052, 1053, 1054, 1055, 1056, 1057, 1058, 1059] (by decide +kernel) (by decide +kernel)
set_option maxRecDepth 20000 in
theorem gL_law_X6_then : GoodIn wsL_law (wsV RL 64 RX6 yX6_then wsX6_then) := goodIn_app (goodIn_of _ (by decide +kernel)) ggL_law_X6_then
set_option maxRecDepth 20000 in
theorem ggL_law_X5_depthThen : GoodIn wsL_law wsX5_depthThen := goodIn_r _ [540, 21, 17, 405, 406, 407, 2, 408, 97, 98, 99, 429, 430, 431, 104, 105, 106, 107, 35, 505, 506, 507, 20, 508, 54, 53, 509, 151, 152, 14, 153, 41, 154, 155, 156, 157, 42, 43, 44, 45, 47, 48, 489, 205, 206, 207, 208, 209, 210, 211, 46, 212, 213, 214, 215, 216, 217, 218, 219, 220, 134, 135, 136, 221, 222, 223, 224, 225, 226, 227, 228, 229, 230, 231, 232, 233, 234, 235, 236, 237, 238, 239, 240, 241, 242, 243, 244, 245, 246, 247, 248, 249, 250, 251, 252, 253, 254, 255, 256, 257, 258, 259, 260, 261, 262, 1026, 1027, 1028, 1029, 1030, 1031, 1032, 1033, 1034, 1060, 1061, 1062, 1063, 1064, 1065, 1066, 1067, 1068, 1069] (by decide +kernel) (by decide +kernel)
set_option maxRecDepth 20000 in
theorem gL_law_X5_depthThen : GoodIn wsL_law (wsV RL 65 RX5 yX5_depthThen wsX5_depthThen) := goodIn_app (goodIn_of _ (by decide +kernel)) ggL_law_X5_depthThen
set_option maxRecDepth 20000 in
theorem ggL_law_X6_depthThen : GoodIn wsL_law wsX6_depthThen := goodIn_r _ [544, 79, 318, 319, 5, 320, 514, 515, 516, 118, 119, 120, 121, 122, 123, 124, 78, 517, 518, 519, 520, 299, 300, 301, 302, 303, 304, 80, 81, 82, 83, 92, 305, 306, 307, 308, 309, 88, 310, 311, 312, 313, 333, 334, 335, 336, 337, 338, 339, 340, 89, 341, 342, 343, 344, 345, 346, 347, 348, 349, 350, 351, 352, 353, 354, 355, 356, 357, 358, 359, 360, 361, 362, 363, 364, 365, 366, 367, 368, 369, 370, 371, 372, 373, 374, 375, 376, 377, 378, 379, 380, 381, 382, 383, 384, 385, 386, 387, 388, 389, 390, 391, 392, 393, 394, 395, 396, 397, 398, 399, 400, 521, 522, 523, 524, 1035, 1036, 1037, 1038, 1039, 1040, 1041, 1042, 1043, 1044, 1045, 1046, 1047, 1048, 1049, 1050, 1051, 1052, 1053, 1054, 1055, 1056, 1057, 1058, 1059] (by decide +kernel) (by decide +kernel)
set_option maxRecDepth 20000 in
theorem gL_law_X6_depthThen : GoodIn wsL_law (wsV RL 68 RX6 yX6_depthThen wsX6_depthThen) := goodIn_app (goodIn_of _ (by decide +kernel)) ggL_law_X6_depthThen
set_option maxRecDepth 20000 in
theorem ggL_law_X5_first : GoodIn wsL_law wsX5_first := goodIn_r _ [548, 21, 549, 550, 551, 20, 552, 54, 553, 506, 507, 508, 53, 509, 151, 152, 14, 153, 41, 154, 155, 156, 157, 42, 43, 44, 45, 47, 48, 554, 555, 556, 557, 558, 559, 250, 251, 252, 253, 254, 255, 256, 226, 227, 228, 229, 257, 258, 232, 259, 260, 261, 262, 560, 209, 210, 211, 46, 212, 213, 214, 215, 216, 217, 218, 219, 220, 134, 135, 136, 221, 222, 223, 224, 2, 225, 230, 231, 233, 234, 235, 236, 237, 238, 239, 240, 241, 242, 243, 244, 245, 246, 247, 248, 561, 562, 563, 564, 565, 566, 567, 568, 569, 570, 571, 572, 573, 104, 105, 106, 107, 35, 1026, 1027, 1028, 1029, 1030, 1031, 1032, 1033, 1034, 1068, 1069, 1060, 1061, 1062, 1063, 1064, 1065, 1066, 1067] (by decide +kernel) (by decide +kernel)
set_option maxRecDepth 20000 in
theorem gL_law_X5_first : GoodIn wsL_law (wsV RL 69 RX5 yX5_first wsX5_first) := goodIn_app (goodIn_of _ (by decide +kernel)) ggL_law_X5_first
set_option maxRecDepth 20000 in
theorem ggL_law_X6_first : GoodIn wsL_law wsX6_first := goodIn_r _ [577, 296, 297, 5, 298, 121, 122, 123, 124, 78, 341, 342, 343, 344, 79, 517, 518, 519, 520, 299, 300, 301, 302, 303, 304, 80, 81, 82, 83, 92, 305, 306, 307, 308, 309, 88, 310, 311, 312, 313, 578, 579, 580, 581, 494, 495, 496, 497, 349, 350, 351, 352, 353, 354, 355, 356, 357, 358, 359, 360, 582, 583, 584, 585, 586, 587, 588, 589, 367, 368, 369, 370, 371, 372, 373, 374, 375, 376, 377, 378, 379, 380, 381, 382, 383, 384, 385, 386, 361, 362, 363, 364, 365, 366, 387, 388, 389, 390, 391, 392, 393, 394, 395, 396, 397, 337, 338, 339, 340, 89, 345, 346, 347, 348, 398, 399, 400, 521, 522, 523, 524, 1035, 1036, 1037, 1038, 1039, 1040, 1041, 1042, 1043, 1044, 1045, 1046, 1047, 1048, 1049, 1050, 1051, 1052, 1053, 1054, 1055, 1056, 1057, 1058, 1059] (by decide +kernel) (by decide +kernel)
set_option maxRecDepth 20000 in
theorem gL_law_X6_first : GoodIn wsL_law (wsV RL 72 RX6 yX6_first wsX6_first) := goodIn_app (goodIn_of _ (by decide +kernel)) ggL_law_X6_first
set_option maxRecDepth 20000 in
theorem ggL_law_X5_makes : GoodIn wsL_law wsX5_makes := goodIn_r _ [593, 21, 97, 98, 2, 99, 104, 105, 106, 107, 35, 594, 595, 596, 20, 597, 53, 558, 598, 258, 232, 259, 260, 261, 262, 599, 600, 601, 602, 54, 603, 553, 506, 507, 508, 509, 151, 152, 14, 153, 41, 154, 155, 156, 157, 42, 43, 44, 45, 47, 48, 604, 605, 606, 205, 206, 207, 208, 209, 210, 211, 46, 212, 213, 214, 215, 216, 217, 218, 219, 220, 134, 135, 136, 221, 222, 223, 224, 225, 226, 227, 228, 229, 230, 231, 233, 234, 235, 236, 237, 238, 239, 240, 241, 242, 243, 244, 245, 246, 247, 248, 249, 250, 251, 252, 253, 254, 255, 256, 257, 554, 555, 556, 557, 559, 1026, 1027, 1028, 1029, 1030, 1031, 1032, 1033, 1034, 1068, 1069, 1060, 1061, 1062, 1063, 1064, 1065, 1066, 1067] (by decide +kernel) (by decide +kernel)
set_option maxRecDepth 20000 in
theorem gL_law_X5_makes : GoodIn wsL_law (wsV RL 73 RX5 yX5_makes wsX5_makes) := goodIn_app (goodIn_of _ (by decide +kernel)) ggL_law_X5_makes
set_option maxRecDepth 20000 in
theorem ggL_law_X6_makes : GoodIn wsL_law wsX6_makes := goodIn_r _ [610, 92, 611, 612, 5, 613, 118, 119, 120, 121, 122, 123, 124, 78, 498, 499, 500, 614, 615, 616, 617, 83, 299, 300, 301, 302, 303, 304, 79, 80, 81, 82, 305, 306, 307, 308, 309, 88, 310, 311, 312, 313, 354, 355, 356, 533, 534, 535, 536, 517, 518, 519, 520, 333, 334, 335, 336, 337, 338, 339, 340, 89, 341, 342, 343, 344, 345, 346, 347, 348, 349, 350, 351, 352, 353, 357, 358, 359, 360, 361, 362, 363, 364, 365, 366, 367, 368, 369, 370, 371, 372, 373, 374, 375, 376, 377, 378, 379, 380, 381, 382, 383, 384, 385, 386, 387, 388, 389, 390, 391, 392, 393, 394, 395, 396, 397, 398, 399, 400, 494, 495, 496, 497, 521, 522, 523, 524, 582, 583, 584, 585, 1035, 1036, 1037, 1038, 1039, 1040, 1041, 1042, 1043, 1044, 1045, 1046, 1047, 1048, 1049, 1050, 1051, 1052, 1053, 1054, 1055, 1056, 1057, 1058, 1059] (by decide +kernel) (by decide +kernel)
set_option maxRecDepth 20000 in
theorem gL_law_X6_makes : GoodIn wsL_law (wsV RL 76 RX6 yX6_makes wsX6_makes) := goodIn_app (goodIn_of _ (by decide +kernel)) ggL_law_X6_makes
set_option maxRecDepth 20000 in
theorem ggL_law_X5_leaves : GoodIn wsL_law wsX5_leaves := goodIn_r _ [621, 21, 97, 98, 2, 99, 104, 105, 106, 107, 35, 622, 623, 624, 20, 625, 53, 558, 598, 258, 232, 259, 260, 261, 262, 626, 627, 628, 629, 54, 553, 506, 507, 508, 509, 151, 152, 14, 153, 41, 154, 155, 156, 157, 42, 43, 44, 45, 47, 48, 630, 631, 632, 633, 604, 605, 606, 205, 206, 207, 208, 209, 210, 211, 46, 212, 213, 214, 215, 216, 217, 218, 219, 220, 134, 135, 136, 221, 222, 223, 224, 225, 226, 227, 228, 229, 230, 231, 233, 234, 235, 236, 237, 238, 239, 240, 241, 242, 243, 244, 245, 246, 247, 248, 249, 250, 251, 252, 253, 254, 255, 256, 257, 1026, 1027, 1028, 1029, 1030, 1031, 1032, 1033, 1034, 1068, 1069, 1060, 1061, 1062, 1063, 1064, 1065, 1066, 1067] (by decide +kernel) (by decide +kernel)
set_option maxRecDepth 20000 in
theorem gL_law_X5_leaves : GoodIn wsL_law (wsV RL 77 RX5 yX5_leaves wsX5_leaves) := goodIn_app (goodIn_of _ (by decide +kernel)) ggL_law_X5_leaves
set_option maxRecDepth 20000 in
theorem ggL_law_X6_leaves : GoodIn wsL_law wsX6_leaves := goodIn_r _ [637, 611, 612, 5, 613, 118, 119, 120, 121, 122, 123, 124, 78, 582, 583, 584, 585, 92, 498, 499, 500, 638, 639, 640, 641, 353, 533, 534, 535, 536, 517, 518, 519, 520, 299, 300, 301, 302, 303, 304, 79, 80, 81, 82, 83, 305, 306, 307, 308, 309, 88, 310, 311, 312, 313, 333, 334, 335, 336, 337, 338, 339, 340, 89, 341, 342, 343, 344, 345, 346, 347, 348, 349, 350, 351, 352, 354, 355, 356, 357, 358, 359, 360, 361, 362, 363, 364, 365, 366, 367, 368, 369, 370, 371, 372, 373, 374, 375, 376, 377, 378, 379, 380, 381, 382, 383, 384, 385, 386, 387, 388, 389, 390, 391, 392, 393, 394, 395, 396, 397, 398, 399, 400, 494, 495, 496, 497, 521, 522, 523, 524, 1035, 1036, 1037, 1038, 1039, 1040, 1041, 1042, 1043, 1044, 1045, 1046, 1047, 1048, 1049, 1050, 1051, 1052, 1053, 1054, 1055, 1056, 1057, 1058, 1059] (by decide +kernel) (by decide +kernel)
set_option maxRecDepth 20000 in
theorem gL_law_X6_leaves : GoodIn wsL_law (wsV RL 80 RX6 yX6_leaves wsX6_leaves) := goodIn_app (goodIn_of _ (by decide +kernel)) ggL_law_X6_leaves
set_option maxRecDepth 20000 in
theorem ggL_law_X5_ask : GoodIn wsL_law wsX5_ask := goodIn_r _ [645, 21, 97, 98, 2, 99, 104, 105, 106, 107, 35, 646, 647, 648, 20, 649, 53, 558, 603, 54, 553, 506, 507, 508, 509, 151, 152, 14, 153, 41, 154, 155, 156, 157, 42, 43, 44, 45, 47, 48, 606, 205, 206, 207, 208, 209, 210, 211, 46, 212, 213, 214, 215, 216, 217, 218, 219, 220, 134, 135, 136, 221, 222, 223, 224, 225, 226, 227, 228, 229, 230, 231, 232, 233, 234, 235, 236, 237, 238, 239, 240, 241, 242, 243, 244, 245, 246, 247, 248, 249, 250, 251, 252, 253, 254, 255, 256, 257, 258, 259, 260, 261, 262, 1026, 1027, 1028, 1029, 1030, 1031, 1032, 1033, 1034, 1068, 1069, 1060, 1061, 1062, 1063, 1064, 1065, 1066, 1067] (by decide +kernel) (by decide +kernel)
set_option maxRecDepth 20000 in
theorem gL_law_X5_ask : GoodIn wsL_law (wsV RL 81 RX5 yX5_ask wsX5_ask) := goodIn_app (goodIn_of _ (by decide +kernel)) ggL_law_X5_ask
set_option maxRecDepth 20000 in
theorem ggL_law_X6_ask : GoodIn wsL_law wsX6_ask := goodIn_r _ [653, 92, 514, 515, 5, 516, 118, 119, 120, 121, 122, 123, 124, 78, 533, 534, 535, 536, 517, 518, 519, 520, 299, 300, 301, 302, 303, 304, 79, 80, 81, 82, 83, 305, 306, 307, 308, 309, 88, 310, 311, 312, 313, 333, 334, 335, 336, 337, 338, 339, 340, 89, 341, 342, 343, 344, 345, 346, 347, 348, 349, 350, 351, 352, 353, 354, 355, 356, 357, 358, 359, 360, 361, 362, 363, 364, 365, 366, 367, 368, 369, 370, 371, 372, 373, 374, 375, 376, 377, 378, 379, 380, 381, 382, 383, 384, 385, 386, 387, 388, 389, 390, 391, 392, 393, 394, 395, 396, 397, 398, 399, 400, 494, 495, 496, 497, 521, 522, 523, 524, 498, 499, 500, 614, 615, 616, 617, 1035, 1036, 1037, 1038, 1039, 1040, 1041, 1042, 1043, 1044, 1045, 1046, 1047, 1048, 1049, 1050, 1051, 1052, 1053, 1054, 1055, 1056, 1057, 1058, 1059] (by decide +kernel) (by decide +kernel)
set_option maxRecDepth 20000 in
theorem gL_law_X6_ask : GoodIn wsL_law (wsV RL 84 RX6 yX6_ask wsX6_ask) := goodIn_app (goodIn_of _ (by decide +kernel)) ggL_law_X6_ask
set_option maxRecDepth 20000 in
theorem ggL_law_X5_sit : GoodIn wsL_law wsX5_sit := goodIn_r _ [657, 21, 421, 422, 423, 2, 424, 15, 425, 97, 98, 99, 426, 427, 428, 429, 430, 431, 104, 105, 106, 107, 35, 658, 659, 660, 20, 661, 662, 663, 664, 665, 666, 54, 603, 553, 506, 507, 508, 53, 509, 151, 152, 14, 153, 41, 154, 155, 156, 157, 42, 43, 44, 45, 47, 48, 606, 205, 206, 207, 208, 209, 210, 211, 46, 212, 213, 214, 215, 216, 217, 218, 219, 220, 134, 135, 136, 221, 222, 223, 224, 225, 226, 227, 228, 229, 230, 231, 232, 233, 234, 235, 236, 237, 238, 239, 240, 241, 242, 243, 244, 245, 246, 247, 248, 249, 250, 251, 252, 253, 254, 255, 256, 257, 258, 259, 260, 261, 262, 667, 1026, 1027, 1028, 1029, 1030, 1031, 1032, 1033, 1034, 1060, 1061, 1062, 1063, 1064, 1065, 1066, 1067, 1068, 1069] (by decide +kernel) (by decide +kernel)
set_option maxRecDepth 20000 in
theorem gL_law_X5_sit : GoodIn wsL_law (wsV RL 85 RX5 yX5_sit wsX5_sit) := goodIn_app (goodIn_of _ (by decide +kernel)) ggL_law_X5_sit
set_option maxRecDepth 20000 in
theorem ggL_law_X6_sit : GoodIn wsL_law wsX6_sit := goodIn_r _ [671, 325, 326, 327, 5, 328, 92, 611, 612, 613, 118, 119, 120, 296, 297, 298, 121, 122, 123, 124, 78, 672, 673, 674, 675, 82, 83, 299, 300, 301, 302, 303, 304, 79, 80, 81, 305, 306, 307, 308, 309, 88, 310, 311, 312, 313, 333, 334, 335, 336, 337, 338, 339, 340, 89, 341, 342, 343, 344, 345, 346, 347, 348, 349, 350, 351, 352, 353, 354, 355, 356, 357, 358, 359, 360, 361, 362, 363, 364, 365, 366, 367, 368, 369, 370, 371, 372, 373, 374, 375, 376, 377, 378, 379, 380, 381, 382, 383, 384, 385, 386, 387, 388, 389, 390, 391, 392, 393, 394, 395, 396, 397, 398, 399, 400, 1035, 1036, 1037, 1038, 1039, 1040, 1041, 1042, 1043, 1044, 1045, 1046, 1047, 1048, 1049, 1050, 1051, 1052, 1053, 1054, 1055, 1056, 1057, 1058, 1059] (by decide +kernel) (by decide +kernel)
set_option maxRecDepth 20000 in
theorem gL_law_X6_sit : GoodIn wsL_law (wsV RL 88 RX6 yX6_sit wsX6_sit) := goodIn_app (goodIn_of _ (by decide +kernel)) ggL_law_X6_sit
set_option maxRecDepth 20000 in
theorem ggL_law_X5_doubt : GoodIn wsL_law wsX5_doubt := goodIn_r _ [679, 21, 97, 98, 2, 99, 104, 105, 106, 107, 35, 680, 681, 682, 20, 683, 53, 558, 684, 54, 553, 506, 507, 508, 509, 151, 152, 14, 153, 41, 154, 155, 156, 157, 42, 43, 44, 45, 47, 48, 606, 205, 206, 207, 208, 209, 210, 211, 46, 212, 213, 214, 215, 216, 217, 218, 219, 220, 134, 135, 136, 221, 222, 223, 224, 225, 226, 227, 228, 229, 230, 231, 232, 233, 234, 235, 236, 237, 238, 239, 240, 241, 242, 243, 244, 245, 246, 247, 248, 249, 250, 251, 252, 253, 254, 255, 256, 257, 258, 259, 260, 261, 262, 1026, 1027, 1028, 1029, 1030, 1031, 1032, 1033, 1034, 1068, 1069, 1060, 1061, 1062, 1063, 1064, 1065, 1066, 1067] (by decide +kernel) (by decide +kernel)
set_option maxRecDepth 20000 in
theorem gL_law_X5_doubt : GoodIn wsL_law (wsV RL 89 RX5 yX5_doubt wsX5_doubt) := goodIn_app (goodIn_of _ (by decide +kernel)) ggL_law_X5_doubt
set_option maxRecDepth 20000 in
theorem ggL_law_X6_doubt : GoodIn wsL_law wsX6_doubt := goodIn_r _ [688, 92, 80, 514, 515, 5, 516, 118, 119, 120, 121, 122, 123, 124, 78, 533, 534, 535, 536, 517, 518, 519, 520, 299, 300, 301, 302, 303, 304, 79, 81, 82, 83, 305, 306, 307, 308, 309, 88, 310, 311, 312, 313, 333, 334, 335, 336, 337, 338, 339, 340, 89, 341, 342, 343, 344, 345, 346, 347, 348, 349, 350, 351, 352, 353, 354, 355, 356, 357, 358, 359, 360, 361, 362, 363, 364, 365, 366, 367, 368, 369, 370, 371, 372, 373, 374, 375, 376, 377, 378, 379, 380, 381, 382, 383, 384, 385, 386, 387, 388, 389, 390, 391, 392, 393, 394, 395, 396, 397, 398, 399, 400, 494, 495, 496, 497, 521, 522, 523, 524, 498, 499, 500, 1035, 1036, 1037, 1038, 1039, 1040, 1041, 1042, 1043, 1044, 1045, 1046, 1047, 1048, 1049, 1050, 1051, 1052, 1053, 1054, 1055, 1056, 1057, 1058, 1059] (by decide +kernel) (by decide +kernel)
set_option maxRecDepth 20000 in
theorem gL_law_X6_doubt : GoodIn wsL_law (wsV RL 92 RX6 yX6_doubt wsX6_doubt) := goodIn_app (goodIn_of _ (by decide +kernel)) ggL_law_X6_doubt
set_option maxRecDepth 20000 in
theorem ggL_law_X5_stranger : GoodIn wsL_law wsX5_stranger := goodIn_r _ [692, 693, 21, 97, 98, 2, 99, 104, 105, 106, 107, 35, 694, 695, 696, 20, 697, 53, 54, 558, 698, 180, 181, 14, 182, 47, 553, 506, 507, 508, 509, 151, 152, 153, 41, 154, 155, 156, 157, 42, 43, 44, 45, 48, 606, 205, 206, 207, 208, 209, 210, 211, 46, 212, 213, 214, 215, 216, 217, 218, 219, 220, 134, 135, 136, 221, 222, 223, 224, 225, 226, 227, 228, 229, 230, 231, 232, 233, 234, 235, 236, 237, 238, 239, 240, 241, 242, 243, 244, 245, 246, 247, 248, 249, 250, 251, 252, 253, 254, 255, 256, 257, 258, 259, 260, 261, 262, 699, 184, 185, 186, 187, 700, 1026, 1027, 1028, 1029, 1030, 1031, 1032, 1033, 1034, 1068, 1069, 1060, 1061, 1062, 1063, 1064, 1065, 1066, 1067] (by decide +kernel) (by decide +kernel)
set_option maxRecDepth 20000 in
theorem gL_law_X5_stranger : GoodIn wsL_law (wsV RL 93 RX5 yX5_stranger wsX5_stranger) := goodIn_app (goodIn_of _ (by decide +kernel)) ggL_law_X5_stranger
set_option maxRecDepth 20000 in
theorem ggL_law_X6_stranger : GoodIn wsL_law wsX6_stranger := goodIn_r _ [704, 92, 514, 515, 5, 516, 118, 119, 120, 705, 706, 707, 708, 78, 709, 533, 534, 535, 536, 517, 518, 519, 520, 299, 300, 301, 302, 303, 304, 79, 80, 81, 82, 83, 305, 306, 307, 308, 309, 88, 310, 311, 312, 313, 333, 334, 335, 336, 337, 338, 339, 340, 89, 341, 342, 343, 344, 345, 346, 347, 348, 349, 350, 351, 352, 353, 354, 355, 356, 357, 358, 359, 360, 361, 362, 363, 364, 365, 366, 367, 368, 369, 370, 371, 372, 373, 374, 375, 376, 377, 378, 379, 380, 381, 382, 383, 384, 385, 386, 387, 388, 389, 390, 391, 392, 393, 394, 395, 396, 397, 398, 399, 400, 494, 495, 496, 497, 521, 522, 523, 524, 498, 499, 500, 582, 583, 584, 585, 321, 322, 323, 324, 1035, 1036, 1037, 1038, 1039, 1040, 1041, 1042, 1043, 1044, 1045, 1046, 1047, 1048, 1049, 1050, 1051, 1052, 1053, 1054, 1055, 1056, 1057, 1058, 1059] (by decide +kernel) (by decide +kernel)
set_option maxRecDepth 20000 in
theorem gL_law_X6_stranger : GoodIn wsL_law (wsV RL 96 RX6 yX6_stranger wsX6_stranger) := goodIn_app (goodIn_of _ (by decide +kernel)) ggL_law_X6_stranger
set_option maxRecDepth 20000 in
theorem ggL_law_X5_nearest : GoodIn wsL_law wsX5_nearest := goodIn_r _ [713, 25, 15, 438, 213, 214, 14, 215, 41, 714, 715, 716, 24, 717, 59, 718, 719, 224, 2, 225, 1026, 1027, 1028, 1029, 1030, 1031, 1032, 1033, 1034, 1060, 1061, 1062, 1063, 1064, 1065, 1066, 1067, 1070] (by decide +kernel) (by decide +kernel)
set_option maxRecDepth 20000 in
theorem gL_law_X5_nearest : GoodIn wsL_law (wsV RL 97 RX5 yX5_nearest wsX5_nearest) := goodIn_app (goodIn_of _ (by decide +kernel)) ggL_law_X5_nearest
set_option maxRecDepth 20000 in
theorem ggL_law_X6_nearest : GoodIn wsL_law wsX6_nearest := goodIn_r _ [723, 92, 82, 341, 342, 343, 5, 344, 79, 361, 362, 363, 364, 365, 366, 1035, 1036, 1037, 1038, 1039, 1040, 1041, 1042, 1043, 1044, 1045, 1046, 1047, 1048, 1049, 1050, 1051, 1052, 1053, 1054, 1055, 1056, 1057, 1058, 1059] (by decide +kernel) (by decide +kernel)
set_option maxRecDepth 20000 in
theorem gL_law_X6_nearest : GoodIn wsL_law (wsV RL 100 RX6 yX6_nearest wsX6_nearest) := goodIn_app (goodIn_of _ (by decide +kernel)) ggL_law_X6_nearest
set_option maxRecDepth 20000 in
theorem ggL_law_X5_passed : GoodIn wsL_law wsX5_passed := goodIn_r _ [727, 21, 97, 98, 2, 99, 104, 105, 106, 107, 35, 728, 729, 730, 20, 731, 54, 553, 506, 507, 508, 53, 509, 151, 152, 14, 153, 41, 154, 155, 156, 157, 42, 43, 44, 45, 47, 48, 732, 733, 734, 735, 558, 736, 700, 227, 228, 229, 560, 209, 210, 211, 46, 212, 213, 214, 215, 216, 217, 218, 219, 220, 134, 135, 136, 221, 222, 223, 224, 225, 226, 230, 231, 232, 233, 234, 235, 236, 237, 238, 239, 240, 241, 242, 243, 244, 245, 246, 247, 248, 1026, 1027, 1028, 1029, 1030, 1031, 1032, 1033, 1034, 1068, 1069, 1060, 1061, 1062, 1063, 1064, 1065, 1066, 1067] (by decide +kernel) (by decide +kernel)
set_option maxRecDepth 20000 in
theorem gL_law_X5_passed : GoodIn wsL_law (wsV RL 101 RX5 yX5_passed wsX5_passed) := goodIn_app (goodIn_of _ (by decide +kernel)) ggL_law_X5_passed
set_option maxRecDepth 20000 in
theorem ggL_law_X6_passed : GoodIn wsL_law wsX6_passed := goodIn_r _ [740, 92, 81, 514, 515, 5, 516, 118, 119, 120, 121, 122, 123, 124, 78, 517, 518, 519, 520, 299, 300, 301, 302, 303, 304, 79, 80, 82, 83, 305, 306, 307, 308, 309, 88, 310, 311, 312, 313, 357, 358, 359, 360, 337, 338, 339, 340, 89, 341, 342, 343, 344, 345, 346, 347, 348, 349, 350, 351, 352, 353, 354, 355, 356, 361, 362, 363, 364, 365, 366, 367, 368, 369, 370, 371, 372, 373, 374, 375, 376, 377, 378, 379, 380, 381, 382, 383, 384, 385, 386, 387, 388, 389, 390, 391, 392, 393, 394, 395, 396, 397, 398, 399, 400, 521, 522, 523, 524, 1035, 1036, 1037, 1038, 1039, 1040, 1041, 1042, 1043, 1044, 1045, 1046, 1047, 1048, 1049, 1050, 1051, 1052, 1053, 1054, 1055, 1056, 1057, 1058, 1059] (by decide +kernel) (by decide +kernel)
set_option maxRecDepth 20000 in
theorem gL_law_X6_passed : GoodIn wsL_law (wsV RL 104 RX6 yX6_passed wsX6_passed) := goodIn_app (goodIn_of _ (by decide +kernel)) ggL_law_X6_passed
set_option maxRecDepth 20000 in
theorem ggL_law_X5_heard : GoodIn wsL_law wsX5_heard := goodIn_r _ [744, 25, 421, 422, 423, 2, 424, 15, 425, 104, 105, 106, 107, 35, 745, 746, 747, 24, 748, 59, 718, 604, 605, 749, 433, 434, 14, 435, 47, 44, 224, 225, 1026, 1027, 1028, 1029, 1030, 1031, 1032, 1033, 1034, 1060, 1061, 1062, 1063, 1064, 1065, 1066, 1067, 1070] (by decide +kernel) (by decide +kernel)
set_option maxRecDepth 20000 in
theorem gL_law_X5_heard : GoodIn wsL_law (wsV RL 105 RX5 yX5_heard wsX5_heard) := goodIn_app (goodIn_of _ (by decide +kernel)) ggL_law_X5_heard
set_option maxRecDepth 20000 in
theorem ggL_law_X6_heard : GoodIn wsL_law wsX6_heard := goodIn_r _ [753, 325, 326, 327, 5, 328, 92, 754, 755, 756, 757, 354, 355, 356, 383, 384, 385, 386, 82, 349, 350, 351, 352, 353, 361, 362, 363, 364, 365, 366, 121, 122, 123, 124, 78, 1035, 1036, 1037, 1038, 1039, 1040, 1041, 1042, 1043, 1044, 1045, 1046, 1047, 1048, 1049, 1050, 1051, 1052, 1053, 1054, 1055, 1056, 1057, 1058, 1059] (by decide +kernel) (by decide +kernel)
set_option maxRecDepth 20000 in
theorem gL_law_X6_heard : GoodIn wsL_law (wsV RL 108 RX6 yX6_heard wsX6_heard) := goodIn_app (goodIn_of _ (by decide +kernel)) ggL_law_X6_heard
set_option maxRecDepth 20000 in
theorem ggL_law_X5_groups : GoodIn wsL_law wsX5_groups := goodIn_r _ [761, 25, 426, 427, 2, 428, 104, 105, 106, 107, 35, 762, 763, 764, 24, 765, 59, 718, 604, 605, 766, 746, 747, 748, 749, 433, 434, 14, 435, 47, 44, 224, 225, 767, 768, 769, 770, 771, 134, 135, 136, 772, 258, 232, 259, 260, 261, 262, 1026, 1027, 1028, 1029, 1030, 1031, 1032, 1033, 1034, 1070, 1060, 1061, 1062, 1063, 1064, 1065, 1066, 1067] (by decide +kernel) (by decide +kernel)
set_option maxRecDepth 20000 in
theorem gL_law_X5_groups : GoodIn wsL_law (wsV RL 109 RX5 yX5_groups wsX5_groups) := goodIn_app (goodIn_of _ (by decide +kernel)) ggL_law_X5_groups
set_option maxRecDepth 20000 in
theorem ggL_law_X6_groups : GoodIn wsL_law wsX6_groups := goodIn_r _ [776, 92, 296, 297, 5, 298, 121, 122, 123, 124, 78, 754, 755, 756, 757, 354, 355, 356, 383, 384, 385, 386, 82, 349, 350, 351, 352, 353, 361, 362, 363, 364, 365, 366, 498, 499, 500, 1035, 1036, 1037, 1038, 1039, 1040, 1041, 1042, 1043, 1044, 1045, 1046, 1047, 1048, 1049, 1050, 1051, 1052, 1053, 1054, 1055, 1056, 1057, 1058, 1059] (by decide +kernel) (by decide +kernel)
set_option maxRecDepth 20000 in
theorem gL_law_X6_groups : GoodIn wsL_law (wsV RL 112 RX6 yX6_groups wsX6_groups) := goodIn_app (goodIn_of _ (by decide +kernel)) ggL_law_X6_groups
set_option maxRecDepth 20000 in
theorem ggL_law_X5_middle : GoodIn wsL_law wsX5_middle := goodIn_r _ [780, 25, 426, 427, 2, 428, 104, 105, 106, 107, 35, 781, 782, 783, 24, 784, 785, 786, 787, 788, 59, 718, 719, 224, 225, 789, 1026, 1027, 1028, 1029, 1030, 1031, 1032, 1033, 1034, 1070, 1060, 1061, 1062, 1063, 1064, 1065, 1066, 1067] (by decide +kernel) (by decide +kernel)
set_option maxRecDepth 20000 in
theorem gL_law_X5_middle : GoodIn wsL_law (wsV RL 113 RX5 yX5_middle wsX5_middle) := goodIn_app (goodIn_of _ (by decide +kernel)) ggL_law_X5_middle
set_option maxRecDepth 20000 in
theorem ggL_law_X6_middle : GoodIn wsL_law wsX6_middle := goodIn_r _ [793, 296, 297, 5, 298, 121, 122, 123, 124, 78, 794, 795, 796, 797, 92, 82, 361, 362, 363, 364, 365, 366, 1035, 1036, 1037, 1038, 1039, 1040, 1041, 1042, 1043, 1044, 1045, 1046, 1047, 1048, 1049, 1050, 1051, 1052, 1053, 1054, 1055, 1056, 1057, 1058, 1059] (by decide +kernel) (by decide +kernel)
set_option maxRecDepth 20000 in
theorem gL_law_X6_middle : GoodIn wsL_law (wsV RL 116 RX6 yX6_middle wsX6_middle) := goodIn_app (goodIn_of _ (by decide +kernel)) ggL_law_X6_middle
set_option maxRecDepth 20000 in
theorem ggL_law_X5_wind : GoodIn wsL_law wsX5_wind := goodIn_r _ [801, 802, 21, 426, 427, 2, 428, 104, 105, 106, 107, 35, 803, 804, 805, 20, 806, 807, 808, 809, 810, 54, 553, 506, 507, 508, 53, 509, 151, 152, 14, 153, 41, 154, 155, 156, 157, 42, 43, 44, 45, 47, 48, 604, 605, 560, 209, 210, 211, 46, 212, 213, 214, 215, 216, 217, 218, 219, 220, 134, 135, 136, 221, 222, 223, 224, 225, 226, 227, 228, 229, 230, 231, 232, 233, 234, 235, 236, 237, 238, 239, 240, 241, 242, 243, 244, 245, 246, 247, 248, 554, 555, 556, 557, 558, 559, 250, 251, 252, 253, 254, 255, 256, 257, 258, 259, 260, 261, 262, 598, 811, 812, 813, 814, 815, 816, 817, 818, 819, 820, 1026, 1027, 1028, 1029, 1030, 1031, 1032, 1033, 1034, 1068, 1069, 1060, 1061, 1062, 1063, 1064, 1065, 1066, 1067] (by decide +kernel) (by decide +kernel)
set_option maxRecDepth 20000 in
theorem gL_law_X5_wind : GoodIn wsL_law (wsV RL 117 RX5 yX5_wind wsX5_wind) := goodIn_app (goodIn_of _ (by decide +kernel)) ggL_law_X5_wind
set_option maxRecDepth 20000 in
theorem ggL_law_X6_wind : GoodIn wsL_law wsX6_wind := goodIn_r _ [824, 296, 297, 5, 298, 825, 826, 827, 828, 78, 829, 517, 518, 519, 520, 299, 300, 301, 302, 303, 304, 79, 80, 81, 82, 83, 92, 305, 306, 307, 308, 309, 88, 310, 311, 312, 313, 354, 355, 356, 337, 338, 339, 340, 89, 341, 342, 343, 344, 345, 346, 347, 348, 349, 350, 351, 352, 353, 357, 358, 359, 360, 361, 362, 363, 364, 365, 366, 367, 368, 369, 370, 371, 372, 373, 374, 375, 376, 377, 378, 379, 380, 381, 382, 383, 384, 385, 386, 387, 388, 389, 390, 391, 392, 393, 394, 395, 396, 397, 398, 399, 400, 494, 495, 496, 497, 582, 583, 584, 585, 521, 522, 523, 524, 830, 831, 832, 833, 834, 835, 1035, 1036, 1037, 1038, 1039, 1040, 1041, 1042, 1043, 1044, 1045, 1046, 1047, 1048, 1049, 1050, 1051, 1052, 1053, 1054, 1055, 1056, 1057, 1058, 1059] (by decide +kernel) (by decide +kernel)
set_option maxRecDepth 20000 in
theorem gL_law_X6_wind : GoodIn wsL_law (wsV RL 121 RX6 yX6_wind wsX6_wind) := goodIn_app (goodIn_of _ (by decide +kernel)) ggL_law_X6_wind
set_option maxRecDepth 20000 in
theorem ggL_law_X5_mean : GoodIn wsL_law wsX5_mean := goodIn_r _ [839, 802, 15, 425, 426, 427, 2, 428, 104, 105, 106, 107, 35, 840, 841, 842, 14, 843, 47, 45, 815, 816, 817, 818, 819, 820, 1026, 1027, 1028, 1029, 1030, 1031, 1032, 1033, 1034, 1060, 1061, 1062, 1063, 1064, 1065, 1066, 1067] (by decide +kernel) (by decide +kernel)
set_option maxRecDepth 20000 in
theorem gL_law_X5_mean : GoodIn wsL_law (wsV RL 122 RX5 yX5_mean wsX5_mean) := goodIn_app (goodIn_of _ (by decide +kernel)) ggL_law_X5_mean
set_option maxRecDepth 20000 in
theorem ggL_law_X6_mean : GoodIn wsL_law wsX6_mean := goodIn_r _ [847, 92, 83, 296, 297, 5, 298, 825, 826, 827, 828, 78, 829, 830, 831, 832, 833, 834, 835, 1035, 1036, 1037, 1038, 1039, 1040, 1041, 1042, 1043, 1044, 1045, 1046, 1047, 1048, 1049, 1050, 1051, 1052, 1053, 1054, 1055, 1056, 1057, 1058, 1059] (by decide +kernel) (by decide +kernel)
set_option maxRecDepth 20000 in
theorem gL_law_X6_mean : GoodIn wsL_law (wsV RL 126 RX6 yX6_mean wsX6_mean) := goodIn_app (goodIn_of _ (by decide +kernel)) ggL_law_X6_mean
set_option maxRecDepth 20000 in
theorem ggL_law_X5_two : GoodIn wsL_law wsX5_two := goodIn_r _ [851, 21, 421, 422, 423, 2, 424, 15, 425, 429, 430, 431, 97, 98, 99, 104, 105, 106, 107, 35, 852, 853, 854, 20, 855, 856, 857, 858, 859, 54, 603, 553, 506, 507, 508, 53, 509, 151, 152, 14, 153, 41, 154, 155, 156, 157, 42, 43, 44, 45, 47, 48, 606, 205, 206, 207, 208, 209, 210, 211, 46, 212, 213, 214, 215, 216, 217, 218, 219, 220, 134, 135, 136, 221, 222, 223, 224, 225, 226, 227, 228, 229, 230, 231, 232, 233, 234, 235, 236, 237, 238, 239, 240, 241, 242, 243, 244, 245, 246, 247, 248, 249, 250, 251, 252, 253, 254, 255, 256, 257, 258, 259, 260, 261, 262, 1026, 1027, 1028, 1029, 1030, 1031, 1032, 1033, 1034, 1060, 1061, 1062, 1063, 1064, 1065, 1066, 1067, 1068, 1069] (by decide +kernel) (by decide +kernel)
set_option maxRecDepth 20000 in
theorem gL_law_X5_two : GoodIn wsL_law (wsV RL 127 RX5 yX5_two wsX5_two) := goodIn_app (goodIn_of _ (by decide +kernel)) ggL_law_X5_two
set_option maxRecDepth 20000 in
theorem ggL_law_X6_two : GoodIn wsL_law wsX6_two := goodIn_r _ [863, 90, 325, 326, 327, 5, 328, 92, 514, 515, 516, 118, 119, 120, 121, 122, 123, 124, 78, 864, 865, 866, 867, 83, 299, 300, 301, 302, 303, 304, 79, 80, 81, 82, 305, 306, 307, 308, 309, 88, 310, 311, 312, 313, 533, 534, 535, 536, 517, 518, 519, 520, 333, 334, 335, 336, 337, 338, 339, 340, 89, 341, 342, 343, 344, 345, 346, 347, 348, 349, 350, 351, 352, 353, 354, 355, 356, 357, 358, 359, 360, 361, 362, 363, 364, 365, 366, 367, 368, 369, 370, 371, 372, 373, 374, 375, 376, 377, 378, 379, 380, 381, 382, 383, 384, 385, 386, 387, 388, 389, 390, 391, 392, 393, 394, 395, 396, 397, 398, 399, 400, 494, 495, 496, 497, 521, 522, 523, 524, 498, 499, 500, 1035, 1036, 1037, 1038, 1039, 1040, 1041, 1042, 1043, 1044, 1045, 1046, 1047, 1048, 1049, 1050, 1051, 1052, 1053, 1054, 1055, 1056, 1057, 1058, 1059] (by decide +kernel) (by decide +kernel)
set_option maxRecDepth 20000 in
theorem gL_law_X6_two : GoodIn wsL_law (wsV RL 130 RX6 yX6_two wsX6_two) := goodIn_app (goodIn_of _ (by decide +kernel)) ggL_law_X6_two
set_option maxRecDepth 20000 in
theorem ggL_law_X5_whatIs : GoodIn wsL_law wsX5_whatIs := goodIn_r _ [871, 21, 33, 421, 422, 423, 2, 424, 15, 425, 426, 427, 428, 429, 430, 431, 104, 105, 106, 107, 35, 872, 873, 874, 20, 875, 684, 553, 506, 507, 508, 54, 53, 509, 151, 152, 14, 153, 41, 154, 155, 156, 157, 42, 43, 44, 45, 47, 48, 876, 877, 878, 879, 880, 881, 603, 560, 209, 210, 211, 46, 212, 213, 214, 215, 216, 217, 218, 219, 220, 134, 135, 136, 221, 222, 223, 224, 225, 226, 227, 228, 229, 230, 231, 232, 233, 234, 235, 236, 237, 238, 239, 240, 241, 242, 243, 244, 245, 246, 247, 248, 882, 883, 884, 885, 736, 1026, 1027, 1028, 1029, 1030, 1031, 1032, 1033, 1034, 1060, 1061, 1062, 1063, 1064, 1065, 1066, 1067, 1068, 1069, 1075, 1076] (by decide +kernel) (by decide +kernel)
set_option maxRecDepth 20000 in
theorem gL_law_X5_whatIs : GoodIn wsL_law (wsV RL 131 RX5 yX5_whatIs wsX5_whatIs) := goodIn_app (goodIn_of _ (by decide +kernel)) ggL_law_X5_whatIs
set_option maxRecDepth 20000 in
theorem ggL_law_X6_whatIs : GoodIn wsL_law wsX6_whatIs := goodIn_r _ [889, 80, 81, 325, 326, 327, 5, 328, 92, 296, 297, 298, 121, 122, 123, 124, 78, 890, 891, 892, 893, 894, 895, 896, 897, 898, 83, 91, 517, 518, 519, 520, 299, 300, 301, 302, 303, 304, 79, 82, 305, 306, 307, 308, 309, 88, 310, 311, 312, 313, 337, 338, 339, 340, 89, 341, 342, 343, 344, 345, 346, 347, 348, 349, 350, 351, 352, 353, 354, 355, 356, 357, 358, 359, 360, 361, 362, 363, 364, 365, 366, 367, 368, 369, 370, 371, 372, 373, 374, 375, 376, 377, 378, 379, 380, 381, 382, 383, 384, 385, 386, 387, 388, 389, 390, 391, 392, 393, 394, 395, 396, 397, 398, 399, 400, 521, 522, 523, 524, 1035, 1036, 1037, 1038, 1039, 1040, 1041, 1042, 1043, 1044, 1045, 1046, 1047, 1048, 1049, 1050, 1051, 1052, 1053, 1054, 1055, 1056, 1057, 1058, 1059] (by decide +kernel) (by decide +kernel)
set_option maxRecDepth 20000 in
theorem gL_law_X6_whatIs : GoodIn wsL_law (wsV RL 134 RX6 yX6_whatIs wsX6_whatIs) := goodIn_app (goodIn_of _ (by decide +kernel)) ggL_law_X6_whatIs
set_option maxRecDepth 20000 in
theorem ggL_law_X5_who : GoodIn wsL_law wsX5_who := goodIn_r _ [902, 21, 33, 903, 904, 905, 20, 906, 53, 558, 553, 506, 507, 508, 54, 509, 151, 152, 14, 153, 41, 154, 155, 156, 157, 42, 43, 44, 45, 47, 48, 630, 631, 632, 633, 604, 2, 605, 907, 908, 909, 910, 880, 881, 559, 250, 251, 252, 253, 254, 255, 256, 226, 227, 228, 229, 257, 258, 232, 259, 260, 261, 262, 560, 209, 210, 211, 46, 212, 213, 214, 215, 216, 217, 218, 219, 220, 134, 135, 136, 221, 222, 223, 224, 225, 230, 231, 233, 234, 235, 236, 237, 238, 239, 240, 241, 242, 243, 244, 245, 246, 247, 248, 1026, 1027, 1028, 1029, 1030, 1031, 1032, 1033, 1034, 1068, 1069, 1060, 1061, 1062, 1063, 1064, 1065, 1066, 1067, 1075, 1076] (by decide +kernel) (by decide +kernel)
set_option maxRecDepth 20000 in
theorem gL_law_X5_who : GoodIn wsL_law (wsV RL 135 RX5 yX5_who wsX5_who) := goodIn_app (goodIn_of _ (by decide +kernel)) ggL_law_X5_who
set_option maxRecDepth 20000 in
theorem ggL_law_X6_who : GoodIn wsL_law wsX6_who := goodIn_r _ [914, 92, 353, 915, 916, 917, 5, 918, 898, 91, 517, 518, 519, 520, 299, 300, 301, 302, 303, 304, 79, 80, 81, 82, 83, 305, 306, 307, 308, 309, 88, 310, 311, 312, 313, 494, 495, 496, 497, 349, 350, 351, 352, 354, 355, 356, 357, 358, 359, 360, 498, 499, 500, 337, 338, 339, 340, 89, 341, 342, 343, 344, 345, 346, 347, 348, 361, 362, 363, 364, 365, 366, 367, 368, 369, 370, 371, 372, 373, 374, 375, 376, 377, 378, 379, 380, 381, 382, 383, 384, 385, 386, 387, 388, 389, 390, 391, 392, 393, 394, 395, 396, 397, 398, 399, 400, 521, 522, 523, 524, 1035, 1036, 1037, 1038, 1039, 1040, 1041, 1042, 1043, 1044, 1045, 1046, 1047, 1048, 1049, 1050, 1051, 1052, 1053, 1054, 1055, 1056, 1057, 1058, 1059] (by decide +kernel) (by decide +kernel)
set_option maxRecDepth 20000 in
theorem gL_law_X6_who : GoodIn wsL_law (wsV RL 138 RX6 yX6_who wsX6_who) := goodIn_app (goodIn_of _ (by decide +kernel)) ggL_law_X6_who
set_option maxRecDepth 20000 in
theorem ggL_law_X5_row : GoodIn wsL_law wsX5_row := goodIn_r _ [922, 33, 97, 98, 2, 99, 923, 924, 925, 32, 926, 73, 104, 105, 106, 107, 35, 927, 928, 929, 930, 72, 931, 1026, 1027, 1028, 1029, 1030, 1031, 1032, 1033, 1034, 1075, 1076] (by decide +kernel) (by decide +kernel)
set_option maxRecDepth 20000 in
theorem gL_law_X5_row : GoodIn wsL_law (wsV RL 139 RX5 yX5_row wsX5_row) := goodIn_app (goodIn_of _ (by decide +kernel)) ggL_law_X5_row
set_option maxRecDepth 20000 in
theorem ggL_law_X6_row : GoodIn wsL_law wsX6_row := goodIn_r _ [935, 898, 91, 118, 119, 5, 120, 121, 122, 123, 124, 78, 1035, 1036, 1037, 1038, 1039, 1040, 1041, 1042, 1043, 1044, 1045, 1046, 1047, 1048, 1049, 1050, 1051, 1052, 1053, 1054, 1055, 1056, 1057, 1058, 1059] (by decide +kernel) (by decide +kernel)
set_option maxRecDepth 20000 in
theorem gL_law_X6_row : GoodIn wsL_law (wsV RL 142 RX6 yX6_row wsX6_row) := goodIn_app (goodIn_of _ (by decide +kernel)) ggL_law_X6_row
set_option maxRecDepth 20000 in
theorem ggL_law_X5_judge : GoodIn wsL_law wsX5_judge := goodIn_r _ [939, 21, 33, 940, 941, 942, 20, 943, 880, 881, 54, 553, 506, 507, 508, 53, 509, 151, 152, 14, 153, 41, 154, 155, 156, 157, 42, 43, 44, 45, 47, 48, 573, 213, 214, 215, 560, 209, 210, 211, 46, 212, 216, 217, 218, 219, 220, 134, 135, 136, 221, 222, 223, 224, 2, 225, 226, 227, 228, 229, 230, 231, 232, 233, 234, 235, 236, 237, 238, 239, 240, 241, 242, 243, 244, 245, 246, 247, 248, 944, 945, 946, 32, 947, 73, 1026, 1027, 1028, 1029, 1030, 1031, 1032, 1033, 1034, 1075, 1076, 1068, 1069, 1060, 1061, 1062, 1063, 1064, 1065, 1066, 1067] (by decide +kernel) (by decide +kernel)
set_option maxRecDepth 20000 in
theorem gL_law_X5_judge : GoodIn wsL_law (wsV RL 143 RX5 yX5_judge wsX5_judge) := goodIn_app (goodIn_of _ (by decide +kernel)) ggL_law_X5_judge
set_option maxRecDepth 20000 in
theorem ggL_law_X6_judge : GoodIn wsL_law wsX6_judge := goodIn_r _ [951, 898, 91, 517, 518, 519, 5, 520, 299, 300, 301, 302, 303, 304, 79, 80, 81, 82, 83, 92, 305, 306, 307, 308, 309, 88, 310, 311, 312, 313, 341, 342, 343, 344, 337, 338, 339, 340, 89, 345, 346, 347, 348, 349, 350, 351, 352, 353, 354, 355, 356, 357, 358, 359, 360, 361, 362, 363, 364, 365, 366, 367, 368, 369, 370, 371, 372, 373, 374, 375, 376, 377, 378, 379, 380, 381, 382, 383, 384, 385, 386, 387, 388, 389, 390, 391, 392, 393, 394, 395, 396, 397, 398, 399, 400, 521, 522, 523, 524, 1035, 1036, 1037, 1038, 1039, 1040, 1041, 1042, 1043, 1044, 1045, 1046, 1047, 1048, 1049, 1050, 1051, 1052, 1053, 1054, 1055, 1056, 1057, 1058, 1059] (by decide +kernel) (by decide +kernel)
set_option maxRecDepth 20000 in
theorem gL_law_X6_judge : GoodIn wsL_law (wsV RL 146 RX6 yX6_judge wsX6_judge) := goodIn_app (goodIn_of _ (by decide +kernel)) ggL_law_X6_judge
set_option maxRecDepth 20000 in
theorem ggL_law_X5_clear : GoodIn wsL_law wsX5_clear := goodIn_r _ [955, 33, 944, 945, 946, 32, 947, 73, 1026, 1027, 1028, 1029, 1030, 1031, 1032, 1033, 1034, 1075, 1076] (by decide +kernel) (by decide +kernel)
set_option maxRecDepth 20000 in
theorem gL_law_X5_clear : GoodIn wsL_law (wsV RL 147 RX5 yX5_clear wsX5_clear) := goodIn_app (goodIn_of _ (by decide +kernel)) ggL_law_X5_clear
set_option maxRecDepth 20000 in
theorem ggL_law_X6_clear : GoodIn wsL_law wsX6_clear := goodIn_r _ [959, 898, 1035, 1036, 1037, 1038, 1039, 1040, 1041, 1042, 1043, 1044, 1045, 1046, 1047, 1048, 1049, 1050, 1051, 1052, 1053, 1054, 1055, 1056, 1057, 1058, 1059] (by decide +kernel) (by decide +kernel)
set_option maxRecDepth 20000 in
theorem gL_law_X6_clear : GoodIn wsL_law (wsV RL 150 RX6 yX6_clear wsX6_clear) := goodIn_app (goodIn_of _ (by decide +kernel)) ggL_law_X6_clear
set_option maxRecDepth 20000 in
theorem ggL_law_X5_lots : GoodIn wsL_law wsX5_lots := goodIn_r _ [963, 21, 97, 98, 2, 99, 426, 427, 428, 429, 430, 431, 104, 105, 106, 107, 35, 964, 965, 966, 20, 967, 54, 558, 666, 603, 553, 506, 507, 508, 53, 509, 151, 152, 14, 153, 41, 154, 155, 156, 157, 42, 43, 44, 45, 47, 48, 968, 969, 970, 971, 972, 973, 974, 975, 976, 606, 205, 206, 207, 208, 209, 210, 211, 46, 212, 213, 214, 215, 216, 217, 218, 219, 220, 134, 135, 136, 221, 222, 223, 224, 225, 226, 227, 228, 229, 230, 231, 232, 233, 234, 235, 236, 237, 238, 239, 240, 241, 242, 243, 244, 245, 246, 247, 248, 249, 250, 251, 252, 253, 254, 255, 256, 257, 258, 259, 260, 261, 262, 977, 841, 842, 843, 1026, 1027, 1028, 1029, 1030, 1031, 1032, 1033, 1034, 1068, 1069, 1060, 1061, 1062, 1063, 1064, 1065, 1066, 1067] (by decide +kernel) (by decide +kernel)
set_option maxRecDepth 20000 in
theorem gL_law_X5_lots : GoodIn wsL_law (wsV RL 151 RX5 yX5_lots wsX5_lots) := goodIn_app (goodIn_of _ (by decide +kernel)) ggL_law_X5_lots
set_option maxRecDepth 20000 in
theorem ggL_law_X6_lots : GoodIn wsL_law wsX6_lots := goodIn_r _ [981, 982, 92, 82, 83, 118, 119, 5, 120, 296, 297, 298, 121, 122, 123, 124, 78, 517, 518, 519, 520, 299, 300, 301, 302, 303, 304, 79, 80, 81, 305, 306, 307, 308, 309, 88, 310, 311, 312, 313, 983, 984, 985, 986, 987, 988, 989, 333, 334, 335, 336, 337, 338, 339, 340, 89, 341, 342, 343, 344, 345, 346, 347, 348, 349, 350, 351, 352, 353, 354, 355, 356, 357, 358, 359, 360, 361, 362, 363, 364, 365, 366, 367, 368, 369, 370, 371, 372, 373, 374, 375, 376, 377, 378, 379, 380, 381, 382, 383, 384, 385, 386, 387, 388, 389, 390, 391, 392, 393, 394, 395, 396, 397, 398, 399, 400, 494, 495, 496, 497, 498, 499, 500, 990, 991, 992, 993, 521, 522, 523, 524, 1035, 1036, 1037, 1038, 1039, 1040, 1041, 1042, 1043, 1044, 1045, 1046, 1047, 1048, 1049, 1050, 1051, 1052, 1053, 1054, 1055, 1056, 1057, 1058, 1059] (by decide +kernel) (by decide +kernel)
set_option maxRecDepth 20000 in
theorem gL_law_X6_lots : GoodIn wsL_law (wsV RL 154 RX6 yX6_lots wsX6_lots) := goodIn_app (goodIn_of _ (by decide +kernel)) ggL_law_X6_lots
set_option maxRecDepth 20000 in
theorem ggL_law_X5_image : GoodIn wsL_law wsX5_image := goodIn_r _ [997, 16, 15, 36, 488, 998, 151, 152, 14, 153, 41, 154, 155, 156, 157, 42, 43, 44, 45, 47, 48, 1026, 1027, 1028, 1029, 1030, 1031, 1032, 1033, 1034, 1060, 1061, 1062, 1063, 1064, 1065, 1066, 1067] (by decide +kernel) (by decide +kernel)
set_option maxRecDepth 20000 in
theorem gL_law_X5_image : GoodIn wsL_law (wsV RL 155 RX5 yX5_image wsX5_image) := goodIn_app (goodIn_of _ (by decide +kernel)) ggL_law_X5_image
set_option maxRecDepth 20000 in
theorem ggL_law_X6_image : GoodIn wsL_law wsX6_image := goodIn_r _ [1002, 1003, 305, 299, 300, 301, 5, 302, 303, 304, 79, 80, 81, 82, 83, 92, 306, 307, 308, 309, 88, 310, 311, 312, 313, 1035, 1036, 1037, 1038, 1039, 1040, 1041, 1042, 1043, 1044, 1045, 1046, 1047, 1048, 1049, 1050, 1051, 1052, 1053, 1054, 1055, 1056, 1057, 1058, 1059] (by decide +kernel) (by decide +kernel)
set_option maxRecDepth 20000 in
theorem gL_law_X6_image : GoodIn wsL_law (wsV RL 158 RX6 yX6_image wsX6_image) := goodIn_app (goodIn_of _ (by decide +kernel)) ggL_law_X6_image
set_option maxRecDepth 20000 in
theorem ggL_law_X5_on : GoodIn wsL_law wsX5_on := goodIn_r _ [1007, 36, 15, 16, 488, 104, 105, 106, 2, 107, 35, 998, 151, 152, 14, 153, 41, 154, 155, 156, 157, 42, 43, 44, 45, 47, 48, 1026, 1027, 1028, 1029, 1030, 1031, 1032, 1033, 1034, 1060, 1061, 1062, 1063, 1064, 1065, 1066, 1067] (by decide +kernel) (by decide +kernel)
set_option maxRecDepth 20000 in
theorem gL_law_X5_on : GoodIn wsL_law (wsV RL 159 RX5 yX5_on wsX5_on) := goodIn_app (goodIn_of _ (by decide +kernel)) ggL_law_X5_on
set_option maxRecDepth 20000 in
theorem ggL_law_X6_on : GoodIn wsL_law wsX6_on := goodIn_r _ [1011, 1003, 305, 121, 122, 123, 5, 124, 78, 299, 300, 301, 302, 303, 304, 79, 80, 81, 82, 83, 92, 306, 307, 308, 309, 88, 310, 311, 312, 313, 1035, 1036, 1037, 1038, 1039, 1040, 1041, 1042, 1043, 1044, 1045, 1046, 1047, 1048, 1049, 1050, 1051, 1052, 1053, 1054, 1055, 1056, 1057, 1058, 1059] (by decide +kernel) (by decide +kernel)
set_option maxRecDepth 20000 in
theorem gL_law_X6_on : GoodIn wsL_law (wsV RL 162 RX6 yX6_on wsX6_on) := goodIn_app (goodIn_of _ (by decide +kernel)) ggL_law_X6_on
set_option maxRecDepth 20000 in
theorem ggL_law_X5_count : GoodIn wsL_law wsX5_count := goodIn_r _ [1015, 35, 15, 425, 488, 33, 1016, 29, 1017, 437, 254, 255, 14, 256, 47, 226, 227, 228, 229, 45, 840, 841, 842, 843, 1018, 1019, 1020, 1021, 41, 438, 213, 214, 215, 1026, 1027, 1028, 1029, 1030, 1031, 1032, 1033, 1034, 1060, 1061, 1062, 1063, 1064, 1065, 1066, 1067, 1075, 1076, 1071, 1072, 1073, 1074] (by decide +kernel) (by decide +kernel)
set_option maxRecDepth 20000 in
theorem gL_law_X5_count : GoodIn wsL_law (wsV RL 163 RX5 yX5_count wsX5_count) := goodIn_app (goodIn_of _ (by decide +kernel)) ggL_law_X5_count
set_option maxRecDepth 20000 in
theorem ggL_law_X6_count : GoodIn wsL_law wsX6_count := goodIn_r _ [1025, 78, 92, 305, 79, 898, 117, 296, 297, 5, 298, 494, 495, 496, 497, 349, 350, 351, 352, 353, 354, 355, 356, 357, 358, 359, 360, 83, 990, 991, 992, 993, 341, 342, 343, 344, 1035, 1036, 1037, 1038, 1039, 1040, 1041, 1042, 1043, 1044, 1045, 1046, 1047, 1048, 1049, 1050, 1051, 1052, 1053, 1054, 1055, 1056, 1057, 1058, 1059] (by decide +kernel) (by decide +kernel)
set_option maxRecDepth 20000 in
theorem gL_law_X6_count : GoodIn wsL_law (wsV RL 166 RX6 yX6_count wsX6_count) := goodIn_app (goodIn_of _ (by decide +kernel)) ggL_law_X6_count
