set_option maxRecDepth 20000 in
theorem ggL_law_X5_groups : GoodIn wsL_law wsX5_groups := goodIn_r _ [761, 25, 426, 427, 2, 428, 104, 105, 106, 107, 35, 762, 763, 764, 24, 765, 59, 718, 604, 605, 766, 746, 747, 748, 749, 433, 434, 14, 435, 47, 44, 224, 225, 767, 768, 769, 770, 771, 134, 135, 136, 772, 258, 232, 259, 260, 261, 262, 1026, 1027, 1028, 1029, 1030, 1031, 1032, 1033, 1034, 1070, 1060, 1061, 1062, 1063, 1064, 1065, 1066, 1067] (by decide +kernel) (by decide +kernel)
set_option maxRecDepth 20000 in
theorem gL_law_X5_groups : GoodIn wsL_law (wsV RL 109 RX5 yX5_groups wsX5_groups) := goodIn_app (goodIn_of _ (by decide +kernel)) ggL_law_X5_groups
set_option maxRecDepth 20000 in
theorem ggL_law_X6_groups : GoodIn wsL_law wsX6_groups := goodIn_r _ [776, 92, 296, 297, 5, 298, 121, 122, 123, 124, 78, 754, 755, 756, 757, 354, 355, 356, 383, 384, 385, 386, 82, 349, 350, 351, 352, 353, 361, 362, 363, 364, 365, 366, 498, 499, 500, 1035, 1036, 1037, 1038, 1039, 1040, 1041, 1042, 1043, 1044, 1045, 1046, 1047, 1048, 1049, 1050, 1051, 1052, 1053, 1054, 1055, 1056, 1057, 1058, 1059] (by decide +kernel) (by decide +kernel)
set_option maxRecDepth 20000 in
theorem gL_law_X6_groups : GoodIn wsL_law (wsV RL 112 RX6 yX6_groups wsX6_groups) := goodIn_app (goodIn_of _ (by decide +kernel)) ggL_law_X6_groups
set_option maxRecDepth 20000 in
theorem ggL_law_X5_middle : GoodIn wsL_law wsX5_middle := goodIn_r _ [780, 25, 426, 427, 2, 428, 104, 105, 106, 107, 35, 781, 782, 783, 24, 784, 785, 786, 787, 788, 59, 718, 719, 224, 225, 789, 1026, 1027, 1028, 1029, 1030, 1031, 1032, 1033, 1034, 1070, 1060, 1061, 1062, 1063, 1064, 1065, 1066, 1067] (by decide +kernel) (by decide +kernel)
set_option maxRecDepth 20000 in
theorem gL_law_X5_middle : GoodIn wsL_law (wsV RL 113 RX5 yX5_middle wsX5_middle) := goodIn_app (goodIn_of _ (by decide +kernel)) ggL_law_X5_middle
set_option maxRecDepth 20000 in
theorem ggL_law_X6_middle : GoodIn wsL_law wsX6_middle := goodIn_r _ [793, 296, 297, 5, 298, 121, 122, 123, 124, 78, 794, 795, 796, 797, 92, 82, 361, 362, 363, 364, 365, 366, 1035, 1036, 1037, 1038, 1039, 1040, 1041, 1042, 1043, 1044, 1045, 1046, 1047, 1048, 1049, 1050, 1051, 1052, 1053, 1054, 1055, 1056, 1057, 1058, 1059] (by decide +kernel) (by decide +kernel)
set_option maxRecDepth 20000 in
theorem gL_law_X6_middle : GoodIn wsL_law (wsV RL 116 RX6 yX6_middle wsX6_middle) := goodIn_app (goodIn_of _ (by decide +kernel)) ggL_law_X6_middle
set_option maxRecDepth 20000 in
theorem ggL_law_X5_wind : GoodIn wsL_law wsX5_wind := goodIn_r _ [801, 802, 21, 426, 427, 2, 428, 104, 105, 106, 107, 35, 803, 804, 805, 20, 806, 807, 808, 809, 810, 54, 553, 506, 507, 508, 53, 509, 151, 152, 14, 153, 41, 154, 155, 156, 157, 42, 43, 44, 45, 47, 48, 604, 605, 560, 209, 210, 211, 46, 212, 213, 214, 215, 216, 217, 218, 219, 220, 134, 135, 136, 221, 222, 223, 224, 225, 226, 227, 228, 229, 230, 231, 232, 233, 234, 235, 236, 237, 238, 239, 240, 241, 242, 243, 244, 245, 246, 247, 248, 554, 555, 556, 557, 558, 559, 250, 251, 252, 253, 254, 255, 256, 257, 258, 259, 260, 261, 262, 598, 811, 812, 813, 814, 815, 816, 817, 818, 819, 820, 1026, 1027, 1028, 1029, 1030, 1031, 1032, 1033, 1034, 1068, 1069, 1060, 1061, 1062, 1063, 1064, 1065, 1066, 1067] (by decide +kernel) (by decide +kernel)
set_option maxRecDepth 20000 in
theorem gL_law_X5_wind : GoodIn wsL_law (wsV RL 117 RX5 yX5_wind wsX5_wind) := goodIn_app (goodIn_of _ (by decide +kernel)) ggL_law_X5_wind
set_option maxRecDepth 20000 in
theorem ggL_law_X6_wind : GoodIn wsL_law wsX6_wind := goodIn_r _ [824, 296, 297, 5, 298, 825, 826, 827, 828, 78, 829, 517, 518, 519, 520, 299, 300, 301, 302, 303, 304, 79, 80, 81, 82, 83, 92, 305, 306, 307, 308, 309, 88, 310, 311, 312, 313, 354, 355, 356, 337, 338, 339, 340, 89, 341, 342, 343, 344, 345, 346, 347, 348, 349, 350, 351, 352, 353, 357, 358, 359, 360, 361, 362, 363, 364, 365, 366, 367, 368, 369, 370, 371, 372, 373, 374, 375, 376, 377, 378, 379, 380, 381, 382, 383, 384, 385, 386, 387, 388, 389, 390, 391, 392, 393, 394, 395, 396, 397, 398, 399, 400, 494, 495, 496, 497, 582, 583, 584, 585, 521, 522, 523, 524, 830, 831, 832, 833, 834, 835, 1035, 1036, 1037, 1038, 1039, 1040, 1041, 1042, 1043, 1044, 1045, 1046, 1047, 1048, 1049, 1050, 1051, 1052, 1053, 1054, 1055, 1056, 1057, 1058, 1059] (by decide +kernel) (by decide +kernel)
set_option maxRecDepth 20000 in
theorem gL_law_X6_wind : GoodIn wsL_law (wsV RL 121 RX6 yX6_wind wsX6_wind) := goodIn_app (goodIn_of _ (by decide +kernel)) ggL_law_X6_wind
set_option maxRecDepth 20000 in
theorem ggL_law_X5_mean : GoodIn wsL_law wsX5_mean := goodIn_r _ [839, 802, 15, 425, 426, 427, 2, 428, 104, 105, 106, 107, 35, 840, 841, 842, 14, 843, 47, 45, 815, 816, 817, 818, 819, 820, 1026, 1027, 1028, 1029, 1030, 1031, 1032, 1033, 1034, 1060, 1061, 1062, 1063, 1064, 1065, 1066, 1067] (by decide +kernel) (by decide +kernel)
set_option maxRecDepth 20000 in
theorem gL_law_X5_mean : GoodIn wsL_law (wsV RL 122 RX5 yX5_mean wsX5_mean) := goodIn_app (goodIn_of _ (by decide +kernel)) ggL_law_X5_mean
set_option maxRecDepth 20000 in
theorem ggL_law_X6_mean : GoodIn wsL_law wsX6_mean := goodIn_r _ [847, 92, 83, 296, 297, 5, 298, 825, 826, 827, 828, 78, 829, 830, 831, 832, 833, 834, 835, 1035, 1036, 1037, 1038, 1039, 1040, 1041, 1042, 1043, 1044, 1045, 1046, 1047, 1048, 1049, 1050, 1051, 1052, 1053, 1054, 1055, 1056, 1057, 1058, 1059] (by decide +kernel) (by decide +kernel)
set_option maxRecDepth 20000 in
theorem gL_law_X6_mean : GoodIn wsL_law (wsV RL 126 RX6 yX6_mean wsX6_mean) := goodIn_app (goodIn_of _ (by decide +kernel)) ggL_law_X6_mean
set_option maxRecDepth 20000 in
theorem ggL_law_X5_two : GoodIn wsL_law wsX5_two := goodIn_r _ [851, 21, 421, 422, 423, 2, 424, 15, 425, 429, 430, 431, 97, 98, 99, 104, 105, 106, 107, 35, 852, 853, 854, 20, 855, 856, 857, 858, 859, 54, 603, 553, 506, 507, 508, 53, 509, 151, 152, 14, 153, 41, 154, 155, 156, 157, 42, 43, 44, 45, 47, 48, 606, 205, 206, 207, 208, 209, 210, 211, 46, 212, 213, 214, 215, 216, 217, 218, 219, 220, 134, 135, 136, 221, 222, 223, 224, 225, 226, 227, 228, 229, 230, 231, 232, 233, 234, 235, 236, 237, 238, 239, 240, 241, 242, 243, 244, 245, 246, 247, 248, 249, 250, 251, 252, 253, 254, 255, 256, 257, 258, 259, 260, 261, 262, 1026, 1027, 1028, 1029, 1030, 1031, 1032, 1033, 1034, 1060, 1061, 1062, 1063, 1064, 1065, 1066, 1067, 1068, 1069] (by decide +kernel) (by decide +kernel)
set_option maxRecDepth 20000 in
theorem gL_law_X5_two : GoodIn wsL_law (wsV RL 127 RX5 yX5_two wsX5_two) := goodIn_app (goodIn_of _ (by decide +kernel)) ggL_law_X5_two
set_option maxRecDepth 20000 in
theorem ggL_law_X6_two : GoodIn wsL_law wsX6_two := goodIn_r _ [863, 90, 325, 326, 327, 5, 328, 92, 514, 515, 516, 118, 119, 120, 121, 122, 123, 124, 78, 864, 865, 866, 867, 83, 299, 300, 301, 302, 303, 304, 79, 80, 81, 82, 305, 306, 307, 308, 309, 88, 310, 311, 312, 313, 533, 534, 535, 536, 517, 518, 519, 520, 333, 334, 335, 336, 337, 338, 339, 340, 89, 341, 342, 343, 344, 345, 346, 347, 348, 349, 350, 351, 352, 353, 354, 355, 356, 357, 358, 359, 360, 361, 362, 363, 364, 365, 366, 367, 368, 369, 370, 371, 372, 373, 374, 375, 376, 377, 378, 379, 380, 381, 382, 383, 384, 385, 386, 387, 388, 389, 390, 391, 392, 393, 394, 395, 396, 397, 398, 399, 400, 494, 495, 496, 497, 521, 522, 523, 524, 498, 499, 500, 1035, 1036, 1037, 1038, 1039, 1040, 1041, 1042, 1043, 1044, 1045, 1046, 1047, 1048, 1049, 1050, 1051, 1052, 1053, 1054, 1055, 1056, 1057, 1058, 1059] (by decide +kernel) (by decide +kernel)
set_option maxRecDepth 20000 in
theorem gL_law_X6_two : GoodIn wsL_law (wsV RL 130 RX6 yX6_two wsX6_two) := goodIn_app (goodIn_of _ (by decide +kernel)) ggL_law_X6_two
set_option maxRecDepth 20000 in
theorem ggL_law_X5_whatIs : GoodIn wsL_law wsX5_whatIs := goodIn_r _ [871, 21, 33, 421, 422, 423, 2, 424, 15, 425, 426, 427, 428, 429, 430, 431, 104, 105, 106, 107, 35, 872, 873, 874, 20, 875, 684, 553, 506, 507, 508, 54, 53, 509, 151, 152, 14, 153, 41, 154, 155, 156, 157, 42, 43, 44, 45, 47, 48, 876, 877, 878, 879, 880, 881, 603, 560, 209, 210, 211, 46, 212, 213, 214, 215, 216, 217, 218, 219, 220, 134, 135, 136, 221, 222, 223, 224, 225, 226, 227, 228, 229, 230, 231, 232, 233, 234, 235, 236, 237, 238, 239, 240, 241, 242, 243, 244, 245, 246, 247, 248, 882, 883, 884, 885, 736, 1026, 1027, 1028, 1029, 1030, 1031, 1032, 1033, 1034, 1060, 1061, 1062, 1063, 1064, 1065, 1066, 1067, 1068, 1069, 1075, 1076] (by decide +kernel) (by decide +kernel)
set_option maxRecDepth 20000 in
theorem gL_law_X5_whatIs : GoodIn wsL_law (wsV RL 131 RX5 yX5_whatIs wsX5_whatIs) := goodIn_app (goodIn_of _ (by decide +kernel)) ggL_law_X5_whatIs
set_option maxRecDepth 20000 in
theorem ggL_law_X6_whatIs : GoodIn wsL_law wsX6_whatIs := goodIn_r _ [889, 80, 81, 325, 326, 327, 5, 328, 92, 296, 297, 298, 121, 122, 123, 124, 78, 890, 891, 892, 893, 894, 895, 896, 897, 898, 83, 91, 517, 518, 519, 520, 299, 300, 301, 302, 303, 304, 79, 82, 305, 306, 307, 308, 309, 88, 310, 311, 312, 313, 337, 338, 339, 340, 89, 341, 342, 343, 344, 345, 346, 347, 348, 349, 350, 351, 352, 353, 354, 355, 356, 357, 358, 359, 360, 361, 362, 363, 364, 365, 366, 367, 368, 369, 370, 371, 372, 373, 374, 375, 376, 377, 378, 379, 380, 381, 382, 383, 384, 385, 386, 387, 388, 389, 390, 391, 392, 393, 394, 395, 396, 397, 398, 399, 400, 521, 522, 523, 524, 1035, 1036, 1037, 1038, 1039, 1040, 1041, 1042, 1043, 1044, 1045, 1046, 1047, 1048, 1049, 1050, 1051, 1052, 1053, 1054, 1055, 1056, 1057, 1058, 1059] (by decide +kernel) (by decide +kernel)
set_option maxRecDepth 20000 in
theorem gL_law_X6_whatIs : GoodIn wsL_law (wsV RL 134 RX6 yX6_whatIs wsX6_whatIs) := goodIn_app (goodIn_of _ (by decide +kernel)) ggL_law_X6_whatIs
set_option maxRecDepth 20000 in
theorem ggL_law_X5_who : GoodIn wsL_law wsX5_who := goodIn_r _ [902, 21, 33, 903, 904, 905, 20, 906, 53, 558, 553, 506, 507, 508, 54, 509, 151, 152, 14, 153, 41, 154, 155, 156, 157, 42, 43, 44, 45, 47, 48, 630, 631, 632, 633, 604, 2, 605, 907, 908, 909, 910, 880, 881, 559, 250, 251, 252, 253, 254, 255, 256, 226, 227, 228, 229, 257, 258, 232, 259, 260, 261, 262, 560, 209, 210, 211, 46, 212, 213, 214, 215, 216, 217, 218, 219, 220, 134, 135, 136, 221, 222, 223, 224, 225, 230, 231, 233, 234, 235, 236, 237, 238, 239, 240, 241, 242, 243, 244, 245, 246, 247, 248, 1026, 1027, 1028, 1029, 1030, 1031, 1032, 1033, 1034, 1068, 1069, 1060, 1061, 1062, 1063, 1064, 1065, 1066, 1067, 1075, 1076] (by decide +kernel) (by decide +kernel)
set_option maxRecDepth 20000 in
theorem gL_law_X5_who : GoodIn wsL_law (wsV RL 135 RX5 yX5_who wsX5_who) := goodIn_app (goodIn_of _ (by decide +kernel)) ggL_law_X5_who
set_option maxRecDepth 20000 in
theorem ggL_law_X6_who : GoodIn wsL_law wsX6_who := goodIn_r _ [914, 92, 353, 915, 916, 917, 5, 918, 898, 91, 517, 518, 519, 520, 299, 300, 301, 302, 303, 304, 79, 80, 81, 82, 83, 305, 306, 307, 308, 309, 88, 310, 311, 312, 313, 494, 495, 496, 497, 349, 350, 351, 352, 354, 355, 356, 357, 358, 359, 360, 498, 499, 500, 337, 338, 339, 340, 89, 341, 342, 343, 344, 345, 346, 347, 348, 361, 362, 363, 364, 365, 366, 367, 368, 369, 370, 371, 372, 373, 374, 375, 376, 377, 378, 379, 380, 381, 382, 383, 384, 385, 386, 387, 388, 389, 390, 391, 392, 393, 394, 395, 396, 397, 398, 399, 400, 521, 522, 523, 524, 1035, 1036, 1037, 1038, 1039, 1040, 1041, 1042, 1043, 1044, 1045, 1046, 1047, 1048, 1049, 1050, 1051, 1052, 1053, 1054, 1055, 1056, 1057, 1058, 1059] (by decide +kernel) (by decide +kernel)
set_option maxRecDepth 20000 in
theorem gL_law_X6_who : GoodIn wsL_law (wsV RL 138 RX6 yX6_who wsX6_who) := goodIn_app (goodIn_of _ (by decide +kernel)) ggL_law_X6_who
set_option maxRecDepth 20000 in
theorem ggL_law_X5_row : GoodIn wsL_law wsX5_row := goodIn_r _ [922, 33, 97, 98, 2, 99, 923, 924, 925, 32, 926, 73, 104, 105, 106, 107, 35, 927, 928, 929, 930, 72, 931, 1026, 1027, 1028, 1029, 1030, 1031, 1032, 1033, 1034, 1075, 1076] (by decide +kernel) (by decide +kernel)
set_option maxRecDepth 20000 in
theorem gL_law_X5_row : GoodIn wsL_law (wsV RL 139 RX5 yX5_row wsX5_row) := goodIn_app (goodIn_of _ (by decide +kernel)) ggL_law_X5_row
set_option maxRecDepth 20000 in
theorem ggL_law_X6_row : GoodIn wsL_law wsX6_row := goodIn_r _ [935, 898, 91, 118, 119, 5, 120, 121, 122, 123, 124, 78, 1035, 1036, 1037, 1038, 1039, 1040, 1041, 1042, 1043, 1044, 1045, 1046, 1047, 1048, 1049, 1050, 1051, 1052, 1053, 1054, 1055, 1056, 1057, 1058, 1059] (by decide +kernel) (by decide +kernel)
set_option maxRecDepth 20000 in
theorem gL_law_X6_row : GoodIn wsL_law (wsV RL 142 RX6 yX6_row wsX6_row) := goodIn_app (goodIn_of _ (by decide +kernel)) ggL_law_X6_row
