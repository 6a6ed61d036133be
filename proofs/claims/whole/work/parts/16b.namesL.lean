set_option maxRecDepth 20000 in
theorem ggL_law_X4_init : GoodIn wsL_law wsX4_init := goodIn_r _ [8, 9, 10, 11, 12, 13, 14, 15, 16, 17, 18, 19, 20, 21, 22, 23, 24, 25, 26, 27, 28, 29, 30, 31, 32, 33, 34, 35, 36, 37, 38, 39, 40, 41, 42, 43, 44, 45, 46, 47, 48, 49, 50, 51, 52, 53, 54, 55, 56, 57, 1067, 1068, 1069, 1070, 1071, 1072, 1073, 1074, 1075, 1076, 1077, 1078, 1032, 1033, 1034, 1035, 1036, 1037, 1038, 1039, 1079, 1080, 1081, 1082, 1083] (by decide +kernel) (by decide +kernel)
set_option maxRecDepth 20000 in
theorem gL_law_X4_init : GoodIn wsL_law (wsX4_init) := ggL_law_X4_init
set_option maxRecDepth 20000 in
theorem ggL_law_X5_init : GoodIn wsL_law wsX5_init := goodIn_r _ [60, 61, 10, 11, 30, 62, 63, 64, 65, 66, 67, 68, 69, 70, 71, 72, 73, 74, 75, 76, 77, 78, 1040, 1041, 1042, 1043, 1044, 1045, 1046, 1047, 1048, 1049, 1050, 1051, 1052, 1053, 1054, 1055, 1056, 1057, 1058, 1059, 1060, 1061, 1062, 1063, 1064, 1065, 1066] (by decide +kernel) (by decide +kernel)
set_option maxRecDepth 20000 in
theorem gL_law_X5_init : GoodIn wsL_law (wsX5_init) := ggL_law_X5_init
set_option maxRecDepth 20000 in
theorem ggL_law_X4_letter : GoodIn wsL_law wsX4_letter := goodIn_r _ [82, 21, 83, 84, 85, 2, 86, 31, 87, 88, 89, 20, 90, 48, 91, 92, 93, 94, 47, 1032, 1033, 1034, 1035, 1036, 1037, 1038, 1039, 1079, 1080] (by decide +kernel) (by decide +kernel)
set_option maxRecDepth 20000 in
theorem gL_law_X4_letter : GoodIn wsL_law (wsV RL 13 RX4 yX4_letter wsX4_letter) := goodIn_app (goodIn_of _ (by decide +kernel)) ggL_law_X4_letter
set_option maxRecDepth 20000 in
theorem ggL_law_X5_letter : GoodIn wsL_law wsX5_letter := goodIn_r _ [98, 99, 70, 100, 101, 5, 102, 103, 104, 105, 106, 62, 1040, 1041, 1042, 1043, 1044, 1045, 1046, 1047, 1048, 1049, 1050, 1051, 1052, 1053, 1054, 1055, 1056, 1057, 1058, 1059, 1060, 1061, 1062, 1063, 1064, 1065, 1066] (by decide +kernel) (by decide +kernel)
set_option maxRecDepth 20000 in
theorem gL_law_X5_letter : GoodIn wsL_law (wsV RL 17 RX5 yX5_letter wsX5_letter) := goodIn_app (goodIn_of _ (by decide +kernel)) ggL_law_X5_letter
set_option maxRecDepth 20000 in
theorem ggL_law_X4_harbour : GoodIn wsL_law wsX4_harbour := goodIn_r _ [110, 16, 15, 21, 111, 112, 113, 14, 114, 115, 116, 117, 118, 36, 37, 38, 39, 40, 41, 42, 119, 120, 121, 20, 122, 48, 47, 123, 124, 125, 126, 127, 128, 129, 130, 131, 132, 133, 134, 135, 136, 137, 138, 139, 140, 141, 142, 143, 144, 145, 146, 147, 148, 149, 150, 151, 152, 153, 154, 155, 156, 157, 158, 159, 160, 161, 162, 163, 164, 165, 166, 167, 168, 169, 170, 171, 172, 173, 174, 175, 176, 177, 178, 179, 180, 181, 182, 183, 184, 185, 186, 187, 188, 189, 190, 191, 192, 193, 194, 195, 196, 197, 198, 199, 200, 201, 202, 203, 204, 205, 206, 207, 208, 209, 210, 211, 212, 213, 214, 215, 216, 217, 218, 219, 220, 221, 222, 223, 224, 225, 226, 227, 228, 229, 230, 231, 232, 233, 234, 235, 236, 237, 238, 239, 240, 241, 242, 243, 244, 245, 246, 247, 248, 249, 250, 251, 252, 253, 254, 255, 256, 257, 258, 259, 260, 261, 262, 263, 264, 265, 266, 267, 268, 269, 270, 271, 272, 273, 274, 275, 276, 277, 278, 279, 280, 281, 282, 283, 284, 285, 286, 287, 288, 289, 290, 291, 292, 293, 294, 295, 296, 297, 298, 299, 300, 301, 302, 303, 304, 305, 306, 307, 308, 309, 310, 311, 312, 313, 314, 315, 316, 317, 318, 319, 320, 321, 322, 323, 324, 325, 326, 327, 328, 329, 330, 331, 332, 333, 334, 335, 336, 337, 338, 339, 340, 341, 342, 343, 344, 345, 346, 347, 348, 349, 1032, 1033, 1034, 1035, 1036, 1037, 1038, 1039, 1067, 1068, 1069, 1070, 1071, 1072, 1073, 1074, 1075, 1076, 1077, 1078, 1079, 1080] (by decide +kernel) (by decide +kernel)
set_option maxRecDepth 20000 in
theorem gL_law_X4_harbour : GoodIn wsL_law (wsV RL 18 RX4 yX4_harbour wsX4_harbour) := goodIn_app (goodIn_of _ (by decide +kernel)) ggL_law_X4_harbour
set_option maxRecDepth 20000 in
theorem ggL_law_X5_harbour : GoodIn wsL_law wsX5_harbour := goodIn_r _ [353, 354, 355, 99, 72, 356, 357, 358, 5, 359, 71, 360, 361, 362, 363, 70, 364, 365, 366, 367, 368, 369, 370, 371, 73, 372, 373, 374, 375, 376, 377, 378, 379, 380, 381, 382, 383, 384, 385, 386, 387, 63, 64, 65, 66, 67, 68, 69, 78, 388, 389, 390, 391, 392, 393, 394, 74, 395, 396, 397, 398, 399, 400, 401, 402, 403, 404, 405, 406, 407, 408, 409, 410, 411, 412, 413, 414, 415, 416, 417, 418, 419, 420, 421, 422, 423, 424, 425, 426, 427, 428, 429, 430, 431, 432, 433, 434, 435, 436, 437, 438, 439, 440, 441, 442, 443, 444, 445, 446, 447, 448, 449, 450, 451, 452, 453, 454, 455, 456, 457, 458, 459, 460, 461, 462, 463, 464, 465, 1040, 1041, 1042, 1043, 1044, 1045, 1046, 1047, 1048, 1049, 1050, 1051, 1052, 1053, 1054, 1055, 1056, 1057, 1058, 1059, 1060, 1061, 1062, 1063, 1064, 1065, 1066] (by decide +kernel) (by decide +kernel)
set_option maxRecDepth 20000 in
theorem gL_law_X5_harbour : GoodIn wsL_law (wsV RL 22 RX5 yX5_harbour wsX5_harbour) := goodIn_app (goodIn_of _ (by decide +kernel)) ggL_law_X5_harbour
set_option maxRecDepth 20000 in
theorem ggL_law_X4_ship : GoodIn wsL_law wsX4_ship := goodIn_r _ [469, 15, 470, 471, 472, 473, 271, 272, 14, 273, 115, 83, 84, 85, 2, 86, 31, 474, 314, 315, 316, 36, 117, 297, 298, 299, 300, 118, 475, 476, 477, 478, 37, 296, 195, 196, 197, 282, 283, 284, 285, 38, 313, 479, 480, 481, 482, 116, 42, 41, 292, 293, 294, 295, 40, 39, 483, 484, 485, 486, 1032, 1033, 1034, 1035, 1036, 1037, 1038, 1039, 1067, 1068, 1069, 1070, 1071, 1072, 1073, 1074, 1075, 1076, 1077, 1078] (by decide +kernel) (by decide +kernel)
set_option maxRecDepth 20000 in
theorem gL_law_X4_ship : GoodIn wsL_law (wsV RL 23 RX4 yX4_ship wsX4_ship) := goodIn_app (goodIn_of _ (by decide +kernel)) ggL_law_X4_ship
set_option maxRecDepth 20000 in
theorem ggL_law_X5_ship : GoodIn wsL_law wsX5_ship := goodIn_r _ [490, 63, 64, 65, 411, 412, 413, 5, 414, 78, 103, 104, 105, 106, 62, 446, 447, 448, 449, 390, 389, 491, 492, 493, 494, 495, 496, 497, 498, 499, 500, 501, 502, 388, 69, 68, 434, 435, 436, 437, 67, 66, 503, 504, 505, 506, 1040, 1041, 1042, 1043, 1044, 1045, 1046, 1047, 1048, 1049, 1050, 1051, 1052, 1053, 1054, 1055, 1056, 1057, 1058, 1059, 1060, 1061, 1062, 1063, 1064, 1065, 1066] (by decide +kernel) (by decide +kernel)
set_option maxRecDepth 20000 in
theorem gL_law_X5_ship : GoodIn wsL_law (wsV RL 27 RX5 yX5_ship wsX5_ship) := goodIn_app (goodIn_of _ (by decide +kernel)) ggL_law_X5_ship
set_option maxRecDepth 20000 in
theorem ggL_law_X4_man : GoodIn wsL_law wsX4_man := goodIn_r _ [510, 15, 511, 512, 513, 514, 515, 279, 280, 14, 281, 116, 83, 84, 85, 2, 86, 31, 516, 293, 294, 295, 40, 39, 296, 195, 196, 197, 297, 298, 299, 300, 118, 517, 302, 303, 304, 292, 518, 275, 276, 277, 41, 42, 278, 282, 283, 284, 285, 38, 1032, 1033, 1034, 1035, 1036, 1037, 1038, 1039, 1067, 1068, 1069, 1070, 1071, 1072, 1073, 1074, 1075, 1076, 1077, 1078] (by decide +kernel) (by decide +kernel)
set_option maxRecDepth 20000 in
theorem gL_law_X4_man : GoodIn wsL_law (wsV RL 28 RX4 yX4_man wsX4_man) := goodIn_app (goodIn_of _ (by decide +kernel)) ggL_law_X4_man
set_option maxRecDepth 20000 in
theorem ggL_law_X5_man : GoodIn wsL_law wsX5_man := goodIn_r _ [522, 66, 67, 68, 69, 419, 420, 421, 5, 422, 388, 103, 104, 105, 106, 62, 430, 431, 432, 433, 390, 434, 435, 436, 437, 438, 439, 440, 441, 415, 416, 417, 418, 65, 1040, 1041, 1042, 1043, 1044, 1045, 1046, 1047, 1048, 1049, 1050, 1051, 1052, 1053, 1054, 1055, 1056, 1057, 1058, 1059, 1060, 1061, 1062, 1063, 1064, 1065, 1066] (by decide +kernel) (by decide +kernel)
set_option maxRecDepth 20000 in
theorem gL_law_X5_man : GoodIn wsL_law (wsV RL 31 RX5 yX5_man wsX5_man) := goodIn_app (goodIn_of _ (by decide +kernel)) ggL_law_X5_man
set_option maxRecDepth 20000 in
theorem ggL_law_X4_tells : GoodIn wsL_law wsX4_tells := goodIn_r _ [526, 15, 515, 279, 280, 14, 281, 116, 83, 84, 85, 2, 86, 31, 518, 275, 276, 277, 41, 42, 278, 282, 283, 284, 285, 38, 527, 287, 288, 289, 117, 290, 199, 196, 200, 115, 291, 292, 293, 294, 295, 40, 39, 296, 195, 197, 297, 298, 299, 300, 118, 301, 302, 303, 304, 305, 306, 307, 308, 37, 309, 310, 311, 312, 313, 314, 315, 316, 36, 1032, 1033, 1034, 1035, 1036, 1037, 1038, 1039, 1067, 1068, 1069, 1070, 1071, 1072, 1073, 1074, 1075, 1076, 1077, 1078] (by decide +kernel) (by decide +kernel)
set_option maxRecDepth 20000 in
theorem gL_law_X4_tells : GoodIn wsL_law (wsV RL 32 RX4 yX4_tells wsX4_tells) := goodIn_app (goodIn_of _ (by decide +kernel)) ggL_law_X4_tells
set_option maxRecDepth 20000 in
theorem ggL_law_X5_tells : GoodIn wsL_law wsX5_tells := goodIn_r _ [531, 419, 420, 421, 5, 422, 388, 415, 416, 417, 418, 68, 65, 69, 103, 104, 105, 106, 62, 423, 424, 425, 426, 389, 78, 64, 427, 428, 429, 430, 431, 432, 433, 390, 434, 435, 436, 437, 67, 66, 438, 439, 440, 441, 442, 443, 444, 445, 446, 447, 448, 449, 63, 1040, 1041, 1042, 1043, 1044, 1045, 1046, 1047, 1048, 1049, 1050, 1051, 1052, 1053, 1054, 1055, 1056, 1057, 1058, 1059, 1060, 1061, 1062, 1063, 1064, 1065, 1066] (by decide +kernel) (by decide +kernel)
set_option maxRecDepth 20000 in
theorem gL_law_X5_tells : GoodIn wsL_law (wsV RL 35 RX5 yX5_tells wsX5_tells) := goodIn_app (goodIn_of _ (by decide +kernel)) ggL_law_X5_tells
set_option maxRecDepth 20000 in
theorem ggL_law_X4_boards : GoodIn wsL_law wsX4_boards := goodIn_r _ [535, 15, 514, 515, 279, 280, 14, 281, 116, 473, 271, 272, 273, 115, 83, 84, 85, 2, 86, 31, 1032, 1033, 1034, 1035, 1036, 1037, 1038, 1039, 1067, 1068, 1069, 1070, 1071, 1072, 1073, 1074, 1075, 1076, 1077, 1078] (by decide +kernel) (by decide +kernel)
set_option maxRecDepth 20000 in
theorem gL_law_X4_boards : GoodIn wsL_law (wsV RL 36 RX4 yX4_boards wsX4_boards) := goodIn_app (goodIn_of _ (by decide +kernel)) ggL_law_X4_boards
set_option maxRecDepth 20000 in
theorem ggL_law_X5_boards : GoodIn wsL_law wsX5_boards := goodIn_r _ [539, 69, 419, 420, 421, 5, 422, 388, 411, 412, 413, 414, 78, 103, 104, 105, 106, 62, 1040, 1041, 1042, 1043, 1044, 1045, 1046, 1047, 1048, 1049, 1050, 1051, 1052, 1053, 1054, 1055, 1056, 1057, 1058, 1059, 1060, 1061, 1062, 1063, 1064, 1065, 1066] (by decide +kernel) (by decide +kernel)
set_option maxRecDepth 20000 in
theorem gL_law_X5_boards : GoodIn wsL_law (wsV RL 39 RX5 yX5_boards wsX5_boards) := goodIn_app (goodIn_of _ (by decide +kernel)) ggL_law_X5_boards
set_option maxRecDepth 20000 in
theorem ggL_law_X4_sins : GoodIn wsL_law wsX4_sins := goodIn_r _ [543, 15, 513, 515, 279, 280, 14, 281, 116, 83, 84, 85, 2, 86, 31, 1032, 1033, 1034, 1035, 1036, 1037, 1038, 1039, 1067, 1068, 1069, 1070, 1071, 1072, 1073, 1074, 1075, 1076, 1077, 1078] (by decide +kernel) (by decide +kernel)
set_option maxRecDepth 20000 in
theorem gL_law_X4_sins : GoodIn wsL_law (wsV RL 40 RX4 yX4_sins wsX4_sins) := goodIn_app (goodIn_of _ (by decide +kernel)) ggL_law_X4_sins
set_option maxRecDepth 20000 in
theorem ggL_law_X5_sins : GoodIn wsL_law wsX5_sins := goodIn_r _ [547, 68, 419, 420, 421, 5, 422, 388, 100, 101, 102, 103, 104, 105, 106, 62, 1040, 1041, 1042, 1043, 1044, 1045, 1046, 1047, 1048, 1049, 1050, 1051, 1052, 1053, 1054, 1055, 1056, 1057, 1058, 1059, 1060, 1061, 1062, 1063, 1064, 1065, 1066] (by decide +kernel) (by decide +kernel)
set_option maxRecDepth 20000 in
theorem gL_law_X5_sins : GoodIn wsL_law (wsV RL 43 RX5 yX5_sins wsX5_sins) := goodIn_app (goodIn_of _ (by decide +kernel)) ggL_law_X5_sins
set_option maxRecDepth 20000 in
theorem ggL_law_X4_loads : GoodIn wsL_law wsX4_loads := goodIn_r _ [551, 15, 470, 473, 271, 272, 14, 273, 115, 83, 84, 85, 2, 86, 31, 1032, 1033, 1034, 1035, 1036, 1037, 1038, 1039, 1067, 1068, 1069, 1070, 1071, 1072, 1073, 1074, 1075, 1076, 1077, 1078] (by decide +kernel) (by decide +kernel)
set_option maxRecDepth 20000 in
theorem gL_law_X4_loads : GoodIn wsL_law (wsV RL 44 RX4 yX4_loads wsX4_loads) := goodIn_app (goodIn_of _ (by decide +kernel)) ggL_law_X4_loads
set_option maxRecDepth 20000 in
theorem ggL_law_X5_loads : GoodIn wsL_law wsX5_loads := goodIn_r _ [555, 63, 411, 412, 413, 5, 414, 78, 100, 101, 102, 103, 104, 105, 106, 62, 1040, 1041, 1042, 1043, 1044, 1045, 1046, 1047, 1048, 1049, 1050, 1051, 1052, 1053, 1054, 1055, 1056, 1057, 1058, 1059, 1060, 1061, 1062, 1063, 1064, 1065, 1066] (by decide +kernel) (by decide +kernel)
set_option maxRecDepth 20000 in
theorem gL_law_X5_loads : GoodIn wsL_law (wsV RL 47 RX5 yX5_loads wsX5_loads) := goodIn_app (goodIn_of _ (by decide +kernel)) ggL_law_X5_loads
set_option maxRecDepth 20000 in
theorem ggL_law_X4_turn : GoodIn wsL_law wsX4_turn := goodIn_r _ [559, 15, 511, 512, 515, 279, 280, 14, 281, 116, 83, 84, 85, 2, 86, 31, 1032, 1033, 1034, 1035, 1036, 1037, 1038, 1039, 1067, 1068, 1069, 1070, 1071, 1072, 1073, 1074, 1075, 1076, 1077, 1078] (by decide +kernel) (by decide +kernel)
set_option maxRecDepth 20000 in
theorem gL_law_X4_turn : GoodIn wsL_law (wsV RL 48 RX4 yX4_turn wsX4_turn) := goodIn_app (goodIn_of _ (by decide +kernel)) ggL_law_X4_turn
set_option maxRecDepth 20000 in
theorem ggL_law_X5_turn : GoodIn wsL_law wsX5_turn := goodIn_r _ [563, 66, 67, 419, 420, 421, 5, 422, 388, 379, 380, 381, 100, 101, 102, 103, 104, 105, 106, 62, 1040, 1041, 1042, 1043, 1044, 1045, 1046, 1047, 1048, 1049, 1050, 1051, 1052, 1053, 1054, 1055, 1056, 1057, 1058, 1059, 1060, 1061, 1062, 1063, 1064, 1065, 1066] (by decide +kernel) (by decide +kernel)
set_option maxRecDepth 20000 in
theorem gL_law_X5_turn : GoodIn wsL_law (wsV RL 52 RX5 yX5_turn wsX5_turn) := goodIn_app (goodIn_of _ (by decide +kernel)) ggL_law_X5_turn
set_option maxRecDepth 20000 in
theorem ggL_law_X4_tides : GoodIn wsL_law wsX4_tides := goodIn_r _ [567, 15, 83, 84, 85, 2, 86, 31, 568, 331, 332, 14, 333, 118, 569, 335, 336, 337, 338, 339, 340, 341, 116, 42, 41, 290, 199, 196, 200, 115, 38, 282, 283, 284, 285, 342, 343, 344, 345, 39, 570, 571, 572, 573, 1032, 1033, 1034, 1035, 1036, 1037, 1038, 1039, 1067, 1068, 1069, 1070, 1071, 1072, 1073, 1074, 1075, 1076, 1077, 1078] (by decide +kernel) (by decide +kernel)
set_option maxRecDepth 20000 in
theorem gL_law_X4_tides : GoodIn wsL_law (wsV RL 53 RX4 yX4_tides wsX4_tides) := goodIn_app (goodIn_of _ (by decide +kernel)) ggL_law_X4_tides
set_option maxRecDepth 20000 in
theorem ggL_law_X5_tides : GoodIn wsL_law wsX5_tides := goodIn_r _ [577, 390, 100, 101, 5, 102, 103, 104, 105, 106, 62, 454, 455, 456, 457, 458, 459, 460, 461, 388, 65, 69, 68, 78, 462, 463, 464, 465, 66, 427, 428, 429, 578, 579, 580, 581, 1040, 1041, 1042, 1043, 1044, 1045, 1046, 1047, 1048, 1049, 1050, 1051, 1052, 1053, 1054, 1055, 1056, 1057, 1058, 1059, 1060, 1061, 1062, 1063, 1064, 1065, 1066] (by decide +kernel) (by decide +kernel)
set_option maxRecDepth 20000 in
theorem gL_law_X5_tides : GoodIn wsL_law (wsV RL 56 RX5 yX5_tides wsX5_tides) := goodIn_app (goodIn_of _ (by decide +kernel)) ggL_law_X5_tides
set_option maxRecDepth 20000 in
theorem ggL_law_X4_shipThen : GoodIn wsL_law wsX4_shipThen := goodIn_r _ [585, 15, 16, 472, 473, 271, 272, 14, 273, 115, 83, 84, 85, 2, 86, 31, 111, 112, 113, 114, 116, 117, 118, 36, 37, 38, 39, 40, 41, 42, 569, 335, 336, 337, 338, 339, 340, 341, 290, 199, 196, 200, 282, 283, 284, 285, 342, 343, 344, 345, 474, 314, 315, 316, 297, 298, 299, 300, 1032, 1033, 1034, 1035, 1036, 1037, 1038, 1039, 1067, 1068, 1069, 1070, 1071, 1072, 1073, 1074, 1075, 1076, 1077, 1078] (by decide +kernel) (by decide +kernel)
set_option maxRecDepth 20000 in
theorem gL_law_X4_shipThen : GoodIn wsL_law (wsV RL 57 RX4 yX4_shipThen wsX4_shipThen) := goodIn_app (goodIn_of _ (by decide +kernel)) ggL_law_X4_shipThen
set_option maxRecDepth 20000 in
theorem ggL_law_X5_shipThen : GoodIn wsL_law wsX5_shipThen := goodIn_r _ [589, 65, 411, 412, 413, 5, 414, 78, 590, 591, 592, 100, 101, 102, 379, 380, 381, 103, 104, 105, 106, 62, 593, 594, 595, 596, 382, 383, 384, 385, 386, 387, 63, 64, 66, 67, 68, 69, 388, 389, 390, 391, 392, 393, 394, 74, 395, 396, 397, 398, 454, 455, 456, 457, 458, 459, 460, 461, 462, 463, 464, 465, 427, 428, 429, 446, 447, 448, 449, 597, 598, 599, 600, 1040, 1041, 1042, 1043, 1044, 1045, 1046, 1047, 1048, 1049, 1050, 1051, 1052, 1053, 1054, 1055, 1056, 1057, 1058, 1059, 1060, 1061, 1062, 1063, 1064, 1065, 1066] (by decide +kernel) (by decide +kernel)
set_option maxRecDepth 20000 in
theorem gL_law_X5_shipThen : GoodIn wsL_law (wsV RL 60 RX5 yX5_shipThen wsX5_shipThen) := goodIn_app (goodIn_of _ (by decide +kernel)) ggL_law_X5_shipThen
set_option maxRecDepth 20000 in
theorem ggL_law_X4_sinsThen : GoodIn wsL_law wsX4_sinsThen := goodIn_r _ [604, 15, 16, 513, 515, 279, 280, 14, 281, 116, 83, 84, 85, 2, 86, 31, 111, 112, 113, 114, 115, 117, 118, 36, 37, 38, 39, 40, 41, 42, 569, 335, 336, 337, 338, 339, 340, 341, 290, 199, 196, 200, 282, 283, 284, 285, 342, 343, 344, 345, 1032, 1033, 1034, 1035, 1036, 1037, 1038, 1039, 1067, 1068, 1069, 1070, 1071, 1072, 1073, 1074, 1075, 1076, 1077, 1078] (by decide +kernel) (by decide +kernel)
set_option maxRecDepth 20000 in
theorem gL_law_X4_sinsThen : GoodIn wsL_law (wsV RL 61 RX4 yX4_sinsThen wsX4_sinsThen) := goodIn_app (goodIn_of _ (by decide +kernel)) ggL_law_X4_sinsThen
set_option maxRecDepth 20000 in
theorem ggL_law_X5_sinsThen : GoodIn wsL_law wsX5_sinsThen := goodIn_r _ [608, 68, 419, 420, 421, 5, 422, 388, 590, 591, 592, 100, 101, 102, 103, 104, 105, 106, 62, 593, 594, 595, 596, 382, 383, 384, 385, 386, 387, 63, 64, 65, 66, 67, 69, 78, 389, 390, 391, 392, 393, 394, 74, 395, 396, 397, 398, 454, 455, 456, 457, 458, 459, 460, 461, 462, 463, 464, 465, 427, 428, 429, 597, 598, 599, 600, 1040, 1041, 1042, 1043, 1044, 1045, 1046, 1047, 1048, 1049, 1050, 1051, 1052, 1053, 1054, 1055, 1056, 1057, 1058, 1059, 1060, 1061, 1062, 1063, 1064, 1065, 1066] (by decide +kernel) (by decide +kernel)
set_option maxRecDepth 20000 in
theorem gL_law_X5_sinsThen : GoodIn wsL_law (wsV RL 64 RX5 yX5_sinsThen wsX5_sinsThen) := goodIn_app (goodIn_of _ (by decide +kernel)) ggL_law_X5_sinsThen
set_option maxRecDepth 20000 in
theorem ggL_law_X4_fixture : GoodIn wsL_law wsX4_fixture := goodIn_r _ [612, 15, 613, 614, 283, 284, 14, 285, 38, 615, 616, 617, 618, 282, 619, 480, 481, 482, 116, 42, 41, 292, 293, 294, 295, 40, 39, 296, 195, 196, 197, 297, 298, 299, 300, 118, 620, 476, 477, 478, 37, 313, 314, 315, 316, 36, 117, 1032, 1033, 1034, 1035, 1036, 1037, 1038, 1039, 1067, 1068, 1069, 1070, 1071, 1072, 1073, 1074, 1075, 1076, 1077, 1078] (by decide +kernel) (by decide +kernel)
set_option maxRecDepth 20000 in
theorem gL_law_X4_fixture : GoodIn wsL_law (wsV RL 65 RX4 yX4_fixture wsX4_fixture) := goodIn_app (goodIn_of _ (by decide +kernel)) ggL_law_X4_fixture
set_option maxRecDepth 20000 in
theorem ggL_law_X5_fixture : GoodIn wsL_law wsX5_fixture := goodIn_r _ [624, 78, 65, 625, 626, 627, 5, 628, 495, 496, 497, 498, 390, 499, 500, 501, 502, 388, 69, 68, 434, 435, 436, 437, 67, 66, 491, 492, 493, 494, 64, 446, 447, 448, 449, 63, 389, 1040, 1041, 1042, 1043, 1044, 1045, 1046, 1047, 1048, 1049, 1050, 1051, 1052, 1053, 1054, 1055, 1056, 1057, 1058, 1059, 1060, 1061, 1062, 1063, 1064, 1065, 1066] (by decide +kernel) (by decide +kernel)
set_option maxRecDepth 20000 in
theorem gL_law_X5_fixture : GoodIn wsL_law (wsV RL 68 RX5 yX5_fixture wsX5_fixture) := goodIn_app (goodIn_of _ (by decide +kernel)) ggL_law_X5_fixture
set_option maxRecDepth 20000 in
theorem ggL_law_X4_fewest : GoodIn wsL_law wsX4_fewest := goodIn_r _ [632, 15, 473, 271, 272, 14, 273, 115, 83, 84, 85, 2, 86, 31, 614, 283, 284, 285, 38, 633, 634, 635, 636, 43, 620, 476, 477, 478, 37, 296, 195, 196, 197, 282, 313, 314, 315, 316, 36, 117, 297, 298, 299, 300, 118, 637, 638, 639, 640, 116, 42, 41, 292, 293, 294, 295, 40, 39, 641, 642, 643, 644, 1032, 1033, 1034, 1035, 1036, 1037, 1038, 1039, 1067, 1068, 1069, 1070, 1071, 1072, 1073, 1074, 1075, 1076, 1077, 1078] (by decide +kernel) (by decide +kernel)
set_option maxRecDepth 20000 in
theorem gL_law_X4_fewest : GoodIn wsL_law (wsV RL 69 RX4 yX4_fewest wsX4_fewest) := goodIn_app (goodIn_of _ (by decide +kernel)) ggL_law_X4_fewest
set_option maxRecDepth 20000 in
theorem ggL_law_X5_fewest : GoodIn wsL_law wsX5_fewest := goodIn_r _ [648, 65, 411, 412, 413, 5, 414, 78, 379, 380, 381, 103, 104, 105, 106, 62, 649, 650, 651, 652, 75, 491, 492, 493, 494, 64, 446, 447, 448, 449, 63, 390, 389, 653, 654, 655, 656, 388, 69, 68, 430, 431, 432, 433, 434, 435, 436, 437, 67, 66, 657, 658, 659, 660, 1040, 1041, 1042, 1043, 1044, 1045, 1046, 1047, 1048, 1049, 1050, 1051, 1052, 1053, 1054, 1055, 1056, 1057, 1058, 1059, 1060, 1061, 1062, 1063, 1064, 1065, 1066] (by decide +kernel) (by decide +kernel)
set_option maxRecDepth 20000 in
theorem gL_law_X5_fewest : GoodIn wsL_law (wsV RL 72 RX5 yX5_fewest wsX5_fewest) := goodIn_app (goodIn_of _ (by decide +kernel)) ggL_law_X5_fewest
set_option maxRecDepth 20000 in
theorem ggL_law_X4_when : GoodIn wsL_law wsX4_when := goodIn_r _ [664, 15, 16, 473, 271, 272, 14, 273, 115, 83, 84, 85, 2, 86, 31, 111, 112, 113, 114, 116, 117, 118, 36, 37, 38, 39, 40, 41, 42, 614, 283, 284, 285, 633, 634, 635, 636, 43, 620, 476, 477, 478, 296, 195, 196, 197, 282, 313, 314, 315, 316, 297, 298, 299, 300, 637, 638, 639, 640, 292, 293, 294, 295, 569, 335, 336, 337, 338, 339, 340, 341, 290, 199, 200, 342, 343, 344, 345, 1032, 1033, 1034, 1035, 1036, 1037, 1038, 1039, 1067, 1068, 1069, 1070, 1071, 1072, 1073, 1074, 1075, 1076, 1077, 1078] (by decide +kernel) (by decide +kernel)
set_option maxRecDepth 20000 in
theorem gL_law_X4_when : GoodIn wsL_law (wsV RL 73 RX4 yX4_when wsX4_when) := goodIn_app (goodIn_of _ (by decide +kernel)) ggL_law_X4_when
set_option maxRecDepth 20000 in
theorem ggL_law_X5_when : GoodIn wsL_law wsX5_when := goodIn_r _ [668, 65, 411, 412, 413, 5, 414, 78, 100, 101, 102, 103, 104, 105, 106, 62, 593, 594, 595, 596, 382, 383, 384, 385, 386, 387, 63, 64, 66, 67, 68, 69, 388, 389, 390, 391, 392, 393, 394, 74, 395, 396, 397, 398, 649, 650, 651, 652, 75, 491, 492, 493, 494, 446, 447, 448, 449, 653, 654, 655, 656, 430, 431, 432, 433, 434, 435, 436, 437, 379, 380, 381, 458, 459, 460, 461, 462, 463, 464, 465, 427, 428, 429, 597, 598, 599, 600, 1040, 1041, 1042, 1043, 1044, 1045, 1046, 1047, 1048, 1049, 1050, 1051, 1052, 1053, 1054, 1055, 1056, 1057, 1058, 1059, 1060, 1061, 1062, 1063, 1064, 1065, 1066] (by decide +kernel) (by decide +kernel)
set_option maxRecDepth 20000 in
theorem gL_law_X5_when : GoodIn wsL_law (wsV RL 76 RX5 yX5_when wsX5_when) := goodIn_app (goodIn_of _ (by decide +kernel)) ggL_law_X5_when
set_option maxRecDepth 20000 in
theorem ggL_law_X4_cheapest : GoodIn wsL_law wsX4_cheapest := goodIn_r _ [672, 15, 613, 614, 283, 284, 14, 285, 38, 633, 634, 635, 636, 43, 620, 476, 477, 478, 37, 296, 195, 196, 197, 282, 313, 314, 315, 316, 36, 117, 297, 298, 299, 300, 118, 637, 638, 639, 640, 116, 42, 41, 292, 293, 294, 295, 40, 39, 1032, 1033, 1034, 1035, 1036, 1037, 1038, 1039, 1067, 1068, 1069, 1070, 1071, 1072, 1073, 1074, 1075, 1076, 1077, 1078] (by decide +kernel) (by decide +kernel)
set_option maxRecDepth 20000 in
theorem gL_law_X4_cheapest : GoodIn wsL_law (wsV RL 77 RX4 yX4_cheapest wsX4_cheapest) := goodIn_app (goodIn_of _ (by decide +kernel)) ggL_law_X4_cheapest
set_option maxRecDepth 20000 in
theorem ggL_law_X5_cheapest : GoodIn wsL_law wsX5_cheapest := goodIn_r _ [676, 78, 65, 649, 650, 651, 5, 652, 75, 491, 492, 493, 494, 64, 446, 447, 448, 449, 63, 390, 389, 653, 654, 655, 656, 388, 69, 68, 430, 431, 432, 433, 434, 435, 436, 437, 67, 66, 1040, 1041, 1042, 1043, 1044, 1045, 1046, 1047, 1048, 1049, 1050, 1051, 1052, 1053, 1054, 1055, 1056, 1057, 1058, 1059, 1060, 1061, 1062, 1063, 1064, 1065, 1066] (by decide +kernel) (by decide +kernel)
set_option maxRecDepth 20000 in
theorem gL_law_X5_cheapest : GoodIn wsL_law (wsV RL 80 RX5 yX5_cheapest wsX5_cheapest) := goodIn_app (goodIn_of _ (by decide +kernel)) ggL_law_X5_cheapest
set_option maxRecDepth 20000 in
theorem ggL_law_X4_berth : GoodIn wsL_law wsX4_berth := goodIn_r _ [680, 15, 16, 613, 514, 515, 279, 280, 14, 281, 116, 83, 84, 85, 2, 86, 31, 681, 682, 683, 684, 115, 685, 616, 617, 618, 282, 283, 284, 285, 38, 619, 480, 481, 482, 42, 41, 292, 293, 294, 295, 40, 39, 296, 195, 196, 197, 297, 298, 299, 300, 118, 620, 476, 477, 478, 37, 313, 314, 315, 316, 36, 117, 111, 112, 113, 114, 614, 1032, 1033, 1034, 1035, 1036, 1037, 1038, 1039, 1067, 1068, 1069, 1070, 1071, 1072, 1073, 1074, 1075, 1076, 1077, 1078] (by decide +kernel) (by decide +kernel)
set_option maxRecDepth 20000 in
theorem gL_law_X4_berth : GoodIn wsL_law (wsV RL 81 RX4 yX4_berth wsX4_berth) := goodIn_app (goodIn_of _ (by decide +kernel)) ggL_law_X4_berth
set_option maxRecDepth 20000 in
theorem ggL_law_X5_berth : GoodIn wsL_law wsX5_berth := goodIn_r _ [689, 69, 78, 65, 419, 420, 421, 5, 422, 388, 103, 104, 105, 106, 62, 690, 691, 692, 693, 625, 626, 627, 628, 495, 496, 497, 498, 390, 499, 500, 501, 502, 68, 434, 435, 436, 437, 67, 66, 491, 492, 493, 494, 64, 446, 447, 448, 449, 63, 389, 1040, 1041, 1042, 1043, 1044, 1045, 1046, 1047, 1048, 1049, 1050, 1051, 1052, 1053, 1054, 1055, 1056, 1057, 1058, 1059, 1060, 1061, 1062, 1063, 1064, 1065, 1066] (by decide +kernel) (by decide +kernel)
set_option maxRecDepth 20000 in
theorem gL_law_X5_berth : GoodIn wsL_law (wsV RL 84 RX5 yX5_berth wsX5_berth) := goodIn_app (goodIn_of _ (by decide +kernel)) ggL_law_X5_berth
set_option maxRecDepth 20000 in
theorem ggL_law_X4_rise : GoodIn wsL_law wsX4_rise := goodIn_r _ [697, 15, 681, 682, 683, 14, 684, 115, 685, 616, 617, 618, 282, 283, 284, 285, 38, 619, 480, 481, 482, 116, 42, 41, 292, 293, 294, 295, 40, 39, 296, 195, 196, 197, 297, 298, 299, 300, 118, 620, 476, 477, 478, 37, 313, 314, 315, 316, 36, 117, 1032, 1033, 1034, 1035, 1036, 1037, 1038, 1039, 1067, 1068, 1069, 1070, 1071, 1072, 1073, 1074, 1075, 1076, 1077, 1078] (by decide +kernel) (by decide +kernel)
set_option maxRecDepth 20000 in
theorem gL_law_X4_rise : GoodIn wsL_law (wsV RL 85 RX4 yX4_rise wsX4_rise) := goodIn_app (goodIn_of _ (by decide +kernel)) ggL_law_X4_rise
set_option maxRecDepth 20000 in
theorem ggL_law_X5_rise : GoodIn wsL_law wsX5_rise := goodIn_r _ [701, 690, 691, 692, 5, 693, 78, 625, 626, 627, 628, 65, 495, 496, 497, 498, 390, 499, 500, 501, 502, 388, 69, 68, 434, 435, 436, 437, 67, 66, 491, 492, 493, 494, 64, 446, 447, 448, 449, 63, 389, 1040, 1041, 1042, 1043, 1044, 1045, 1046, 1047, 1048, 1049, 1050, 1051, 1052, 1053, 1054, 1055, 1056, 1057, 1058, 1059, 1060, 1061, 1062, 1063, 1064, 1065, 1066] (by decide +kernel) (by decide +kernel)
set_option maxRecDepth 20000 in
theorem gL_law_X5_rise : GoodIn wsL_law (wsV RL 88 RX5 yX5_rise wsX5_rise) := goodIn_app (goodIn_of _ (by decide +kernel)) ggL_law_X5_rise
set_option maxRecDepth 20000 in
theorem ggL_law_X4_deal : GoodIn wsL_law wsX4_deal := goodIn_r _ [705, 15, 706, 514, 681, 682, 683, 14, 684, 115, 685, 616, 617, 618, 282, 283, 284, 285, 38, 619, 480, 481, 482, 116, 42, 41, 292, 293, 294, 295, 40, 39, 296, 195, 196, 197, 297, 298, 299, 300, 118, 620, 476, 477, 478, 37, 313, 314, 315, 316, 36, 117, 707, 708, 709, 2, 710, 16, 111, 112, 113, 114, 1032, 1033, 1034, 1035, 1036, 1037, 1038, 1039, 1067, 1068, 1069, 1070, 1071, 1072, 1073, 1074, 1075, 1076, 1077, 1078] (by decide +kernel) (by decide +kernel)
set_option maxRecDepth 20000 in
theorem gL_law_X4_deal : GoodIn wsL_law (wsV RL 89 RX4 yX4_deal wsX4_deal) := goodIn_app (goodIn_of _ (by decide +kernel)) ggL_law_X4_deal
set_option maxRecDepth 20000 in
theorem ggL_law_X5_deal : GoodIn wsL_law wsX5_deal := goodIn_r _ [714, 388, 69, 690, 691, 692, 5, 693, 78, 625, 626, 627, 628, 65, 495, 496, 497, 498, 390, 499, 500, 501, 502, 68, 434, 435, 436, 437, 67, 66, 491, 492, 493, 494, 64, 446, 447, 448, 449, 63, 389, 715, 716, 717, 718, 1040, 1041, 1042, 1043, 1044, 1045, 1046, 1047, 1048, 1049, 1050, 1051, 1052, 1053, 1054, 1055, 1056, 1057, 1058, 1059, 1060, 1061, 1062, 1063, 1064, 1065, 1066] (by decide +kernel) (by decide +kernel)
set_option maxRecDepth 20000 in
theorem gL_law_X5_deal : GoodIn wsL_law (wsV RL 92 RX5 yX5_deal wsX5_deal) := goodIn_app (goodIn_of _ (by decide +kernel)) ggL_law_X5_deal
