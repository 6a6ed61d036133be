set_option maxRecDepth 20000 in
theorem ggL_law_X4_hush : GoodIn wsL_law wsX4_hush := goodIn_r _ [722, 15, 706, 514, 513, 615, 616, 617, 14, 618, 282, 283, 284, 285, 38, 619, 480, 481, 482, 116, 42, 41, 292, 293, 294, 295, 40, 39, 296, 195, 196, 197, 297, 298, 299, 300, 118, 620, 476, 477, 478, 37, 313, 314, 315, 316, 36, 117, 479, 516, 475, 1032, 1033, 1034, 1035, 1036, 1037, 1038, 1039, 1067, 1068, 1069, 1070, 1071, 1072, 1073, 1074, 1075, 1076, 1077, 1078] (by decide +kernel) (by decide +kernel)
set_option maxRecDepth 20000 in
theorem gL_law_X4_hush : GoodIn wsL_law (wsV RL 93 RX4 yX4_hush wsX4_hush) := goodIn_app (goodIn_of _ (by decide +kernel)) ggL_law_X4_hush
set_option maxRecDepth 20000 in
theorem ggL_law_X5_hush : GoodIn wsL_law wsX5_hush := goodIn_r _ [726, 388, 69, 68, 625, 626, 627, 5, 628, 65, 495, 496, 497, 498, 390, 499, 500, 501, 502, 434, 435, 436, 437, 67, 66, 491, 492, 493, 494, 64, 446, 447, 448, 449, 63, 389, 430, 431, 432, 433, 1040, 1041, 1042, 1043, 1044, 1045, 1046, 1047, 1048, 1049, 1050, 1051, 1052, 1053, 1054, 1055, 1056, 1057, 1058, 1059, 1060, 1061, 1062, 1063, 1064, 1065, 1066] (by decide +kernel) (by decide +kernel)
set_option maxRecDepth 20000 in
theorem gL_law_X5_hush : GoodIn wsL_law (wsV RL 96 RX5 yX5_hush wsX5_hush) := goodIn_app (goodIn_of _ (by decide +kernel)) ggL_law_X5_hush
set_option maxRecDepth 20000 in
theorem ggL_law_X4_loudest : GoodIn wsL_law wsX4_loudest := goodIn_r _ [730, 15, 706, 16, 83, 84, 85, 2, 86, 31, 111, 112, 113, 14, 114, 115, 116, 117, 118, 36, 37, 38, 39, 40, 41, 42, 518, 275, 276, 277, 278, 279, 280, 281, 282, 283, 284, 285, 527, 287, 288, 289, 290, 199, 196, 200, 291, 292, 293, 294, 295, 296, 195, 197, 297, 298, 299, 300, 301, 302, 303, 304, 305, 306, 307, 308, 309, 310, 311, 312, 313, 314, 315, 316, 1032, 1033, 1034, 1035, 1036, 1037, 1038, 1039, 1067, 1068, 1069, 1070, 1071, 1072, 1073, 1074, 1075, 1076, 1077, 1078] (by decide +kernel) (by decide +kernel)
set_option maxRecDepth 20000 in
theorem gL_law_X4_loudest : GoodIn wsL_law (wsV RL 97 RX4 yX4_loudest wsX4_loudest) := goodIn_app (goodIn_of _ (by decide +kernel)) ggL_law_X4_loudest
set_option maxRecDepth 20000 in
theorem ggL_law_X5_loudest : GoodIn wsL_law wsX5_loudest := goodIn_r _ [734, 388, 379, 380, 5, 381, 103, 104, 105, 106, 62, 415, 416, 417, 418, 68, 65, 69, 419, 420, 421, 422, 735, 736, 737, 738, 593, 594, 595, 596, 382, 383, 384, 385, 386, 387, 63, 64, 66, 67, 78, 389, 390, 391, 392, 393, 394, 74, 395, 396, 397, 398, 423, 424, 425, 426, 427, 428, 429, 430, 431, 432, 433, 434, 435, 436, 437, 438, 439, 440, 441, 442, 443, 444, 445, 446, 447, 448, 449, 597, 598, 599, 600, 1040, 1041, 1042, 1043, 1044, 1045, 1046, 1047, 1048, 1049, 1050, 1051, 1052, 1053, 1054, 1055, 1056, 1057, 1058, 1059, 1060, 1061, 1062, 1063, 1064, 1065, 1066] (by decide +kernel) (by decide +kernel)
set_option maxRecDepth 20000 in
theorem gL_law_X5_loudest : GoodIn wsL_law (wsV RL 100 RX5 yX5_loudest wsX5_loudest) := goodIn_app (goodIn_of _ (by decide +kernel)) ggL_law_X5_loudest
set_option maxRecDepth 20000 in
theorem ggL_law_X4_spree : GoodIn wsL_law wsX4_spree := goodIn_r _ [742, 16, 15, 706, 743, 83, 84, 85, 2, 86, 31, 111, 112, 113, 14, 114, 115, 116, 117, 118, 36, 37, 38, 39, 40, 41, 42, 527, 287, 288, 289, 290, 199, 196, 200, 291, 275, 276, 277, 278, 279, 280, 281, 282, 283, 284, 285, 292, 293, 294, 295, 296, 195, 197, 297, 298, 299, 300, 301, 302, 303, 304, 305, 306, 307, 308, 309, 310, 311, 312, 313, 314, 315, 316, 570, 571, 572, 573, 744, 745, 746, 747, 748, 749, 750, 1032, 1033, 1034, 1035, 1036, 1037, 1038, 1039, 1067, 1068, 1069, 1070, 1071, 1072, 1073, 1074, 1075, 1076, 1077, 1078] (by decide +kernel) (by decide +kernel)
set_option maxRecDepth 20000 in
theorem gL_law_X4_spree : GoodIn wsL_law (wsV RL 101 RX4 yX4_spree wsX4_spree) := goodIn_app (goodIn_of _ (by decide +kernel)) ggL_law_X4_spree
set_option maxRecDepth 20000 in
theorem ggL_law_X5_spree : GoodIn wsL_law wsX5_spree := goodIn_r _ [754, 388, 389, 379, 380, 5, 381, 103, 104, 105, 106, 62, 593, 594, 595, 596, 382, 383, 384, 385, 386, 387, 63, 64, 65, 66, 67, 68, 69, 78, 390, 391, 392, 393, 394, 74, 395, 396, 397, 398, 415, 416, 417, 418, 419, 420, 421, 422, 423, 424, 425, 426, 427, 428, 429, 430, 431, 432, 433, 434, 435, 436, 437, 438, 439, 440, 441, 442, 443, 444, 445, 446, 447, 448, 449, 578, 579, 580, 581, 755, 756, 757, 597, 598, 599, 600, 1040, 1041, 1042, 1043, 1044, 1045, 1046, 1047, 1048, 1049, 1050, 1051, 1052, 1053, 1054, 1055, 1056, 1057, 1058, 1059, 1060, 1061, 1062, 1063, 1064, 1065, 1066] (by decide +kernel) (by decide +kernel)
set_option maxRecDepth 20000 in
theorem gL_law_X5_spree : GoodIn wsL_law (wsV RL 104 RX5 yX5_spree wsX5_spree) := goodIn_app (goodIn_of _ (by decide +kernel)) ggL_law_X5_spree
set_option maxRecDepth 20000 in
theorem ggL_law_X4_keep : GoodIn wsL_law wsX4_keep := goodIn_r _ [761, 15, 515, 279, 280, 14, 281, 116, 83, 84, 85, 2, 86, 31, 518, 275, 276, 277, 41, 42, 278, 282, 283, 284, 285, 38, 762, 763, 764, 765, 16, 514, 111, 112, 113, 114, 115, 117, 118, 36, 37, 39, 40, 569, 335, 336, 337, 338, 339, 340, 341, 290, 199, 196, 200, 342, 343, 344, 345, 527, 287, 288, 289, 291, 292, 293, 294, 295, 296, 195, 197, 297, 298, 299, 300, 301, 302, 303, 304, 305, 306, 307, 308, 309, 310, 311, 312, 313, 314, 315, 316, 475, 476, 477, 478, 1032, 1033, 1034, 1035, 1036, 1037, 1038, 1039, 1067, 1068, 1069, 1070, 1071, 1072, 1073, 1074, 1075, 1076, 1077, 1078] (by decide +kernel) (by decide +kernel)
set_option maxRecDepth 20000 in
theorem gL_law_X4_keep : GoodIn wsL_law (wsV RL 105 RX4 yX4_keep wsX4_keep) := goodIn_app (goodIn_of _ (by decide +kernel)) ggL_law_X4_keep
set_option maxRecDepth 20000 in
theorem ggL_law_X5_keep : GoodIn wsL_law wsX5_keep := goodIn_r _ [769, 419, 420, 421, 5, 422, 388, 415, 416, 417, 418, 68, 65, 69, 103, 104, 105, 106, 62, 770, 771, 772, 773, 593, 594, 595, 596, 382, 383, 384, 385, 386, 387, 63, 64, 66, 67, 78, 389, 390, 391, 392, 393, 394, 74, 395, 396, 397, 398, 454, 455, 456, 457, 458, 459, 460, 461, 462, 463, 464, 465, 427, 428, 429, 423, 424, 425, 426, 430, 431, 432, 433, 434, 435, 436, 437, 438, 439, 440, 441, 442, 443, 444, 445, 446, 447, 448, 449, 491, 492, 493, 494, 597, 598, 599, 600, 1040, 1041, 1042, 1043, 1044, 1045, 1046, 1047, 1048, 1049, 1050, 1051, 1052, 1053, 1054, 1055, 1056, 1057, 1058, 1059, 1060, 1061, 1062, 1063, 1064, 1065, 1066] (by decide +kernel) (by decide +kernel)
set_option maxRecDepth 20000 in
theorem gL_law_X5_keep : GoodIn wsL_law (wsV RL 108 RX5 yX5_keep wsX5_keep) := goodIn_app (goodIn_of _ (by decide +kernel)) ggL_law_X5_keep
set_option maxRecDepth 20000 in
theorem ggL_law_X4_richest : GoodIn wsL_law wsX4_richest := goodIn_r _ [777, 15, 706, 513, 83, 84, 85, 2, 86, 31, 516, 293, 294, 14, 295, 40, 39, 296, 195, 196, 197, 297, 298, 299, 300, 118, 1032, 1033, 1034, 1035, 1036, 1037, 1038, 1039, 1067, 1068, 1069, 1070, 1071, 1072, 1073, 1074, 1075, 1076, 1077, 1078] (by decide +kernel) (by decide +kernel)
set_option maxRecDepth 20000 in
theorem gL_law_X4_richest : GoodIn wsL_law (wsV RL 109 RX4 yX4_richest wsX4_richest) := goodIn_app (goodIn_of _ (by decide +kernel)) ggL_law_X4_richest
set_option maxRecDepth 20000 in
theorem ggL_law_X5_richest : GoodIn wsL_law wsX5_richest := goodIn_r _ [781, 388, 68, 379, 380, 5, 381, 103, 104, 105, 106, 62, 430, 431, 432, 433, 390, 434, 435, 436, 437, 67, 66, 1040, 1041, 1042, 1043, 1044, 1045, 1046, 1047, 1048, 1049, 1050, 1051, 1052, 1053, 1054, 1055, 1056, 1057, 1058, 1059, 1060, 1061, 1062, 1063, 1064, 1065, 1066] (by decide +kernel) (by decide +kernel)
set_option maxRecDepth 20000 in
theorem gL_law_X5_richest : GoodIn wsL_law (wsV RL 112 RX5 yX5_richest wsX5_richest) := goodIn_app (goodIn_of _ (by decide +kernel)) ggL_law_X5_richest
set_option maxRecDepth 20000 in
theorem ggL_law_X4_blameless : GoodIn wsL_law wsX4_blameless := goodIn_r _ [785, 15, 613, 786, 787, 788, 14, 789, 116, 42, 41, 1032, 1033, 1034, 1035, 1036, 1037, 1038, 1039, 1067, 1068, 1069, 1070, 1071, 1072, 1073, 1074, 1075, 1076, 1077, 1078] (by decide +kernel) (by decide +kernel)
set_option maxRecDepth 20000 in
theorem gL_law_X4_blameless : GoodIn wsL_law (wsV RL 113 RX4 yX4_blameless wsX4_blameless) := goodIn_app (goodIn_of _ (by decide +kernel)) ggL_law_X4_blameless
set_option maxRecDepth 20000 in
theorem ggL_law_X5_blameless : GoodIn wsL_law wsX5_blameless := goodIn_r _ [793, 78, 388, 68, 69, 1040, 1041, 1042, 1043, 1044, 1045, 1046, 1047, 1048, 1049, 1050, 1051, 1052, 1053, 1054, 1055, 1056, 1057, 1058, 1059, 1060, 1061, 1062, 1063, 1064, 1065, 1066] (by decide +kernel) (by decide +kernel)
set_option maxRecDepth 20000 in
theorem gL_law_X5_blameless : GoodIn wsL_law (wsV RL 116 RX5 yX5_blameless wsX5_blameless) := goodIn_app (goodIn_of _ (by decide +kernel)) ggL_law_X5_blameless
set_option maxRecDepth 20000 in
theorem ggL_law_X4_ebb : GoodIn wsL_law wsX4_ebb := goodIn_r _ [797, 15, 798, 16, 799, 473, 271, 272, 14, 273, 115, 83, 84, 85, 2, 86, 31, 111, 112, 113, 114, 116, 117, 118, 36, 37, 38, 39, 40, 41, 42, 479, 480, 481, 482, 292, 293, 294, 295, 296, 195, 196, 197, 297, 298, 299, 300, 1032, 1033, 1034, 1035, 1036, 1037, 1038, 1039, 1067, 1068, 1069, 1070, 1071, 1072, 1073, 1074, 1075, 1076, 1077, 1078] (by decide +kernel) (by decide +kernel)
set_option maxRecDepth 20000 in
theorem gL_law_X4_ebb : GoodIn wsL_law (wsV RL 117 RX4 yX4_ebb wsX4_ebb) := goodIn_app (goodIn_of _ (by decide +kernel)) ggL_law_X4_ebb
set_option maxRecDepth 20000 in
theorem ggL_law_X5_ebb : GoodIn wsL_law wsX5_ebb := goodIn_r _ [803, 390, 411, 412, 413, 5, 414, 78, 499, 500, 501, 502, 388, 69, 68, 434, 435, 436, 437, 67, 66, 495, 496, 497, 498, 804, 805, 806, 807, 62, 808, 1040, 1041, 1042, 1043, 1044, 1045, 1046, 1047, 1048, 1049, 1050, 1051, 1052, 1053, 1054, 1055, 1056, 1057, 1058, 1059, 1060, 1061, 1062, 1063, 1064, 1065, 1066] (by decide +kernel) (by decide +kernel)
set_option maxRecDepth 20000 in
theorem gL_law_X5_ebb : GoodIn wsL_law (wsV RL 120 RX5 yX5_ebb wsX5_ebb) := goodIn_app (goodIn_of _ (by decide +kernel)) ggL_law_X5_ebb
set_option maxRecDepth 20000 in
theorem ggL_law_X4_missing : GoodIn wsL_law wsX4_missing := goodIn_r _ [812, 15, 613, 813, 195, 196, 197, 614, 283, 284, 14, 285, 38, 475, 476, 477, 478, 37, 296, 282, 313, 314, 315, 316, 36, 117, 297, 298, 299, 300, 118, 479, 480, 481, 482, 116, 42, 41, 292, 293, 294, 295, 40, 39, 1032, 1033, 1034, 1035, 1036, 1037, 1038, 1039, 1067, 1068, 1069, 1070, 1071, 1072, 1073, 1074, 1075, 1076, 1077, 1078] (by decide +kernel) (by decide +kernel)
set_option maxRecDepth 20000 in
theorem gL_law_X4_missing : GoodIn wsL_law (wsV RL 121 RX4 yX4_missing wsX4_missing) := goodIn_app (goodIn_of _ (by decide +kernel)) ggL_law_X4_missing
set_option maxRecDepth 20000 in
theorem ggL_law_X5_missing : GoodIn wsL_law wsX5_missing := goodIn_r _ [817, 78, 65, 491, 492, 493, 5, 494, 64, 446, 447, 448, 449, 63, 390, 389, 495, 496, 497, 498, 499, 500, 501, 502, 388, 69, 68, 434, 435, 436, 437, 67, 66, 1040, 1041, 1042, 1043, 1044, 1045, 1046, 1047, 1048, 1049, 1050, 1051, 1052, 1053, 1054, 1055, 1056, 1057, 1058, 1059, 1060, 1061, 1062, 1063, 1064, 1065, 1066] (by decide +kernel) (by decide +kernel)
set_option maxRecDepth 20000 in
theorem gL_law_X5_missing : GoodIn wsL_law (wsV RL 124 RX5 yX5_missing wsX5_missing) := goodIn_app (goodIn_of _ (by decide +kernel)) ggL_law_X5_missing
set_option maxRecDepth 20000 in
theorem ggL_law_X4_two : GoodIn wsL_law wsX4_two := goodIn_r _ [821, 15, 515, 279, 280, 14, 281, 116, 83, 84, 85, 2, 86, 31, 518, 275, 276, 277, 41, 42, 278, 282, 283, 284, 285, 38, 822, 823, 824, 825, 826, 827, 828, 829, 16, 514, 111, 112, 113, 114, 115, 117, 118, 36, 37, 39, 40, 527, 287, 288, 289, 290, 199, 196, 200, 291, 292, 293, 294, 295, 296, 195, 197, 297, 298, 299, 300, 301, 302, 303, 304, 305, 306, 307, 308, 309, 310, 311, 312, 313, 314, 315, 316, 614, 1032, 1033, 1034, 1035, 1036, 1037, 1038, 1039, 1067, 1068, 1069, 1070, 1071, 1072, 1073, 1074, 1075, 1076, 1077, 1078] (by decide +kernel) (by decide +kernel)
set_option maxRecDepth 20000 in
theorem gL_law_X4_two : GoodIn wsL_law (wsV RL 125 RX4 yX4_two wsX4_two) := goodIn_app (goodIn_of _ (by decide +kernel)) ggL_law_X4_two
set_option maxRecDepth 20000 in
theorem ggL_law_X5_two : GoodIn wsL_law wsX5_two := goodIn_r _ [833, 76, 419, 420, 421, 5, 422, 388, 415, 416, 417, 418, 68, 65, 69, 103, 104, 105, 106, 62, 834, 835, 836, 837, 593, 594, 595, 596, 382, 383, 384, 385, 386, 387, 63, 64, 66, 67, 78, 389, 390, 391, 392, 393, 394, 74, 395, 396, 397, 398, 838, 839, 840, 841, 423, 424, 425, 426, 427, 428, 429, 430, 431, 432, 433, 434, 435, 436, 437, 438, 439, 440, 441, 442, 443, 444, 445, 446, 447, 448, 449, 597, 598, 599, 600, 1040, 1041, 1042, 1043, 1044, 1045, 1046, 1047, 1048, 1049, 1050, 1051, 1052, 1053, 1054, 1055, 1056, 1057, 1058, 1059, 1060, 1061, 1062, 1063, 1064, 1065, 1066] (by decide +kernel) (by decide +kernel)
set_option maxRecDepth 20000 in
theorem gL_law_X5_two : GoodIn wsL_law (wsV RL 128 RX5 yX5_two wsX5_two) := goodIn_app (goodIn_of _ (by decide +kernel)) ggL_law_X5_two
set_option maxRecDepth 20000 in
theorem ggL_law_X4_storm : GoodIn wsL_law wsX4_storm := goodIn_r _ [845, 15, 846, 473, 271, 272, 14, 273, 115, 83, 84, 85, 2, 86, 31, 847, 848, 849, 850, 16, 111, 112, 113, 114, 116, 117, 118, 36, 37, 38, 39, 40, 41, 42, 851, 852, 853, 854, 305, 306, 307, 308, 290, 199, 196, 200, 282, 283, 284, 285, 309, 310, 311, 312, 313, 314, 315, 316, 297, 298, 299, 300, 569, 335, 336, 337, 338, 339, 340, 341, 342, 343, 344, 345, 614, 744, 745, 746, 747, 748, 749, 750, 855, 856, 857, 858, 859, 860, 861, 862, 863, 1032, 1033, 1034, 1035, 1036, 1037, 1038, 1039, 1067, 1068, 1069, 1070, 1071, 1072, 1073, 1074, 1075, 1076, 1077, 1078] (by decide +kernel) (by decide +kernel)
set_option maxRecDepth 20000 in
theorem gL_law_X4_storm : GoodIn wsL_law (wsV RL 129 RX4 yX4_storm wsX4_storm) := goodIn_app (goodIn_of _ (by decide +kernel)) ggL_law_X4_storm
set_option maxRecDepth 20000 in
theorem ggL_law_X5_storm : GoodIn wsL_law wsX5_storm := goodIn_r _ [867, 65, 411, 412, 413, 5, 414, 78, 379, 380, 381, 868, 869, 870, 871, 62, 872, 593, 594, 595, 596, 382, 383, 384, 385, 386, 387, 63, 64, 66, 67, 68, 69, 388, 389, 390, 391, 392, 393, 394, 74, 395, 396, 397, 398, 873, 874, 875, 876, 877, 878, 879, 427, 428, 429, 442, 443, 444, 445, 446, 447, 448, 449, 458, 459, 460, 461, 462, 463, 464, 465, 597, 598, 599, 600, 880, 881, 882, 883, 884, 885, 1040, 1041, 1042, 1043, 1044, 1045, 1046, 1047, 1048, 1049, 1050, 1051, 1052, 1053, 1054, 1055, 1056, 1057, 1058, 1059, 1060, 1061, 1062, 1063, 1064, 1065, 1066] (by decide +kernel) (by decide +kernel)
set_option maxRecDepth 20000 in
theorem gL_law_X5_storm : GoodIn wsL_law (wsV RL 133 RX5 yX5_storm wsX5_storm) := goodIn_app (goodIn_of _ (by decide +kernel)) ggL_law_X5_storm
set_option maxRecDepth 20000 in
theorem ggL_law_X4_mean : GoodIn wsL_law wsX4_mean := goodIn_r _ [889, 846, 15, 706, 813, 195, 196, 197, 83, 84, 85, 2, 86, 31, 890, 891, 892, 14, 893, 116, 41, 858, 859, 860, 861, 862, 863, 1032, 1033, 1034, 1035, 1036, 1037, 1038, 1039, 1067, 1068, 1069, 1070, 1071, 1072, 1073, 1074, 1075, 1076, 1077, 1078] (by decide +kernel) (by decide +kernel)
set_option maxRecDepth 20000 in
theorem gL_law_X4_mean : GoodIn wsL_law (wsV RL 134 RX4 yX4_mean wsX4_mean) := goodIn_app (goodIn_of _ (by decide +kernel)) ggL_law_X4_mean
set_option maxRecDepth 20000 in
theorem ggL_law_X5_mean : GoodIn wsL_law wsX5_mean := goodIn_r _ [897, 388, 379, 380, 5, 381, 868, 869, 870, 871, 62, 872, 898, 899, 900, 901, 68, 880, 881, 882, 883, 884, 885, 1040, 1041, 1042, 1043, 1044, 1045, 1046, 1047, 1048, 1049, 1050, 1051, 1052, 1053, 1054, 1055, 1056, 1057, 1058, 1059, 1060, 1061, 1062, 1063, 1064, 1065, 1066] (by decide +kernel) (by decide +kernel)
set_option maxRecDepth 20000 in
theorem gL_law_X5_mean : GoodIn wsL_law (wsV RL 138 RX5 yX5_mean wsX5_mean) := goodIn_app (goodIn_of _ (by decide +kernel)) ggL_law_X5_mean
set_option maxRecDepth 20000 in
theorem ggL_law_X4_whoTold : GoodIn wsL_law wsX4_whoTold := goodIn_r _ [905, 15, 706, 16, 111, 112, 113, 14, 114, 115, 116, 117, 118, 36, 37, 38, 39, 40, 41, 42, 906, 907, 908, 2, 909, 25, 518, 275, 276, 277, 278, 279, 280, 281, 282, 283, 284, 285, 527, 287, 288, 289, 290, 199, 196, 200, 291, 292, 293, 294, 295, 296, 195, 197, 297, 298, 299, 300, 301, 302, 303, 304, 305, 306, 307, 308, 309, 310, 311, 312, 313, 314, 315, 316, 910, 911, 912, 24, 913, 53, 52, 914, 271, 272, 273, 915, 916, 917, 918, 919, 1032, 1033, 1034, 1035, 1036, 1037, 1038, 1039, 1067, 1068, 1069, 1070, 1071, 1072, 1073, 1074, 1075, 1076, 1077, 1078, 1081, 1082] (by decide +kernel) (by decide +kernel)
set_option maxRecDepth 20000 in
theorem gL_law_X4_whoTold : GoodIn wsL_law (wsV RL 139 RX4 yX4_whoTold wsX4_whoTold) := goodIn_app (goodIn_of _ (by decide +kernel)) ggL_law_X4_whoTold
set_option maxRecDepth 20000 in
theorem ggL_law_X5_whoTold : GoodIn wsL_law wsX5_whoTold := goodIn_r _ [923, 388, 924, 925, 926, 5, 927, 928, 78, 65, 64, 77, 415, 416, 417, 418, 68, 69, 419, 420, 421, 422, 593, 594, 595, 596, 382, 383, 384, 385, 386, 387, 63, 66, 67, 389, 390, 391, 392, 393, 394, 74, 395, 396, 397, 398, 423, 424, 425, 426, 427, 428, 429, 430, 431, 432, 433, 434, 435, 436, 437, 438, 439, 440, 441, 442, 443, 444, 445, 446, 447, 448, 449, 597, 598, 599, 600, 1040, 1041, 1042, 1043, 1044, 1045, 1046, 1047, 1048, 1049, 1050, 1051, 1052, 1053, 1054, 1055, 1056, 1057, 1058, 1059, 1060, 1061, 1062, 1063, 1064, 1065, 1066] (by decide +kernel) (by decide +kernel)
set_option maxRecDepth 20000 in
theorem gL_law_X5_whoTold : GoodIn wsL_law (wsV RL 142 RX5 yX5_whoTold wsX5_whoTold) := goodIn_app (goodIn_of _ (by decide +kernel)) ggL_law_X5_whoTold
set_option maxRecDepth 20000 in
theorem ggL_law_X4_whatIs : GoodIn wsL_law wsX4_whatIs := goodIn_r _ [932, 15, 16, 511, 512, 515, 279, 280, 14, 281, 116, 83, 84, 85, 2, 86, 31, 111, 112, 113, 114, 115, 117, 118, 36, 37, 38, 39, 40, 41, 42, 906, 907, 908, 909, 25, 518, 275, 276, 277, 278, 282, 283, 284, 285, 527, 287, 288, 289, 290, 199, 196, 200, 291, 292, 293, 294, 295, 296, 195, 197, 297, 298, 299, 300, 301, 302, 303, 304, 305, 306, 307, 308, 309, 310, 311, 312, 313, 314, 315, 316, 910, 911, 912, 24, 913, 53, 52, 914, 271, 272, 273, 915, 916, 917, 918, 919, 1032, 1033, 1034, 1035, 1036, 1037, 1038, 1039, 1067, 1068, 1069, 1070, 1071, 1072, 1073, 1074, 1075, 1076, 1077, 1078, 1081, 1082] (by decide +kernel) (by decide +kernel)
set_option maxRecDepth 20000 in
theorem gL_law_X4_whatIs : GoodIn wsL_law (wsV RL 143 RX4 yX4_whatIs wsX4_whatIs) := goodIn_app (goodIn_of _ (by decide +kernel)) ggL_law_X4_whatIs
set_option maxRecDepth 20000 in
theorem ggL_law_X5_whatIs : GoodIn wsL_law wsX5_whatIs := goodIn_r _ [936, 66, 67, 419, 420, 421, 5, 422, 388, 379, 380, 381, 103, 104, 105, 106, 62, 937, 938, 939, 940, 924, 925, 926, 927, 928, 78, 65, 64, 77, 415, 416, 417, 418, 68, 69, 593, 594, 595, 596, 382, 383, 384, 385, 386, 387, 63, 389, 390, 391, 392, 393, 394, 74, 395, 396, 397, 398, 423, 424, 425, 426, 427, 428, 429, 430, 431, 432, 433, 434, 435, 436, 437, 438, 439, 440, 441, 442, 443, 444, 445, 446, 447, 448, 449, 597, 598, 599, 600, 1040, 1041, 1042, 1043, 1044, 1045, 1046, 1047, 1048, 1049, 1050, 1051, 1052, 1053, 1054, 1055, 1056, 1057, 1058, 1059, 1060, 1061, 1062, 1063, 1064, 1065, 1066] (by decide +kernel) (by decide +kernel)
set_option maxRecDepth 20000 in
theorem gL_law_X5_whatIs : GoodIn wsL_law (wsV RL 146 RX5 yX5_whatIs wsX5_whatIs) := goodIn_app (goodIn_of _ (by decide +kernel)) ggL_law_X5_whatIs
set_option maxRecDepth 20000 in
theorem ggL_law_X4_row : GoodIn wsL_law wsX4_row := goodIn_r _ [944, 25, 83, 84, 85, 2, 86, 31, 945, 946, 947, 24, 948, 53, 949, 950, 951, 952, 52, 1032, 1033, 1034, 1035, 1036, 1037, 1038, 1039, 1081, 1082] (by decide +kernel) (by decide +kernel)
set_option maxRecDepth 20000 in
theorem gL_law_X4_row : GoodIn wsL_law (wsV RL 147 RX4 yX4_row wsX4_row) := goodIn_app (goodIn_of _ (by decide +kernel)) ggL_law_X4_row
set_option maxRecDepth 20000 in
theorem ggL_law_X5_row : GoodIn wsL_law wsX5_row := goodIn_r _ [956, 928, 77, 100, 101, 5, 102, 103, 104, 105, 106, 62, 1040, 1041, 1042, 1043, 1044, 1045, 1046, 1047, 1048, 1049, 1050, 1051, 1052, 1053, 1054, 1055, 1056, 1057, 1058, 1059, 1060, 1061, 1062, 1063, 1064, 1065, 1066] (by decide +kernel) (by decide +kernel)
set_option maxRecDepth 20000 in
theorem gL_law_X5_row : GoodIn wsL_law (wsV RL 150 RX5 yX5_row wsX5_row) := goodIn_app (goodIn_of _ (by decide +kernel)) ggL_law_X5_row
set_option maxRecDepth 20000 in
theorem ggL_law_X4_judge : GoodIn wsL_law wsX4_judge := goodIn_r _ [960, 25, 15, 961, 962, 963, 24, 964, 53, 52, 914, 271, 272, 14, 273, 115, 965, 314, 315, 316, 36, 117, 297, 298, 299, 300, 118, 966, 967, 968, 969, 1032, 1033, 1034, 1035, 1036, 1037, 1038, 1039, 1081, 1082, 1067, 1068, 1069, 1070, 1071, 1072, 1073, 1074, 1075, 1076, 1077, 1078] (by decide +kernel) (by decide +kernel)
set_option maxRecDepth 20000 in
theorem gL_law_X4_judge : GoodIn wsL_law (wsV RL 151 RX4 yX4_judge wsX4_judge) := goodIn_app (goodIn_of _ (by decide +kernel)) ggL_law_X4_judge
set_option maxRecDepth 20000 in
theorem ggL_law_X5_judge : GoodIn wsL_law wsX5_judge := goodIn_r _ [973, 928, 78, 77, 446, 447, 448, 5, 449, 63, 390, 389, 1040, 1041, 1042, 1043, 1044, 1045, 1046, 1047, 1048, 1049, 1050, 1051, 1052, 1053, 1054, 1055, 1056, 1057, 1058, 1059, 1060, 1061, 1062, 1063, 1064, 1065, 1066] (by decide +kernel) (by decide +kernel)
set_option maxRecDepth 20000 in
theorem gL_law_X5_judge : GoodIn wsL_law (wsV RL 154 RX5 yX5_judge wsX5_judge) := goodIn_app (goodIn_of _ (by decide +kernel)) ggL_law_X5_judge
set_option maxRecDepth 20000 in
theorem ggL_law_X4_clear : GoodIn wsL_law wsX4_clear := goodIn_r _ [977, 25, 966, 967, 968, 24, 969, 53, 1032, 1033, 1034, 1035, 1036, 1037, 1038, 1039, 1081, 1082] (by decide +kernel) (by decide +kernel)
set_option maxRecDepth 20000 in
theorem gL_law_X4_clear : GoodIn wsL_law (wsV RL 155 RX4 yX4_clear wsX4_clear) := goodIn_app (goodIn_of _ (by decide +kernel)) ggL_law_X4_clear
set_option maxRecDepth 20000 in
theorem ggL_law_X5_clear : GoodIn wsL_law wsX5_clear := goodIn_r _ [981, 928, 1040, 1041, 1042, 1043, 1044, 1045, 1046, 1047, 1048, 1049, 1050, 1051, 1052, 1053, 1054, 1055, 1056, 1057, 1058, 1059, 1060, 1061, 1062, 1063, 1064, 1065, 1066] (by decide +kernel) (by decide +kernel)
set_option maxRecDepth 20000 in
theorem gL_law_X5_clear : GoodIn wsL_law (wsV RL 158 RX5 yX5_clear wsX5_clear) := goodIn_app (goodIn_of _ (by decide +kernel)) ggL_law_X5_clear
set_option maxRecDepth 20000 in
theorem ggL_law_X4_lots : GoodIn wsL_law wsX4_lots := goodIn_r _ [985, 15, 706, 29, 986, 16, 83, 84, 85, 2, 86, 31, 111, 112, 113, 14, 114, 115, 116, 117, 118, 36, 37, 38, 39, 40, 41, 42, 987, 988, 989, 990, 991, 992, 993, 28, 994, 57, 995, 996, 997, 527, 287, 288, 289, 290, 199, 196, 200, 291, 275, 276, 277, 278, 279, 280, 281, 282, 283, 284, 285, 292, 293, 294, 295, 296, 195, 197, 297, 298, 299, 300, 301, 302, 303, 304, 305, 306, 307, 308, 309, 310, 311, 312, 313, 314, 315, 316, 569, 335, 336, 337, 338, 339, 340, 341, 342, 343, 344, 345, 890, 891, 892, 893, 1032, 1033, 1034, 1035, 1036, 1037, 1038, 1039, 1067, 1068, 1069, 1070, 1071, 1072, 1073, 1074, 1075, 1076, 1077, 1078, 1083] (by decide +kernel) (by decide +kernel)
set_option maxRecDepth 20000 in
theorem gL_law_X4_lots : GoodIn wsL_law (wsV RL 159 RX4 yX4_lots wsX4_lots) := goodIn_app (goodIn_of _ (by decide +kernel)) ggL_law_X4_lots
set_option maxRecDepth 20000 in
theorem ggL_law_X5_lots : GoodIn wsL_law wsX5_lots := goodIn_r _ [1001, 388, 1002, 1003, 1004, 100, 101, 5, 102, 379, 380, 381, 103, 104, 105, 106, 62, 593, 594, 595, 596, 382, 383, 384, 385, 386, 387, 63, 64, 65, 66, 67, 68, 69, 78, 389, 390, 391, 392, 393, 394, 74, 395, 396, 397, 398, 415, 416, 417, 418, 419, 420, 421, 422, 423, 424, 425, 426, 427, 428, 429, 430, 431, 432, 433, 434, 435, 436, 437, 438, 439, 440, 441, 442, 443, 444, 445, 446, 447, 448, 449, 458, 459, 460, 461, 462, 463, 464, 465, 898, 899, 900, 901, 597, 598, 599, 600, 1040, 1041, 1042, 1043, 1044, 1045, 1046, 1047, 1048, 1049, 1050, 1051, 1052, 1053, 1054, 1055, 1056, 1057, 1058, 1059, 1060, 1061, 1062, 1063, 1064, 1065, 1066] (by decide +kernel) (by decide +kernel)
set_option maxRecDepth 20000 in
theorem gL_law_X5_lots : GoodIn wsL_law (wsV RL 162 RX5 yX5_lots wsX5_lots) := goodIn_app (goodIn_of _ (by decide +kernel)) ggL_law_X5_lots
set_option maxRecDepth 20000 in
theorem ggL_law_X4_image : GoodIn wsL_law wsX4_image := goodIn_r _ [1008, 17, 15, 32, 799, 111, 112, 113, 14, 114, 115, 116, 117, 118, 36, 37, 38, 39, 40, 41, 42, 1032, 1033, 1034, 1035, 1036, 1037, 1038, 1039, 1067, 1068, 1069, 1070, 1071, 1072, 1073, 1074, 1075, 1076, 1077, 1078] (by decide +kernel) (by decide +kernel)
set_option maxRecDepth 20000 in
theorem gL_law_X4_image : GoodIn wsL_law (wsV RL 163 RX4 yX4_image wsX4_image) := goodIn_app (goodIn_of _ (by decide +kernel)) ggL_law_X4_image
set_option maxRecDepth 20000 in
theorem ggL_law_X5_image : GoodIn wsL_law wsX5_image := goodIn_r _ [1012, 1013, 390, 382, 383, 384, 5, 385, 386, 387, 63, 64, 65, 66, 67, 68, 69, 78, 388, 389, 391, 392, 393, 394, 74, 395, 396, 397, 398, 1040, 1041, 1042, 1043, 1044, 1045, 1046, 1047, 1048, 1049, 1050, 1051, 1052, 1053, 1054, 1055, 1056, 1057, 1058, 1059, 1060, 1061, 1062, 1063, 1064, 1065, 1066] (by decide +kernel) (by decide +kernel)
set_option maxRecDepth 20000 in
theorem gL_law_X5_image : GoodIn wsL_law (wsV RL 166 RX5 yX5_image wsX5_image) := goodIn_app (goodIn_of _ (by decide +kernel)) ggL_law_X5_image
set_option maxRecDepth 20000 in
theorem ggL_law_X4_on : GoodIn wsL_law wsX4_on := goodIn_r _ [1017, 32, 15, 17, 799, 83, 84, 85, 2, 86, 31, 111, 112, 113, 14, 114, 115, 116, 117, 118, 36, 37, 38, 39, 40, 41, 42, 1032, 1033, 1034, 1035, 1036, 1037, 1038, 1039, 1067, 1068, 1069, 1070, 1071, 1072, 1073, 1074, 1075, 1076, 1077, 1078] (by decide +kernel) (by decide +kernel)
set_option maxRecDepth 20000 in
theorem gL_law_X4_on : GoodIn wsL_law (wsV RL 167 RX4 yX4_on wsX4_on) := goodIn_app (goodIn_of _ (by decide +kernel)) ggL_law_X4_on
set_option maxRecDepth 20000 in
theorem ggL_law_X5_on : GoodIn wsL_law wsX5_on := goodIn_r _ [1021, 1013, 390, 103, 104, 105, 5, 106, 62, 382, 383, 384, 385, 386, 387, 63, 64, 65, 66, 67, 68, 69, 78, 388, 389, 391, 392, 393, 394, 74, 395, 396, 397, 398, 1040, 1041, 1042, 1043, 1044, 1045, 1046, 1047, 1048, 1049, 1050, 1051, 1052, 1053, 1054, 1055, 1056, 1057, 1058, 1059, 1060, 1061, 1062, 1063, 1064, 1065, 1066] (by decide +kernel) (by decide +kernel)
set_option maxRecDepth 20000 in
theorem gL_law_X5_on : GoodIn wsL_law (wsV RL 170 RX5 yX5_on wsX5_on) := goodIn_app (goodIn_of _ (by decide +kernel)) ggL_law_X5_on
set_option maxRecDepth 20000 in
theorem ggL_law_X4_count : GoodIn wsL_law wsX4_count := goodIn_r _ [1025, 31, 15, 613, 706, 799, 743, 25, 1026, 21, 1027, 570, 571, 572, 14, 573, 115, 282, 283, 284, 285, 38, 890, 891, 892, 893, 116, 41, 1032, 1033, 1034, 1035, 1036, 1037, 1038, 1039, 1067, 1068, 1069, 1070, 1071, 1072, 1073, 1074, 1075, 1076, 1077, 1078, 1081, 1082, 1079, 1080] (by decide +kernel) (by decide +kernel)
set_option maxRecDepth 20000 in
theorem gL_law_X4_count : GoodIn wsL_law (wsV RL 171 RX4 yX4_count wsX4_count) := goodIn_app (goodIn_of _ (by decide +kernel)) ggL_law_X4_count
set_option maxRecDepth 20000 in
theorem ggL_law_X5_count : GoodIn wsL_law wsX5_count := goodIn_r _ [1031, 62, 78, 388, 390, 389, 928, 99, 379, 380, 5, 381, 578, 579, 580, 581, 65, 898, 899, 900, 901, 68, 1040, 1041, 1042, 1043, 1044, 1045, 1046, 1047, 1048, 1049, 1050, 1051, 1052, 1053, 1054, 1055, 1056, 1057, 1058, 1059, 1060, 1061, 1062, 1063, 1064, 1065, 1066] (by decide +kernel) (by decide +kernel)
set_option maxRecDepth 20000 in
theorem gL_law_X5_count : GoodIn wsL_law (wsV RL 174 RX5 yX5_count wsX5_count) := goodIn_app (goodIn_of _ (by decide +kernel)) ggL_law_X5_count
