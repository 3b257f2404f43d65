set_option maxRecDepth 20000 in
theorem ggL_law_X10_beliefs : GoodIn wsL_law wsX10_beliefs := goodIn_r _ [514, 515, 34, 236, 237, 238, 2, 239, 107, 18, 516, 517, 518, 519, 28, 520, 521, 522, 523, 16, 524, 525, 526, 154, 155, 156, 15, 157, 71, 527, 528, 529, 36, 530, 531, 532, 533, 534, 535, 536, 537, 538, 539, 540, 541, 542, 543, 544, 545, 66, 495, 496, 497, 546, 547, 548, 153, 549, 171, 550, 551, 552, 553, 1038, 1039, 1040, 1041, 1042, 1043, 1044, 1045, 1046, 1074, 1075, 1076, 1077, 1078, 1079, 1091, 1092, 1093, 1094, 1105, 1106, 1107, 1108, 1109, 1095, 1096, 1097, 1098, 1099, 1100, 1101, 1102, 1103, 1104] (by decide +kernel) (by decide +kernel)
set_option maxRecDepth 20000 in
theorem gL_law_X10_beliefs : GoodIn wsL_law (wsV RL 66 RX10 yX10_beliefs wsX10_beliefs) := goodIn_app (goodIn_of _ (by decide +kernel)) ggL_law_X10_beliefs
set_option maxRecDepth 20000 in
theorem ggL_law_X11_beliefs : GoodIn wsL_law wsX11_beliefs := goodIn_r _ [557, 558, 559, 84, 92, 95, 260, 261, 262, 5, 263, 128, 131, 132, 133, 560, 561, 562, 563, 123, 93, 94, 510, 564, 565, 566, 567, 487, 488, 489, 490, 1047, 1048, 1049, 1050, 1051, 1052, 1053, 1054, 1055, 1056, 1057, 1058, 1059, 1060, 1061, 1062, 1063, 1064, 1065, 1066, 1067, 1068, 1069, 1070, 1071, 1072, 1073] (by decide +kernel) (by decide +kernel)
set_option maxRecDepth 20000 in
theorem gL_law_X11_beliefs : GoodIn wsL_law (wsV RL 70 RX11 yX11_beliefs wsX11_beliefs) := goodIn_app (goodIn_of _ (by decide +kernel)) ggL_law_X11_beliefs
set_option maxRecDepth 20000 in
theorem ggL_law_X10_worth : GoodIn wsL_law wsX10_worth := goodIn_r _ [571, 186, 236, 237, 238, 2, 239, 107, 18, 240, 241, 242, 243, 16, 187, 188, 189, 15, 190, 71, 572, 573, 574, 575, 576, 577, 578, 153, 579, 171, 195, 196, 580, 581, 582, 583, 304, 293, 294, 295, 201, 72, 463, 464, 465, 466, 467, 468, 469, 470, 244, 245, 246, 247, 248, 249, 250, 251, 252, 253, 254, 255, 192, 193, 194, 197, 198, 199, 200, 202, 73, 203, 204, 205, 206, 42, 207, 208, 209, 210, 1038, 1039, 1040, 1041, 1042, 1043, 1044, 1045, 1046, 1074, 1075, 1076, 1077, 1078, 1079, 1105, 1106, 1107, 1108, 1109, 1095, 1096, 1097, 1098, 1099, 1100, 1101, 1102, 1103, 1104] (by decide +kernel) (by decide +kernel)
set_option maxRecDepth 20000 in
theorem gL_law_X10_worth : GoodIn wsL_law (wsV RL 71 RX10 yX10_worth wsX10_worth) := goodIn_app (goodIn_of _ (by decide +kernel)) ggL_law_X10_worth
set_option maxRecDepth 20000 in
theorem ggL_law_X11_worth : GoodIn wsL_law wsX11_worth := goodIn_r _ [587, 215, 260, 261, 262, 5, 263, 128, 216, 217, 218, 219, 84, 123, 131, 132, 133, 264, 265, 266, 267, 125, 588, 589, 590, 591, 92, 220, 221, 222, 326, 327, 328, 329, 227, 85, 487, 488, 489, 490, 268, 269, 270, 271, 272, 273, 274, 275, 86, 1047, 1048, 1049, 1050, 1051, 1052, 1053, 1054, 1055, 1056, 1057, 1058, 1059, 1060, 1061, 1062, 1063, 1064, 1065, 1066, 1067, 1068, 1069, 1070, 1071, 1072, 1073] (by decide +kernel) (by decide +kernel)
set_option maxRecDepth 20000 in
theorem gL_law_X11_worth : GoodIn wsL_law (wsV RL 74 RX11 yX11_worth wsX11_worth) := goodIn_app (goodIn_of _ (by decide +kernel)) ggL_law_X11_worth
set_option maxRecDepth 20000 in
theorem ggL_law_X10_best : GoodIn wsL_law wsX10_best := goodIn_r _ [595, 16, 186, 236, 237, 238, 2, 239, 107, 18, 187, 188, 189, 15, 190, 71, 280, 281, 282, 283, 75, 572, 573, 574, 575, 576, 577, 578, 153, 579, 171, 195, 196, 580, 581, 582, 583, 304, 293, 294, 295, 201, 72, 463, 464, 465, 466, 467, 468, 469, 470, 244, 245, 246, 247, 248, 249, 250, 251, 252, 253, 254, 255, 192, 193, 194, 197, 198, 199, 200, 202, 73, 203, 204, 205, 206, 42, 207, 208, 209, 210, 284, 285, 286, 287, 288, 289, 290, 291, 292, 296, 297, 298, 299, 169, 300, 301, 302, 303, 305, 306, 307, 308, 309, 170, 310, 311, 312, 313, 314, 315, 316, 317, 1038, 1039, 1040, 1041, 1042, 1043, 1044, 1045, 1046, 1074, 1075, 1076, 1077, 1078, 1079, 1105, 1106, 1107, 1108, 1109, 1095, 1096, 1097, 1098, 1099, 1100, 1101, 1102, 1103, 1104] (by decide +kernel) (by decide +kernel)
set_option maxRecDepth 20000 in
theorem gL_law_X10_best : GoodIn wsL_law (wsV RL 75 RX10 yX10_best wsX10_best) := goodIn_app (goodIn_of _ (by decide +kernel)) ggL_law_X10_best
set_option maxRecDepth 20000 in
theorem ggL_law_X11_best : GoodIn wsL_law wsX11_best := goodIn_r _ [599, 87, 215, 260, 261, 262, 5, 263, 128, 216, 217, 218, 219, 84, 123, 131, 132, 133, 588, 589, 590, 591, 92, 220, 221, 222, 326, 327, 328, 329, 227, 85, 487, 488, 489, 490, 268, 269, 270, 271, 272, 273, 274, 275, 86, 322, 323, 324, 325, 89, 228, 229, 230, 231, 330, 331, 332, 333, 91, 1047, 1048, 1049, 1050, 1051, 1052, 1053, 1054, 1055, 1056, 1057, 1058, 1059, 1060, 1061, 1062, 1063, 1064, 1065, 1066, 1067, 1068, 1069, 1070, 1071, 1072, 1073] (by decide +kernel) (by decide +kernel)
set_option maxRecDepth 20000 in
theorem gL_law_X11_best : GoodIn wsL_law (wsV RL 78 RX11 yX11_best wsX11_best) := goodIn_app (goodIn_of _ (by decide +kernel)) ggL_law_X11_best
set_option maxRecDepth 20000 in
theorem ggL_law_X10_offer : GoodIn wsL_law wsX10_offer := goodIn_r _ [603, 16, 22, 604, 605, 606, 187, 188, 189, 15, 190, 71, 607, 608, 609, 21, 610, 112, 611, 612, 613, 614, 11, 12, 615, 616, 617, 618, 619, 620, 621, 48, 113, 622, 1038, 1039, 1040, 1041, 1042, 1043, 1044, 1045, 1046, 1110, 1111, 1112, 1074, 1075, 1076, 1077, 1078, 1079, 1080, 1081, 1082, 1083, 1084, 1085, 1086, 1087] (by decide +kernel) (by decide +kernel)
set_option maxRecDepth 20000 in
theorem gL_law_X10_offer : GoodIn wsL_law (wsV RL 79 RX10 yX10_offer wsX10_offer) := goodIn_app (goodIn_of _ (by decide +kernel)) ggL_law_X10_offer
set_option maxRecDepth 20000 in
theorem ggL_law_X11_offer : GoodIn wsL_law wsX11_offer := goodIn_r _ [626, 627, 559, 129, 96, 97, 98, 216, 217, 218, 5, 219, 84, 123, 131, 132, 133, 1047, 1048, 1049, 1050, 1051, 1052, 1053, 1054, 1055, 1056, 1057, 1058, 1059, 1060, 1061, 1062, 1063, 1064, 1065, 1066, 1067, 1068, 1069, 1070, 1071, 1072, 1073] (by decide +kernel) (by decide +kernel)
set_option maxRecDepth 20000 in
theorem gL_law_X11_offer : GoodIn wsL_law (wsV RL 82 RX11 yX11_offer wsX11_offer) := goodIn_app (goodIn_of _ (by decide +kernel)) ggL_law_X11_offer
