set_option maxRecDepth 20000 in
theorem ggL_law_X10_about : GoodIn wsL_law wsX10_about := goodIn_r _ [401, 16, 186, 368, 208, 209, 15, 210, 71, 402, 204, 205, 206, 42, 207, 403, 198, 199, 200, 201, 72, 202, 73, 203, 404, 405, 406, 2, 407, 107, 236, 237, 238, 239, 18, 408, 374, 375, 153, 376, 170, 409, 378, 379, 380, 1038, 1039, 1040, 1041, 1042, 1043, 1044, 1045, 1046, 1074, 1075, 1076, 1077, 1078, 1079, 1105, 1106, 1107, 1108, 1109, 1095, 1096, 1097, 1098, 1099, 1100, 1101, 1102, 1103, 1104] (by decide +kernel) (by decide +kernel)
set_option maxRecDepth 20000 in
theorem gL_law_X10_about : GoodIn wsL_law (wsV RL 49 RX10 yX10_about wsX10_about) := goodIn_app (goodIn_of _ (by decide +kernel)) ggL_law_X10_about
set_option maxRecDepth 20000 in
theorem ggL_law_X11_about : GoodIn wsL_law wsX11_about := goodIn_r _ [413, 215, 86, 128, 91, 394, 395, 396, 5, 397, 84, 223, 224, 225, 226, 227, 85, 123, 228, 229, 230, 231, 1047, 1048, 1049, 1050, 1051, 1052, 1053, 1054, 1055, 1056, 1057, 1058, 1059, 1060, 1061, 1062, 1063, 1064, 1065, 1066, 1067, 1068, 1069, 1070, 1071, 1072, 1073] (by decide +kernel) (by decide +kernel)
set_option maxRecDepth 20000 in
theorem gL_law_X11_about : GoodIn wsL_law (wsV RL 53 RX11 yX11_about wsX11_about) := goodIn_app (goodIn_of _ (by decide +kernel)) ggL_law_X11_about
set_option maxRecDepth 20000 in
theorem ggL_law_X10_maker : GoodIn wsL_law wsX10_maker := goodIn_r _ [417, 16, 186, 418, 419, 420, 15, 421, 71, 201, 72, 73, 203, 204, 205, 206, 42, 207, 208, 209, 210, 422, 423, 424, 425, 74, 426, 427, 428, 429, 430, 431, 312, 432, 433, 281, 282, 283, 75, 292, 293, 294, 295, 304, 434, 435, 436, 437, 1038, 1039, 1040, 1041, 1042, 1043, 1044, 1045, 1046, 1074, 1075, 1076, 1077, 1078, 1079] (by decide +kernel) (by decide +kernel)
set_option maxRecDepth 20000 in
theorem gL_law_X10_maker : GoodIn wsL_law (wsV RL 54 RX10 yX10_maker wsX10_maker) := goodIn_app (goodIn_of _ (by decide +kernel)) ggL_law_X10_maker
set_option maxRecDepth 20000 in
theorem ggL_law_X11_maker : GoodIn wsL_law wsX11_maker := goodIn_r _ [441, 126, 87, 215, 272, 273, 274, 5, 275, 84, 86, 227, 85, 220, 221, 222, 442, 443, 444, 445, 128, 91, 326, 327, 328, 329, 1047, 1048, 1049, 1050, 1051, 1052, 1053, 1054, 1055, 1056, 1057, 1058, 1059, 1060, 1061, 1062, 1063, 1064, 1065, 1066, 1067, 1068, 1069, 1070, 1071, 1072, 1073] (by decide +kernel) (by decide +kernel)
set_option maxRecDepth 20000 in
theorem gL_law_X11_maker : GoodIn wsL_law (wsV RL 57 RX11 yX11_maker wsX11_maker) := goodIn_app (goodIn_of _ (by decide +kernel)) ggL_law_X11_maker
set_option maxRecDepth 20000 in
theorem ggL_law_X10_of : GoodIn wsL_law wsX10_of := goodIn_r _ [449, 186, 236, 237, 238, 2, 239, 107, 18, 296, 297, 298, 153, 299, 169, 300, 301, 302, 303, 305, 306, 307, 308, 309, 170, 310, 311, 312, 313, 195, 196, 314, 315, 316, 317, 351, 352, 353, 354, 346, 355, 356, 357, 358, 450, 451, 452, 453, 454, 455, 456, 457, 458, 148, 459, 460, 461, 151, 462, 463, 464, 465, 466, 171, 467, 468, 469, 470, 471, 472, 473, 474, 16, 368, 208, 209, 15, 210, 71, 408, 374, 375, 376, 409, 378, 379, 380, 475, 476, 477, 478, 479, 480, 481, 482, 1038, 1039, 1040, 1041, 1042, 1043, 1044, 1045, 1046, 1105, 1106, 1107, 1108, 1109, 1095, 1096, 1097, 1098, 1099, 1100, 1101, 1102, 1103, 1104, 1074, 1075, 1076, 1077, 1078, 1079] (by decide +kernel) (by decide +kernel)
set_option maxRecDepth 20000 in
theorem gL_law_X10_of : GoodIn wsL_law (wsV RL 58 RX10 yX10_of wsX10_of) := goodIn_app (goodIn_of _ (by decide +kernel)) ggL_law_X10_of
set_option maxRecDepth 20000 in
theorem ggL_law_X11_of : GoodIn wsL_law wsX11_of := goodIn_r _ [486, 215, 91, 92, 89, 90, 88, 260, 261, 262, 5, 263, 128, 394, 395, 396, 397, 84, 330, 331, 332, 333, 220, 221, 222, 487, 488, 489, 490, 1047, 1048, 1049, 1050, 1051, 1052, 1053, 1054, 1055, 1056, 1057, 1058, 1059, 1060, 1061, 1062, 1063, 1064, 1065, 1066, 1067, 1068, 1069, 1070, 1071, 1072, 1073] (by decide +kernel) (by decide +kernel)
set_option maxRecDepth 20000 in
theorem gL_law_X11_of : GoodIn wsL_law (wsV RL 61 RX11 yX11_of wsX11_of) := goodIn_app (goodIn_of _ (by decide +kernel)) ggL_law_X11_of
set_option maxRecDepth 20000 in
theorem ggL_law_X10_believe : GoodIn wsL_law wsX10_believe := goodIn_r _ [494, 16, 236, 237, 238, 2, 239, 107, 18, 368, 208, 209, 15, 210, 71, 495, 496, 497, 475, 476, 477, 153, 478, 171, 479, 480, 481, 482, 463, 464, 465, 466, 467, 468, 469, 470, 498, 499, 500, 501, 502, 503, 504, 505, 1038, 1039, 1040, 1041, 1042, 1043, 1044, 1045, 1046, 1074, 1075, 1076, 1077, 1078, 1079, 1105, 1106, 1107, 1108, 1109, 1095, 1096, 1097, 1098, 1099, 1100, 1101, 1102, 1103, 1104] (by decide +kernel) (by decide +kernel)
set_option maxRecDepth 20000 in
theorem gL_law_X10_believe : GoodIn wsL_law (wsV RL 62 RX10 yX10_believe wsX10_believe) := goodIn_app (goodIn_of _ (by decide +kernel)) ggL_law_X10_believe
set_option maxRecDepth 20000 in
theorem ggL_law_X11_believe : GoodIn wsL_law wsX11_believe := goodIn_r _ [509, 510, 92, 260, 261, 262, 5, 263, 128, 394, 395, 396, 397, 84, 131, 132, 133, 487, 488, 489, 490, 1047, 1048, 1049, 1050, 1051, 1052, 1053, 1054, 1055, 1056, 1057, 1058, 1059, 1060, 1061, 1062, 1063, 1064, 1065, 1066, 1067, 1068, 1069, 1070, 1071, 1072, 1073] (by decide +kernel) (by decide +kernel)
set_option maxRecDepth 20000 in
theorem gL_law_X11_believe : GoodIn wsL_law (wsV RL 65 RX11 yX11_believe wsX11_believe) := goodIn_app (goodIn_of _ (by decide +kernel)) ggL_law_X11_believe
