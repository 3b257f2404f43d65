set_option maxRecDepth 20000 in
theorem ggL_law_X10_quote : GoodIn wsL_law wsX10_quote := goodIn_r _ [235, 186, 16, 236, 237, 238, 2, 239, 107, 18, 240, 241, 242, 243, 187, 188, 189, 15, 190, 71, 244, 245, 246, 247, 248, 249, 250, 251, 252, 253, 254, 255, 192, 193, 194, 195, 196, 197, 198, 199, 200, 201, 72, 202, 73, 203, 204, 205, 206, 42, 207, 208, 209, 210, 1038, 1039, 1040, 1041, 1042, 1043, 1044, 1045, 1046, 1074, 1075, 1076, 1077, 1078, 1079] (by decide +kernel) (by decide +kernel)
set_option maxRecDepth 20000 in
theorem gL_law_X10_quote : GoodIn wsL_law (wsV RL 30 RX10 yX10_quote wsX10_quote) := goodIn_app (goodIn_of _ (by decide +kernel)) ggL_law_X10_quote
set_option maxRecDepth 20000 in
theorem ggL_law_X11_quote : GoodIn wsL_law wsX11_quote := goodIn_r _ [259, 215, 260, 261, 262, 5, 263, 128, 216, 217, 218, 219, 84, 123, 131, 132, 133, 264, 265, 266, 267, 125, 268, 269, 270, 271, 272, 273, 274, 275, 86, 227, 85, 220, 221, 222, 1047, 1048, 1049, 1050, 1051, 1052, 1053, 1054, 1055, 1056, 1057, 1058, 1059, 1060, 1061, 1062, 1063, 1064, 1065, 1066, 1067, 1068, 1069, 1070, 1071, 1072, 1073] (by decide +kernel) (by decide +kernel)
set_option maxRecDepth 20000 in
theorem gL_law_X11_quote : GoodIn wsL_law (wsV RL 34 RX11 yX11_quote wsX11_quote) := goodIn_app (goodIn_of _ (by decide +kernel)) ggL_law_X11_quote
set_option maxRecDepth 20000 in
theorem ggL_law_X10_barred : GoodIn wsL_law wsX10_barred := goodIn_r _ [279, 16, 236, 237, 238, 2, 239, 107, 18, 240, 241, 242, 243, 187, 188, 189, 15, 190, 71, 280, 281, 282, 283, 75, 284, 285, 286, 287, 288, 289, 290, 291, 202, 248, 249, 250, 251, 252, 253, 254, 195, 196, 197, 198, 199, 200, 201, 72, 73, 203, 204, 205, 206, 42, 207, 208, 209, 210, 292, 293, 294, 295, 296, 297, 298, 153, 299, 169, 300, 301, 302, 303, 244, 245, 246, 247, 255, 192, 193, 194, 304, 305, 306, 307, 308, 309, 170, 310, 311, 312, 313, 314, 315, 316, 317, 1038, 1039, 1040, 1041, 1042, 1043, 1044, 1045, 1046, 1074, 1075, 1076, 1077, 1078, 1079, 1105, 1106, 1107, 1108, 1109, 1095, 1096, 1097, 1098, 1099, 1100, 1101, 1102, 1103, 1104] (by decide +kernel) (by decide +kernel)
set_option maxRecDepth 20000 in
theorem gL_law_X10_barred : GoodIn wsL_law (wsV RL 35 RX10 yX10_barred wsX10_barred) := goodIn_app (goodIn_of _ (by decide +kernel)) ggL_law_X10_barred
set_option maxRecDepth 20000 in
theorem ggL_law_X11_barred : GoodIn wsL_law wsX11_barred := goodIn_r _ [321, 87, 260, 261, 262, 5, 263, 128, 216, 217, 218, 219, 84, 123, 131, 132, 133, 264, 265, 266, 267, 125, 322, 323, 324, 325, 227, 85, 86, 89, 228, 229, 230, 231, 220, 221, 222, 326, 327, 328, 329, 268, 269, 270, 271, 272, 273, 274, 275, 330, 331, 332, 333, 91, 1047, 1048, 1049, 1050, 1051, 1052, 1053, 1054, 1055, 1056, 1057, 1058, 1059, 1060, 1061, 1062, 1063, 1064, 1065, 1066, 1067, 1068, 1069, 1070, 1071, 1072, 1073] (by decide +kernel) (by decide +kernel)
set_option maxRecDepth 20000 in
theorem gL_law_X11_barred : GoodIn wsL_law (wsV RL 39 RX11 yX11_barred wsX11_barred) := goodIn_app (goodIn_of _ (by decide +kernel)) ggL_law_X11_barred
set_option maxRecDepth 20000 in
theorem ggL_law_X10_deal : GoodIn wsL_law wsX10_deal := goodIn_r _ [337, 16, 236, 237, 238, 2, 239, 107, 18, 240, 241, 242, 243, 187, 188, 189, 15, 190, 71, 280, 281, 282, 283, 75, 284, 285, 286, 287, 288, 289, 290, 291, 202, 248, 249, 250, 251, 252, 253, 254, 195, 196, 197, 198, 199, 200, 201, 72, 73, 203, 204, 205, 206, 42, 207, 208, 209, 210, 292, 293, 294, 295, 296, 297, 298, 153, 299, 169, 300, 301, 302, 303, 244, 245, 246, 247, 255, 192, 193, 194, 304, 305, 306, 307, 308, 309, 170, 310, 311, 312, 313, 314, 315, 316, 317, 338, 339, 340, 341, 74, 342, 343, 344, 345, 346, 347, 348, 349, 350, 351, 352, 353, 354, 355, 356, 357, 358, 1038, 1039, 1040, 1041, 1042, 1043, 1044, 1045, 1046, 1074, 1075, 1076, 1077, 1078, 1079, 1105, 1106, 1107, 1108, 1109, 1095, 1096, 1097, 1098, 1099, 1100, 1101, 1102, 1103, 1104] (by decide +kernel) (by decide +kernel)
set_option maxRecDepth 20000 in
theorem gL_law_X10_deal : GoodIn wsL_law (wsV RL 40 RX10 yX10_deal wsX10_deal) := goodIn_app (goodIn_of _ (by decide +kernel)) ggL_law_X10_deal
set_option maxRecDepth 20000 in
theorem ggL_law_X11_deal : GoodIn wsL_law wsX11_deal := goodIn_r _ [362, 89, 126, 84, 86, 91, 90, 127, 363, 319, 320, 5, 321, 87, 260, 261, 262, 263, 128, 216, 217, 218, 219, 123, 131, 132, 133, 264, 265, 266, 267, 125, 322, 323, 324, 325, 227, 85, 228, 229, 230, 231, 220, 221, 222, 326, 327, 328, 329, 268, 269, 270, 271, 272, 273, 274, 275, 330, 331, 332, 333, 1047, 1048, 1049, 1050, 1051, 1052, 1053, 1054, 1055, 1056, 1057, 1058, 1059, 1060, 1061, 1062, 1063, 1064, 1065, 1066, 1067, 1068, 1069, 1070, 1071, 1072, 1073] (by decide +kernel) (by decide +kernel)
set_option maxRecDepth 20000 in
theorem gL_law_X11_deal : GoodIn wsL_law (wsV RL 43 RX11 yX11_deal wsX11_deal) := goodIn_app (goodIn_of _ (by decide +kernel)) ggL_law_X11_deal
set_option maxRecDepth 20000 in
theorem ggL_law_X10_comes : GoodIn wsL_law wsX10_comes := goodIn_r _ [367, 16, 107, 368, 208, 209, 15, 210, 71, 280, 281, 282, 283, 75, 236, 237, 238, 2, 239, 18, 304, 293, 294, 295, 201, 72, 369, 370, 371, 153, 372, 169, 170, 373, 374, 375, 376, 377, 378, 379, 380, 381, 77, 78, 79, 382, 383, 384, 385, 386, 387, 388, 389, 74, 1038, 1039, 1040, 1041, 1042, 1043, 1044, 1045, 1046, 1074, 1075, 1076, 1077, 1078, 1079, 1105, 1106, 1107, 1108, 1109, 1095, 1096, 1097, 1098, 1099, 1100, 1101, 1102, 1103, 1104] (by decide +kernel) (by decide +kernel)
set_option maxRecDepth 20000 in
theorem gL_law_X10_comes : GoodIn wsL_law (wsV RL 44 RX10 yX10_comes wsX10_comes) := goodIn_app (goodIn_of _ (by decide +kernel)) ggL_law_X10_comes
set_option maxRecDepth 20000 in
theorem ggL_law_X11_comes : GoodIn wsL_law wsX11_comes := goodIn_r _ [393, 87, 128, 91, 89, 126, 394, 395, 396, 5, 397, 84, 326, 327, 328, 329, 227, 85, 1047, 1048, 1049, 1050, 1051, 1052, 1053, 1054, 1055, 1056, 1057, 1058, 1059, 1060, 1061, 1062, 1063, 1064, 1065, 1066, 1067, 1068, 1069, 1070, 1071, 1072, 1073] (by decide +kernel) (by decide +kernel)
set_option maxRecDepth 20000 in
theorem gL_law_X11_comes : GoodIn wsL_law (wsV RL 48 RX11 yX11_comes wsX11_comes) := goodIn_app (goodIn_of _ (by decide +kernel)) ggL_law_X11_comes
