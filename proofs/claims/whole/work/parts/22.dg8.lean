set_option maxRecDepth 20000 in
theorem ggL_law_X10_told : GoodIn wsL_law wsX10_told := goodIn_r _ [1017, 16, 107, 22, 26, 154, 155, 156, 15, 157, 71, 1018, 1019, 1020, 1021, 72, 1022, 1023, 1024, 21, 1025, 112, 1026, 1027, 1028, 25, 1029, 118, 1030, 1031, 1032, 2, 1033, 236, 237, 238, 239, 18, 351, 352, 353, 153, 354, 346, 355, 356, 357, 358, 1038, 1039, 1040, 1041, 1042, 1043, 1044, 1045, 1046, 1074, 1075, 1076, 1077, 1078, 1079, 1080, 1081, 1082, 1083, 1084, 1085, 1086, 1087, 1088, 1089, 1105, 1106, 1107, 1108, 1109, 1095, 1096, 1097, 1098, 1099, 1100, 1101, 1102, 1103, 1104] (by decide +kernel) (by decide +kernel)
set_option maxRecDepth 20000 in
theorem gL_law_X10_told : GoodIn wsL_law (wsV RL 148 RX10 yX10_told wsX10_told) := goodIn_app (goodIn_of _ (by decide +kernel)) ggL_law_X10_told
set_option maxRecDepth 20000 in
theorem ggL_law_X11_told : GoodIn wsL_law wsX11_told := goodIn_r _ [1037, 84, 85, 128, 129, 130, 127, 1047, 1048, 1049, 1050, 1051, 1052, 1053, 1054, 1055, 1056, 1057, 1058, 1059, 1060, 1061, 1062, 1063, 1064, 1065, 1066, 1067, 1068, 1069, 1070, 1071, 1072, 1073] (by decide +kernel) (by decide +kernel)
set_option maxRecDepth 20000 in
theorem gL_law_X11_told : GoodIn wsL_law (wsV RL 151 RX11 yX11_told wsX11_told) := goodIn_app (goodIn_of _ (by decide +kernel)) ggL_law_X11_told
