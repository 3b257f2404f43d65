set_option maxRecDepth 20000 in
theorem ggL_law_X10_lose : GoodIn wsL_law wsX10_lose := goodIn_r _ [873, 516, 517, 518, 2, 519, 28, 874, 875, 876, 36, 877, 531, 1038, 1039, 1040, 1041, 1042, 1043, 1044, 1045, 1046, 1091, 1092, 1093, 1094] (by decide +kernel) (by decide +kernel)
set_option maxRecDepth 20000 in
theorem gL_law_X10_lose : GoodIn wsL_law (wsV RL 116 RX10 yX10_lose wsX10_lose) := goodIn_app (goodIn_of _ (by decide +kernel)) ggL_law_X10_lose
set_option maxRecDepth 20000 in
theorem ggL_law_X11_lose : GoodIn wsL_law wsX11_lose := goodIn_r _ [881, 559, 93, 131, 132, 5, 133, 1047, 1048, 1049, 1050, 1051, 1052, 1053, 1054, 1055, 1056, 1057, 1058, 1059, 1060, 1061, 1062, 1063, 1064, 1065, 1066, 1067, 1068, 1069, 1070, 1071, 1072, 1073] (by decide +kernel) (by decide +kernel)
set_option maxRecDepth 20000 in
theorem gL_law_X11_lose : GoodIn wsL_law (wsV RL 119 RX11 yX11_lose wsX11_lose) := goodIn_app (goodIn_of _ (by decide +kernel)) ggL_law_X11_lose
set_option maxRecDepth 20000 in
theorem ggL_law_X10_put : GoodIn wsL_law wsX10_put := goodIn_r _ [885, 515, 516, 517, 518, 2, 519, 28, 886, 534, 535, 36, 536, 531, 537, 538, 539, 540, 541, 887, 888, 889, 890, 66, 891, 892, 893, 894, 532, 1038, 1039, 1040, 1041, 1042, 1043, 1044, 1045, 1046, 1091, 1092, 1093, 1094] (by decide +kernel) (by decide +kernel)
set_option maxRecDepth 20000 in
theorem gL_law_X10_put : GoodIn wsL_law (wsV RL 120 RX10 yX10_put wsX10_put) := goodIn_app (goodIn_of _ (by decide +kernel)) ggL_law_X10_put
set_option maxRecDepth 20000 in
theorem ggL_law_X11_put : GoodIn wsL_law wsX11_put := goodIn_r _ [898, 558, 559, 93, 94, 95, 131, 132, 5, 133, 564, 565, 566, 567, 1047, 1048, 1049, 1050, 1051, 1052, 1053, 1054, 1055, 1056, 1057, 1058, 1059, 1060, 1061, 1062, 1063, 1064, 1065, 1066, 1067, 1068, 1069, 1070, 1071, 1072, 1073] (by decide +kernel) (by decide +kernel)
set_option maxRecDepth 20000 in
theorem gL_law_X11_put : GoodIn wsL_law (wsV RL 123 RX11 yX11_put wsX11_put) := goodIn_app (goodIn_of _ (by decide +kernel)) ggL_law_X11_put
set_option maxRecDepth 20000 in
theorem ggL_law_X10_at : GoodIn wsL_law wsX10_at := goodIn_r _ [902, 515, 186, 516, 517, 518, 2, 519, 28, 524, 525, 526, 527, 528, 529, 36, 530, 531, 532, 533, 534, 535, 536, 537, 538, 539, 540, 541, 542, 543, 544, 545, 66, 1038, 1039, 1040, 1041, 1042, 1043, 1044, 1045, 1046, 1091, 1092, 1093, 1094] (by decide +kernel) (by decide +kernel)
set_option maxRecDepth 20000 in
theorem gL_law_X10_at : GoodIn wsL_law (wsV RL 124 RX10 yX10_at wsX10_at) := goodIn_app (goodIn_of _ (by decide +kernel)) ggL_law_X10_at
set_option maxRecDepth 20000 in
theorem ggL_law_X11_at : GoodIn wsL_law wsX11_at := goodIn_r _ [906, 558, 559, 123, 215, 93, 94, 95, 131, 132, 5, 133, 907, 908, 909, 910, 1047, 1048, 1049, 1050, 1051, 1052, 1053, 1054, 1055, 1056, 1057, 1058, 1059, 1060, 1061, 1062, 1063, 1064, 1065, 1066, 1067, 1068, 1069, 1070, 1071, 1072, 1073] (by decide +kernel) (by decide +kernel)
set_option maxRecDepth 20000 in
theorem gL_law_X11_at : GoodIn wsL_law (wsV RL 127 RX11 yX11_at wsX11_at) := goodIn_app (goodIn_of _ (by decide +kernel)) ggL_law_X11_at
set_option maxRecDepth 20000 in
theorem ggL_law_X10_tell : GoodIn wsL_law wsX10_tell := goodIn_r _ [914, 32, 236, 237, 238, 2, 239, 107, 18, 915, 916, 917, 153, 918, 919, 920, 921, 922, 346, 923, 924, 925, 31, 926, 927, 928, 929, 930, 931, 932, 933, 934, 935, 936, 148, 937, 938, 939, 940, 941, 942, 151, 943, 944, 945, 946, 947, 948, 949, 950, 951, 952, 1038, 1039, 1040, 1041, 1042, 1043, 1044, 1045, 1046, 1105, 1106, 1107, 1108, 1109, 1095, 1096, 1097, 1098, 1099, 1100, 1101, 1102, 1103, 1104, 1090] (by decide +kernel) (by decide +kernel)
set_option maxRecDepth 20000 in
theorem gL_law_X10_tell : GoodIn wsL_law (wsV RL 128 RX10 yX10_tell wsX10_tell) := goodIn_app (goodIn_of _ (by decide +kernel)) ggL_law_X10_tell
set_option maxRecDepth 20000 in
theorem ggL_law_X11_tell : GoodIn wsL_law wsX11_tell := goodIn_r _ [956, 88, 90, 260, 261, 262, 5, 263, 128, 957, 958, 959, 960, 961, 1047, 1048, 1049, 1050, 1051, 1052, 1053, 1054, 1055, 1056, 1057, 1058, 1059, 1060, 1061, 1062, 1063, 1064, 1065, 1066, 1067, 1068, 1069, 1070, 1071, 1072, 1073] (by decide +kernel) (by decide +kernel)
set_option maxRecDepth 20000 in
theorem gL_law_X11_tell : GoodIn wsL_law (wsV RL 131 RX11 yX11_tell wsX11_tell) := goodIn_app (goodIn_of _ (by decide +kernel)) ggL_law_X11_tell
