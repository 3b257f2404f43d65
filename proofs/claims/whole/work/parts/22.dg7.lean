set_option maxRecDepth 20000 in
theorem ggL_law_X10_greet : GoodIn wsL_law wsX10_greet := goodIn_r _ [965, 32, 236, 237, 238, 2, 239, 107, 18, 966, 967, 968, 153, 969, 168, 923, 924, 925, 31, 926, 927, 970, 971, 972, 973, 974, 148, 975, 938, 976, 1038, 1039, 1040, 1041, 1042, 1043, 1044, 1045, 1046, 1105, 1106, 1107, 1108, 1109, 1095, 1096, 1097, 1098, 1099, 1100, 1101, 1102, 1103, 1104, 1090] (by decide +kernel) (by decide +kernel)
set_option maxRecDepth 20000 in
theorem gL_law_X10_greet : GoodIn wsL_law (wsV RL 132 RX10 yX10_greet wsX10_greet) := goodIn_app (goodIn_of _ (by decide +kernel)) ggL_law_X10_greet
set_option maxRecDepth 20000 in
theorem ggL_law_X11_greet : GoodIn wsL_law wsX11_greet := goodIn_r _ [980, 88, 260, 261, 262, 5, 263, 128, 957, 958, 959, 960, 961, 1047, 1048, 1049, 1050, 1051, 1052, 1053, 1054, 1055, 1056, 1057, 1058, 1059, 1060, 1061, 1062, 1063, 1064, 1065, 1066, 1067, 1068, 1069, 1070, 1071, 1072, 1073] (by decide +kernel) (by decide +kernel)
set_option maxRecDepth 20000 in
theorem gL_law_X11_greet : GoodIn wsL_law (wsV RL 135 RX11 yX11_greet wsX11_greet) := goodIn_app (goodIn_of _ (by decide +kernel)) ggL_law_X11_greet
set_option maxRecDepth 20000 in
theorem ggL_law_X10_as : GoodIn wsL_law wsX10_as := goodIn_r _ [984, 515, 236, 237, 238, 2, 239, 107, 18, 139, 140, 141, 985, 986, 987, 988, 989, 538, 539, 540, 541, 1038, 1039, 1040, 1041, 1042, 1043, 1044, 1045, 1046] (by decide +kernel) (by decide +kernel)
set_option maxRecDepth 20000 in
theorem gL_law_X10_as : GoodIn wsL_law (wsV RL 136 RX10 yX10_as wsX10_as) := goodIn_app (goodIn_of _ (by decide +kernel)) ggL_law_X10_as
set_option maxRecDepth 20000 in
theorem ggL_law_X11_as : GoodIn wsL_law wsX11_as := goodIn_r _ [993, 558, 123, 88, 260, 261, 262, 5, 263, 128, 131, 132, 133, 564, 565, 566, 567, 1047, 1048, 1049, 1050, 1051, 1052, 1053, 1054, 1055, 1056, 1057, 1058, 1059, 1060, 1061, 1062, 1063, 1064, 1065, 1066, 1067, 1068, 1069, 1070, 1071, 1072, 1073] (by decide +kernel) (by decide +kernel)
set_option maxRecDepth 20000 in
theorem gL_law_X11_as : GoodIn wsL_law (wsV RL 139 RX11 yX11_as wsX11_as) := goodIn_app (goodIn_of _ (by decide +kernel)) ggL_law_X11_as
set_option maxRecDepth 20000 in
theorem ggL_law_X10_trace : GoodIn wsL_law wsX10_trace := goodIn_r _ [997, 32, 998, 999, 1000, 31, 1001, 927, 1038, 1039, 1040, 1041, 1042, 1043, 1044, 1045, 1046, 1090] (by decide +kernel) (by decide +kernel)
set_option maxRecDepth 20000 in
theorem gL_law_X10_trace : GoodIn wsL_law (wsV RL 140 RX10 yX10_trace wsX10_trace) := goodIn_app (goodIn_of _ (by decide +kernel)) ggL_law_X10_trace
set_option maxRecDepth 20000 in
theorem ggL_law_X11_trace : GoodIn wsL_law wsX11_trace := goodIn_r _ [1005, 961, 1047, 1048, 1049, 1050, 1051, 1052, 1053, 1054, 1055, 1056, 1057, 1058, 1059, 1060, 1061, 1062, 1063, 1064, 1065, 1066, 1067, 1068, 1069, 1070, 1071, 1072, 1073] (by decide +kernel) (by decide +kernel)
set_option maxRecDepth 20000 in
theorem gL_law_X11_trace : GoodIn wsL_law (wsV RL 143 RX11 yX11_trace wsX11_trace) := goodIn_app (goodIn_of _ (by decide +kernel)) ggL_law_X11_trace
set_option maxRecDepth 20000 in
theorem ggL_law_X10_fault : GoodIn wsL_law wsX10_fault := goodIn_r _ [1009, 515, 1038, 1039, 1040, 1041, 1042, 1043, 1044, 1045, 1046] (by decide +kernel) (by decide +kernel)
set_option maxRecDepth 20000 in
theorem gL_law_X10_fault : GoodIn wsL_law (wsV RL 144 RX10 yX10_fault wsX10_fault) := goodIn_app (goodIn_of _ (by decide +kernel)) ggL_law_X10_fault
set_option maxRecDepth 20000 in
theorem ggL_law_X11_fault : GoodIn wsL_law wsX11_fault := goodIn_r _ [1013, 558, 1047, 1048, 1049, 1050, 1051, 1052, 1053, 1054, 1055, 1056, 1057, 1058, 1059, 1060, 1061, 1062, 1063, 1064, 1065, 1066, 1067, 1068, 1069, 1070, 1071, 1072, 1073] (by decide +kernel) (by decide +kernel)
set_option maxRecDepth 20000 in
theorem gL_law_X11_fault : GoodIn wsL_law (wsV RL 147 RX11 yX11_fault wsX11_fault) := goodIn_app (goodIn_of _ (by decide +kernel)) ggL_law_X11_fault
