set_option maxRecDepth 20000 in
theorem ggL_law_X10_score : GoodIn wsL_law wsX10_score := goodIn_r _ [770, 26, 186, 771, 772, 773, 25, 774, 118, 57, 775, 776, 777, 734, 778, 755, 779, 780, 781, 782, 783, 756, 757, 784, 785, 786, 787, 754, 788, 789, 790, 791, 792, 793, 2, 794, 795, 796, 312, 797, 798, 799, 800, 1038, 1039, 1040, 1041, 1042, 1043, 1044, 1045, 1046, 1088, 1089, 1113, 1114, 1115, 1116] (by decide +kernel) (by decide +kernel)
set_option maxRecDepth 20000 in
theorem gL_law_X10_score : GoodIn wsL_law (wsV RL 100 RX10 yX10_score wsX10_score) := goodIn_app (goodIn_of _ (by decide +kernel)) ggL_law_X10_score
set_option maxRecDepth 20000 in
theorem ggL_law_X11_score : GoodIn wsL_law wsX11_score := goodIn_r _ [804, 130, 215, 123, 101, 102, 131, 132, 5, 133, 805, 806, 807, 808, 84, 809, 810, 811, 812, 813, 814, 815, 1047, 1048, 1049, 1050, 1051, 1052, 1053, 1054, 1055, 1056, 1057, 1058, 1059, 1060, 1061, 1062, 1063, 1064, 1065, 1066, 1067, 1068, 1069, 1070, 1071, 1072, 1073] (by decide +kernel) (by decide +kernel)
set_option maxRecDepth 20000 in
theorem gL_law_X11_score : GoodIn wsL_law (wsV RL 103 RX11 yX11_score wsX11_score) := goodIn_app (goodIn_of _ (by decide +kernel)) ggL_law_X11_score
set_option maxRecDepth 20000 in
theorem ggL_law_X10_honest : GoodIn wsL_law wsX10_honest := goodIn_r _ [819, 26, 186, 16, 236, 237, 238, 2, 239, 107, 18, 771, 772, 773, 25, 774, 118, 57, 154, 155, 156, 15, 157, 71, 475, 476, 477, 153, 478, 171, 479, 480, 481, 482, 779, 780, 781, 734, 782, 783, 756, 757, 784, 785, 786, 787, 754, 788, 789, 790, 791, 463, 464, 465, 466, 467, 468, 469, 470, 792, 793, 794, 795, 796, 312, 797, 798, 799, 800, 1038, 1039, 1040, 1041, 1042, 1043, 1044, 1045, 1046, 1088, 1089, 1074, 1075, 1076, 1077, 1078, 1079, 1105, 1106, 1107, 1108, 1109, 1095, 1096, 1097, 1098, 1099, 1100, 1101, 1102, 1103, 1104, 1113, 1114, 1115, 1116] (by decide +kernel) (by decide +kernel)
set_option maxRecDepth 20000 in
theorem gL_law_X10_honest : GoodIn wsL_law (wsV RL 104 RX10 yX10_honest wsX10_honest) := goodIn_app (goodIn_of _ (by decide +kernel)) ggL_law_X10_honest
set_option maxRecDepth 20000 in
theorem ggL_law_X11_honest : GoodIn wsL_law wsX11_honest := goodIn_r _ [823, 130, 215, 84, 92, 101, 123, 260, 261, 262, 5, 263, 128, 131, 132, 133, 805, 806, 807, 808, 487, 488, 489, 490, 809, 810, 811, 812, 813, 814, 815, 1047, 1048, 1049, 1050, 1051, 1052, 1053, 1054, 1055, 1056, 1057, 1058, 1059, 1060, 1061, 1062, 1063, 1064, 1065, 1066, 1067, 1068, 1069, 1070, 1071, 1072, 1073] (by decide +kernel) (by decide +kernel)
set_option maxRecDepth 20000 in
theorem gL_law_X11_honest : GoodIn wsL_law (wsV RL 107 RX11 yX11_honest wsX11_honest) := goodIn_app (goodIn_of _ (by decide +kernel)) ggL_law_X11_honest
set_option maxRecDepth 20000 in
theorem ggL_law_X10_held : GoodIn wsL_law wsX10_held := goodIn_r _ [827, 16, 186, 26, 368, 208, 209, 15, 210, 71, 828, 829, 830, 25, 831, 118, 832, 772, 773, 774, 57, 833, 834, 835, 734, 836, 837, 756, 784, 785, 786, 787, 754, 838, 839, 840, 841, 842, 776, 777, 778, 755, 843, 844, 2, 845, 846, 847, 848, 1038, 1039, 1040, 1041, 1042, 1043, 1044, 1045, 1046, 1074, 1075, 1076, 1077, 1078, 1079, 1088, 1089, 1113, 1114, 1115, 1116] (by decide +kernel) (by decide +kernel)
set_option maxRecDepth 20000 in
theorem gL_law_X10_held : GoodIn wsL_law (wsV RL 108 RX10 yX10_held wsX10_held) := goodIn_app (goodIn_of _ (by decide +kernel)) ggL_law_X10_held
set_option maxRecDepth 20000 in
theorem ggL_law_X11_held : GoodIn wsL_law wsX11_held := goodIn_r _ [852, 853, 123, 215, 130, 101, 102, 394, 395, 396, 5, 397, 84, 131, 132, 133, 805, 806, 807, 808, 854, 855, 856, 1047, 1048, 1049, 1050, 1051, 1052, 1053, 1054, 1055, 1056, 1057, 1058, 1059, 1060, 1061, 1062, 1063, 1064, 1065, 1066, 1067, 1068, 1069, 1070, 1071, 1072, 1073] (by decide +kernel) (by decide +kernel)
set_option maxRecDepth 20000 in
theorem gL_law_X11_held : GoodIn wsL_law (wsV RL 111 RX11 yX11_held wsX11_held) := goodIn_app (goodIn_of _ (by decide +kernel)) ggL_law_X11_held
set_option maxRecDepth 20000 in
theorem ggL_law_X10_sheet : GoodIn wsL_law wsX10_sheet := goodIn_r _ [860, 515, 516, 517, 518, 2, 519, 28, 524, 525, 526, 538, 539, 540, 541, 861, 862, 863, 36, 864, 66, 531, 532, 537, 865, 173, 78, 174, 1038, 1039, 1040, 1041, 1042, 1043, 1044, 1045, 1046, 1091, 1092, 1093, 1094] (by decide +kernel) (by decide +kernel)
set_option maxRecDepth 20000 in
theorem gL_law_X10_sheet : GoodIn wsL_law (wsV RL 112 RX10 yX10_sheet wsX10_sheet) := goodIn_app (goodIn_of _ (by decide +kernel)) ggL_law_X10_sheet
set_option maxRecDepth 20000 in
theorem ggL_law_X11_sheet : GoodIn wsL_law wsX11_sheet := goodIn_r _ [869, 558, 559, 123, 93, 94, 95, 131, 132, 5, 133, 564, 565, 566, 567, 1047, 1048, 1049, 1050, 1051, 1052, 1053, 1054, 1055, 1056, 1057, 1058, 1059, 1060, 1061, 1062, 1063, 1064, 1065, 1066, 1067, 1068, 1069, 1070, 1071, 1072, 1073] (by decide +kernel) (by decide +kernel)
set_option maxRecDepth 20000 in
theorem gL_law_X11_sheet : GoodIn wsL_law (wsV RL 115 RX11 yX11_sheet wsX11_sheet) := goodIn_app (goodIn_of _ (by decide +kernel)) ggL_law_X11_sheet
