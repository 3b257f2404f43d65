set_option maxRecDepth 20000 in
theorem ggL_law_X10_most : GoodIn wsL_law wsX10_most := goodIn_r _ [631, 22, 632, 633, 634, 21, 635, 112, 48, 636, 637, 638, 639, 113, 640, 641, 642, 606, 643, 617, 644, 645, 646, 647, 1038, 1039, 1040, 1041, 1042, 1043, 1044, 1045, 1046, 1080, 1081, 1082, 1083, 1084, 1085, 1086, 1087, 1110, 1111, 1112] (by decide +kernel) (by decide +kernel)
set_option maxRecDepth 20000 in
theorem gL_law_X10_most : GoodIn wsL_law (wsV RL 83 RX10 yX10_most wsX10_most) := goodIn_app (goodIn_of _ (by decide +kernel)) ggL_law_X10_most
set_option maxRecDepth 20000 in
theorem ggL_law_X11_most : GoodIn wsL_law wsX11_most := goodIn_r _ [651, 559, 98, 652, 653, 654, 5, 655, 129, 131, 132, 133, 1047, 1048, 1049, 1050, 1051, 1052, 1053, 1054, 1055, 1056, 1057, 1058, 1059, 1060, 1061, 1062, 1063, 1064, 1065, 1066, 1067, 1068, 1069, 1070, 1071, 1072, 1073] (by decide +kernel) (by decide +kernel)
set_option maxRecDepth 20000 in
theorem gL_law_X11_most : GoodIn wsL_law (wsV RL 86 RX11 yX11_most wsX11_most) := goodIn_app (goodIn_of _ (by decide +kernel)) ggL_law_X11_most
set_option maxRecDepth 20000 in
theorem ggL_law_X10_sure : GoodIn wsL_law wsX10_sure := goodIn_r _ [659, 22, 16, 154, 155, 156, 15, 157, 71, 660, 661, 662, 21, 663, 664, 665, 666, 667, 668, 113, 669, 49, 50, 670, 671, 672, 673, 674, 675, 676, 677, 51, 678, 173, 78, 174, 679, 680, 681, 682, 112, 683, 633, 634, 635, 48, 640, 641, 642, 606, 643, 617, 684, 685, 686, 687, 688, 689, 690, 691, 616, 692, 693, 694, 695, 615, 195, 2, 196, 696, 697, 698, 699, 700, 701, 312, 702, 1038, 1039, 1040, 1041, 1042, 1043, 1044, 1045, 1046, 1074, 1075, 1076, 1077, 1078, 1079, 1080, 1081, 1082, 1083, 1084, 1085, 1086, 1087, 1110, 1111, 1112] (by decide +kernel) (by decide +kernel)
set_option maxRecDepth 20000 in
theorem gL_law_X10_sure : GoodIn wsL_law (wsV RL 87 RX10 yX10_sure wsX10_sure) := goodIn_app (goodIn_of _ (by decide +kernel)) ggL_law_X10_sure
set_option maxRecDepth 20000 in
theorem ggL_law_X11_sure : GoodIn wsL_law wsX11_sure := goodIn_r _ [706, 707, 708, 709, 710, 5, 711, 99, 100, 129, 98, 712, 713, 714, 715, 84, 96, 97, 220, 221, 222, 1047, 1048, 1049, 1050, 1051, 1052, 1053, 1054, 1055, 1056, 1057, 1058, 1059, 1060, 1061, 1062, 1063, 1064, 1065, 1066, 1067, 1068, 1069, 1070, 1071, 1072, 1073] (by decide +kernel) (by decide +kernel)
set_option maxRecDepth 20000 in
theorem gL_law_X11_sure : GoodIn wsL_law (wsV RL 91 RX11 yX11_sure wsX11_sure) := goodIn_app (goodIn_of _ (by decide +kernel)) ggL_law_X11_sure
set_option maxRecDepth 20000 in
theorem ggL_law_X10_bundle : GoodIn wsL_law wsX10_bundle := goodIn_r _ [719, 22, 16, 632, 633, 634, 21, 635, 112, 48, 154, 155, 156, 15, 157, 71, 720, 721, 722, 723, 50, 665, 666, 667, 668, 113, 669, 664, 49, 670, 671, 672, 673, 674, 675, 676, 677, 51, 678, 173, 78, 174, 679, 680, 681, 682, 683, 640, 641, 642, 606, 643, 617, 684, 685, 686, 687, 688, 689, 690, 691, 616, 692, 693, 694, 695, 615, 195, 2, 196, 696, 697, 698, 699, 700, 701, 312, 702, 1038, 1039, 1040, 1041, 1042, 1043, 1044, 1045, 1046, 1080, 1081, 1082, 1083, 1084, 1085, 1086, 1087, 1074, 1075, 1076, 1077, 1078, 1079, 1110, 1111, 1112] (by decide +kernel) (by decide +kernel)
set_option maxRecDepth 20000 in
theorem gL_law_X10_bundle : GoodIn wsL_law (wsV RL 92 RX10 yX10_bundle wsX10_bundle) := goodIn_app (goodIn_of _ (by decide +kernel)) ggL_law_X10_bundle
set_option maxRecDepth 20000 in
theorem ggL_law_X11_bundle : GoodIn wsL_law wsX11_bundle := goodIn_r _ [727, 100, 652, 653, 654, 5, 655, 129, 708, 709, 710, 711, 99, 707, 98, 712, 713, 714, 715, 84, 96, 97, 220, 221, 222, 1047, 1048, 1049, 1050, 1051, 1052, 1053, 1054, 1055, 1056, 1057, 1058, 1059, 1060, 1061, 1062, 1063, 1064, 1065, 1066, 1067, 1068, 1069, 1070, 1071, 1072, 1073] (by decide +kernel) (by decide +kernel)
set_option maxRecDepth 20000 in
theorem gL_law_X11_bundle : GoodIn wsL_law (wsV RL 95 RX11 yX11_bundle wsX11_bundle) := goodIn_app (goodIn_of _ (by decide +kernel)) ggL_law_X11_bundle
set_option maxRecDepth 20000 in
theorem ggL_law_X10_forecast : GoodIn wsL_law wsX10_forecast := goodIn_r _ [731, 515, 16, 26, 732, 733, 734, 34, 516, 517, 518, 2, 519, 28, 368, 208, 209, 15, 210, 71, 520, 521, 522, 523, 524, 525, 526, 154, 155, 156, 157, 527, 528, 529, 36, 530, 531, 532, 533, 534, 535, 536, 537, 538, 539, 540, 541, 542, 543, 544, 545, 66, 495, 496, 497, 735, 736, 737, 25, 738, 118, 739, 740, 78, 741, 742, 743, 744, 745, 746, 747, 33, 748, 701, 312, 702, 749, 671, 672, 673, 750, 751, 752, 753, 11, 12, 754, 755, 756, 757, 758, 759, 760, 761, 57, 762, 1038, 1039, 1040, 1041, 1042, 1043, 1044, 1045, 1046, 1113, 1114, 1115, 1116, 1074, 1075, 1076, 1077, 1078, 1079, 1091, 1092, 1093, 1094, 1088, 1089] (by decide +kernel) (by decide +kernel)
set_option maxRecDepth 20000 in
theorem gL_law_X10_forecast : GoodIn wsL_law (wsV RL 96 RX10 yX10_forecast wsX10_forecast) := goodIn_app (goodIn_of _ (by decide +kernel)) ggL_law_X10_forecast
set_option maxRecDepth 20000 in
theorem ggL_law_X11_forecast : GoodIn wsL_law wsX11_forecast := goodIn_r _ [766, 558, 559, 130, 84, 101, 95, 102, 131, 132, 5, 133, 394, 395, 396, 397, 560, 561, 562, 563, 123, 93, 94, 510, 564, 565, 566, 567, 1047, 1048, 1049, 1050, 1051, 1052, 1053, 1054, 1055, 1056, 1057, 1058, 1059, 1060, 1061, 1062, 1063, 1064, 1065, 1066, 1067, 1068, 1069, 1070, 1071, 1072, 1073] (by decide +kernel) (by decide +kernel)
set_option maxRecDepth 20000 in
theorem gL_law_X11_forecast : GoodIn wsL_law (wsV RL 99 RX11 yX11_forecast wsX11_forecast) := goodIn_app (goodIn_of _ (by decide +kernel)) ggL_law_X11_forecast
