set_option maxRecDepth 20000 in
theorem li_wsL_law_r21 : ∀ w ∈ wsL_law_r21, w ∈ lw_tbl := fun w h => (goodIn_r (big := lw_tbl) wsL_law_r21 [972, 973, 975, 39, 976, 977, 979, 40, 980, 981, 983, 41, 984, 985, 987, 42, 988, 989, 991, 43, 992, 993, 995, 44] (by decide +kernel) (by decide +kernel) w h).1

set_option maxRecDepth 20000 in
theorem li_wsL_law_r22 : ∀ w ∈ wsL_law_r22, w ∈ lw_tbl := fun w h => (goodIn_r (big := lw_tbl) wsL_law_r22 [996, 997, 999, 45, 1000, 1001, 1003, 46, 1004, 1005, 1007, 47, 1008, 1009, 1010, 1011, 1012, 1014, 48, 1015, 1016, 1018, 49, 1019] (by decide +kernel) (by decide +kernel) w h).1

set_option maxRecDepth 20000 in
theorem li_wsL_law_r23 : ∀ w ∈ wsL_law_r23, w ∈ lw_tbl := fun w h => (goodIn_r (big := lw_tbl) wsL_law_r23 [1020, 1022, 50, 1023, 567, 568, 569, 570, 125, 571, 572, 84, 573, 574, 575, 576, 1024, 1025, 1026, 1027, 1028, 1029, 1030, 577] (by decide +kernel) (by decide +kernel) w h).1

set_option maxRecDepth 20000 in
theorem li_wsL_law_r24 : ∀ w ∈ wsL_law_r24, w ∈ lw_tbl := fun w h => (goodIn_r (big := lw_tbl) wsL_law_r24 [578, 579, 580, 581, 582, 583, 584, 1031, 1032, 1033, 1034, 585, 586, 587, 588, 103, 108, 1035, 1036, 1037, 1038, 1039, 589, 590] (by decide +kernel) (by decide +kernel) w h).1

set_option maxRecDepth 20000 in
theorem li_wsL_law_r25 : ∀ w ∈ wsL_law_r25, w ∈ lw_tbl := fun w h => (goodIn_r (big := lw_tbl) wsL_law_r25 [591, 592, 1040, 1041, 1042, 1043, 593, 594, 595, 596, 597, 599, 13, 600, 601, 602, 603, 604, 1044, 1045, 1046, 1047, 1048, 1049] (by decide +kernel) (by decide +kernel) w h).1

set_option maxRecDepth 20000 in
theorem li_wsL_law_r26 : ∀ w ∈ wsL_law_r26, w ∈ lw_tbl := fun w h => (goodIn_r (big := lw_tbl) wsL_law_r26 [1051, 51, 1052, 1053, 1055, 52, 1056, 605, 606, 607, 608, 1057, 1058, 1059, 1060, 609, 610, 611, 612, 237, 239, 613, 614, 615] (by decide +kernel) (by decide +kernel) w h).1

set_option maxRecDepth 20000 in
theorem li_wsL_law_r27 : ∀ w ∈ wsL_law_r27, w ∈ lw_tbl := fun w h => (goodIn_r (big := lw_tbl) wsL_law_r27 [616, 617, 618, 85, 619, 620, 621, 622, 623, 1061, 1062, 1063, 1064, 1065, 1066, 1067, 1068, 1069, 1071, 53, 1072, 624, 625, 626] (by decide +kernel) (by decide +kernel) w h).1

set_option maxRecDepth 20000 in
theorem li_wsL_law_r28 : ∀ w ∈ wsL_law_r28, w ∈ lw_tbl := fun w h => (goodIn_r (big := lw_tbl) wsL_law_r28 [627, 628, 629, 630, 631, 1073, 1074, 1075, 1076, 1077, 1079, 54, 1080, 632, 633, 634, 635, 131, 636, 637, 638, 639, 1081, 1082] (by decide +kernel) (by decide +kernel) w h).1

set_option maxRecDepth 20000 in
theorem li_wsL_law_r29 : ∀ w ∈ wsL_law_r29, w ∈ lw_tbl := fun w h => (goodIn_r (big := lw_tbl) wsL_law_r29 [1083, 1084, 640, 641, 642, 643, 1085, 1086, 1087, 1088, 644, 645, 646, 647, 648, 650, 14, 651, 127, 129, 652, 654, 15, 655] (by decide +kernel) (by decide +kernel) w h).1

set_option maxRecDepth 20000 in
theorem li_wsL_law_r30 : ∀ w ∈ wsL_law_r30, w ∈ lw_tbl := fun w h => (goodIn_r (big := lw_tbl) wsL_law_r30 [656, 657, 658, 659, 1089, 1090, 1091, 1092, 1093, 1095, 55, 1096, 1097, 1099, 56, 1100, 660, 661, 662, 663, 664, 666, 16, 667] (by decide +kernel) (by decide +kernel) w h).1

set_option maxRecDepth 20000 in
theorem li_wsL_law_r31 : ∀ w ∈ wsL_law_r31, w ∈ lw_tbl := fun w h => (goodIn_r (big := lw_tbl) wsL_law_r31 [668, 669, 670, 1101, 1102, 1103, 1104, 1105, 1107, 57, 1108, 671, 672, 673, 674, 202, 204, 210, 212, 675, 676, 677, 678, 679] (by decide +kernel) (by decide +kernel) w h).1

set_option maxRecDepth 20000 in
theorem li_wsL_law_r32 : ∀ w ∈ wsL_law_r32, w ∈ lw_tbl := fun w h => (goodIn_r (big := lw_tbl) wsL_law_r32 [206, 207, 208, 680, 681, 682, 683, 684, 686, 17, 687, 688, 690, 18, 691, 692, 693, 695, 19, 696, 697, 698, 699, 700] (by decide +kernel) (by decide +kernel) w h).1

set_option maxRecDepth 20000 in
theorem li_wsL_law_r33 : ∀ w ∈ wsL_law_r33, w ∈ lw_tbl := fun w h => (goodIn_r (big := lw_tbl) wsL_law_r33 [209, 211, 701, 703, 20, 704, 705, 1109, 1110, 1111, 1112, 1113, 1114, 1115, 1116, 1118, 58, 1119, 706, 707, 708, 709, 710, 712] (by decide +kernel) (by decide +kernel) w h).1

set_option maxRecDepth 20000 in
theorem li_wsL_law_r34 : ∀ w ∈ wsL_law_r34, w ∈ lw_tbl := fun w h => (goodIn_r (big := lw_tbl) wsL_law_r34 [21, 713, 714, 716, 22, 717, 1120, 1121, 1122, 1123, 718, 719, 720, 721, 1124, 1125, 1126, 1127, 722, 723, 724, 725, 726, 728] (by decide +kernel) (by decide +kernel) w h).1

set_option maxRecDepth 20000 in
theorem li_wsL_law_r35 : ∀ w ∈ wsL_law_r35, w ∈ lw_tbl := fun w h => (goodIn_r (big := lw_tbl) wsL_law_r35 [23, 729, 730, 732, 24, 733, 734, 736, 25, 737, 1128, 1129, 1130, 1131, 819, 820, 821, 1132, 1134, 59, 1135, 1136, 1138, 60] (by decide +kernel) (by decide +kernel) w h).1

set_option maxRecDepth 20000 in
theorem li_wsL_law_r36 : ∀ w ∈ wsL_law_r36, w ∈ lw_tbl := fun w h => (goodIn_r (big := lw_tbl) wsL_law_r36 [1139, 1140, 1142, 61, 1143, 1144, 1146, 62, 1147, 738, 739, 740, 741, 742, 744, 26, 745, 305, 746, 1148, 1149, 1150, 1151, 822] (by decide +kernel) (by decide +kernel) w h).1

set_option maxRecDepth 20000 in
theorem li_wsL_law_r37 : ∀ w ∈ wsL_law_r37, w ∈ lw_tbl := fun w h => (goodIn_r (big := lw_tbl) wsL_law_r37 [747, 748, 749, 750, 751, 752, 753, 754, 755, 1152, 1153, 1154, 1155, 1156, 1157, 1158, 1159, 1160, 1161, 756, 757, 758, 759, 1162] (by decide +kernel) (by decide +kernel) w h).1

set_option maxRecDepth 20000 in
theorem li_wsL_law_r38 : ∀ w ∈ wsL_law_r38, w ∈ lw_tbl := fun w h => (goodIn_r (big := lw_tbl) wsL_law_r38 [1163, 1164, 1165, 760, 761, 762, 763, 297, 1166, 1167, 1168, 1169, 764, 765, 766, 767, 1170, 1171, 1172, 1173, 768, 769, 770, 771] (by decide +kernel) (by decide +kernel) w h).1

set_option maxRecDepth 20000 in
theorem li_wsL_law_r39 : ∀ w ∈ wsL_law_r39, w ∈ lw_tbl := fun w h => (goodIn_r (big := lw_tbl) wsL_law_r39 [1174, 1175, 1176, 1177, 772, 773, 774, 775, 776, 778, 27, 779, 780, 781, 782, 783, 784, 1178, 1179, 1180, 1181, 1182, 1183, 1185] (by decide +kernel) (by decide +kernel) w h).1

set_option maxRecDepth 20000 in
theorem li_wsL_law_r40 : ∀ w ∈ wsL_law_r40, w ∈ lw_tbl := fun w h => (goodIn_r (big := lw_tbl) wsL_law_r40 [63, 1186, 1187, 1189, 64, 1190, 785, 786, 787, 788, 789, 790, 791, 792, 793, 794, 795, 797, 1191, 1192, 1193, 1194, 1195, 1196] (by decide +kernel) (by decide +kernel) w h).1

set_option maxRecDepth 20000 in
theorem li_wsL_law_r41 : ∀ w ∈ wsL_law_r41, w ∈ lw_tbl := fun w h => (goodIn_r (big := lw_tbl) wsL_law_r41 [1198, 65, 1199, 1200] (by decide +kernel) (by decide +kernel) w h).1

set_option maxRecDepth 20000 in
theorem li_wsX100 : ∀ w ∈ wsX100, w ∈ lw_tbl := fun w h => (goodIn_r (big := lw_tbl) wsX100 [311, 313, 315, 317, 319, 321, 323, 325, 327, 329, 331, 333, 335, 337, 339, 341, 343] (by decide +kernel) (by decide +kernel) w h).1

set_option maxRecDepth 20000 in
theorem li_wsX110 : ∀ w ∈ wsX110, w ∈ lw_tbl := fun w h => (goodIn_r (big := lw_tbl) wsX110 [824, 826, 828, 830, 832, 834, 836, 838, 840, 842, 844, 846, 848, 850, 852, 854, 856, 858, 860, 862] (by decide +kernel) (by decide +kernel) w h).1

set_option maxRecDepth 20000 in
theorem li_wsX90 : ∀ w ∈ wsX90, w ∈ lw_tbl := fun w h => (goodIn_r (big := lw_tbl) wsX90 [132, 134, 136, 138, 140, 142, 144, 146, 148, 150, 152, 154, 156, 158] (by decide +kernel) (by decide +kernel) w h).1

set_option maxRecDepth 20000 in
theorem li_wsX60 : ∀ w ∈ wsX60, w ∈ lw_tbl := fun w h => (goodIn_r (big := lw_tbl) wsX60 [180, 182, 184, 186, 188, 190, 192] (by decide +kernel) (by decide +kernel) w h).1

set_option maxRecDepth 20000 in
theorem li_wsX20 : ∀ w ∈ wsX20, w ∈ lw_tbl := fun w h => (goodIn_r (big := lw_tbl) wsX20 [213, 215, 217, 219, 221, 223, 225, 227] (by decide +kernel) (by decide +kernel) w h).1

set_option maxRecDepth 20000 in
theorem li_wsX10 : ∀ w ∈ wsX10, w ∈ lw_tbl := fun w h => (goodIn_r (big := lw_tbl) wsX10 [242, 244, 246, 248] (by decide +kernel) (by decide +kernel) w h).1

set_option maxRecDepth 20000 in
theorem li_wsX70 : ∀ w ∈ wsX70, w ∈ lw_tbl := fun w h => (goodIn_r (big := lw_tbl) wsX70 [] (by decide +kernel) (by decide +kernel) w h).1

set_option maxRecDepth 20000 in
theorem li_wsX40 : ∀ w ∈ wsX40, w ∈ lw_tbl := fun w h => (goodIn_r (big := lw_tbl) wsX40 [] (by decide +kernel) (by decide +kernel) w h).1

set_option maxRecDepth 20000 in
theorem li_wsX30 : ∀ w ∈ wsX30, w ∈ lw_tbl := fun w h => (goodIn_r (big := lw_tbl) wsX30 [] (by decide +kernel) (by decide +kernel) w h).1

set_option maxRecDepth 20000 in
theorem li_wsX80 : ∀ w ∈ wsX80, w ∈ lw_tbl := fun w h => (goodIn_r (big := lw_tbl) wsX80 [] (by decide +kernel) (by decide +kernel) w h).1

set_option maxRecDepth 20000 in
theorem li_wsX50 : ∀ w ∈ wsX50, w ∈ lw_tbl := fun w h => (goodIn_r (big := lw_tbl) wsX50 [] (by decide +kernel) (by decide +kernel) w h).1

set_option maxRecDepth 20000 in
theorem li_wsX00 : ∀ w ∈ wsX00, w ∈ lw_tbl := fun w h => (goodIn_r (big := lw_tbl) wsX00 [] (by decide +kernel) (by decide +kernel) w h).1
