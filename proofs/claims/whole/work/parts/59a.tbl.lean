theorem px_subT {big ws : List Cond} (ps : List Nat) (hp : ws = ps.filterMap (fun i => big[i]?)) : ∀ w ∈ ws, w ∈ big := by
  intro w hw
  rw [hp] at hw
  obtain ⟨i, -, hi⟩ := List.mem_filterMap.mp hw
  exact List.mem_of_getElem? hi
set_option maxRecDepth 100000 in
theorem it_wsL_law_r1 : ∀ w ∈ wsL_law_r1, w ∈ lw_tbl := px_subT [76, 77, 57, 929, 930, 68, 1384, 78, 79, 80, 81, 82, 83, 335, 336, 337, 338, 84, 85, 58, 339, 113, 114, 59] (by decide +kernel)
set_option maxRecDepth 100000 in
theorem it_wsL_law_r2 : ∀ w ∈ wsL_law_r2, w ∈ lw_tbl := px_subT [340, 157, 158, 60, 341, 342, 111, 343, 189, 190, 61, 344, 220, 221, 62, 345, 256, 257, 63, 346, 277, 278, 64, 347] (by decide +kernel)
set_option maxRecDepth 100000 in
theorem it_wsL_law_r3 : ∀ w ∈ wsL_law_r3, w ∈ lw_tbl := px_subT [288, 289, 65, 348, 299, 300, 66, 349, 316, 350, 318, 67, 87, 88, 89, 90, 93, 112, 96, 99, 116, 117, 118, 119] (by decide +kernel)
set_option maxRecDepth 100000 in
theorem it_wsL_law_r4 : ∀ w ∈ wsL_law_r4, w ∈ lw_tbl := px_subT [120, 121, 123, 125, 127, 130, 133, 136, 160, 161, 162, 163, 165, 167, 169, 171, 172, 173, 192, 193, 194, 219, 195, 196] (by decide +kernel)
set_option maxRecDepth 100000 in
theorem it_wsL_law_r5 : ∀ w ∈ wsL_law_r5, w ∈ lw_tbl := px_subT [199, 201, 203, 205, 223, 224, 225, 228, 229, 230, 231, 232, 234, 235, 237, 239, 240, 241, 242, 259, 260, 261, 262, 265] (by decide +kernel)
set_option maxRecDepth 100000 in
theorem it_wsL_law_r6 : ∀ w ∈ wsL_law_r6, w ∈ lw_tbl := px_subT [266, 267, 280, 281, 282, 283, 291, 292, 293, 298, 294, 302, 303, 304, 305, 306, 307, 320, 321, 322, 323, 325, 326, 931] (by decide +kernel)
set_option maxRecDepth 100000 in
theorem it_wsL_law_r7 : ∀ w ∈ wsL_law_r7, w ∈ lw_tbl := px_subT [932, 933, 934, 943, 945, 946, 947, 948, 957, 958, 959, 960, 961, 962, 963, 964, 965, 966, 967, 968, 969, 970, 971, 980] (by decide +kernel)
set_option maxRecDepth 100000 in
theorem it_wsL_law_r8 : ∀ w ∈ wsL_law_r8, w ∈ lw_tbl := px_subT [982, 983, 984, 986, 987, 988, 989, 935, 937, 30, 938, 939, 941, 31, 942, 384, 385, 386, 387, 100, 308, 388, 389, 390] (by decide +kernel)
set_option maxRecDepth 100000 in
theorem it_wsL_law_r9 : ∀ w ∈ wsL_law_r9, w ∈ lw_tbl := px_subT [391, 392, 393, 394, 1088, 1089, 1090, 1091, 1092, 1093, 944, 985, 955, 956, 1094, 1095, 1096, 395, 396, 397, 398, 399, 401, 0] (by decide +kernel)
set_option maxRecDepth 100000 in
theorem it_wsL_law_r10 : ∀ w ∈ wsL_law_r10, w ∈ lw_tbl := px_subT [402, 403, 405, 1, 406, 407, 408, 409, 410, 411, 412, 413, 414, 415, 416, 417, 1097, 1098, 1099, 1100, 1109, 1101, 1103, 32] (by decide +kernel)
set_option maxRecDepth 100000 in
theorem it_wsL_law_r11 : ∀ w ∈ wsL_law_r11, w ∈ lw_tbl := px_subT [1104, 1105, 1107, 33, 1108, 1110, 1112, 34, 1113, 418, 419, 420, 421, 92, 94, 98, 422, 423, 424, 425, 1114, 1115, 1116, 1117] (by decide +kernel)
set_option maxRecDepth 100000 in
theorem it_wsL_law_r12 : ∀ w ∈ wsL_law_r12, w ∈ lw_tbl := px_subT [1118, 1120, 35, 1121, 1122, 1123, 1124, 427, 428, 429, 430, 1125, 1126, 1127, 1128, 431, 432, 433, 434, 435, 436, 437, 438, 439] (by decide +kernel)
set_option maxRecDepth 100000 in
theorem it_wsL_law_r13 : ∀ w ∈ wsL_law_r13, w ∈ lw_tbl := px_subT [440, 441, 442, 1129, 1130, 1131, 1132, 1133, 1135, 36, 1136, 443, 444, 445, 446, 1137, 1138, 1139, 1140, 1141, 949, 447, 448, 449] (by decide +kernel)
set_option maxRecDepth 100000 in
theorem it_wsL_law_r14 : ∀ w ∈ wsL_law_r14, w ∈ lw_tbl := px_subT [450, 129, 132, 135, 137, 451, 453, 2, 454, 124, 126, 455, 456, 457, 458, 459, 460, 461, 462, 463, 464, 465, 466, 468] (by decide +kernel)
set_option maxRecDepth 100000 in
theorem it_wsL_law_r15 : ∀ w ∈ wsL_law_r15, w ∈ lw_tbl := px_subT [470, 3, 471, 472, 473, 69, 474, 475, 476, 477, 478, 479, 480, 481, 1142, 1143, 1144, 1145, 950, 951, 952, 953, 1146, 1148] (by decide +kernel)
set_option maxRecDepth 100000 in
theorem it_wsL_law_r16 : ∀ w ∈ wsL_law_r16, w ∈ lw_tbl := px_subT [37, 1149, 954, 482, 483, 484, 485, 164, 486, 487, 488, 489, 490, 491, 493, 4, 494, 495, 497, 5, 498, 128, 131, 499] (by decide +kernel)
set_option maxRecDepth 100000 in
theorem it_wsL_law_r17 : ∀ w ∈ wsL_law_r17, w ∈ lw_tbl := px_subT [501, 6, 502, 503, 504, 505, 507, 7, 508, 134, 122, 509, 510, 511, 1150, 1151, 1152, 1153, 1154, 1156, 38, 1157, 1158, 1160] (by decide +kernel)
set_option maxRecDepth 100000 in
theorem it_wsL_law_r18 : ∀ w ∈ wsL_law_r18, w ∈ lw_tbl := px_subT [39, 1161, 512, 513, 514, 515, 516, 517, 518, 519, 1162, 1163, 1164, 1165, 1166, 520, 521, 522, 523, 170, 166, 168, 1167, 1168] (by decide +kernel)
set_option maxRecDepth 100000 in
theorem it_wsL_law_r19 : ∀ w ∈ wsL_law_r19, w ∈ lw_tbl := px_subT [1169, 1170, 524, 525, 526, 527, 528, 529, 530, 531, 1171, 1172, 1173, 1174, 532, 533, 534, 535, 1175, 1176, 1177, 1178, 1179, 1181] (by decide +kernel)
set_option maxRecDepth 100000 in
theorem it_wsL_law_r20 : ∀ w ∈ wsL_law_r20, w ∈ lw_tbl := px_subT [40, 1182, 536, 537, 538, 539, 540, 542, 8, 543, 544, 545, 547, 9, 548, 549, 1183, 1184, 1185, 1186, 550, 551, 552, 553] (by decide +kernel)
set_option maxRecDepth 100000 in
theorem it_wsL_law_r21 : ∀ w ∈ wsL_law_r21, w ∈ lw_tbl := px_subT [198, 554, 555, 556, 557, 1187, 1188, 1189, 1190, 972, 1191, 558, 559, 560, 561, 1192, 1193, 1194, 1195, 562, 563, 564, 565, 566] (by decide +kernel)
set_option maxRecDepth 100000 in
theorem it_wsL_law_r22 : ∀ w ∈ wsL_law_r22, w ∈ lw_tbl := px_subT [567, 568, 569, 200, 197, 574, 576, 575, 70, 570, 572, 10, 573, 577, 578, 579, 580, 581, 583, 11, 584, 202, 585, 586] (by decide +kernel)
set_option maxRecDepth 100000 in
theorem it_wsL_law_r23 : ∀ w ∈ wsL_law_r23, w ∈ lw_tbl := px_subT [587, 588, 589, 591, 12, 592, 593, 595, 13, 596, 598, 600, 14, 601, 602, 603, 604, 612, 614, 15, 615, 616, 617, 618] (by decide +kernel)
set_option maxRecDepth 100000 in
theorem it_wsL_law_r24 : ∀ w ∈ wsL_law_r24, w ∈ lw_tbl := px_subT [71, 619, 1385, 620, 621, 622, 623, 624, 1386, 626, 627, 628, 629, 630, 631, 632, 633, 634, 635, 72, 636, 637, 638, 639] (by decide +kernel)
set_option maxRecDepth 100000 in
theorem it_wsL_law_r25 : ∀ w ∈ wsL_law_r25, w ∈ lw_tbl := px_subT [640, 642, 643, 73, 644, 645, 646, 74, 647, 648, 649, 650, 651, 652, 653, 654, 655, 656, 657, 658, 660, 662, 664, 666] (by decide +kernel)
set_option maxRecDepth 100000 in
theorem it_wsL_law_r26 : ∀ w ∈ wsL_law_r26, w ∈ lw_tbl := px_subT [16, 667, 668, 670, 17, 671, 672, 674, 18, 675, 676, 678, 19, 679, 680, 682, 20, 683, 204, 684, 686, 21, 687, 693] (by decide +kernel)
set_option maxRecDepth 100000 in
theorem it_wsL_law_r27 : ∀ w ∈ wsL_law_r27, w ∈ lw_tbl := px_subT [695, 22, 696, 1196, 1197, 1198, 1199, 977, 973, 975, 978, 1200, 1202, 41, 1203, 974, 1208, 1209, 976, 1222, 1223, 1204, 1206, 42] (by decide +kernel)
set_option maxRecDepth 100000 in
theorem it_wsL_law_r28 : ∀ w ∈ wsL_law_r28, w ∈ lw_tbl := px_subT [1207, 1210, 1212, 43, 1213, 1214, 1216, 44, 1217, 1218, 1220, 45, 1221, 1224, 1226, 46, 1227, 1228, 1230, 47, 1231, 701, 702, 703] (by decide +kernel)
set_option maxRecDepth 100000 in
theorem it_wsL_law_r29 : ∀ w ∈ wsL_law_r29, w ∈ lw_tbl := px_subT [704, 238, 1232, 1233, 1234, 1235, 705, 706, 707, 708, 236, 1236, 1237, 1238, 1239, 1240, 709, 710, 711, 712, 713, 714, 715, 716] (by decide +kernel)
set_option maxRecDepth 100000 in
theorem it_wsL_law_r30 : ∀ w ∈ wsL_law_r30, w ∈ lw_tbl := px_subT [717, 1241, 1242, 1243, 1244, 1245, 1246, 1247, 1248, 1249, 1251, 48, 1252, 1253, 1254, 718, 719, 720, 721, 722, 723, 724, 725, 101] (by decide +kernel)
set_option maxRecDepth 100000 in
theorem it_wsL_law_r31 : ∀ w ∈ wsL_law_r31, w ∈ lw_tbl := px_subT [97, 91, 727, 729, 23, 730, 732, 734, 24, 735, 95, 736, 737, 739, 25, 740, 1255, 1256, 1257, 1258, 1259, 1261, 49, 1262] (by decide +kernel)
set_option maxRecDepth 100000 in
theorem it_wsL_law_r32 : ∀ w ∈ wsL_law_r32, w ∈ lw_tbl := px_subT [979, 1263, 1265, 50, 1266, 741, 742, 743, 744, 264, 745, 746, 747, 748, 1267, 1268, 1269, 1270, 749, 750, 751, 752, 284, 753] (by decide +kernel)
set_option maxRecDepth 100000 in
theorem it_wsL_law_r33 : ∀ w ∈ wsL_law_r33, w ∈ lw_tbl := px_subT [754, 755, 756, 263, 757, 758, 759, 760, 761, 762, 763, 764, 765, 1271, 1272, 1273, 1274, 981, 1275, 1277, 51, 1278, 766, 767] (by decide +kernel)
set_option maxRecDepth 100000 in
theorem it_wsL_law_r34 : ∀ w ∈ wsL_law_r34, w ∈ lw_tbl := px_subT [768, 769, 770, 771, 772, 773, 1279, 1280, 1281, 1282, 1283, 774, 775, 776, 777, 778, 779, 780, 781, 782, 783, 784, 785, 786] (by decide +kernel)
set_option maxRecDepth 100000 in
theorem it_wsL_law_r35 : ∀ w ∈ wsL_law_r35, w ∈ lw_tbl := px_subT [787, 788, 790, 26, 791, 792, 793, 794, 795, 796, 797, 798, 800, 27, 801, 802, 803, 804, 805, 806, 807, 808, 809, 810] (by decide +kernel)
set_option maxRecDepth 100000 in
theorem it_wsL_law_r36 : ∀ w ∈ wsL_law_r36, w ∈ lw_tbl := px_subT [1284, 1285, 1286, 1287, 1288, 1290, 52, 1291, 1292, 1293, 1294, 1295, 1297, 53, 1298, 1299, 1300, 1301, 1302, 1303, 1304, 1305, 1306, 1307] (by decide +kernel)
set_option maxRecDepth 100000 in
theorem it_wsL_law_r37 : ∀ w ∈ wsL_law_r37, w ∈ lw_tbl := px_subT [811, 812, 813, 814, 1308, 1309, 1310, 1311, 815, 816, 817, 818, 1312, 1313, 1314, 1315, 1316, 819, 820, 821, 822, 823, 824, 825] (by decide +kernel)
set_option maxRecDepth 100000 in
theorem it_wsL_law_r38 : ∀ w ∈ wsL_law_r38, w ∈ lw_tbl := px_subT [826, 827, 828, 829, 830, 831, 832, 833, 1317, 1318, 1319, 1320, 1321, 1322, 1323, 1324, 1326, 54, 1327, 834, 835, 836, 837, 838] (by decide +kernel)
set_option maxRecDepth 100000 in
theorem it_wsL_law_r39 : ∀ w ∈ wsL_law_r39, w ∈ lw_tbl := px_subT [839, 1328, 1329, 1330, 1331, 1332, 840, 841, 842, 843, 844, 845, 846, 847, 848, 849, 850, 851, 1333, 1334, 1335, 1336, 852, 853] (by decide +kernel)
set_option maxRecDepth 100000 in
theorem it_wsL_law_r40 : ∀ w ∈ wsL_law_r40, w ∈ lw_tbl := px_subT [854, 855, 1337, 1338, 1339, 1340, 856, 857, 858, 859, 860, 861, 862, 863, 1341, 1342, 1343, 1344, 1345, 865, 866, 867, 868, 869] (by decide +kernel)
set_option maxRecDepth 100000 in
theorem it_wsL_law_r41 : ∀ w ∈ wsL_law_r41, w ∈ lw_tbl := px_subT [870, 871, 872, 873, 875, 28, 876, 1346, 1347, 1348, 1349, 1350, 1352, 55, 1353, 877, 878, 879, 880, 881, 882, 75, 883, 884] (by decide +kernel)
set_option maxRecDepth 100000 in
theorem it_wsL_law_r42 : ∀ w ∈ wsL_law_r42, w ∈ lw_tbl := px_subT [885, 886, 1354, 1355, 1356, 1357, 1358, 1359, 1360, 887, 888, 889, 890, 891, 892, 893, 894, 1361, 1362, 1363, 1364, 1365, 1366, 1367] (by decide +kernel)
set_option maxRecDepth 100000 in
theorem it_wsL_law_r43 : ∀ w ∈ wsL_law_r43, w ∈ lw_tbl := px_subT [896, 897, 898, 899, 900, 901, 902, 903, 904, 905, 906, 907, 908, 1368, 1369, 1370, 1371, 909, 910, 911, 912, 913, 914, 915] (by decide +kernel)
set_option maxRecDepth 100000 in
theorem it_wsL_law_r44 : ∀ w ∈ wsL_law_r44, w ∈ lw_tbl := px_subT [916, 917, 919, 29, 920, 324, 1372, 1373, 1374, 1375, 990, 921, 922, 923, 924, 1376, 1377, 1378, 1379, 925, 926, 927, 928, 327] (by decide +kernel)
set_option maxRecDepth 100000 in
theorem it_wsL_law_r45 : ∀ w ∈ wsL_law_r45, w ∈ lw_tbl := px_subT [1380, 1381, 1382, 1383] (by decide +kernel)
set_option maxRecDepth 100000 in
theorem it_wsX100 : ∀ w ∈ wsX100, w ∈ lw_tbl := px_subT [351, 353, 355, 357, 359, 361, 363, 365, 367, 369, 371, 373, 375, 377, 379, 381] (by decide +kernel)
set_option maxRecDepth 100000 in
theorem it_wsX110 : ∀ w ∈ wsX110, w ∈ lw_tbl := px_subT [991, 993, 995, 997, 999, 1001, 1003, 1005, 1007, 1009, 1011, 1013, 1015, 1017, 1019, 1021, 1023, 1025, 1027, 1029, 1031, 1033, 1035, 1037, 1039, 1041, 1043, 1045, 1047, 1049, 1051, 1053, 1055, 1057, 1059, 1061, 1063, 1065, 1067, 1069, 1071, 1073, 1075, 1077, 1079, 1081, 1083, 1085] (by decide +kernel)
set_option maxRecDepth 100000 in
theorem it_wsX60 : ∀ w ∈ wsX60, w ∈ lw_tbl := px_subT [102, 104, 106, 108] (by decide +kernel)
set_option maxRecDepth 100000 in
theorem it_wsX00 : ∀ w ∈ wsX00, w ∈ lw_tbl := px_subT [138, 140, 142, 144, 146, 148, 150, 152, 154] (by decide +kernel)
set_option maxRecDepth 100000 in
theorem it_wsX90 : ∀ w ∈ wsX90, w ∈ lw_tbl := px_subT [174, 176, 178, 180, 182, 184, 186] (by decide +kernel)
set_option maxRecDepth 100000 in
theorem it_wsX70 : ∀ w ∈ wsX70, w ∈ lw_tbl := px_subT [206, 208, 210, 212, 214, 216] (by decide +kernel)
set_option maxRecDepth 100000 in
theorem it_wsX80 : ∀ w ∈ wsX80, w ∈ lw_tbl := px_subT [243, 245, 247, 249, 251, 253] (by decide +kernel)
set_option maxRecDepth 100000 in
theorem it_wsX10 : ∀ w ∈ wsX10, w ∈ lw_tbl := px_subT [268, 270, 272, 274] (by decide +kernel)
set_option maxRecDepth 100000 in
theorem it_wsX40 : ∀ w ∈ wsX40, w ∈ lw_tbl := px_subT [285] (by decide +kernel)
set_option maxRecDepth 100000 in
theorem it_wsX30 : ∀ w ∈ wsX30, w ∈ lw_tbl := px_subT [295] (by decide +kernel)
set_option maxRecDepth 100000 in
theorem it_wsX20 : ∀ w ∈ wsX20, w ∈ lw_tbl := px_subT [309, 311, 313] (by decide +kernel)
set_option maxRecDepth 100000 in
theorem it_wsX50 : ∀ w ∈ wsX50, w ∈ lw_tbl := px_subT [328, 330, 332] (by decide +kernel)
theorem wsL_law_in : ∀ w ∈ wsL_law, w ∈ lw_tbl := (fun w h => (List.mem_append.mp h).elim ((fun w h => (List.mem_append.mp h).elim ((fun w h => (List.mem_append.mp h).elim ((fun w h => (List.mem_append.mp h).elim ((fun w h => (List.mem_append.mp h).elim ((fun w h => (List.mem_append.mp h).elim ((fun w h => (List.mem_append.mp h).elim ((fun w h => (List.mem_append.mp h).elim ((fun w h => (List.mem_append.mp h).elim ((fun w h => (List.mem_append.mp h).elim ((fun w h => (List.mem_append.mp h).elim ((fun w h => (List.mem_append.mp h).elim ((fun w h => (List.mem_append.mp h).elim ((fun w h => (List.mem_append.mp h).elim (it_wsL_law_r1 w) ((fun w h => (List.mem_append.mp h).elim (it_wsL_law_r2 w) ((fun w h => (List.mem_append.mp h).elim (it_wsL_law_r3 w) ((fun w h => (List.mem_append.mp h).elim (it_wsL_law_r4 w) ((fun w h => (List.mem_append.mp h).elim (it_wsL_law_r5 w) ((fun w h => (List.mem_append.mp h).elim (it_wsL_law_r6 w) ((fun w h => (List.mem_append.mp h).elim (it_wsL_law_r7 w) ((fun w h => (List.mem_append.mp h).elim (it_wsL_law_r8 w) ((fun w h => (List.mem_append.mp h).elim (it_wsL_law_r9 w) ((fun w h => (List.mem_append.mp h).elim (it_wsL_law_r10 w) ((fun w h => (List.mem_append.mp h).elim (it_wsL_law_r11 w) ((fun w h => (List.mem_append.mp h).elim (it_wsL_law_r12 w) ((fun w h => (List.mem_append.mp h).elim (it_wsL_law_r13 w) ((fun w h => (List.mem_append.mp h).elim (it_wsL_law_r14 w) ((fun w h => (List.mem_append.mp h).elim (it_wsL_law_r15 w) ((fun w h => (List.mem_append.mp h).elim (it_wsL_law_r16 w) ((fun w h => (List.mem_append.mp h).elim (it_wsL_law_r17 w) ((fun w h => (List.mem_append.mp h).elim (it_wsL_law_r18 w) ((fun w h => (List.mem_append.mp h).elim (it_wsL_law_r19 w) ((fun w h => (List.mem_append.mp h).elim (it_wsL_law_r20 w) ((fun w h => (List.mem_append.mp h).elim (it_wsL_law_r21 w) ((fun w h => (List.mem_append.mp h).elim (it_wsL_law_r22 w) ((fun w h => (List.mem_append.mp h).elim (it_wsL_law_r23 w) ((fun w h => (List.mem_append.mp h).elim (it_wsL_law_r24 w) ((fun w h => (List.mem_append.mp h).elim (it_wsL_law_r25 w) ((fun w h => (List.mem_append.mp h).elim (it_wsL_law_r26 w) ((fun w h => (List.mem_append.mp h).elim (it_wsL_law_r27 w) ((fun w h => (List.mem_append.mp h).elim (it_wsL_law_r28 w) ((fun w h => (List.mem_append.mp h).elim (it_wsL_law_r29 w) ((fun w h => (List.mem_append.mp h).elim (it_wsL_law_r30 w) ((fun w h => (List.mem_append.mp h).elim (it_wsL_law_r31 w) ((fun w h => (List.mem_append.mp h).elim (it_wsL_law_r32 w) ((fun w h => (List.mem_append.mp h).elim (it_wsL_law_r33 w) ((fun w h => (List.mem_append.mp h).elim (it_wsL_law_r34 w) ((fun w h => (List.mem_append.mp h).elim (it_wsL_law_r35 w) ((fun w h => (List.mem_append.mp h).elim (it_wsL_law_r36 w) ((fun w h => (List.mem_append.mp h).elim (it_wsL_law_r37 w) ((fun w h => (List.mem_append.mp h).elim (it_wsL_law_r38 w) ((fun w h => (List.mem_append.mp h).elim (it_wsL_law_r39 w) ((fun w h => (List.mem_append.mp h).elim (it_wsL_law_r40 w) ((fun w h => (List.mem_append.mp h).elim (it_wsL_law_r41 w) ((fun w h => (List.mem_append.mp h).elim (it_wsL_law_r42 w) ((fun w h => (List.mem_append.mp h).elim (it_wsL_law_r43 w) ((fun w h => (List.mem_append.mp h).elim (it_wsL_law_r44 w) (it_wsL_law_r45 w)) w)) w)) w)) w)) w)) w)) w)) w)) w)) w)) w)) w)) w)) w)) w)) w)) w)) w)) w)) w)) w)) w)) w)) w)) w)) w)) w)) w)) w)) w)) w)) w)) w)) w)) w)) w)) w)) w)) w)) w)) w)) w)) w)) w) (it_wsX100 w)) w) (it_wsX110 w)) w) (it_wsX60 w)) w) (it_wsX00 w)) w) (it_wsX90 w)) w) (it_wsX70 w)) w) (it_wsX80 w)) w) (it_wsX10 w)) w) (it_wsX40 w)) w) (it_wsX30 w)) w) (it_wsX20 w)) w) (it_wsX50 w)) w) (fun h => absurd h List.not_mem_nil))
