/-! the tables are those of the bytes -/
def an_kd : List Nat := [0, 2, 1, 1, 1, 1, 1, 1, 1, 1, 1, 1, 3, 2, 1, 1, 1, 1, 1, 2, 1, 1, 1, 1, 1, 1, 1, 1, 1, 2, 1, 1, 1, 3, 1, 1, 2, 1, 1, 1, 2, 1, 1, 1, 1, 1, 1, 1, 1, 1, 1, 1, 1, 1, 2, 1, 2, 1, 1, 1, 1, 1, 1, 1, 1, 1, 1, 1, 2, 1, 1, 1, 2, 1, 1, 1, 1, 1, 1, 1, 1, 1, 1, 1, 1, 1, 1, 1, 1, 1, 1, 3, 1, 1, 1, 1, 1, 1, 1, 1, 1, 1, 1, 1, 1, 1, 1, 2, 1, 1, 1, 1, 1, 1, 1, 1, 1, 1, 1, 1, 3, 3, 1, 1, 1, 1, 1, 1, 1, 1, 1, 1, 1, 1, 1, 1, 1, 3, 1, 1, 1, 1, 1, 1, 1, 1, 1, 1, 1, 1, 1, 1, 1, 1, 1, 1, 1, 1, 1, 1, 1, 1, 1, 1, 1, 1, 1, 1, 3, 3, 3, 3, 3, 3, 3, 3, 3, 3, 3, 3, 3, 3, 3, 3]
set_option maxRecDepth 100000 in
theorem an_K0 : ak_K an_ms RX0 an_lk0 [134, 138, 139, 140, 143, 147, 149, 151, 153, 155, 157, 159, 162] [] [130, 131, 826, 900, 963, 959, 955, 967, 964] [] = true := by decide +kernel
set_option maxRecDepth 100000 in
theorem an_K1 : ak_K an_ms RX1 an_lk1 [198, 200, 202, 204, 206, 208, 210, 212, 214] [] [197] [] = true := by decide +kernel
set_option maxRecDepth 100000 in
theorem an_K2 : ak_K an_ms RX2 an_lk2 [379, 383, 136, 384, 385, 386, 387, 388, 389, 390, 391, 393, 381, 144, 392, 142] [] [378, 1001, 1002, 1028, 1032, 1006, 1024, 1010, 1011, 1015, 1016, 1020] [] = true := by decide +kernel
set_option maxRecDepth 100000 in
theorem an_K3 : ak_K an_ms RX3 an_lk3 [340, 341, 336, 338, 342, 319, 316, 314] [] [335, 833, 834, 838, 842, 846] [] = true := by decide +kernel
set_option maxRecDepth 100000 in
theorem an_K4 : ak_K an_ms RX4 an_lk4 [313, 315, 317, 318] [] [312, 776, 780] [] = true := by decide +kernel
set_option maxRecDepth 100000 in
theorem an_K5 : ak_K an_ms RX5 an_lk5 [285, 291, 292, 264, 293, 287, 289, 266, 268] [257] [256, 259, 616, 724, 728, 732, 736, 764, 740, 748, 752, 756, 760, 744] [] = true := by decide +kernel
set_option maxRecDepth 100000 in
theorem an_K6 : ak_K an_ms RX6 an_lk6 [241, 243] [] [240] [] = true := by decide +kernel
set_option maxRecDepth 100000 in
theorem an_K7 : ak_K an_ms RX7 an_lk7 [263, 265, 269, 270, 271, 267] [] [262, 620, 623, 720, 627, 631, 708, 712, 716, 635, 696, 640, 644, 654] [] = true := by decide +kernel
set_option maxRecDepth 100000 in
theorem an_K8 : ak_K an_ms RX8 an_lk8 [360, 135, 361, 362, 141, 363, 146] [] [359, 905, 914, 909, 910] [] = true := by decide +kernel
set_option maxRecDepth 100000 in
theorem an_K9 : ak_K an_ms RX9 an_lk9 [421, 422, 423, 242, 424, 425, 426, 427, 428, 137, 429, 431, 145, 160, 161, 244, 320, 290, 286, 288, 430, 432, 148, 150, 152, 154, 156, 158, 199, 201, 203, 205, 207, 209, 211, 213, 382, 380, 215, 337, 339] [125, 192, 235, 251, 307, 330, 354, 373] [122, 127, 99999, 99999, 253, 99999, 99999, 356, 375, 481, 555, 558, 600, 462, 612, 768, 772, 790, 849, 860, 888, 864, 993, 997, 802, 1051, 798, 485, 868, 892, 915, 923, 935, 951, 896, 901, 919, 927, 931, 794, 939, 943, 947, 806, 810, 814, 829, 818, 822] [577, 489] = true := by decide +kernel
set_option maxRecDepth 100000 in
theorem an_K10 : ak_K an_ms RX10 an_lk10 [1072, 1081, 1083, 1084, 1085, 1086, 1087, 1088, 1089, 1090, 1091, 1092, 1093, 1094, 1095, 1096, 1097, 1098, 1099, 1100, 1101, 1102, 1103, 1104, 1105, 1116, 1117, 1118, 1119, 1120, 1121, 1122, 1123, 1125, 1126, 1127, 1074, 1075, 1073, 1078, 1077, 1080, 1108, 1107, 1111, 1110, 1109, 1112, 1113, 1114, 1079, 1106, 1076, 1115, 1082, 1124] [] [1061, 1374, 1249, 1253, 1285, 1289, 1292, 1300, 1301, 1281, 1296, 1303, 1307, 1311, 1315, 1328, 1320, 1324, 1277, 1370, 1375, 1366, 1379, 1354, 1362, 1358, 1350, 1342, 1346, 1390, 1386, 1414, 1406, 1418, 1410, 1430, 1438, 1446, 1402, 1422, 1426, 1434, 1442, 1471, 1459, 1475, 1467, 1463] [1062] = true := by decide +kernel
set_option maxRecDepth 100000 in
theorem an_K11 : ak_K an_ms RL an_lk11 [] [117, 1056] [477, 565, 573, 596, 607, 786, 856, 876, 883, 973, 981, 989, 1039, 1047, 470, 119, 1058, 473, 1245, 1241, 562, 1257, 569, 1261, 593, 1265, 458, 1269, 604, 1273, 466, 1334, 783, 1338, 853, 1382, 873, 1394, 880, 1398, 970, 1447, 978, 1451, 986, 1455, 1036, 1479, 1044, 1483] [476, 572] = true := by decide +kernel
set_option maxRecDepth 100000 in
theorem an_K12 : ak_K an_ms RJ7 an_lk12 [] [] [] [] = true := by decide +kernel
set_option maxRecDepth 100000 in
theorem an_c_X0_init : ak_cM 2 (95, 129, 128, 0) an_X0_init = true := by decide +kernel
set_option maxRecDepth 100000 in
theorem an_c_X0_has : ak_cM 1 (95, 488, 486, 487) an_X0_has = true := by decide +kernel
set_option maxRecDepth 100000 in
theorem an_c_X0_far : ak_cM 1 (95, 825, 823, 824) an_X0_far = true := by decide +kernel
set_option maxRecDepth 100000 in
theorem an_c_X0_areBeside : ak_cM 1 (95, 899, 897, 898) an_X0_areBeside = true := by decide +kernel
set_option maxRecDepth 100000 in
theorem an_c_X0_build : ak_cM 1 (95, 561, 559, 560) an_X0_build = true := by decide +kernel
set_option maxRecDepth 100000 in
theorem an_c_X0_tally : ak_cM 1 (95, 805, 803, 804) an_X0_tally = true := by decide +kernel
set_option maxRecDepth 100000 in
theorem an_c_X0_burns : ak_cM 1 (95, 962, 960, 961) an_X0_burns = true := by decide +kernel
set_option maxRecDepth 100000 in
theorem an_c_X0_burningBeside : ak_cM 1 (95, 996, 994, 995) an_X0_burningBeside = true := by decide +kernel
set_option maxRecDepth 100000 in
theorem an_c_X0_wellNear : ak_cM 1 (95, 934, 932, 933) an_X0_wellNear = true := by decide +kernel
set_option maxRecDepth 100000 in
theorem an_c_X0_warmUp : ak_cM 1 (95, 954, 952, 953) an_X0_warmUp = true := by decide +kernel
set_option maxRecDepth 100000 in
theorem an_c_X0_heatAt : ak_cM 1 (95, 958, 957, 44) an_X0_heatAt = true := by decide +kernel
set_option maxRecDepth 100000 in
theorem an_c_X0_windFrom : ak_cM 3 (95, 966, 965, 0) an_X0_windFrom = true := by decide +kernel
set_option maxRecDepth 100000 in
theorem an_c_X1_init : ak_cM 2 (97, 196, 195, 0) an_X1_init = true := by decide +kernel
set_option maxRecDepth 100000 in
theorem an_c_X1_has : ak_cM 1 (97, 871, 869, 870) an_X1_has = true := by decide +kernel
set_option maxRecDepth 100000 in
theorem an_c_X1_enlist : ak_cM 1 (97, 603, 601, 602) an_X1_enlist = true := by decide +kernel
set_option maxRecDepth 100000 in
theorem an_c_X1_forget : ak_cM 1 (97, 797, 795, 796) an_X1_forget = true := by decide +kernel
set_option maxRecDepth 100000 in
theorem an_c_X1_bound : ak_cM 1 (97, 852, 850, 851) an_X1_bound = true := by decide +kernel
set_option maxRecDepth 100000 in
theorem an_c_X1_allQuarrels : ak_cM 1 (97, 1054, 1052, 1053) an_X1_allQuarrels = true := by decide +kernel
set_option maxRecDepth 100000 in
theorem an_c_X2_init : ak_cM 2 (104, 377, 376, 0) an_X2_init = true := by decide +kernel
set_option maxRecDepth 100000 in
theorem an_c_X2_plan : ak_cM 1 (104, 1000, 998, 999) an_X2_plan = true := by decide +kernel
set_option maxRecDepth 100000 in
theorem an_c_X2_addRow : ak_cM 1 (104, 1005, 1004, 45) an_X2_addRow = true := by decide +kernel
set_option maxRecDepth 100000 in
theorem an_c_X2_turn : ak_cM 1 (104, 1027, 1026, 50) an_X2_turn = true := by decide +kernel
set_option maxRecDepth 100000 in
theorem an_c_X2_search : ak_cM 1 (104, 1009, 1008, 46) an_X2_search = true := by decide +kernel
set_option maxRecDepth 100000 in
theorem an_c_X2_goOnFromEntry : ak_cM 1 (104, 1019, 1018, 48) an_X2_goOnFromEntry = true := by decide +kernel
set_option maxRecDepth 100000 in
theorem an_c_X2_goOnFromExit : ak_cM 1 (104, 1023, 1022, 49) an_X2_goOnFromExit = true := by decide +kernel
set_option maxRecDepth 100000 in
theorem an_c_X2_see : ak_cM 1 (104, 1014, 1013, 47) an_X2_see = true := by decide +kernel
set_option maxRecDepth 100000 in
theorem an_c_X2_isInSomeBreak : ak_cM 1 (104, 1031, 1030, 51) an_X2_isInSomeBreak = true := by decide +kernel
set_option maxRecDepth 100000 in
theorem an_c_X2_keep : ak_cM 1 (104, 1035, 1034, 52) an_X2_keep = true := by decide +kernel
set_option maxRecDepth 100000 in
theorem an_c_X3_init : ak_cM 2 (102, 334, 333, 0) an_X3_init = true := by decide +kernel
set_option maxRecDepth 100000 in
theorem an_c_X3_learn : ak_cM 1 (102, 821, 819, 820) an_X3_learn = true := by decide +kernel
set_option maxRecDepth 100000 in
theorem an_c_X3_apply : ak_cM 1 (102, 832, 830, 831) an_X3_apply = true := by decide +kernel
set_option maxRecDepth 100000 in
theorem an_c_X3_take : ak_cM 1 (102, 837, 836, 27) an_X3_take = true := by decide +kernel
set_option maxRecDepth 100000 in
theorem an_c_X3_join : ak_cM 3 (102, 848, 847, 0) an_X3_join = true := by decide +kernel
set_option maxRecDepth 100000 in
theorem an_c_X3_push : ak_cM 1 (102, 841, 840, 28) an_X3_push = true := by decide +kernel
set_option maxRecDepth 100000 in
theorem an_c_X3_pop : ak_cM 1 (102, 845, 844, 29) an_X3_pop = true := by decide +kernel
set_option maxRecDepth 100000 in
theorem an_c_X4_init : ak_cM 2 (101, 311, 310, 0) an_X4_init = true := by decide +kernel
set_option maxRecDepth 100000 in
theorem an_c_X4_enter : ak_cM 1 (101, 775, 773, 774) an_X4_enter = true := by decide +kernel
set_option maxRecDepth 100000 in
theorem an_c_X4_begin : ak_cM 1 (101, 779, 777, 778) an_X4_begin = true := by decide +kernel
set_option maxRecDepth 100000 in
theorem an_c_X4_inForce : ak_cM 1 (101, 801, 799, 800) an_X4_inForce = true := by decide +kernel
set_option maxRecDepth 100000 in
theorem an_c_X5_init : ak_cM 2 (99, 255, 254, 0) an_X5_init = true := by decide +kernel
set_option maxRecDepth 100000 in
theorem an_c_X5_reads : ak_cM 1 (99, 615, 613, 614) an_X5_reads = true := by decide +kernel
set_option maxRecDepth 100000 in
theorem an_c_X5_place : ak_cM 1 (99, 771, 769, 770) an_X5_place = true := by decide +kernel
set_option maxRecDepth 100000 in
theorem an_c_X5_readRule : ak_cM 1 (99, 727, 726, 12) an_X5_readRule = true := by decide +kernel
set_option maxRecDepth 100000 in
theorem an_c_X5_readExpr : ak_cM 1 (99, 739, 738, 15) an_X5_readExpr = true := by decide +kernel
set_option maxRecDepth 100000 in
theorem an_c_X5_readTest : ak_cM 1 (99, 755, 754, 19) an_X5_readTest = true := by decide +kernel
set_option maxRecDepth 100000 in
theorem an_c_X5_readSum : ak_cM 1 (99, 759, 758, 20) an_X5_readSum = true := by decide +kernel
set_option maxRecDepth 100000 in
theorem an_c_X5_readPart : ak_cM 1 (99, 763, 762, 21) an_X5_readPart = true := by decide +kernel
set_option maxRecDepth 100000 in
theorem an_c_X5_isNumberOrName : ak_cM 1 (99, 747, 746, 17) an_X5_isNumberOrName = true := by decide +kernel
set_option maxRecDepth 100000 in
theorem an_c_X5_beginsPart : ak_cM 1 (99, 743, 742, 16) an_X5_beginsPart = true := by decide +kernel
set_option maxRecDepth 100000 in
theorem an_c_X5_faultOfPart : ak_cM 1 (99, 751, 750, 18) an_X5_faultOfPart = true := by decide +kernel
set_option maxRecDepth 100000 in
theorem an_c_X5_fail : ak_cM 1 (99, 731, 730, 13) an_X5_fail = true := by decide +kernel
set_option maxRecDepth 100000 in
theorem an_c_X5_emit : ak_cM 1 (99, 767, 766, 22) an_X5_emit = true := by decide +kernel
set_option maxRecDepth 100000 in
theorem an_c_X5_advance : ak_cM 1 (99, 735, 734, 14) an_X5_advance = true := by decide +kernel
set_option maxRecDepth 100000 in
theorem an_c_X6_init : ak_cM 2 (98, 239, 238, 0) an_X6_init = true := by decide +kernel
set_option maxRecDepth 100000 in
theorem an_c_X6_put : ak_cM 1 (98, 465, 463, 464) an_X6_put = true := by decide +kernel
set_option maxRecDepth 100000 in
theorem an_c_X7_init : ak_cM 2 (100, 261, 260, 0) an_X7_init = true := by decide +kernel
set_option maxRecDepth 100000 in
theorem an_c_X7_scan : ak_cM 1 (100, 619, 617, 618) an_X7_scan = true := by decide +kernel
set_option maxRecDepth 100000 in
theorem an_c_X7_add : ak_cM 1 (100, 723, 722, 11) an_X7_add = true := by decide +kernel
set_option maxRecDepth 100000 in
theorem an_c_X7_takeToken : ak_cM 1 (100, 626, 625, 2) an_X7_takeToken = true := by decide +kernel
set_option maxRecDepth 100000 in
theorem an_c_X7_letterAt : ak_cM 1 (100, 630, 629, 3) an_X7_letterAt = true := by decide +kernel
set_option maxRecDepth 100000 in
theorem an_c_X7_digitAt : ak_cM 1 (100, 711, 710, 8) an_X7_digitAt = true := by decide +kernel
set_option maxRecDepth 100000 in
theorem an_c_X7_takeNumber : ak_cM 1 (100, 715, 714, 9) an_X7_takeNumber = true := by decide +kernel
set_option maxRecDepth 100000 in
theorem an_c_X7_takeWord : ak_cM 1 (100, 634, 633, 4) an_X7_takeWord = true := by decide +kernel
set_option maxRecDepth 100000 in
theorem an_c_X7_keyword : ak_cM 1 (100, 638, 637, 5) an_X7_keyword = true := by decide +kernel
set_option maxRecDepth 100000 in
theorem an_c_X7_nameWord : ak_cM 1 (100, 699, 698, 7) an_X7_nameWord = true := by decide +kernel
set_option maxRecDepth 100000 in
theorem an_c_X7_wordIs : ak_cM 1 (100, 643, 642, 6) an_X7_wordIs = true := by decide +kernel
set_option maxRecDepth 100000 in
theorem an_c_X7_signAt : ak_cM 1 (100, 719, 718, 10) an_X7_signAt = true := by decide +kernel
set_option maxRecDepth 100000 in
theorem an_c_X8_init : ak_cM 2 (103, 358, 357, 0) an_X8_init = true := by decide +kernel
set_option maxRecDepth 100000 in
theorem an_c_X8_stepTowards : ak_cM 1 (103, 904, 902, 903) an_X8_stepTowards = true := by decide +kernel
set_option maxRecDepth 100000 in
theorem an_c_X8_reckonSteps : ak_cM 1 (103, 908, 907, 34) an_X8_reckonSteps = true := by decide +kernel
set_option maxRecDepth 100000 in
theorem an_c_X8_spread : ak_cM 1 (103, 913, 912, 35) an_X8_spread = true := by decide +kernel
set_option maxRecDepth 100000 in
theorem an_c_X9_init : ak_cM 2 (94, 121, 120, 0) an_X9_init = true := by decide +kernel
set_option maxRecDepth 100000 in
theorem an_c_X9_house : ak_cM 1 (94, 480, 478, 479) an_X9_house = true := by decide +kernel
set_option maxRecDepth 100000 in
theorem an_c_X9_well : ak_cM 1 (94, 568, 566, 567) an_X9_well = true := by decide +kernel
set_option maxRecDepth 100000 in
theorem an_c_X9_wind : ak_cM 1 (94, 576, 574, 575) an_X9_wind = true := by decide +kernel
set_option maxRecDepth 100000 in
theorem an_c_X9_company : ak_cM 1 (94, 599, 597, 598) an_X9_company = true := by decide +kernel
set_option maxRecDepth 100000 in
theorem an_c_X9_feed : ak_cM 1 (94, 461, 459, 460) an_X9_feed = true := by decide +kernel
set_option maxRecDepth 100000 in
theorem an_c_X9_law : ak_cM 1 (94, 610, 608, 609) an_X9_law = true := by decide +kernel
set_option maxRecDepth 100000 in
theorem an_c_X9_fault : ak_cM 1 (94, 469, 467, 468) an_X9_fault = true := by decide +kernel
set_option maxRecDepth 100000 in
theorem an_c_X9_light : ak_cM 1 (94, 789, 787, 788) an_X9_light = true := by decide +kernel
set_option maxRecDepth 100000 in
theorem an_c_X9_send : ak_cM 1 (94, 859, 857, 858) an_X9_send = true := by decide +kernel
set_option maxRecDepth 100000 in
theorem an_c_X9_pull : ak_cM 1 (94, 879, 877, 878) an_X9_pull = true := by decide +kernel
set_option maxRecDepth 100000 in
theorem an_c_X9_hours : ak_cM 1 (94, 886, 884, 885) an_X9_hours = true := by decide +kernel
set_option maxRecDepth 100000 in
theorem an_c_X9_cell : ak_cM 1 (94, 976, 974, 975) an_X9_cell = true := by decide +kernel
set_option maxRecDepth 100000 in
theorem an_c_X9_of : ak_cM 1 (94, 984, 982, 983) an_X9_of = true := by decide +kernel
set_option maxRecDepth 100000 in
theorem an_c_X9_breaks : ak_cM 1 (94, 992, 990, 991) an_X9_breaks = true := by decide +kernel
set_option maxRecDepth 100000 in
theorem an_c_X9_breaker : ak_cM 1 (94, 1042, 1040, 1041) an_X9_breaker = true := by decide +kernel
set_option maxRecDepth 100000 in
theorem an_c_X9_count : ak_cM 1 (94, 1050, 1048, 1049) an_X9_count = true := by decide +kernel
set_option maxRecDepth 100000 in
theorem an_c_X9_needCell : ak_cM 1 (94, 484, 483, 0) an_X9_needCell = true := by decide +kernel
set_option maxRecDepth 100000 in
theorem an_c_X9_needCrew : ak_cM 1 (94, 867, 866, 31) an_X9_needCrew = true := by decide +kernel
set_option maxRecDepth 100000 in
theorem an_c_X9_isWard : ak_cM 3 (94, 557, 556, 0) an_X9_isWard = true := by decide +kernel
set_option maxRecDepth 100000 in
theorem an_c_X9_order : ak_cM 1 (94, 863, 862, 30) an_X9_order = true := by decide +kernel
set_option maxRecDepth 100000 in
theorem an_c_X9_passHour : ak_cM 1 (94, 891, 890, 32) an_X9_passHour = true := by decide +kernel
set_option maxRecDepth 100000 in
theorem an_c_X9_crewsGo : ak_cM 1 (94, 895, 894, 33) an_X9_crewsGo = true := by decide +kernel
set_option maxRecDepth 100000 in
theorem an_c_X9_giveRoofs : ak_cM 1 (94, 918, 917, 36) an_X9_giveRoofs = true := by decide +kernel
set_option maxRecDepth 100000 in
theorem an_c_X9_giveRoof : ak_cM 1 (94, 922, 921, 37) an_X9_giveRoof = true := by decide +kernel
set_option maxRecDepth 100000 in
theorem an_c_X9_crewsWork : ak_cM 1 (94, 926, 925, 38) an_X9_crewsWork = true := by decide +kernel
set_option maxRecDepth 100000 in
theorem an_c_X9_pullAt : ak_cM 1 (94, 930, 929, 39) an_X9_pullAt = true := by decide +kernel
set_option maxRecDepth 100000 in
theorem an_c_X9_fireEats : ak_cM 1 (94, 938, 937, 40) an_X9_fireEats = true := by decide +kernel
set_option maxRecDepth 100000 in
theorem an_c_X9_putOut : ak_cM 1 (94, 942, 941, 41) an_X9_putOut = true := by decide +kernel
set_option maxRecDepth 100000 in
theorem an_c_X9_leave : ak_cM 1 (94, 946, 945, 42) an_X9_leave = true := by decide +kernel
set_option maxRecDepth 100000 in
theorem an_c_X9_ringBells : ak_cM 1 (94, 793, 792, 23) an_X9_ringBells = true := by decide +kernel
set_option maxRecDepth 100000 in
theorem an_c_X9_ringBell : ak_cM 1 (94, 809, 808, 24) an_X9_ringBell = true := by decide +kernel
set_option maxRecDepth 100000 in
theorem an_c_X9_isCalled : ak_cM 1 (94, 813, 812, 25) an_X9_isCalled = true := by decide +kernel
set_option maxRecDepth 100000 in
theorem an_c_X9_payFor : ak_cM 1 (94, 950, 949, 43) an_X9_payFor = true := by decide +kernel
set_option maxRecDepth 100000 in
theorem an_c_X9_inform : ak_cM 1 (94, 817, 816, 26) an_X9_inform = true := by decide +kernel
set_option maxRecDepth 100000 in
theorem an_c_X10_init : ak_cM 2 (105, 1060, 1059, 0) an_X10_init = true := by decide +kernel
set_option maxRecDepth 100000 in
theorem an_c_X10_thrown : ak_cM 1 (105, 1244, 1242, 1243) an_X10_thrown = true := by decide +kernel
set_option maxRecDepth 100000 in
theorem an_c_X10_fail : ak_cM 1 (105, 1256, 1255, 54) an_X10_fail = true := by decide +kernel
set_option maxRecDepth 100000 in
theorem an_c_X10_isCell : ak_cM 1 (105, 1252, 1251, 53) an_X10_isCell = true := by decide +kernel
set_option maxRecDepth 100000 in
theorem an_c_X10_isCompany : ak_cM 1 (105, 1393, 1392, 76) an_X10_isCompany = true := by decide +kernel
set_option maxRecDepth 100000 in
theorem an_c_X10_beside : ak_cM 1 (105, 1421, 1420, 81) an_X10_beside = true := by decide +kernel
set_option maxRecDepth 100000 in
theorem an_c_X10_far : ak_cM 1 (105, 1373, 1372, 73) an_X10_far = true := by decide +kernel
set_option maxRecDepth 100000 in
theorem an_c_X10_house : ak_cM 1 (105, 1248, 1246, 1247) an_X10_house = true := by decide +kernel
set_option maxRecDepth 100000 in
theorem an_c_X10_well : ak_cM 1 (105, 1260, 1258, 1259) an_X10_well = true := by decide +kernel
set_option maxRecDepth 100000 in
theorem an_c_X10_wind : ak_cM 1 (105, 1264, 1262, 1263) an_X10_wind = true := by decide +kernel
set_option maxRecDepth 100000 in
theorem an_c_X10_company : ak_cM 1 (105, 1268, 1266, 1267) an_X10_company = true := by decide +kernel
set_option maxRecDepth 100000 in
theorem an_c_X10_feed : ak_cM 1 (105, 1272, 1270, 1271) an_X10_feed = true := by decide +kernel
set_option maxRecDepth 100000 in
theorem an_c_X10_byteAt : ak_cM 1 (105, 1288, 1287, 57) an_X10_byteAt = true := by decide +kernel
set_option maxRecDepth 100000 in
theorem an_c_X10_isLetter : ak_cM 3 (105, 1291, 1290, 0) an_X10_isLetter = true := by decide +kernel
set_option maxRecDepth 100000 in
theorem an_c_X10_isDigit : ak_cM 3 (105, 1294, 1293, 0) an_X10_isDigit = true := by decide +kernel
set_option maxRecDepth 100000 in
theorem an_c_X10_step : ak_cM 1 (105, 1284, 1283, 56) an_X10_step = true := by decide +kernel
set_option maxRecDepth 100000 in
theorem an_c_X10_isWord : ak_cM 1 (105, 1299, 1298, 58) an_X10_isWord = true := by decide +kernel
set_option maxRecDepth 100000 in
theorem an_c_X10_isSign : ak_cM 1 (105, 1314, 1313, 61) an_X10_isSign = true := by decide +kernel
set_option maxRecDepth 100000 in
theorem an_c_X10_wrong : ak_cM 1 (105, 1306, 1305, 59) an_X10_wrong = true := by decide +kernel
set_option maxRecDepth 100000 in
theorem an_c_X10_emit : ak_cM 1 (105, 1331, 1330, 65) an_X10_emit = true := by decide +kernel
set_option maxRecDepth 100000 in
theorem an_c_X10_readLaw : ak_cM 1 (105, 1280, 1279, 55) an_X10_readLaw = true := by decide +kernel
set_option maxRecDepth 100000 in
theorem an_c_X10_readExpression : ak_cM 1 (105, 1310, 1309, 60) an_X10_readExpression = true := by decide +kernel
set_option maxRecDepth 100000 in
theorem an_c_X10_readTest : ak_cM 1 (105, 1318, 1317, 62) an_X10_readTest = true := by decide +kernel
set_option maxRecDepth 100000 in
theorem an_c_X10_readSum : ak_cM 1 (105, 1323, 1322, 63) an_X10_readSum = true := by decide +kernel
set_option maxRecDepth 100000 in
theorem an_c_X10_readPart : ak_cM 1 (105, 1327, 1326, 64) an_X10_readPart = true := by decide +kernel
set_option maxRecDepth 100000 in
theorem an_c_X10_law : ak_cM 1 (105, 1276, 1274, 1275) an_X10_law = true := by decide +kernel
set_option maxRecDepth 100000 in
theorem an_c_X10_fault : ak_cM 1 (105, 1337, 1335, 1336) an_X10_fault = true := by decide +kernel
set_option maxRecDepth 100000 in
theorem an_c_X10_force : ak_cM 1 (105, 1357, 1356, 69) an_X10_force = true := by decide +kernel
set_option maxRecDepth 100000 in
theorem an_c_X10_many : ak_cM 1 (105, 1378, 1377, 74) an_X10_many = true := by decide +kernel
set_option maxRecDepth 100000 in
theorem an_c_X10_value : ak_cM 1 (105, 1369, 1368, 72) an_X10_value = true := by decide +kernel
set_option maxRecDepth 100000 in
theorem an_c_X10_two : ak_cM 3 (105, 1381, 1380, 0) an_X10_two = true := by decide +kernel
set_option maxRecDepth 100000 in
theorem an_c_X10_told : ak_cM 1 (105, 1365, 1364, 71) an_X10_told = true := by decide +kernel
set_option maxRecDepth 100000 in
theorem an_c_X10_ruled : ak_cM 1 (105, 1361, 1360, 70) an_X10_ruled = true := by decide +kernel
set_option maxRecDepth 100000 in
theorem an_c_X10_isCalled : ak_cM 1 (105, 1353, 1352, 68) an_X10_isCalled = true := by decide +kernel
set_option maxRecDepth 100000 in
theorem an_c_X10_payOf : ak_cM 1 (105, 1441, 1440, 86) an_X10_payOf = true := by decide +kernel
set_option maxRecDepth 100000 in
theorem an_c_X10_noGoal : ak_cM 1 (105, 1345, 1344, 66) an_X10_noGoal = true := by decide +kernel
set_option maxRecDepth 100000 in
theorem an_c_X10_ring : ak_cM 1 (105, 1349, 1348, 67) an_X10_ring = true := by decide +kernel
set_option maxRecDepth 100000 in
theorem an_c_X10_light : ak_cM 1 (105, 1341, 1339, 1340) an_X10_light = true := by decide +kernel
set_option maxRecDepth 100000 in
theorem an_c_X10_aim : ak_cM 1 (105, 1389, 1388, 75) an_X10_aim = true := by decide +kernel
set_option maxRecDepth 100000 in
theorem an_c_X10_send : ak_cM 1 (105, 1385, 1383, 1384) an_X10_send = true := by decide +kernel
set_option maxRecDepth 100000 in
theorem an_c_X10_pull : ak_cM 1 (105, 1397, 1395, 1396) an_X10_pull = true := by decide +kernel
set_option maxRecDepth 100000 in
theorem an_c_X10_isBeside : ak_cM 1 (105, 1409, 1408, 78) an_X10_isBeside = true := by decide +kernel
set_option maxRecDepth 100000 in
theorem an_c_X10_isOpen : ak_cM 1 (105, 1417, 1416, 80) an_X10_isOpen = true := by decide +kernel
set_option maxRecDepth 100000 in
theorem an_c_X10_reckon : ak_cM 1 (105, 1413, 1412, 79) an_X10_reckon = true := by decide +kernel
set_option maxRecDepth 100000 in
theorem an_c_X10_go : ak_cM 1 (105, 1405, 1404, 77) an_X10_go = true := by decide +kernel
set_option maxRecDepth 100000 in
theorem an_c_X10_roofs : ak_cM 1 (105, 1425, 1424, 82) an_X10_roofs = true := by decide +kernel
set_option maxRecDepth 100000 in
theorem an_c_X10_isByWell : ak_cM 1 (105, 1433, 1432, 84) an_X10_isByWell = true := by decide +kernel
set_option maxRecDepth 100000 in
theorem an_c_X10_work : ak_cM 1 (105, 1429, 1428, 83) an_X10_work = true := by decide +kernel
set_option maxRecDepth 100000 in
theorem an_c_X10_burn : ak_cM 1 (105, 1437, 1436, 85) an_X10_burn = true := by decide +kernel
set_option maxRecDepth 100000 in
theorem an_c_X10_warm : ak_cM 1 (105, 1445, 1444, 87) an_X10_warm = true := by decide +kernel
set_option maxRecDepth 100000 in
theorem an_c_X10_hours : ak_cM 1 (105, 1401, 1399, 1400) an_X10_hours = true := by decide +kernel
set_option maxRecDepth 100000 in
theorem an_c_X10_cell : ak_cM 1 (105, 1450, 1448, 1449) an_X10_cell = true := by decide +kernel
set_option maxRecDepth 100000 in
theorem an_c_X10_of : ak_cM 1 (105, 1454, 1452, 1453) an_X10_of = true := by decide +kernel
set_option maxRecDepth 100000 in
theorem an_c_X10_isSource : ak_cM 1 (105, 1462, 1461, 88) an_X10_isSource = true := by decide +kernel
set_option maxRecDepth 100000 in
theorem an_c_X10_stays : ak_cM 1 (105, 1474, 1473, 91) an_X10_stays = true := by decide +kernel
set_option maxRecDepth 100000 in
theorem an_c_X10_oneMore : ak_cM 1 (105, 1470, 1469, 90) an_X10_oneMore = true := by decide +kernel
set_option maxRecDepth 100000 in
theorem an_c_X10_trace : ak_cM 1 (105, 1478, 1477, 92) an_X10_trace = true := by decide +kernel
set_option maxRecDepth 100000 in
theorem an_c_X10_least : ak_cM 1 (105, 1466, 1465, 89) an_X10_least = true := by decide +kernel
set_option maxRecDepth 100000 in
theorem an_c_X10_breaks : ak_cM 1 (105, 1458, 1456, 1457) an_X10_breaks = true := by decide +kernel
set_option maxRecDepth 100000 in
theorem an_c_X10_breaker : ak_cM 1 (105, 1482, 1480, 1481) an_X10_breaker = true := by decide +kernel
set_option maxRecDepth 100000 in
theorem an_c_X10_count : ak_cM 1 (105, 1486, 1484, 1485) an_X10_count = true := by decide +kernel
set_option maxRecDepth 100000 in
theorem an_c_J7_fill_53178 : ak_cM 3 (96, 133, 132, 0) an_J7_fill_53178 = true := by decide +kernel
set_option maxRecDepth 100000 in
theorem an_c_L_cell : ak_cM 3 (93, 472, 471, 0) an_L_cell = true := by decide +kernel
set_option maxRecDepth 100000 in
theorem an_c_L_house : ak_cM 3 (93, 475, 474, 0) an_L_house = true := by decide +kernel
set_option maxRecDepth 100000 in
theorem an_c_L_well : ak_cM 3 (93, 564, 563, 0) an_L_well = true := by decide +kernel
set_option maxRecDepth 100000 in
theorem an_c_L_wind : ak_cM 3 (93, 571, 570, 0) an_L_wind = true := by decide +kernel
set_option maxRecDepth 100000 in
theorem an_c_L_company : ak_cM 3 (93, 595, 594, 0) an_L_company = true := by decide +kernel
set_option maxRecDepth 100000 in
theorem an_c_L_law : ak_cM 3 (93, 606, 605, 0) an_L_law = true := by decide +kernel
set_option maxRecDepth 100000 in
theorem an_c_L_light : ak_cM 3 (93, 785, 784, 0) an_L_light = true := by decide +kernel
set_option maxRecDepth 100000 in
theorem an_c_L_send : ak_cM 3 (93, 855, 854, 0) an_L_send = true := by decide +kernel
set_option maxRecDepth 100000 in
theorem an_c_L_pull : ak_cM 3 (93, 875, 874, 0) an_L_pull = true := by decide +kernel
set_option maxRecDepth 100000 in
theorem an_c_L_hours : ak_cM 3 (93, 882, 881, 0) an_L_hours = true := by decide +kernel
set_option maxRecDepth 100000 in
theorem an_c_L_cell_ : ak_cM 3 (93, 972, 971, 0) an_L_cell_ = true := by decide +kernel
set_option maxRecDepth 100000 in
theorem an_c_L_of : ak_cM 3 (93, 980, 979, 0) an_L_of = true := by decide +kernel
set_option maxRecDepth 100000 in
theorem an_c_L_breaks : ak_cM 3 (93, 988, 987, 0) an_L_breaks = true := by decide +kernel
set_option maxRecDepth 100000 in
theorem an_c_L_breaker : ak_cM 3 (93, 1038, 1037, 0) an_L_breaker = true := by decide +kernel
set_option maxRecDepth 100000 in
theorem an_c_L_count : ak_cM 3 (93, 1046, 1045, 0) an_L_count = true := by decide +kernel
def an_ta : List (Nat × Nat × String) := [(9, 109, "java/lang/IllegalArgumentException"), (9, 187, "java/util/NoSuchElementException")]
set_option maxRecDepth 100000 in
theorem an_ta0 : ak_ta an_on (9, 109, "java/lang/IllegalArgumentException") [106, 511, 520, 523, 526, 528, 512, 513, 123, 124, 514, 519, 524, 544, 501, 545, 503, 546, 505, 515, 517, 507, 540, 541, 543, 507, 588, 589, 590, 534, 0, 534, 535, 536, 537, 0, 537, 538, 539, 540, 0, 587, 578, 0, 580, 522, 581, 582, 583, 584, 510, 509, 585, 110] = true := by decide +kernel
set_option maxRecDepth 100000 in
theorem an_ta1 : ak_ta an_on (9, 187, "java/util/NoSuchElementException") [106, 511, 520, 523, 526, 528, 512, 513, 123, 124, 514, 519, 524, 544, 501, 545, 503, 546, 505, 515, 517, 507, 540, 541, 543, 507, 531, 532, 533, 534, 0, 534, 535, 536, 537, 0, 537, 538, 539, 540, 0, 530, 490, 0, 498, 499, 500, 502, 504, 506, 510, 509, 508, 109] = true := by decide +kernel
theorem an_tas : ∀ x ∈ an_ta, ∃ ps, ak_ta an_on x ps = true := by
  intro x hx
  simp only [an_ta, List.mem_cons, List.not_mem_nil, or_false] at hx
  rcases hx with rfl | rfl
  · exact ⟨_, an_ta0⟩
  · exact ⟨_, an_ta1⟩
set_option maxRecDepth 100000 in
theorem an_ars : ak_ars (190, 191, 250, 1487) = true := by decide +kernel
theorem an_c0 : ∃ ps, ak_cM (an_kd.getD 0 0) ps an_X0_init = true := ⟨(95, 129, 0, 0), by decide +kernel⟩
