def zRn (c : Nat) : String := match c with
  | 0 => RX0
  | 1 => RX1
  | 2 => RX2
  | 3 => RX3
  | 4 => RX4
  | 5 => RX5
  | 6 => RX6
  | 7 => "TablesAndTipsLaw"
  | _ => ""
def zT (c : Nat) : u_T := match c with
  | 0 => TX0
  | 1 => TX1
  | 2 => TX2
  | 3 => TX3
  | 4 => TX4
  | 5 => TX5
  | _ => TX6
def zTy (c : Nat) : Nat → FieldType := match c with
  | 0 => tyX0
  | 1 => tyX1
  | 2 => tyX2
  | 3 => tyX3
  | 4 => tyX4
  | 5 => tyX5
  | _ => tyX6
def zNn (c : Nat) : Nat := match c with
  | 0 => 5
  | 1 => 9
  | 2 => 11
  | 3 => 4
  | 4 => 3
  | 5 => 8
  | _ => 48
abbrev zcls : List vw_C := [(RX0, TX0, 5), (RX1, TX1, 9), (RX2, TX2, 11), (RX3, TX3, 4), (RX4, TX4, 3), (RX5, TX5, 8), (RX6, TX6, 48)]
theorem zcls_at : ∀ c, c < 7 → zcls[c]? = some (zRn c, zT c, zNn c) := by
  intro c h
  match c, h with
  | 0, _ => rfl
  | 1, _ => rfl
  | 2, _ => rfl
  | 3, _ => rfl
  | 4, _ => rfl
  | 5, _ => rfl
  | 6, _ => rfl
theorem zTy_ok : ∀ c, c < 7 → ∀ k, k < zNn c → parseFieldDescriptor (zT c k).2.2.1 = some (zTy c k) := by
  intro c h
  match c, h with
  | 0, _ => exact tyX0_ok
  | 1, _ => exact tyX1_ok
  | 2, _ => exact tyX2_ok
  | 3, _ => exact tyX3_ok
  | 4, _ => exact tyX4_ok
  | 5, _ => exact tyX5_ok
  | 6, _ => exact tyX6_ok
theorem znm_ok : ∀ c, c < 7 → ∀ a, a < zNn c → ∀ b, b < zNn c → a ≠ b → (zT c a).2.1 ≠ (zT c b).2.1 := by
  intro c h
  match c, h with
  | 0, _ => exact nmX0
  | 1, _ => exact nmX1
  | 2, _ => exact nmX2
  | 3, _ => exact nmX3
  | 4, _ => exact nmX4
  | 5, _ => exact nmX5
  | 6, _ => exact nmX6
theorem zin_0 : ∀ w ∈ u_ws RX0 TX0 5, w ∈ lw_tbl := by decide +kernel
theorem zin_1 : ∀ w ∈ u_ws RX1 TX1 9, w ∈ lw_tbl := by decide +kernel
theorem zin_2 : ∀ w ∈ u_ws RX2 TX2 11, w ∈ lw_tbl := by decide +kernel
theorem zin_3 : ∀ w ∈ u_ws RX3 TX3 4, w ∈ lw_tbl := by decide +kernel
theorem zin_4 : ∀ w ∈ u_ws RX4 TX4 3, w ∈ lw_tbl := by decide +kernel
theorem zin_5 : ∀ w ∈ u_ws RX5 TX5 8, w ∈ lw_tbl := by decide +kernel
theorem zin_6 : ∀ w ∈ u_ws RX6 TX6 48, w ∈ lw_tbl := by decide +kernel
theorem zfk_ok : ∀ c, c < 7 → ∀ k, k < zNn c → (zT c k).1 = zRn c ∧ (zfk c k = 0 → zTy c k = .int ∧ (zT c k).2.2.2 = false) ∧ (zfk c k = 1 → zTy c k = .boolean ∧ (zT c k).2.2.2 = false) := by decide +kernel
theorem zlen_obj : ∀ a, a < 80 → zTag a < 7 → zLen a = zNn (zTag a) := by decide +kernel
theorem zw_fl : ∀ q ∈ zflL, tables_1[q.2.2.2.2]? = some (Cond.fieldLink (zRn q.1) q.2.1 (zRn q.2.2.1) (zT q.2.2.1 q.2.2.2.1).2.1 (zT q.2.2.1 q.2.2.2.1).2.2.1) ∧ q.2.2.1 < 7 ∧ q.2.2.2.1 < zNn q.2.2.1 := by decide +kernel
def zsC (t : Nat) : String := if t = 1006 then "TablesAndTips$Reader" else "TablesAndTips"
def zsN (t : Nat) : String := match t with
  | 1000 => "KIND_ABOVE"
  | 1001 => "TABLE_LEAST"
  | 1002 => "TABLE_MOST"
  | 1003 => "WAITER_LEAST"
  | 1004 => "WAITER_MOST"
  | 1005 => "SETTING_MOST"
  | 1006 => "NUMBERS_OF_ITEM"
  | _ => ""
theorem zw_sl : ∀ q ∈ zslL, zTag q.2.2.1 = 20 ∧ ((q.2.2.2.1 = 0 ∧ tables_1[q.2.2.2.2]? = some (Cond.fieldLink (zRn q.1) q.2.1 (zsC q.2.2.1) (zsN q.2.2.1) "[I")) ∨ (q.2.2.2.1 = 1 ∧ tables_1[q.2.2.2.2]? = some (Cond.fieldLinkNest (zRn q.1) q.2.1 (zsC q.2.2.1) (zsN q.2.2.1) "[I" "TablesAndTips"))) := by decide +kernel
def zKl : List (Nat × Nat × Nat × Nat) := [(1, 944, 942, 1035), (2, 948, 946, 1039), (3, 1001, 999, 1092), (4, 976, 974, 1067), (5, 957, 956, 39), (6, 952, 950, 1043), (7, 962, 960, 1053), (8, 967, 965, 1058), (1001, 475, 473, 566), (1002, 803, 801, 894), (1003, 690, 688, 781), (1004, 993, 991, 1084), (1005, 911, 909, 1002), (1006, 997, 995, 1088), (1007, 936, 934, 1027), (1008, 263, 261, 354), (1009, 315, 313, 406), (1010, 367, 366, 0), (1011, 443, 442, 0), (1012, 395, 393, 486), (1013, 403, 401, 494), (1014, 375, 373, 466), (1015, 364, 362, 455), (1016, 391, 389, 482), (1017, 287, 285, 378), (1018, 411, 410, 8), (1019, 407, 406, 7), (1020, 415, 413, 506), (1021, 311, 309, 402), (1022, 379, 377, 470), (1023, 323, 321, 414), (1024, 450, 448, 541), (1025, 463, 461, 554), (1026, 928, 926, 1019), (1027, 307, 305, 398), (1028, 302, 300, 393), (1029, 347, 346, 5), (1030, 337, 336, 4), (1031, 330, 329, 3), (1032, 333, 332, 0), (1033, 319, 317, 410), (1034, 298, 296, 389), (1035, 356, 354, 447), (1036, 621, 619, 712), (1037, 352, 350, 443), (1038, 634, 632, 725), (1039, 642, 640, 733), (1040, 650, 649, 18), (1041, 655, 654, 19), (1042, 646, 644, 737), (1043, 676, 674, 767), (1044, 777, 775, 868), (1045, 907, 905, 998), (1046, 923, 922, 38), (1047, 919, 917, 1010), (2001, 669, 667, 760), (2002, 898, 896, 989), (2003, 686, 684, 777), (2004, 695, 694, 21), (2005, 702, 701, 22), (2006, 719, 718, 24), (2007, 723, 722, 25), (2008, 715, 714, 23), (2009, 711, 709, 802), (2010, 732, 730, 823), (2011, 744, 742, 835), (2012, 748, 747, 26), (2013, 756, 754, 847), (2014, 760, 759, 27), (2015, 736, 734, 827), (2016, 768, 766, 859), (2017, 773, 771, 864), (2018, 795, 793, 886), (2019, 799, 798, 29), (2020, 810, 809, 30), (2021, 832, 831, 35), (2022, 814, 813, 31), (2023, 827, 826, 34), (2024, 818, 817, 32), (2025, 822, 821, 33), (2026, 836, 834, 927), (2027, 840, 838, 931), (2028, 852, 850, 943), (2029, 868, 866, 959), (2030, 877, 875, 968), (3001, 603, 601, 694), (3002, 613, 611, 704), (3003, 471, 469, 562), (3004, 549, 548, 10), (3005, 482, 481, 9), (3006, 486, 485, 0), (3007, 489, 488, 0), (3008, 497, 496, 0), (3009, 553, 552, 11), (3010, 557, 556, 12), (3011, 570, 569, 14), (3012, 573, 572, 0), (3013, 561, 560, 13), (3014, 577, 576, 15), (3015, 580, 579, 0), (3016, 585, 584, 0), (3017, 595, 594, 17), (3018, 591, 590, 16), (4001, 279, 277, 370), (4002, 220, 218, 311), (4003, 216, 214, 307), (4004, 240, 238, 331), (4005, 267, 265, 358), (4006, 271, 269, 362), (4007, 205, 203, 296), (4008, 224, 222, 315), (4009, 249, 247, 340), (4010, 423, 421, 514), (4011, 228, 226, 319), (4012, 232, 231, 2), (4013, 245, 243, 336), (5001, 187, 185, 278), (5002, 209, 207, 300), (5003, 236, 234, 327), (5004, 254, 252, 345), (5005, 259, 257, 350), (5006, 275, 273, 366), (5007, 283, 281, 374), (5008, 360, 358, 451), (5009, 387, 385, 478), (5010, 419, 417, 510), (5011, 427, 425, 518), (5012, 433, 431, 524), (5013, 440, 438, 531), (5014, 454, 452, 545), (5015, 459, 457, 550), (5016, 467, 465, 558), (5017, 609, 607, 700), (5018, 617, 615, 708), (5019, 625, 623, 716), (5020, 630, 628, 721), (5021, 638, 636, 729), (5022, 660, 658, 751), (5023, 682, 680, 773), (5024, 728, 726, 819), (5025, 740, 738, 831), (5026, 752, 750, 843), (5027, 764, 762, 855), (5028, 782, 780, 873), (5029, 787, 785, 878), (5030, 844, 842, 935), (5031, 848, 846, 939), (5032, 859, 857, 950), (5033, 864, 862, 955), (5034, 873, 871, 964), (5035, 882, 880, 973), (5036, 894, 892, 985), (5037, 903, 901, 994), (5038, 915, 913, 1006), (5039, 932, 930, 1023), (5040, 940, 938, 1031), (5041, 972, 970, 1063), (5042, 980, 978, 1071), (5043, 985, 983, 1076), (5044, 989, 987, 1080), (5045, 195, 194, 1), (5046, 664, 663, 20), (5047, 383, 382, 6), (5048, 191, 190, 0), (5049, 212, 211, 0), (5050, 886, 885, 36), (5051, 890, 889, 37), (5052, 791, 790, 28), (5053, 292, 291, 0), (5054, 198, 197, 0), (5055, 201, 200, 0), (5056, 478, 477, 0), (5057, 326, 325, 0), (5058, 698, 697, 0), (5059, 705, 704, 0), (6001, 1164, 1163, 41), (6002, 1393, 1392, 75), (6003, 1368, 1367, 71), (6004, 1160, 1159, 40), (6005, 1184, 1183, 42), (6006, 1236, 1235, 51), (6007, 1156, 1154, 1247), (6008, 1168, 1166, 1259), (6009, 1172, 1170, 1263), (6010, 1176, 1174, 1267), (6011, 1180, 1178, 1271), (6012, 1188, 1186, 1279), (6013, 1196, 1195, 43), (6014, 1192, 1190, 1283), (6015, 1252, 1251, 54), (6016, 1256, 1255, 55), (6017, 1228, 1227, 50), (6018, 1224, 1222, 1315), (6019, 1240, 1239, 52), (6020, 1244, 1243, 53), (6021, 1232, 1230, 1323), (6022, 1248, 1246, 1339), (6023, 1260, 1258, 1351), (6024, 1268, 1267, 56), (6025, 1264, 1262, 1355), (6026, 1272, 1270, 1363), (6027, 1276, 1274, 1367), (6028, 1284, 1283, 57), (6029, 1280, 1278, 1371), (6030, 1312, 1311, 63), (6031, 1316, 1315, 64), (6032, 1328, 1327, 67), (6033, 1324, 1323, 66), (6034, 1320, 1319, 65), (6035, 1308, 1307, 62), (6036, 1304, 1303, 61), (6037, 1300, 1299, 60), (6038, 1296, 1295, 59), (6039, 1292, 1291, 58), (6040, 1288, 1286, 1379), (6041, 1332, 1330, 1423), (6042, 1216, 1215, 48), (6043, 1220, 1219, 49), (6044, 1200, 1199, 44), (6045, 1204, 1203, 45), (6046, 1212, 1211, 47), (6047, 1208, 1207, 46), (6048, 1336, 1334, 1427), (6049, 1340, 1338, 1431), (6050, 1348, 1347, 68), (6051, 1344, 1342, 1435), (6052, 1356, 1355, 69), (6053, 1360, 1359, 70), (6054, 1352, 1350, 1443), (6055, 1373, 1372, 72), (6056, 1377, 1376, 73), (6057, 1364, 1362, 1455), (6058, 1385, 1384, 74), (6059, 1381, 1379, 1472), (6060, 1397, 1396, 76), (6061, 1389, 1387, 1480), (6062, 1405, 1404, 77), (6063, 1409, 1408, 78), (6064, 1413, 1412, 79), (6065, 1401, 1399, 1492), (6066, 1417, 1415, 1508), (6067, 1425, 1424, 80), (6068, 1421, 1419, 1512), (6069, 1429, 1427, 1520), (6070, 1445, 1444, 83), (6071, 1441, 1440, 82), (6072, 1437, 1436, 81), (6073, 1433, 1431, 1524), (6074, 1449, 1447, 1540), (6075, 1457, 1456, 84), (6076, 1453, 1451, 1544), (6077, 1461, 1459, 1552), (6078, 1465, 1463, 1556), (6079, 1469, 1467, 1560), (6080, 1477, 1476, 85), (6081, 1473, 1471, 1564), (6082, 1481, 1479, 1572), (6083, 1485, 1483, 1576), (6084, 1493, 1492, 86), (6085, 1498, 1497, 87), (6086, 1489, 1487, 1580), (6087, 1502, 1500, 1593), (6088, 1514, 1513, 89), (6089, 1510, 1509, 88), (6090, 1518, 1517, 90), (6091, 1522, 1521, 91), (6092, 1506, 1504, 1597), (6093, 1526, 1524, 1617), (6094, 1530, 1528, 1621), (6095, 1534, 1532, 1625), (6096, 1538, 1536, 1629)]
theorem zme {w : Cond} (h : w ∈ tables_1) : w ∈ lw_tbl := List.mem_append_right _ h
theorem zme1 {w : Cond} (h : w ∈ tables_1_1) : w ∈ lw_tbl := zme (List.mem_append_left _ h)
theorem zme2 {w : Cond} (h : w ∈ tables_1_2) : w ∈ lw_tbl := zme (List.mem_append_right _ (List.mem_append_left _ h))
theorem zme3 {w : Cond} (h : w ∈ tables_1_3) : w ∈ lw_tbl := zme (List.mem_append_right _ (List.mem_append_right _ (List.mem_append_left _ h)))
theorem zme4 {w : Cond} (h : w ∈ tables_1_4) : w ∈ lw_tbl := zme (List.mem_append_right _ (List.mem_append_right _ (List.mem_append_right _ (List.mem_append_left _ h))))
theorem zme5 {w : Cond} (h : w ∈ tables_1_5) : w ∈ lw_tbl := zme (List.mem_append_right _ (List.mem_append_right _ (List.mem_append_right _ (List.mem_append_right _ (List.mem_append_left _ h)))))
theorem zme6 {w : Cond} (h : w ∈ tables_1_6) : w ∈ lw_tbl := zme (List.mem_append_right _ (List.mem_append_right _ (List.mem_append_right _ (List.mem_append_right _ (List.mem_append_right _ (List.mem_append_left _ h))))))
theorem zme7 {w : Cond} (h : w ∈ tables_1_7) : w ∈ lw_tbl := zme (List.mem_append_right _ (List.mem_append_right _ (List.mem_append_right _ (List.mem_append_right _ (List.mem_append_right _ (List.mem_append_right _ (h)))))))
set_option maxRecDepth 20000 in
theorem zkc_1 : Cond.code (zy 1) (zcode 1) (zmaxl 1) (zret 1) ∈ lw_tbl := zme4 (List.mem_of_getElem? (i := 224) rfl)
set_option maxRecDepth 20000 in
theorem zkc_2 : Cond.code (zy 2) (zcode 2) (zmaxl 2) (zret 2) ∈ lw_tbl := zme4 (List.mem_of_getElem? (i := 228) rfl)
set_option maxRecDepth 20000 in
theorem zkc_3 : Cond.code (zy 3) (zcode 3) (zmaxl 3) (zret 3) ∈ lw_tbl := zme5 (List.mem_of_getElem? (i := 41) rfl)
set_option maxRecDepth 20000 in
theorem zkc_4 : Cond.code (zy 4) (zcode 4) (zmaxl 4) (zret 4) ∈ lw_tbl := zme5 (List.mem_of_getElem? (i := 16) rfl)
set_option maxRecDepth 20000 in
theorem zkc_5 : Cond.code (zy 5) (zcode 5) (zmaxl 5) (zret 5) ∈ lw_tbl := zme4 (List.mem_of_getElem? (i := 237) rfl)
set_option maxRecDepth 20000 in
theorem zkc_6 : Cond.code (zy 6) (zcode 6) (zmaxl 6) (zret 6) ∈ lw_tbl := zme4 (List.mem_of_getElem? (i := 232) rfl)
set_option maxRecDepth 20000 in
theorem zkc_7 : Cond.code (zy 7) (zcode 7) (zmaxl 7) (zret 7) ∈ lw_tbl := zme5 (List.mem_of_getElem? (i := 2) rfl)
set_option maxRecDepth 20000 in
theorem zkc_8 : Cond.code (zy 8) (zcode 8) (zmaxl 8) (zret 8) ∈ lw_tbl := zme5 (List.mem_of_getElem? (i := 7) rfl)
set_option maxRecDepth 20000 in
theorem zkc_1001 : Cond.code (zy 1001) (zcode 1001) (zmaxl 1001) (zret 1001) ∈ lw_tbl := zme2 (List.mem_of_getElem? (i := 235) rfl)
set_option maxRecDepth 20000 in
theorem zkc_1002 : Cond.code (zy 1002) (zcode 1002) (zmaxl 1002) (zret 1002) ∈ lw_tbl := zme4 (List.mem_of_getElem? (i := 83) rfl)
set_option maxRecDepth 20000 in
theorem zkc_1003 : Cond.code (zy 1003) (zcode 1003) (zmaxl 1003) (zret 1003) ∈ lw_tbl := zme3 (List.mem_of_getElem? (i := 210) rfl)
set_option maxRecDepth 20000 in
theorem zkc_1004 : Cond.code (zy 1004) (zcode 1004) (zmaxl 1004) (zret 1004) ∈ lw_tbl := zme5 (List.mem_of_getElem? (i := 33) rfl)
set_option maxRecDepth 20000 in
theorem zkc_1005 : Cond.code (zy 1005) (zcode 1005) (zmaxl 1005) (zret 1005) ∈ lw_tbl := zme4 (List.mem_of_getElem? (i := 191) rfl)
set_option maxRecDepth 20000 in
theorem zkc_1006 : Cond.code (zy 1006) (zcode 1006) (zmaxl 1006) (zret 1006) ∈ lw_tbl := zme5 (List.mem_of_getElem? (i := 37) rfl)
set_option maxRecDepth 20000 in
theorem zkc_1007 : Cond.code (zy 1007) (zcode 1007) (zmaxl 1007) (zret 1007) ∈ lw_tbl := zme4 (List.mem_of_getElem? (i := 216) rfl)
set_option maxRecDepth 20000 in
theorem zkc_1008 : Cond.code (zy 1008) (zcode 1008) (zmaxl 1008) (zret 1008) ∈ lw_tbl := zme2 (List.mem_of_getElem? (i := 23) rfl)
set_option maxRecDepth 20000 in
theorem zkc_1009 : Cond.code (zy 1009) (zcode 1009) (zmaxl 1009) (zret 1009) ∈ lw_tbl := zme2 (List.mem_of_getElem? (i := 75) rfl)
set_option maxRecDepth 20000 in
theorem zkc_1010 : Cond.code (zy 1010) (zcode 1010) (zmaxl 1010) (zret 1010) ∈ lw_tbl := zme2 (List.mem_of_getElem? (i := 127) rfl)
set_option maxRecDepth 20000 in
theorem zkc_1011 : Cond.code (zy 1011) (zcode 1011) (zmaxl 1011) (zret 1011) ∈ lw_tbl := zme2 (List.mem_of_getElem? (i := 203) rfl)
set_option maxRecDepth 20000 in
theorem zkc_1012 : Cond.code (zy 1012) (zcode 1012) (zmaxl 1012) (zret 1012) ∈ lw_tbl := zme2 (List.mem_of_getElem? (i := 155) rfl)
set_option maxRecDepth 20000 in
theorem zkc_1013 : Cond.code (zy 1013) (zcode 1013) (zmaxl 1013) (zret 1013) ∈ lw_tbl := zme2 (List.mem_of_getElem? (i := 163) rfl)
set_option maxRecDepth 20000 in
theorem zkc_1014 : Cond.code (zy 1014) (zcode 1014) (zmaxl 1014) (zret 1014) ∈ lw_tbl := zme2 (List.mem_of_getElem? (i := 135) rfl)
set_option maxRecDepth 20000 in
theorem zkc_1015 : Cond.code (zy 1015) (zcode 1015) (zmaxl 1015) (zret 1015) ∈ lw_tbl := zme2 (List.mem_of_getElem? (i := 124) rfl)
set_option maxRecDepth 20000 in
theorem zkc_1016 : Cond.code (zy 1016) (zcode 1016) (zmaxl 1016) (zret 1016) ∈ lw_tbl := zme2 (List.mem_of_getElem? (i := 151) rfl)
set_option maxRecDepth 20000 in
theorem zkc_1017 : Cond.code (zy 1017) (zcode 1017) (zmaxl 1017) (zret 1017) ∈ lw_tbl := zme2 (List.mem_of_getElem? (i := 47) rfl)
set_option maxRecDepth 20000 in
theorem zkc_1018 : Cond.code (zy 1018) (zcode 1018) (zmaxl 1018) (zret 1018) ∈ lw_tbl := zme2 (List.mem_of_getElem? (i := 171) rfl)
set_option maxRecDepth 20000 in
theorem zkc_1019 : Cond.code (zy 1019) (zcode 1019) (zmaxl 1019) (zret 1019) ∈ lw_tbl := zme2 (List.mem_of_getElem? (i := 167) rfl)
set_option maxRecDepth 20000 in
theorem zkc_1020 : Cond.code (zy 1020) (zcode 1020) (zmaxl 1020) (zret 1020) ∈ lw_tbl := zme2 (List.mem_of_getElem? (i := 175) rfl)
set_option maxRecDepth 20000 in
theorem zkc_1021 : Cond.code (zy 1021) (zcode 1021) (zmaxl 1021) (zret 1021) ∈ lw_tbl := zme2 (List.mem_of_getElem? (i := 71) rfl)
set_option maxRecDepth 20000 in
theorem zkc_1022 : Cond.code (zy 1022) (zcode 1022) (zmaxl 1022) (zret 1022) ∈ lw_tbl := zme2 (List.mem_of_getElem? (i := 139) rfl)
set_option maxRecDepth 20000 in
theorem zkc_1023 : Cond.code (zy 1023) (zcode 1023) (zmaxl 1023) (zret 1023) ∈ lw_tbl := zme2 (List.mem_of_getElem? (i := 83) rfl)
set_option maxRecDepth 20000 in
theorem zkc_1024 : Cond.code (zy 1024) (zcode 1024) (zmaxl 1024) (zret 1024) ∈ lw_tbl := zme2 (List.mem_of_getElem? (i := 210) rfl)
set_option maxRecDepth 20000 in
theorem zkc_1025 : Cond.code (zy 1025) (zcode 1025) (zmaxl 1025) (zret 1025) ∈ lw_tbl := zme2 (List.mem_of_getElem? (i := 223) rfl)
set_option maxRecDepth 20000 in
theorem zkc_1026 : Cond.code (zy 1026) (zcode 1026) (zmaxl 1026) (zret 1026) ∈ lw_tbl := zme4 (List.mem_of_getElem? (i := 208) rfl)
set_option maxRecDepth 20000 in
theorem zkc_1027 : Cond.code (zy 1027) (zcode 1027) (zmaxl 1027) (zret 1027) ∈ lw_tbl := zme2 (List.mem_of_getElem? (i := 67) rfl)
set_option maxRecDepth 20000 in
theorem zkc_1028 : Cond.code (zy 1028) (zcode 1028) (zmaxl 1028) (zret 1028) ∈ lw_tbl := zme2 (List.mem_of_getElem? (i := 62) rfl)
set_option maxRecDepth 20000 in
theorem zkc_1029 : Cond.code (zy 1029) (zcode 1029) (zmaxl 1029) (zret 1029) ∈ lw_tbl := zme2 (List.mem_of_getElem? (i := 107) rfl)
set_option maxRecDepth 20000 in
theorem zkc_1030 : Cond.code (zy 1030) (zcode 1030) (zmaxl 1030) (zret 1030) ∈ lw_tbl := zme2 (List.mem_of_getElem? (i := 97) rfl)
set_option maxRecDepth 20000 in
theorem zkc_1031 : Cond.code (zy 1031) (zcode 1031) (zmaxl 1031) (zret 1031) ∈ lw_tbl := zme2 (List.mem_of_getElem? (i := 90) rfl)
set_option maxRecDepth 20000 in
theorem zkc_1032 : Cond.code (zy 1032) (zcode 1032) (zmaxl 1032) (zret 1032) ∈ lw_tbl := zme2 (List.mem_of_getElem? (i := 93) rfl)
set_option maxRecDepth 20000 in
theorem zkc_1033 : Cond.code (zy 1033) (zcode 1033) (zmaxl 1033) (zret 1033) ∈ lw_tbl := zme2 (List.mem_of_getElem? (i := 79) rfl)
set_option maxRecDepth 20000 in
theorem zkc_1034 : Cond.code (zy 1034) (zcode 1034) (zmaxl 1034) (zret 1034) ∈ lw_tbl := zme2 (List.mem_of_getElem? (i := 58) rfl)
set_option maxRecDepth 20000 in
theorem zkc_1035 : Cond.code (zy 1035) (zcode 1035) (zmaxl 1035) (zret 1035) ∈ lw_tbl := zme2 (List.mem_of_getElem? (i := 116) rfl)
set_option maxRecDepth 20000 in
theorem zkc_1036 : Cond.code (zy 1036) (zcode 1036) (zmaxl 1036) (zret 1036) ∈ lw_tbl := zme3 (List.mem_of_getElem? (i := 141) rfl)
set_option maxRecDepth 20000 in
theorem zkc_1037 : Cond.code (zy 1037) (zcode 1037) (zmaxl 1037) (zret 1037) ∈ lw_tbl := zme2 (List.mem_of_getElem? (i := 112) rfl)
set_option maxRecDepth 20000 in
theorem zkc_1038 : Cond.code (zy 1038) (zcode 1038) (zmaxl 1038) (zret 1038) ∈ lw_tbl := zme3 (List.mem_of_getElem? (i := 154) rfl)
set_option maxRecDepth 20000 in
theorem zkc_1039 : Cond.code (zy 1039) (zcode 1039) (zmaxl 1039) (zret 1039) ∈ lw_tbl := zme3 (List.mem_of_getElem? (i := 162) rfl)
set_option maxRecDepth 20000 in
theorem zkc_1040 : Cond.code (zy 1040) (zcode 1040) (zmaxl 1040) (zret 1040) ∈ lw_tbl := zme3 (List.mem_of_getElem? (i := 170) rfl)
set_option maxRecDepth 20000 in
theorem zkc_1041 : Cond.code (zy 1041) (zcode 1041) (zmaxl 1041) (zret 1041) ∈ lw_tbl := zme3 (List.mem_of_getElem? (i := 175) rfl)
set_option maxRecDepth 20000 in
theorem zkc_1042 : Cond.code (zy 1042) (zcode 1042) (zmaxl 1042) (zret 1042) ∈ lw_tbl := zme3 (List.mem_of_getElem? (i := 166) rfl)
set_option maxRecDepth 20000 in
theorem zkc_1043 : Cond.code (zy 1043) (zcode 1043) (zmaxl 1043) (zret 1043) ∈ lw_tbl := zme3 (List.mem_of_getElem? (i := 196) rfl)
set_option maxRecDepth 20000 in
theorem zkc_1044 : Cond.code (zy 1044) (zcode 1044) (zmaxl 1044) (zret 1044) ∈ lw_tbl := zme4 (List.mem_of_getElem? (i := 57) rfl)
set_option maxRecDepth 20000 in
theorem zkc_1045 : Cond.code (zy 1045) (zcode 1045) (zmaxl 1045) (zret 1045) ∈ lw_tbl := zme4 (List.mem_of_getElem? (i := 187) rfl)
set_option maxRecDepth 20000 in
theorem zkc_1046 : Cond.code (zy 1046) (zcode 1046) (zmaxl 1046) (zret 1046) ∈ lw_tbl := zme4 (List.mem_of_getElem? (i := 203) rfl)
set_option maxRecDepth 20000 in
theorem zkc_1047 : Cond.code (zy 1047) (zcode 1047) (zmaxl 1047) (zret 1047) ∈ lw_tbl := zme4 (List.mem_of_getElem? (i := 199) rfl)
set_option maxRecDepth 20000 in
theorem zkc_2001 : Cond.code (zy 2001) (zcode 2001) (zmaxl 2001) (zret 2001) ∈ lw_tbl := zme3 (List.mem_of_getElem? (i := 189) rfl)
set_option maxRecDepth 20000 in
theorem zkc_2002 : Cond.code (zy 2002) (zcode 2002) (zmaxl 2002) (zret 2002) ∈ lw_tbl := zme4 (List.mem_of_getElem? (i := 178) rfl)
set_option maxRecDepth 20000 in
theorem zkc_2003 : Cond.code (zy 2003) (zcode 2003) (zmaxl 2003) (zret 2003) ∈ lw_tbl := zme3 (List.mem_of_getElem? (i := 206) rfl)
set_option maxRecDepth 20000 in
theorem zkc_2004 : Cond.code (zy 2004) (zcode 2004) (zmaxl 2004) (zret 2004) ∈ lw_tbl := zme3 (List.mem_of_getElem? (i := 215) rfl)
set_option maxRecDepth 20000 in
theorem zkc_2005 : Cond.code (zy 2005) (zcode 2005) (zmaxl 2005) (zret 2005) ∈ lw_tbl := zme3 (List.mem_of_getElem? (i := 222) rfl)
set_option maxRecDepth 20000 in
theorem zkc_2006 : Cond.code (zy 2006) (zcode 2006) (zmaxl 2006) (zret 2006) ∈ lw_tbl := zme3 (List.mem_of_getElem? (i := 239) rfl)
set_option maxRecDepth 20000 in
theorem zkc_2007 : Cond.code (zy 2007) (zcode 2007) (zmaxl 2007) (zret 2007) ∈ lw_tbl := zme4 (List.mem_of_getElem? (i := 3) rfl)
set_option maxRecDepth 20000 in
theorem zkc_2008 : Cond.code (zy 2008) (zcode 2008) (zmaxl 2008) (zret 2008) ∈ lw_tbl := zme3 (List.mem_of_getElem? (i := 235) rfl)
set_option maxRecDepth 20000 in
theorem zkc_2009 : Cond.code (zy 2009) (zcode 2009) (zmaxl 2009) (zret 2009) ∈ lw_tbl := zme3 (List.mem_of_getElem? (i := 231) rfl)
set_option maxRecDepth 20000 in
theorem zkc_2010 : Cond.code (zy 2010) (zcode 2010) (zmaxl 2010) (zret 2010) ∈ lw_tbl := zme4 (List.mem_of_getElem? (i := 12) rfl)
set_option maxRecDepth 20000 in
theorem zkc_2011 : Cond.code (zy 2011) (zcode 2011) (zmaxl 2011) (zret 2011) ∈ lw_tbl := zme4 (List.mem_of_getElem? (i := 24) rfl)
set_option maxRecDepth 20000 in
theorem zkc_2012 : Cond.code (zy 2012) (zcode 2012) (zmaxl 2012) (zret 2012) ∈ lw_tbl := zme4 (List.mem_of_getElem? (i := 28) rfl)
set_option maxRecDepth 20000 in
theorem zkc_2013 : Cond.code (zy 2013) (zcode 2013) (zmaxl 2013) (zret 2013) ∈ lw_tbl := zme4 (List.mem_of_getElem? (i := 36) rfl)
set_option maxRecDepth 20000 in
theorem zkc_2014 : Cond.code (zy 2014) (zcode 2014) (zmaxl 2014) (zret 2014) ∈ lw_tbl := zme4 (List.mem_of_getElem? (i := 40) rfl)
set_option maxRecDepth 20000 in
theorem zkc_2015 : Cond.code (zy 2015) (zcode 2015) (zmaxl 2015) (zret 2015) ∈ lw_tbl := zme4 (List.mem_of_getElem? (i := 16) rfl)
set_option maxRecDepth 20000 in
theorem zkc_2016 : Cond.code (zy 2016) (zcode 2016) (zmaxl 2016) (zret 2016) ∈ lw_tbl := zme4 (List.mem_of_getElem? (i := 48) rfl)
set_option maxRecDepth 20000 in
theorem zkc_2017 : Cond.code (zy 2017) (zcode 2017) (zmaxl 2017) (zret 2017) ∈ lw_tbl := zme4 (List.mem_of_getElem? (i := 53) rfl)
set_option maxRecDepth 20000 in
theorem zkc_2018 : Cond.code (zy 2018) (zcode 2018) (zmaxl 2018) (zret 2018) ∈ lw_tbl := zme4 (List.mem_of_getElem? (i := 75) rfl)
set_option maxRecDepth 20000 in
theorem zkc_2019 : Cond.code (zy 2019) (zcode 2019) (zmaxl 2019) (zret 2019) ∈ lw_tbl := zme4 (List.mem_of_getElem? (i := 79) rfl)
set_option maxRecDepth 20000 in
theorem zkc_2020 : Cond.code (zy 2020) (zcode 2020) (zmaxl 2020) (zret 2020) ∈ lw_tbl := zme4 (List.mem_of_getElem? (i := 90) rfl)
set_option maxRecDepth 20000 in
theorem zkc_2021 : Cond.code (zy 2021) (zcode 2021) (zmaxl 2021) (zret 2021) ∈ lw_tbl := zme4 (List.mem_of_getElem? (i := 112) rfl)
set_option maxRecDepth 20000 in
theorem zkc_2022 : Cond.code (zy 2022) (zcode 2022) (zmaxl 2022) (zret 2022) ∈ lw_tbl := zme4 (List.mem_of_getElem? (i := 94) rfl)
set_option maxRecDepth 20000 in
theorem zkc_2023 : Cond.code (zy 2023) (zcode 2023) (zmaxl 2023) (zret 2023) ∈ lw_tbl := zme4 (List.mem_of_getElem? (i := 107) rfl)
set_option maxRecDepth 20000 in
theorem zkc_2024 : Cond.code (zy 2024) (zcode 2024) (zmaxl 2024) (zret 2024) ∈ lw_tbl := zme4 (List.mem_of_getElem? (i := 98) rfl)
set_option maxRecDepth 20000 in
theorem zkc_2025 : Cond.code (zy 2025) (zcode 2025) (zmaxl 2025) (zret 2025) ∈ lw_tbl := zme4 (List.mem_of_getElem? (i := 102) rfl)
set_option maxRecDepth 20000 in
theorem zkc_2026 : Cond.code (zy 2026) (zcode 2026) (zmaxl 2026) (zret 2026) ∈ lw_tbl := zme4 (List.mem_of_getElem? (i := 116) rfl)
set_option maxRecDepth 20000 in
theorem zkc_2027 : Cond.code (zy 2027) (zcode 2027) (zmaxl 2027) (zret 2027) ∈ lw_tbl := zme4 (List.mem_of_getElem? (i := 120) rfl)
set_option maxRecDepth 20000 in
theorem zkc_2028 : Cond.code (zy 2028) (zcode 2028) (zmaxl 2028) (zret 2028) ∈ lw_tbl := zme4 (List.mem_of_getElem? (i := 132) rfl)
set_option maxRecDepth 20000 in
theorem zkc_2029 : Cond.code (zy 2029) (zcode 2029) (zmaxl 2029) (zret 2029) ∈ lw_tbl := zme4 (List.mem_of_getElem? (i := 148) rfl)
set_option maxRecDepth 20000 in
theorem zkc_2030 : Cond.code (zy 2030) (zcode 2030) (zmaxl 2030) (zret 2030) ∈ lw_tbl := zme4 (List.mem_of_getElem? (i := 157) rfl)
set_option maxRecDepth 20000 in
theorem zkc_3001 : Cond.code (zy 3001) (zcode 3001) (zmaxl 3001) (zret 3001) ∈ lw_tbl := zme3 (List.mem_of_getElem? (i := 123) rfl)
set_option maxRecDepth 20000 in
theorem zkc_3002 : Cond.code (zy 3002) (zcode 3002) (zmaxl 3002) (zret 3002) ∈ lw_tbl := zme3 (List.mem_of_getElem? (i := 133) rfl)
set_option maxRecDepth 20000 in
theorem zkc_3003 : Cond.code (zy 3003) (zcode 3003) (zmaxl 3003) (zret 3003) ∈ lw_tbl := zme2 (List.mem_of_getElem? (i := 231) rfl)
set_option maxRecDepth 20000 in
theorem zkc_3004 : Cond.code (zy 3004) (zcode 3004) (zmaxl 3004) (zret 3004) ∈ lw_tbl := zme3 (List.mem_of_getElem? (i := 69) rfl)
set_option maxRecDepth 20000 in
theorem zkc_3005 : Cond.code (zy 3005) (zcode 3005) (zmaxl 3005) (zret 3005) ∈ lw_tbl := zme3 (List.mem_of_getElem? (i := 2) rfl)
set_option maxRecDepth 20000 in
theorem zkc_3006 : Cond.code (zy 3006) (zcode 3006) (zmaxl 3006) (zret 3006) ∈ lw_tbl := zme3 (List.mem_of_getElem? (i := 6) rfl)
set_option maxRecDepth 20000 in
theorem zkc_3007 : Cond.code (zy 3007) (zcode 3007) (zmaxl 3007) (zret 3007) ∈ lw_tbl := zme3 (List.mem_of_getElem? (i := 9) rfl)
set_option maxRecDepth 20000 in
theorem zkc_3008 : Cond.code (zy 3008) (zcode 3008) (zmaxl 3008) (zret 3008) ∈ lw_tbl := zme3 (List.mem_of_getElem? (i := 17) rfl)
set_option maxRecDepth 20000 in
theorem zkc_3009 : Cond.code (zy 3009) (zcode 3009) (zmaxl 3009) (zret 3009) ∈ lw_tbl := zme3 (List.mem_of_getElem? (i := 73) rfl)
set_option maxRecDepth 20000 in
theorem zkc_3010 : Cond.code (zy 3010) (zcode 3010) (zmaxl 3010) (zret 3010) ∈ lw_tbl := zme3 (List.mem_of_getElem? (i := 77) rfl)
set_option maxRecDepth 20000 in
theorem zkc_3011 : Cond.code (zy 3011) (zcode 3011) (zmaxl 3011) (zret 3011) ∈ lw_tbl := zme3 (List.mem_of_getElem? (i := 90) rfl)
set_option maxRecDepth 20000 in
theorem zkc_3012 : Cond.code (zy 3012) (zcode 3012) (zmaxl 3012) (zret 3012) ∈ lw_tbl := zme3 (List.mem_of_getElem? (i := 93) rfl)
set_option maxRecDepth 20000 in
theorem zkc_3013 : Cond.code (zy 3013) (zcode 3013) (zmaxl 3013) (zret 3013) ∈ lw_tbl := zme3 (List.mem_of_getElem? (i := 81) rfl)
set_option maxRecDepth 20000 in
theorem zkc_3014 : Cond.code (zy 3014) (zcode 3014) (zmaxl 3014) (zret 3014) ∈ lw_tbl := zme3 (List.mem_of_getElem? (i := 97) rfl)
set_option maxRecDepth 20000 in
theorem zkc_3015 : Cond.code (zy 3015) (zcode 3015) (zmaxl 3015) (zret 3015) ∈ lw_tbl := zme3 (List.mem_of_getElem? (i := 100) rfl)
set_option maxRecDepth 20000 in
theorem zkc_3016 : Cond.code (zy 3016) (zcode 3016) (zmaxl 3016) (zret 3016) ∈ lw_tbl := zme3 (List.mem_of_getElem? (i := 105) rfl)
set_option maxRecDepth 20000 in
theorem zkc_3017 : Cond.code (zy 3017) (zcode 3017) (zmaxl 3017) (zret 3017) ∈ lw_tbl := zme3 (List.mem_of_getElem? (i := 115) rfl)
set_option maxRecDepth 20000 in
theorem zkc_3018 : Cond.code (zy 3018) (zcode 3018) (zmaxl 3018) (zret 3018) ∈ lw_tbl := zme3 (List.mem_of_getElem? (i := 111) rfl)
set_option maxRecDepth 20000 in
theorem zkc_4001 : Cond.code (zy 4001) (zcode 4001) (zmaxl 4001) (zret 4001) ∈ lw_tbl := zme2 (List.mem_of_getElem? (i := 39) rfl)
set_option maxRecDepth 20000 in
theorem zkc_4002 : Cond.code (zy 4002) (zcode 4002) (zmaxl 4002) (zret 4002) ∈ lw_tbl := zme1 (List.mem_of_getElem? (i := 220) rfl)
set_option maxRecDepth 20000 in
theorem zkc_4003 : Cond.code (zy 4003) (zcode 4003) (zmaxl 4003) (zret 4003) ∈ lw_tbl := zme1 (List.mem_of_getElem? (i := 216) rfl)
set_option maxRecDepth 20000 in
theorem zkc_4004 : Cond.code (zy 4004) (zcode 4004) (zmaxl 4004) (zret 4004) ∈ lw_tbl := zme2 (List.mem_of_getElem? (i := 0) rfl)
set_option maxRecDepth 20000 in
theorem zkc_4005 : Cond.code (zy 4005) (zcode 4005) (zmaxl 4005) (zret 4005) ∈ lw_tbl := zme2 (List.mem_of_getElem? (i := 27) rfl)
set_option maxRecDepth 20000 in
theorem zkc_4006 : Cond.code (zy 4006) (zcode 4006) (zmaxl 4006) (zret 4006) ∈ lw_tbl := zme2 (List.mem_of_getElem? (i := 31) rfl)
set_option maxRecDepth 20000 in
theorem zkc_4007 : Cond.code (zy 4007) (zcode 4007) (zmaxl 4007) (zret 4007) ∈ lw_tbl := zme1 (List.mem_of_getElem? (i := 205) rfl)
set_option maxRecDepth 20000 in
theorem zkc_4008 : Cond.code (zy 4008) (zcode 4008) (zmaxl 4008) (zret 4008) ∈ lw_tbl := zme1 (List.mem_of_getElem? (i := 224) rfl)
set_option maxRecDepth 20000 in
theorem zkc_4009 : Cond.code (zy 4009) (zcode 4009) (zmaxl 4009) (zret 4009) ∈ lw_tbl := zme2 (List.mem_of_getElem? (i := 9) rfl)
set_option maxRecDepth 20000 in
theorem zkc_4010 : Cond.code (zy 4010) (zcode 4010) (zmaxl 4010) (zret 4010) ∈ lw_tbl := zme2 (List.mem_of_getElem? (i := 183) rfl)
set_option maxRecDepth 20000 in
theorem zkc_4011 : Cond.code (zy 4011) (zcode 4011) (zmaxl 4011) (zret 4011) ∈ lw_tbl := zme1 (List.mem_of_getElem? (i := 228) rfl)
set_option maxRecDepth 20000 in
theorem zkc_4012 : Cond.code (zy 4012) (zcode 4012) (zmaxl 4012) (zret 4012) ∈ lw_tbl := zme1 (List.mem_of_getElem? (i := 232) rfl)
set_option maxRecDepth 20000 in
theorem zkc_4013 : Cond.code (zy 4013) (zcode 4013) (zmaxl 4013) (zret 4013) ∈ lw_tbl := zme2 (List.mem_of_getElem? (i := 5) rfl)
set_option maxRecDepth 20000 in
theorem zkc_5001 : Cond.code (zy 5001) (zcode 5001) (zmaxl 5001) (zret 5001) ∈ lw_tbl := zme1 (List.mem_of_getElem? (i := 187) rfl)
set_option maxRecDepth 20000 in
theorem zkc_5002 : Cond.code (zy 5002) (zcode 5002) (zmaxl 5002) (zret 5002) ∈ lw_tbl := zme1 (List.mem_of_getElem? (i := 209) rfl)
set_option maxRecDepth 20000 in
theorem zkc_5003 : Cond.code (zy 5003) (zcode 5003) (zmaxl 5003) (zret 5003) ∈ lw_tbl := zme1 (List.mem_of_getElem? (i := 236) rfl)
set_option maxRecDepth 20000 in
theorem zkc_5004 : Cond.code (zy 5004) (zcode 5004) (zmaxl 5004) (zret 5004) ∈ lw_tbl := zme2 (List.mem_of_getElem? (i := 14) rfl)
set_option maxRecDepth 20000 in
theorem zkc_5005 : Cond.code (zy 5005) (zcode 5005) (zmaxl 5005) (zret 5005) ∈ lw_tbl := zme2 (List.mem_of_getElem? (i := 19) rfl)
set_option maxRecDepth 20000 in
theorem zkc_5006 : Cond.code (zy 5006) (zcode 5006) (zmaxl 5006) (zret 5006) ∈ lw_tbl := zme2 (List.mem_of_getElem? (i := 35) rfl)
set_option maxRecDepth 20000 in
theorem zkc_5007 : Cond.code (zy 5007) (zcode 5007) (zmaxl 5007) (zret 5007) ∈ lw_tbl := zme2 (List.mem_of_getElem? (i := 43) rfl)
set_option maxRecDepth 20000 in
theorem zkc_5008 : Cond.code (zy 5008) (zcode 5008) (zmaxl 5008) (zret 5008) ∈ lw_tbl := zme2 (List.mem_of_getElem? (i := 120) rfl)
set_option maxRecDepth 20000 in
theorem zkc_5009 : Cond.code (zy 5009) (zcode 5009) (zmaxl 5009) (zret 5009) ∈ lw_tbl := zme2 (List.mem_of_getElem? (i := 147) rfl)
set_option maxRecDepth 20000 in
theorem zkc_5010 : Cond.code (zy 5010) (zcode 5010) (zmaxl 5010) (zret 5010) ∈ lw_tbl := zme2 (List.mem_of_getElem? (i := 179) rfl)
set_option maxRecDepth 20000 in
theorem zkc_5011 : Cond.code (zy 5011) (zcode 5011) (zmaxl 5011) (zret 5011) ∈ lw_tbl := zme2 (List.mem_of_getElem? (i := 187) rfl)
set_option maxRecDepth 20000 in
theorem zkc_5012 : Cond.code (zy 5012) (zcode 5012) (zmaxl 5012) (zret 5012) ∈ lw_tbl := zme2 (List.mem_of_getElem? (i := 193) rfl)
set_option maxRecDepth 20000 in
theorem zkc_5013 : Cond.code (zy 5013) (zcode 5013) (zmaxl 5013) (zret 5013) ∈ lw_tbl := zme2 (List.mem_of_getElem? (i := 200) rfl)
set_option maxRecDepth 20000 in
theorem zkc_5014 : Cond.code (zy 5014) (zcode 5014) (zmaxl 5014) (zret 5014) ∈ lw_tbl := zme2 (List.mem_of_getElem? (i := 214) rfl)
set_option maxRecDepth 20000 in
theorem zkc_5015 : Cond.code (zy 5015) (zcode 5015) (zmaxl 5015) (zret 5015) ∈ lw_tbl := zme2 (List.mem_of_getElem? (i := 219) rfl)
set_option maxRecDepth 20000 in
theorem zkc_5016 : Cond.code (zy 5016) (zcode 5016) (zmaxl 5016) (zret 5016) ∈ lw_tbl := zme2 (List.mem_of_getElem? (i := 227) rfl)
set_option maxRecDepth 20000 in
theorem zkc_5017 : Cond.code (zy 5017) (zcode 5017) (zmaxl 5017) (zret 5017) ∈ lw_tbl := zme3 (List.mem_of_getElem? (i := 129) rfl)
set_option maxRecDepth 20000 in
theorem zkc_5018 : Cond.code (zy 5018) (zcode 5018) (zmaxl 5018) (zret 5018) ∈ lw_tbl := zme3 (List.mem_of_getElem? (i := 137) rfl)
set_option maxRecDepth 20000 in
theorem zkc_5019 : Cond.code (zy 5019) (zcode 5019) (zmaxl 5019) (zret 5019) ∈ lw_tbl := zme3 (List.mem_of_getElem? (i := 145) rfl)
set_option maxRecDepth 20000 in
theorem zkc_5020 : Cond.code (zy 5020) (zcode 5020) (zmaxl 5020) (zret 5020) ∈ lw_tbl := zme3 (List.mem_of_getElem? (i := 150) rfl)
set_option maxRecDepth 20000 in
theorem zkc_5021 : Cond.code (zy 5021) (zcode 5021) (zmaxl 5021) (zret 5021) ∈ lw_tbl := zme3 (List.mem_of_getElem? (i := 158) rfl)
set_option maxRecDepth 20000 in
theorem zkc_5022 : Cond.code (zy 5022) (zcode 5022) (zmaxl 5022) (zret 5022) ∈ lw_tbl := zme3 (List.mem_of_getElem? (i := 180) rfl)
set_option maxRecDepth 20000 in
theorem zkc_5023 : Cond.code (zy 5023) (zcode 5023) (zmaxl 5023) (zret 5023) ∈ lw_tbl := zme3 (List.mem_of_getElem? (i := 202) rfl)
set_option maxRecDepth 20000 in
theorem zkc_5024 : Cond.code (zy 5024) (zcode 5024) (zmaxl 5024) (zret 5024) ∈ lw_tbl := zme4 (List.mem_of_getElem? (i := 8) rfl)
set_option maxRecDepth 20000 in
theorem zkc_5025 : Cond.code (zy 5025) (zcode 5025) (zmaxl 5025) (zret 5025) ∈ lw_tbl := zme4 (List.mem_of_getElem? (i := 20) rfl)
set_option maxRecDepth 20000 in
theorem zkc_5026 : Cond.code (zy 5026) (zcode 5026) (zmaxl 5026) (zret 5026) ∈ lw_tbl := zme4 (List.mem_of_getElem? (i := 32) rfl)
set_option maxRecDepth 20000 in
theorem zkc_5027 : Cond.code (zy 5027) (zcode 5027) (zmaxl 5027) (zret 5027) ∈ lw_tbl := zme4 (List.mem_of_getElem? (i := 44) rfl)
set_option maxRecDepth 20000 in
theorem zkc_5028 : Cond.code (zy 5028) (zcode 5028) (zmaxl 5028) (zret 5028) ∈ lw_tbl := zme4 (List.mem_of_getElem? (i := 62) rfl)
set_option maxRecDepth 20000 in
theorem zkc_5029 : Cond.code (zy 5029) (zcode 5029) (zmaxl 5029) (zret 5029) ∈ lw_tbl := zme4 (List.mem_of_getElem? (i := 67) rfl)
set_option maxRecDepth 20000 in
theorem zkc_5030 : Cond.code (zy 5030) (zcode 5030) (zmaxl 5030) (zret 5030) ∈ lw_tbl := zme4 (List.mem_of_getElem? (i := 124) rfl)
set_option maxRecDepth 20000 in
theorem zkc_5031 : Cond.code (zy 5031) (zcode 5031) (zmaxl 5031) (zret 5031) ∈ lw_tbl := zme4 (List.mem_of_getElem? (i := 128) rfl)
set_option maxRecDepth 20000 in
theorem zkc_5032 : Cond.code (zy 5032) (zcode 5032) (zmaxl 5032) (zret 5032) ∈ lw_tbl := zme4 (List.mem_of_getElem? (i := 139) rfl)
set_option maxRecDepth 20000 in
theorem zkc_5033 : Cond.code (zy 5033) (zcode 5033) (zmaxl 5033) (zret 5033) ∈ lw_tbl := zme4 (List.mem_of_getElem? (i := 144) rfl)
set_option maxRecDepth 20000 in
theorem zkc_5034 : Cond.code (zy 5034) (zcode 5034) (zmaxl 5034) (zret 5034) ∈ lw_tbl := zme4 (List.mem_of_getElem? (i := 153) rfl)
set_option maxRecDepth 20000 in
theorem zkc_5035 : Cond.code (zy 5035) (zcode 5035) (zmaxl 5035) (zret 5035) ∈ lw_tbl := zme4 (List.mem_of_getElem? (i := 162) rfl)
set_option maxRecDepth 20000 in
theorem zkc_5036 : Cond.code (zy 5036) (zcode 5036) (zmaxl 5036) (zret 5036) ∈ lw_tbl := zme4 (List.mem_of_getElem? (i := 174) rfl)
set_option maxRecDepth 20000 in
theorem zkc_5037 : Cond.code (zy 5037) (zcode 5037) (zmaxl 5037) (zret 5037) ∈ lw_tbl := zme4 (List.mem_of_getElem? (i := 183) rfl)
set_option maxRecDepth 20000 in
theorem zkc_5038 : Cond.code (zy 5038) (zcode 5038) (zmaxl 5038) (zret 5038) ∈ lw_tbl := zme4 (List.mem_of_getElem? (i := 195) rfl)
set_option maxRecDepth 20000 in
theorem zkc_5039 : Cond.code (zy 5039) (zcode 5039) (zmaxl 5039) (zret 5039) ∈ lw_tbl := zme4 (List.mem_of_getElem? (i := 212) rfl)
set_option maxRecDepth 20000 in
theorem zkc_5040 : Cond.code (zy 5040) (zcode 5040) (zmaxl 5040) (zret 5040) ∈ lw_tbl := zme4 (List.mem_of_getElem? (i := 220) rfl)
set_option maxRecDepth 20000 in
theorem zkc_5041 : Cond.code (zy 5041) (zcode 5041) (zmaxl 5041) (zret 5041) ∈ lw_tbl := zme5 (List.mem_of_getElem? (i := 12) rfl)
set_option maxRecDepth 20000 in
theorem zkc_5042 : Cond.code (zy 5042) (zcode 5042) (zmaxl 5042) (zret 5042) ∈ lw_tbl := zme5 (List.mem_of_getElem? (i := 20) rfl)
set_option maxRecDepth 20000 in
theorem zkc_5043 : Cond.code (zy 5043) (zcode 5043) (zmaxl 5043) (zret 5043) ∈ lw_tbl := zme5 (List.mem_of_getElem? (i := 25) rfl)
set_option maxRecDepth 20000 in
theorem zkc_5044 : Cond.code (zy 5044) (zcode 5044) (zmaxl 5044) (zret 5044) ∈ lw_tbl := zme5 (List.mem_of_getElem? (i := 29) rfl)
set_option maxRecDepth 20000 in
theorem zkc_5045 : Cond.code (zy 5045) (zcode 5045) (zmaxl 5045) (zret 5045) ∈ lw_tbl := zme1 (List.mem_of_getElem? (i := 195) rfl)
set_option maxRecDepth 20000 in
theorem zkc_5046 : Cond.code (zy 5046) (zcode 5046) (zmaxl 5046) (zret 5046) ∈ lw_tbl := zme3 (List.mem_of_getElem? (i := 184) rfl)
set_option maxRecDepth 20000 in
theorem zkc_5047 : Cond.code (zy 5047) (zcode 5047) (zmaxl 5047) (zret 5047) ∈ lw_tbl := zme2 (List.mem_of_getElem? (i := 143) rfl)
set_option maxRecDepth 20000 in
theorem zkc_5048 : Cond.code (zy 5048) (zcode 5048) (zmaxl 5048) (zret 5048) ∈ lw_tbl := zme1 (List.mem_of_getElem? (i := 191) rfl)
set_option maxRecDepth 20000 in
theorem zkc_5049 : Cond.code (zy 5049) (zcode 5049) (zmaxl 5049) (zret 5049) ∈ lw_tbl := zme1 (List.mem_of_getElem? (i := 212) rfl)
set_option maxRecDepth 20000 in
theorem zkc_5050 : Cond.code (zy 5050) (zcode 5050) (zmaxl 5050) (zret 5050) ∈ lw_tbl := zme4 (List.mem_of_getElem? (i := 166) rfl)
set_option maxRecDepth 20000 in
theorem zkc_5051 : Cond.code (zy 5051) (zcode 5051) (zmaxl 5051) (zret 5051) ∈ lw_tbl := zme4 (List.mem_of_getElem? (i := 170) rfl)
set_option maxRecDepth 20000 in
theorem zkc_5052 : Cond.code (zy 5052) (zcode 5052) (zmaxl 5052) (zret 5052) ∈ lw_tbl := zme4 (List.mem_of_getElem? (i := 71) rfl)
set_option maxRecDepth 20000 in
theorem zkc_5053 : Cond.code (zy 5053) (zcode 5053) (zmaxl 5053) (zret 5053) ∈ lw_tbl := zme2 (List.mem_of_getElem? (i := 52) rfl)
set_option maxRecDepth 20000 in
theorem zkc_5054 : Cond.code (zy 5054) (zcode 5054) (zmaxl 5054) (zret 5054) ∈ lw_tbl := zme1 (List.mem_of_getElem? (i := 198) rfl)
set_option maxRecDepth 20000 in
theorem zkc_5055 : Cond.code (zy 5055) (zcode 5055) (zmaxl 5055) (zret 5055) ∈ lw_tbl := zme1 (List.mem_of_getElem? (i := 201) rfl)
set_option maxRecDepth 20000 in
theorem zkc_5056 : Cond.code (zy 5056) (zcode 5056) (zmaxl 5056) (zret 5056) ∈ lw_tbl := zme2 (List.mem_of_getElem? (i := 238) rfl)
set_option maxRecDepth 20000 in
theorem zkc_5057 : Cond.code (zy 5057) (zcode 5057) (zmaxl 5057) (zret 5057) ∈ lw_tbl := zme2 (List.mem_of_getElem? (i := 86) rfl)
set_option maxRecDepth 20000 in
theorem zkc_5058 : Cond.code (zy 5058) (zcode 5058) (zmaxl 5058) (zret 5058) ∈ lw_tbl := zme3 (List.mem_of_getElem? (i := 218) rfl)
set_option maxRecDepth 20000 in
theorem zkc_5059 : Cond.code (zy 5059) (zcode 5059) (zmaxl 5059) (zret 5059) ∈ lw_tbl := zme3 (List.mem_of_getElem? (i := 225) rfl)
set_option maxRecDepth 20000 in
theorem zkc_6001 : Cond.code (zy 6001) (zcode 6001) (zmaxl 6001) (zret 6001) ∈ lw_tbl := zme5 (List.mem_of_getElem? (i := 204) rfl)
set_option maxRecDepth 20000 in
theorem zkc_6002 : Cond.code (zy 6002) (zcode 6002) (zmaxl 6002) (zret 6002) ∈ lw_tbl := zme6 (List.mem_of_getElem? (i := 193) rfl)
set_option maxRecDepth 20000 in
theorem zkc_6003 : Cond.code (zy 6003) (zcode 6003) (zmaxl 6003) (zret 6003) ∈ lw_tbl := zme6 (List.mem_of_getElem? (i := 168) rfl)
set_option maxRecDepth 20000 in
theorem zkc_6004 : Cond.code (zy 6004) (zcode 6004) (zmaxl 6004) (zret 6004) ∈ lw_tbl := zme5 (List.mem_of_getElem? (i := 200) rfl)
set_option maxRecDepth 20000 in
theorem zkc_6005 : Cond.code (zy 6005) (zcode 6005) (zmaxl 6005) (zret 6005) ∈ lw_tbl := zme5 (List.mem_of_getElem? (i := 224) rfl)
set_option maxRecDepth 20000 in
theorem zkc_6006 : Cond.code (zy 6006) (zcode 6006) (zmaxl 6006) (zret 6006) ∈ lw_tbl := zme6 (List.mem_of_getElem? (i := 36) rfl)
set_option maxRecDepth 20000 in
theorem zkc_6007 : Cond.code (zy 6007) (zcode 6007) (zmaxl 6007) (zret 6007) ∈ lw_tbl := zme5 (List.mem_of_getElem? (i := 196) rfl)
set_option maxRecDepth 20000 in
theorem zkc_6008 : Cond.code (zy 6008) (zcode 6008) (zmaxl 6008) (zret 6008) ∈ lw_tbl := zme5 (List.mem_of_getElem? (i := 208) rfl)
set_option maxRecDepth 20000 in
theorem zkc_6009 : Cond.code (zy 6009) (zcode 6009) (zmaxl 6009) (zret 6009) ∈ lw_tbl := zme5 (List.mem_of_getElem? (i := 212) rfl)
set_option maxRecDepth 20000 in
theorem zkc_6010 : Cond.code (zy 6010) (zcode 6010) (zmaxl 6010) (zret 6010) ∈ lw_tbl := zme5 (List.mem_of_getElem? (i := 216) rfl)
set_option maxRecDepth 20000 in
theorem zkc_6011 : Cond.code (zy 6011) (zcode 6011) (zmaxl 6011) (zret 6011) ∈ lw_tbl := zme5 (List.mem_of_getElem? (i := 220) rfl)
set_option maxRecDepth 20000 in
theorem zkc_6012 : Cond.code (zy 6012) (zcode 6012) (zmaxl 6012) (zret 6012) ∈ lw_tbl := zme5 (List.mem_of_getElem? (i := 228) rfl)
set_option maxRecDepth 20000 in
theorem zkc_6013 : Cond.code (zy 6013) (zcode 6013) (zmaxl 6013) (zret 6013) ∈ lw_tbl := zme5 (List.mem_of_getElem? (i := 236) rfl)
set_option maxRecDepth 20000 in
theorem zkc_6014 : Cond.code (zy 6014) (zcode 6014) (zmaxl 6014) (zret 6014) ∈ lw_tbl := zme5 (List.mem_of_getElem? (i := 232) rfl)
set_option maxRecDepth 20000 in
theorem zkc_6015 : Cond.code (zy 6015) (zcode 6015) (zmaxl 6015) (zret 6015) ∈ lw_tbl := zme6 (List.mem_of_getElem? (i := 52) rfl)
set_option maxRecDepth 20000 in
theorem zkc_6016 : Cond.code (zy 6016) (zcode 6016) (zmaxl 6016) (zret 6016) ∈ lw_tbl := zme6 (List.mem_of_getElem? (i := 56) rfl)
set_option maxRecDepth 20000 in
theorem zkc_6017 : Cond.code (zy 6017) (zcode 6017) (zmaxl 6017) (zret 6017) ∈ lw_tbl := zme6 (List.mem_of_getElem? (i := 28) rfl)
set_option maxRecDepth 20000 in
theorem zkc_6018 : Cond.code (zy 6018) (zcode 6018) (zmaxl 6018) (zret 6018) ∈ lw_tbl := zme6 (List.mem_of_getElem? (i := 24) rfl)
set_option maxRecDepth 20000 in
theorem zkc_6019 : Cond.code (zy 6019) (zcode 6019) (zmaxl 6019) (zret 6019) ∈ lw_tbl := zme6 (List.mem_of_getElem? (i := 40) rfl)
set_option maxRecDepth 20000 in
theorem zkc_6020 : Cond.code (zy 6020) (zcode 6020) (zmaxl 6020) (zret 6020) ∈ lw_tbl := zme6 (List.mem_of_getElem? (i := 44) rfl)
set_option maxRecDepth 20000 in
theorem zkc_6021 : Cond.code (zy 6021) (zcode 6021) (zmaxl 6021) (zret 6021) ∈ lw_tbl := zme6 (List.mem_of_getElem? (i := 32) rfl)
set_option maxRecDepth 20000 in
theorem zkc_6022 : Cond.code (zy 6022) (zcode 6022) (zmaxl 6022) (zret 6022) ∈ lw_tbl := zme6 (List.mem_of_getElem? (i := 48) rfl)
set_option maxRecDepth 20000 in
theorem zkc_6023 : Cond.code (zy 6023) (zcode 6023) (zmaxl 6023) (zret 6023) ∈ lw_tbl := zme6 (List.mem_of_getElem? (i := 60) rfl)
set_option maxRecDepth 20000 in
theorem zkc_6024 : Cond.code (zy 6024) (zcode 6024) (zmaxl 6024) (zret 6024) ∈ lw_tbl := zme6 (List.mem_of_getElem? (i := 68) rfl)
set_option maxRecDepth 20000 in
theorem zkc_6025 : Cond.code (zy 6025) (zcode 6025) (zmaxl 6025) (zret 6025) ∈ lw_tbl := zme6 (List.mem_of_getElem? (i := 64) rfl)
set_option maxRecDepth 20000 in
theorem zkc_6026 : Cond.code (zy 6026) (zcode 6026) (zmaxl 6026) (zret 6026) ∈ lw_tbl := zme6 (List.mem_of_getElem? (i := 72) rfl)
set_option maxRecDepth 20000 in
theorem zkc_6027 : Cond.code (zy 6027) (zcode 6027) (zmaxl 6027) (zret 6027) ∈ lw_tbl := zme6 (List.mem_of_getElem? (i := 76) rfl)
set_option maxRecDepth 20000 in
theorem zkc_6028 : Cond.code (zy 6028) (zcode 6028) (zmaxl 6028) (zret 6028) ∈ lw_tbl := zme6 (List.mem_of_getElem? (i := 84) rfl)
set_option maxRecDepth 20000 in
theorem zkc_6029 : Cond.code (zy 6029) (zcode 6029) (zmaxl 6029) (zret 6029) ∈ lw_tbl := zme6 (List.mem_of_getElem? (i := 80) rfl)
set_option maxRecDepth 20000 in
theorem zkc_6030 : Cond.code (zy 6030) (zcode 6030) (zmaxl 6030) (zret 6030) ∈ lw_tbl := zme6 (List.mem_of_getElem? (i := 112) rfl)
set_option maxRecDepth 20000 in
theorem zkc_6031 : Cond.code (zy 6031) (zcode 6031) (zmaxl 6031) (zret 6031) ∈ lw_tbl := zme6 (List.mem_of_getElem? (i := 116) rfl)
set_option maxRecDepth 20000 in
theorem zkc_6032 : Cond.code (zy 6032) (zcode 6032) (zmaxl 6032) (zret 6032) ∈ lw_tbl := zme6 (List.mem_of_getElem? (i := 128) rfl)
set_option maxRecDepth 20000 in
theorem zkc_6033 : Cond.code (zy 6033) (zcode 6033) (zmaxl 6033) (zret 6033) ∈ lw_tbl := zme6 (List.mem_of_getElem? (i := 124) rfl)
set_option maxRecDepth 20000 in
theorem zkc_6034 : Cond.code (zy 6034) (zcode 6034) (zmaxl 6034) (zret 6034) ∈ lw_tbl := zme6 (List.mem_of_getElem? (i := 120) rfl)
set_option maxRecDepth 20000 in
theorem zkc_6035 : Cond.code (zy 6035) (zcode 6035) (zmaxl 6035) (zret 6035) ∈ lw_tbl := zme6 (List.mem_of_getElem? (i := 108) rfl)
set_option maxRecDepth 20000 in
theorem zkc_6036 : Cond.code (zy 6036) (zcode 6036) (zmaxl 6036) (zret 6036) ∈ lw_tbl := zme6 (List.mem_of_getElem? (i := 104) rfl)
set_option maxRecDepth 20000 in
theorem zkc_6037 : Cond.code (zy 6037) (zcode 6037) (zmaxl 6037) (zret 6037) ∈ lw_tbl := zme6 (List.mem_of_getElem? (i := 100) rfl)
set_option maxRecDepth 20000 in
theorem zkc_6038 : Cond.code (zy 6038) (zcode 6038) (zmaxl 6038) (zret 6038) ∈ lw_tbl := zme6 (List.mem_of_getElem? (i := 96) rfl)
set_option maxRecDepth 20000 in
theorem zkc_6039 : Cond.code (zy 6039) (zcode 6039) (zmaxl 6039) (zret 6039) ∈ lw_tbl := zme6 (List.mem_of_getElem? (i := 92) rfl)
set_option maxRecDepth 20000 in
theorem zkc_6040 : Cond.code (zy 6040) (zcode 6040) (zmaxl 6040) (zret 6040) ∈ lw_tbl := zme6 (List.mem_of_getElem? (i := 88) rfl)
set_option maxRecDepth 20000 in
theorem zkc_6041 : Cond.code (zy 6041) (zcode 6041) (zmaxl 6041) (zret 6041) ∈ lw_tbl := zme6 (List.mem_of_getElem? (i := 132) rfl)
set_option maxRecDepth 20000 in
theorem zkc_6042 : Cond.code (zy 6042) (zcode 6042) (zmaxl 6042) (zret 6042) ∈ lw_tbl := zme6 (List.mem_of_getElem? (i := 16) rfl)
set_option maxRecDepth 20000 in
theorem zkc_6043 : Cond.code (zy 6043) (zcode 6043) (zmaxl 6043) (zret 6043) ∈ lw_tbl := zme6 (List.mem_of_getElem? (i := 20) rfl)
set_option maxRecDepth 20000 in
theorem zkc_6044 : Cond.code (zy 6044) (zcode 6044) (zmaxl 6044) (zret 6044) ∈ lw_tbl := zme6 (List.mem_of_getElem? (i := 0) rfl)
set_option maxRecDepth 20000 in
theorem zkc_6045 : Cond.code (zy 6045) (zcode 6045) (zmaxl 6045) (zret 6045) ∈ lw_tbl := zme6 (List.mem_of_getElem? (i := 4) rfl)
set_option maxRecDepth 20000 in
theorem zkc_6046 : Cond.code (zy 6046) (zcode 6046) (zmaxl 6046) (zret 6046) ∈ lw_tbl := zme6 (List.mem_of_getElem? (i := 12) rfl)
set_option maxRecDepth 20000 in
theorem zkc_6047 : Cond.code (zy 6047) (zcode 6047) (zmaxl 6047) (zret 6047) ∈ lw_tbl := zme6 (List.mem_of_getElem? (i := 8) rfl)
set_option maxRecDepth 20000 in
theorem zkc_6048 : Cond.code (zy 6048) (zcode 6048) (zmaxl 6048) (zret 6048) ∈ lw_tbl := zme6 (List.mem_of_getElem? (i := 136) rfl)
set_option maxRecDepth 20000 in
theorem zkc_6049 : Cond.code (zy 6049) (zcode 6049) (zmaxl 6049) (zret 6049) ∈ lw_tbl := zme6 (List.mem_of_getElem? (i := 140) rfl)
set_option maxRecDepth 20000 in
theorem zkc_6050 : Cond.code (zy 6050) (zcode 6050) (zmaxl 6050) (zret 6050) ∈ lw_tbl := zme6 (List.mem_of_getElem? (i := 148) rfl)
set_option maxRecDepth 20000 in
theorem zkc_6051 : Cond.code (zy 6051) (zcode 6051) (zmaxl 6051) (zret 6051) ∈ lw_tbl := zme6 (List.mem_of_getElem? (i := 144) rfl)
set_option maxRecDepth 20000 in
theorem zkc_6052 : Cond.code (zy 6052) (zcode 6052) (zmaxl 6052) (zret 6052) ∈ lw_tbl := zme6 (List.mem_of_getElem? (i := 156) rfl)
set_option maxRecDepth 20000 in
theorem zkc_6053 : Cond.code (zy 6053) (zcode 6053) (zmaxl 6053) (zret 6053) ∈ lw_tbl := zme6 (List.mem_of_getElem? (i := 160) rfl)
set_option maxRecDepth 20000 in
theorem zkc_6054 : Cond.code (zy 6054) (zcode 6054) (zmaxl 6054) (zret 6054) ∈ lw_tbl := zme6 (List.mem_of_getElem? (i := 152) rfl)
set_option maxRecDepth 20000 in
theorem zkc_6055 : Cond.code (zy 6055) (zcode 6055) (zmaxl 6055) (zret 6055) ∈ lw_tbl := zme6 (List.mem_of_getElem? (i := 173) rfl)
set_option maxRecDepth 20000 in
theorem zkc_6056 : Cond.code (zy 6056) (zcode 6056) (zmaxl 6056) (zret 6056) ∈ lw_tbl := zme6 (List.mem_of_getElem? (i := 177) rfl)
set_option maxRecDepth 20000 in
theorem zkc_6057 : Cond.code (zy 6057) (zcode 6057) (zmaxl 6057) (zret 6057) ∈ lw_tbl := zme6 (List.mem_of_getElem? (i := 164) rfl)
set_option maxRecDepth 20000 in
theorem zkc_6058 : Cond.code (zy 6058) (zcode 6058) (zmaxl 6058) (zret 6058) ∈ lw_tbl := zme6 (List.mem_of_getElem? (i := 185) rfl)
set_option maxRecDepth 20000 in
theorem zkc_6059 : Cond.code (zy 6059) (zcode 6059) (zmaxl 6059) (zret 6059) ∈ lw_tbl := zme6 (List.mem_of_getElem? (i := 181) rfl)
set_option maxRecDepth 20000 in
theorem zkc_6060 : Cond.code (zy 6060) (zcode 6060) (zmaxl 6060) (zret 6060) ∈ lw_tbl := zme6 (List.mem_of_getElem? (i := 197) rfl)
set_option maxRecDepth 20000 in
theorem zkc_6061 : Cond.code (zy 6061) (zcode 6061) (zmaxl 6061) (zret 6061) ∈ lw_tbl := zme6 (List.mem_of_getElem? (i := 189) rfl)
set_option maxRecDepth 20000 in
theorem zkc_6062 : Cond.code (zy 6062) (zcode 6062) (zmaxl 6062) (zret 6062) ∈ lw_tbl := zme6 (List.mem_of_getElem? (i := 205) rfl)
set_option maxRecDepth 20000 in
theorem zkc_6063 : Cond.code (zy 6063) (zcode 6063) (zmaxl 6063) (zret 6063) ∈ lw_tbl := zme6 (List.mem_of_getElem? (i := 209) rfl)
set_option maxRecDepth 20000 in
theorem zkc_6064 : Cond.code (zy 6064) (zcode 6064) (zmaxl 6064) (zret 6064) ∈ lw_tbl := zme6 (List.mem_of_getElem? (i := 213) rfl)
set_option maxRecDepth 20000 in
theorem zkc_6065 : Cond.code (zy 6065) (zcode 6065) (zmaxl 6065) (zret 6065) ∈ lw_tbl := zme6 (List.mem_of_getElem? (i := 201) rfl)
set_option maxRecDepth 20000 in
theorem zkc_6066 : Cond.code (zy 6066) (zcode 6066) (zmaxl 6066) (zret 6066) ∈ lw_tbl := zme6 (List.mem_of_getElem? (i := 217) rfl)
set_option maxRecDepth 20000 in
theorem zkc_6067 : Cond.code (zy 6067) (zcode 6067) (zmaxl 6067) (zret 6067) ∈ lw_tbl := zme6 (List.mem_of_getElem? (i := 225) rfl)
set_option maxRecDepth 20000 in
theorem zkc_6068 : Cond.code (zy 6068) (zcode 6068) (zmaxl 6068) (zret 6068) ∈ lw_tbl := zme6 (List.mem_of_getElem? (i := 221) rfl)
set_option maxRecDepth 20000 in
theorem zkc_6069 : Cond.code (zy 6069) (zcode 6069) (zmaxl 6069) (zret 6069) ∈ lw_tbl := zme6 (List.mem_of_getElem? (i := 229) rfl)
set_option maxRecDepth 20000 in
theorem zkc_6070 : Cond.code (zy 6070) (zcode 6070) (zmaxl 6070) (zret 6070) ∈ lw_tbl := zme7 (List.mem_of_getElem? (i := 5) rfl)
set_option maxRecDepth 20000 in
theorem zkc_6071 : Cond.code (zy 6071) (zcode 6071) (zmaxl 6071) (zret 6071) ∈ lw_tbl := zme7 (List.mem_of_getElem? (i := 1) rfl)
set_option maxRecDepth 20000 in
theorem zkc_6072 : Cond.code (zy 6072) (zcode 6072) (zmaxl 6072) (zret 6072) ∈ lw_tbl := zme6 (List.mem_of_getElem? (i := 237) rfl)
set_option maxRecDepth 20000 in
theorem zkc_6073 : Cond.code (zy 6073) (zcode 6073) (zmaxl 6073) (zret 6073) ∈ lw_tbl := zme6 (List.mem_of_getElem? (i := 233) rfl)
set_option maxRecDepth 20000 in
theorem zkc_6074 : Cond.code (zy 6074) (zcode 6074) (zmaxl 6074) (zret 6074) ∈ lw_tbl := zme7 (List.mem_of_getElem? (i := 9) rfl)
set_option maxRecDepth 20000 in
theorem zkc_6075 : Cond.code (zy 6075) (zcode 6075) (zmaxl 6075) (zret 6075) ∈ lw_tbl := zme7 (List.mem_of_getElem? (i := 17) rfl)
set_option maxRecDepth 20000 in
theorem zkc_6076 : Cond.code (zy 6076) (zcode 6076) (zmaxl 6076) (zret 6076) ∈ lw_tbl := zme7 (List.mem_of_getElem? (i := 13) rfl)
set_option maxRecDepth 20000 in
theorem zkc_6077 : Cond.code (zy 6077) (zcode 6077) (zmaxl 6077) (zret 6077) ∈ lw_tbl := zme7 (List.mem_of_getElem? (i := 21) rfl)
set_option maxRecDepth 20000 in
theorem zkc_6078 : Cond.code (zy 6078) (zcode 6078) (zmaxl 6078) (zret 6078) ∈ lw_tbl := zme7 (List.mem_of_getElem? (i := 25) rfl)
set_option maxRecDepth 20000 in
theorem zkc_6079 : Cond.code (zy 6079) (zcode 6079) (zmaxl 6079) (zret 6079) ∈ lw_tbl := zme7 (List.mem_of_getElem? (i := 29) rfl)
set_option maxRecDepth 20000 in
theorem zkc_6080 : Cond.code (zy 6080) (zcode 6080) (zmaxl 6080) (zret 6080) ∈ lw_tbl := zme7 (List.mem_of_getElem? (i := 37) rfl)
set_option maxRecDepth 20000 in
theorem zkc_6081 : Cond.code (zy 6081) (zcode 6081) (zmaxl 6081) (zret 6081) ∈ lw_tbl := zme7 (List.mem_of_getElem? (i := 33) rfl)
set_option maxRecDepth 20000 in
theorem zkc_6082 : Cond.code (zy 6082) (zcode 6082) (zmaxl 6082) (zret 6082) ∈ lw_tbl := zme7 (List.mem_of_getElem? (i := 41) rfl)
set_option maxRecDepth 20000 in
theorem zkc_6083 : Cond.code (zy 6083) (zcode 6083) (zmaxl 6083) (zret 6083) ∈ lw_tbl := zme7 (List.mem_of_getElem? (i := 45) rfl)
set_option maxRecDepth 20000 in
theorem zkc_6084 : Cond.code (zy 6084) (zcode 6084) (zmaxl 6084) (zret 6084) ∈ lw_tbl := zme7 (List.mem_of_getElem? (i := 53) rfl)
set_option maxRecDepth 20000 in
theorem zkc_6085 : Cond.code (zy 6085) (zcode 6085) (zmaxl 6085) (zret 6085) ∈ lw_tbl := zme7 (List.mem_of_getElem? (i := 58) rfl)
set_option maxRecDepth 20000 in
theorem zkc_6086 : Cond.code (zy 6086) (zcode 6086) (zmaxl 6086) (zret 6086) ∈ lw_tbl := zme7 (List.mem_of_getElem? (i := 49) rfl)
set_option maxRecDepth 20000 in
theorem zkc_6087 : Cond.code (zy 6087) (zcode 6087) (zmaxl 6087) (zret 6087) ∈ lw_tbl := zme7 (List.mem_of_getElem? (i := 62) rfl)
set_option maxRecDepth 20000 in
theorem zkc_6088 : Cond.code (zy 6088) (zcode 6088) (zmaxl 6088) (zret 6088) ∈ lw_tbl := zme7 (List.mem_of_getElem? (i := 74) rfl)
set_option maxRecDepth 20000 in
theorem zkc_6089 : Cond.code (zy 6089) (zcode 6089) (zmaxl 6089) (zret 6089) ∈ lw_tbl := zme7 (List.mem_of_getElem? (i := 70) rfl)
set_option maxRecDepth 20000 in
theorem zkc_6090 : Cond.code (zy 6090) (zcode 6090) (zmaxl 6090) (zret 6090) ∈ lw_tbl := zme7 (List.mem_of_getElem? (i := 78) rfl)
set_option maxRecDepth 20000 in
theorem zkc_6091 : Cond.code (zy 6091) (zcode 6091) (zmaxl 6091) (zret 6091) ∈ lw_tbl := zme7 (List.mem_of_getElem? (i := 82) rfl)
set_option maxRecDepth 20000 in
theorem zkc_6092 : Cond.code (zy 6092) (zcode 6092) (zmaxl 6092) (zret 6092) ∈ lw_tbl := zme7 (List.mem_of_getElem? (i := 66) rfl)
set_option maxRecDepth 20000 in
theorem zkc_6093 : Cond.code (zy 6093) (zcode 6093) (zmaxl 6093) (zret 6093) ∈ lw_tbl := zme7 (List.mem_of_getElem? (i := 86) rfl)
set_option maxRecDepth 20000 in
theorem zkc_6094 : Cond.code (zy 6094) (zcode 6094) (zmaxl 6094) (zret 6094) ∈ lw_tbl := zme7 (List.mem_of_getElem? (i := 90) rfl)
set_option maxRecDepth 20000 in
theorem zkc_6095 : Cond.code (zy 6095) (zcode 6095) (zmaxl 6095) (zret 6095) ∈ lw_tbl := zme7 (List.mem_of_getElem? (i := 94) rfl)
set_option maxRecDepth 20000 in
theorem zkc_6096 : Cond.code (zy 6096) (zcode 6096) (zmaxl 6096) (zret 6096) ∈ lw_tbl := zme7 (List.mem_of_getElem? (i := 98) rfl)
theorem zw_K : ∀ q ∈ zKl, Cond.code (zy q.1) (zcode q.1) (zmaxl q.1) (zret q.1) ∈ lw_tbl := by
  intro q hq
  unfold zKl at hq
  rcases List.mem_cons.mp hq with rfl | hq
  · exact zkc_1
  rcases List.mem_cons.mp hq with rfl | hq
  · exact zkc_2
  rcases List.mem_cons.mp hq with rfl | hq
  · exact zkc_3
  rcases List.mem_cons.mp hq with rfl | hq
  · exact zkc_4
  rcases List.mem_cons.mp hq with rfl | hq
  · exact zkc_5
  rcases List.mem_cons.mp hq with rfl | hq
  · exact zkc_6
  rcases List.mem_cons.mp hq with rfl | hq
  · exact zkc_7
  rcases List.mem_cons.mp hq with rfl | hq
  · exact zkc_8
  rcases List.mem_cons.mp hq with rfl | hq
  · exact zkc_1001
  rcases List.mem_cons.mp hq with rfl | hq
  · exact zkc_1002
  rcases List.mem_cons.mp hq with rfl | hq
  · exact zkc_1003
  rcases List.mem_cons.mp hq with rfl | hq
  · exact zkc_1004
  rcases List.mem_cons.mp hq with rfl | hq
  · exact zkc_1005
  rcases List.mem_cons.mp hq with rfl | hq
  · exact zkc_1006
  rcases List.mem_cons.mp hq with rfl | hq
  · exact zkc_1007
  rcases List.mem_cons.mp hq with rfl | hq
  · exact zkc_1008
  rcases List.mem_cons.mp hq with rfl | hq
  · exact zkc_1009
  rcases List.mem_cons.mp hq with rfl | hq
  · exact zkc_1010
  rcases List.mem_cons.mp hq with rfl | hq
  · exact zkc_1011
  rcases List.mem_cons.mp hq with rfl | hq
  · exact zkc_1012
  rcases List.mem_cons.mp hq with rfl | hq
  · exact zkc_1013
  rcases List.mem_cons.mp hq with rfl | hq
  · exact zkc_1014
  rcases List.mem_cons.mp hq with rfl | hq
  · exact zkc_1015
  rcases List.mem_cons.mp hq with rfl | hq
  · exact zkc_1016
  rcases List.mem_cons.mp hq with rfl | hq
  · exact zkc_1017
  rcases List.mem_cons.mp hq with rfl | hq
  · exact zkc_1018
  rcases List.mem_cons.mp hq with rfl | hq
  · exact zkc_1019
  rcases List.mem_cons.mp hq with rfl | hq
  · exact zkc_1020
  rcases List.mem_cons.mp hq with rfl | hq
  · exact zkc_1021
  rcases List.mem_cons.mp hq with rfl | hq
  · exact zkc_1022
  rcases List.mem_cons.mp hq with rfl | hq
  · exact zkc_1023
  rcases List.mem_cons.mp hq with rfl | hq
  · exact zkc_1024
  rcases List.mem_cons.mp hq with rfl | hq
  · exact zkc_1025
  rcases List.mem_cons.mp hq with rfl | hq
  · exact zkc_1026
  rcases List.mem_cons.mp hq with rfl | hq
  · exact zkc_1027
  rcases List.mem_cons.mp hq with rfl | hq
  · exact zkc_1028
  rcases List.mem_cons.mp hq with rfl | hq
  · exact zkc_1029
  rcases List.mem_cons.mp hq with rfl | hq
  · exact zkc_1030
  rcases List.mem_cons.mp hq with rfl | hq
  · exact zkc_1031
  rcases List.mem_cons.mp hq with rfl | hq
  · exact zkc_1032
  rcases List.mem_cons.mp hq with rfl | hq
  · exact zkc_1033
  rcases List.mem_cons.mp hq with rfl | hq
  · exact zkc_1034
  rcases List.mem_cons.mp hq with rfl | hq
  · exact zkc_1035
  rcases List.mem_cons.mp hq with rfl | hq
  · exact zkc_1036
  rcases List.mem_cons.mp hq with rfl | hq
  · exact zkc_1037
  rcases List.mem_cons.mp hq with rfl | hq
  · exact zkc_1038
  rcases List.mem_cons.mp hq with rfl | hq
  · exact zkc_1039
  rcases List.mem_cons.mp hq with rfl | hq
  · exact zkc_1040
  rcases List.mem_cons.mp hq with rfl | hq
  · exact zkc_1041
  rcases List.mem_cons.mp hq with rfl | hq
  · exact zkc_1042
  rcases List.mem_cons.mp hq with rfl | hq
  · exact zkc_1043
  rcases List.mem_cons.mp hq with rfl | hq
  · exact zkc_1044
  rcases List.mem_cons.mp hq with rfl | hq
  · exact zkc_1045
  rcases List.mem_cons.mp hq with rfl | hq
  · exact zkc_1046
  rcases List.mem_cons.mp hq with rfl | hq
  · exact zkc_1047
  rcases List.mem_cons.mp hq with rfl | hq
  · exact zkc_2001
  rcases List.mem_cons.mp hq with rfl | hq
  · exact zkc_2002
  rcases List.mem_cons.mp hq with rfl | hq
  · exact zkc_2003
  rcases List.mem_cons.mp hq with rfl | hq
  · exact zkc_2004
  rcases List.mem_cons.mp hq with rfl | hq
  · exact zkc_2005
  rcases List.mem_cons.mp hq with rfl | hq
  · exact zkc_2006
  rcases List.mem_cons.mp hq with rfl | hq
  · exact zkc_2007
  rcases List.mem_cons.mp hq with rfl | hq
  · exact zkc_2008
  rcases List.mem_cons.mp hq with rfl | hq
  · exact zkc_2009
  rcases List.mem_cons.mp hq with rfl | hq
  · exact zkc_2010
  rcases List.mem_cons.mp hq with rfl | hq
  · exact zkc_2011
  rcases List.mem_cons.mp hq with rfl | hq
  · exact zkc_2012
  rcases List.mem_cons.mp hq with rfl | hq
  · exact zkc_2013
  rcases List.mem_cons.mp hq with rfl | hq
  · exact zkc_2014
  rcases List.mem_cons.mp hq with rfl | hq
  · exact zkc_2015
  rcases List.mem_cons.mp hq with rfl | hq
  · exact zkc_2016
  rcases List.mem_cons.mp hq with rfl | hq
  · exact zkc_2017
  rcases List.mem_cons.mp hq with rfl | hq
  · exact zkc_2018
  rcases List.mem_cons.mp hq with rfl | hq
  · exact zkc_2019
  rcases List.mem_cons.mp hq with rfl | hq
  · exact zkc_2020
  rcases List.mem_cons.mp hq with rfl | hq
  · exact zkc_2021
  rcases List.mem_cons.mp hq with rfl | hq
  · exact zkc_2022
  rcases List.mem_cons.mp hq with rfl | hq
  · exact zkc_2023
  rcases List.mem_cons.mp hq with rfl | hq
  · exact zkc_2024
  rcases List.mem_cons.mp hq with rfl | hq
  · exact zkc_2025
  rcases List.mem_cons.mp hq with rfl | hq
  · exact zkc_2026
  rcases List.mem_cons.mp hq with rfl | hq
  · exact zkc_2027
  rcases List.mem_cons.mp hq with rfl | hq
  · exact zkc_2028
  rcases List.mem_cons.mp hq with rfl | hq
  · exact zkc_2029
  rcases List.mem_cons.mp hq with rfl | hq
  · exact zkc_2030
  rcases List.mem_cons.mp hq with rfl | hq
  · exact zkc_3001
  rcases List.mem_cons.mp hq with rfl | hq
  · exact zkc_3002
  rcases List.mem_cons.mp hq with rfl | hq
  · exact zkc_3003
  rcases List.mem_cons.mp hq with rfl | hq
  · exact zkc_3004
  rcases List.mem_cons.mp hq with rfl | hq
  · exact zkc_3005
  rcases List.mem_cons.mp hq with rfl | hq
  · exact zkc_3006
  rcases List.mem_cons.mp hq with rfl | hq
  · exact zkc_3007
  rcases List.mem_cons.mp hq with rfl | hq
  · exact zkc_3008
  rcases List.mem_cons.mp hq with rfl | hq
  · exact zkc_3009
  rcases List.mem_cons.mp hq with rfl | hq
  · exact zkc_3010
  rcases List.mem_cons.mp hq with rfl | hq
  · exact zkc_3011
  rcases List.mem_cons.mp hq with rfl | hq
  · exact zkc_3012
  rcases List.mem_cons.mp hq with rfl | hq
  · exact zkc_3013
  rcases List.mem_cons.mp hq with rfl | hq
  · exact zkc_3014
  rcases List.mem_cons.mp hq with rfl | hq
  · exact zkc_3015
  rcases List.mem_cons.mp hq with rfl | hq
  · exact zkc_3016
  rcases List.mem_cons.mp hq with rfl | hq
  · exact zkc_3017
  rcases List.mem_cons.mp hq with rfl | hq
  · exact zkc_3018
  rcases List.mem_cons.mp hq with rfl | hq
  · exact zkc_4001
  rcases List.mem_cons.mp hq with rfl | hq
  · exact zkc_4002
  rcases List.mem_cons.mp hq with rfl | hq
  · exact zkc_4003
  rcases List.mem_cons.mp hq with rfl | hq
  · exact zkc_4004
  rcases List.mem_cons.mp hq with rfl | hq
  · exact zkc_4005
  rcases List.mem_cons.mp hq with rfl | hq
  · exact zkc_4006
  rcases List.mem_cons.mp hq with rfl | hq
  · exact zkc_4007
  rcases List.mem_cons.mp hq with rfl | hq
  · exact zkc_4008
  rcases List.mem_cons.mp hq with rfl | hq
  · exact zkc_4009
  rcases List.mem_cons.mp hq with rfl | hq
  · exact zkc_4010
  rcases List.mem_cons.mp hq with rfl | hq
  · exact zkc_4011
  rcases List.mem_cons.mp hq with rfl | hq
  · exact zkc_4012
  rcases List.mem_cons.mp hq with rfl | hq
  · exact zkc_4013
  rcases List.mem_cons.mp hq with rfl | hq
  · exact zkc_5001
  rcases List.mem_cons.mp hq with rfl | hq
  · exact zkc_5002
  rcases List.mem_cons.mp hq with rfl | hq
  · exact zkc_5003
  rcases List.mem_cons.mp hq with rfl | hq
  · exact zkc_5004
  rcases List.mem_cons.mp hq with rfl | hq
  · exact zkc_5005
  rcases List.mem_cons.mp hq with rfl | hq
  · exact zkc_5006
  rcases List.mem_cons.mp hq with rfl | hq
  · exact zkc_5007
  rcases List.mem_cons.mp hq with rfl | hq
  · exact zkc_5008
  rcases List.mem_cons.mp hq with rfl | hq
  · exact zkc_5009
  rcases List.mem_cons.mp hq with rfl | hq
  · exact zkc_5010
  rcases List.mem_cons.mp hq with rfl | hq
  · exact zkc_5011
  rcases List.mem_cons.mp hq with rfl | hq
  · exact zkc_5012
  rcases List.mem_cons.mp hq with rfl | hq
  · exact zkc_5013
  rcases List.mem_cons.mp hq with rfl | hq
  · exact zkc_5014
  rcases List.mem_cons.mp hq with rfl | hq
  · exact zkc_5015
  rcases List.mem_cons.mp hq with rfl | hq
  · exact zkc_5016
  rcases List.mem_cons.mp hq with rfl | hq
  · exact zkc_5017
  rcases List.mem_cons.mp hq with rfl | hq
  · exact zkc_5018
  rcases List.mem_cons.mp hq with rfl | hq
  · exact zkc_5019
  rcases List.mem_cons.mp hq with rfl | hq
  · exact zkc_5020
  rcases List.mem_cons.mp hq with rfl | hq
  · exact zkc_5021
  rcases List.mem_cons.mp hq with rfl | hq
  · exact zkc_5022
  rcases List.mem_cons.mp hq with rfl | hq
  · exact zkc_5023
  rcases List.mem_cons.mp hq with rfl | hq
  · exact zkc_5024
  rcases List.mem_cons.mp hq with rfl | hq
  · exact zkc_5025
  rcases List.mem_cons.mp hq with rfl | hq
  · exact zkc_5026
  rcases List.mem_cons.mp hq with rfl | hq
  · exact zkc_5027
  rcases List.mem_cons.mp hq with rfl | hq
  · exact zkc_5028
  rcases List.mem_cons.mp hq with rfl | hq
  · exact zkc_5029
  rcases List.mem_cons.mp hq with rfl | hq
  · exact zkc_5030
  rcases List.mem_cons.mp hq with rfl | hq
  · exact zkc_5031
  rcases List.mem_cons.mp hq with rfl | hq
  · exact zkc_5032
  rcases List.mem_cons.mp hq with rfl | hq
  · exact zkc_5033
  rcases List.mem_cons.mp hq with rfl | hq
  · exact zkc_5034
  rcases List.mem_cons.mp hq with rfl | hq
  · exact zkc_5035
  rcases List.mem_cons.mp hq with rfl | hq
  · exact zkc_5036
  rcases List.mem_cons.mp hq with rfl | hq
  · exact zkc_5037
  rcases List.mem_cons.mp hq with rfl | hq
  · exact zkc_5038
  rcases List.mem_cons.mp hq with rfl | hq
  · exact zkc_5039
  rcases List.mem_cons.mp hq with rfl | hq
  · exact zkc_5040
  rcases List.mem_cons.mp hq with rfl | hq
  · exact zkc_5041
  rcases List.mem_cons.mp hq with rfl | hq
  · exact zkc_5042
  rcases List.mem_cons.mp hq with rfl | hq
  · exact zkc_5043
  rcases List.mem_cons.mp hq with rfl | hq
  · exact zkc_5044
  rcases List.mem_cons.mp hq with rfl | hq
  · exact zkc_5045
  rcases List.mem_cons.mp hq with rfl | hq
  · exact zkc_5046
  rcases List.mem_cons.mp hq with rfl | hq
  · exact zkc_5047
  rcases List.mem_cons.mp hq with rfl | hq
  · exact zkc_5048
  rcases List.mem_cons.mp hq with rfl | hq
  · exact zkc_5049
  rcases List.mem_cons.mp hq with rfl | hq
  · exact zkc_5050
  rcases List.mem_cons.mp hq with rfl | hq
  · exact zkc_5051
  rcases List.mem_cons.mp hq with rfl | hq
  · exact zkc_5052
  rcases List.mem_cons.mp hq with rfl | hq
  · exact zkc_5053
  rcases List.mem_cons.mp hq with rfl | hq
  · exact zkc_5054
  rcases List.mem_cons.mp hq with rfl | hq
  · exact zkc_5055
  rcases List.mem_cons.mp hq with rfl | hq
  · exact zkc_5056
  rcases List.mem_cons.mp hq with rfl | hq
  · exact zkc_5057
  rcases List.mem_cons.mp hq with rfl | hq
  · exact zkc_5058
  rcases List.mem_cons.mp hq with rfl | hq
  · exact zkc_5059
  rcases List.mem_cons.mp hq with rfl | hq
  · exact zkc_6001
  rcases List.mem_cons.mp hq with rfl | hq
  · exact zkc_6002
  rcases List.mem_cons.mp hq with rfl | hq
  · exact zkc_6003
  rcases List.mem_cons.mp hq with rfl | hq
  · exact zkc_6004
  rcases List.mem_cons.mp hq with rfl | hq
  · exact zkc_6005
  rcases List.mem_cons.mp hq with rfl | hq
  · exact zkc_6006
  rcases List.mem_cons.mp hq with rfl | hq
  · exact zkc_6007
  rcases List.mem_cons.mp hq with rfl | hq
  · exact zkc_6008
  rcases List.mem_cons.mp hq with rfl | hq
  · exact zkc_6009
  rcases List.mem_cons.mp hq with rfl | hq
  · exact zkc_6010
  rcases List.mem_cons.mp hq with rfl | hq
  · exact zkc_6011
  rcases List.mem_cons.mp hq with rfl | hq
  · exact zkc_6012
  rcases List.mem_cons.mp hq with rfl | hq
  · exact zkc_6013
  rcases List.mem_cons.mp hq with rfl | hq
  · exact zkc_6014
  rcases List.mem_cons.mp hq with rfl | hq
  · exact zkc_6015
  rcases List.mem_cons.mp hq with rfl | hq
  · exact zkc_6016
  rcases List.mem_cons.mp hq with rfl | hq
  · exact zkc_6017
  rcases List.mem_cons.mp hq with rfl | hq
  · exact zkc_6018
  rcases List.mem_cons.mp hq with rfl | hq
  · exact zkc_6019
  rcases List.mem_cons.mp hq with rfl | hq
  · exact zkc_6020
  rcases List.mem_cons.mp hq with rfl | hq
  · exact zkc_6021
  rcases List.mem_cons.mp hq with rfl | hq
  · exact zkc_6022
  rcases List.mem_cons.mp hq with rfl | hq
  · exact zkc_6023
  rcases List.mem_cons.mp hq with rfl | hq
  · exact zkc_6024
  rcases List.mem_cons.mp hq with rfl | hq
  · exact zkc_6025
  rcases List.mem_cons.mp hq with rfl | hq
  · exact zkc_6026
  rcases List.mem_cons.mp hq with rfl | hq
  · exact zkc_6027
  rcases List.mem_cons.mp hq with rfl | hq
  · exact zkc_6028
  rcases List.mem_cons.mp hq with rfl | hq
  · exact zkc_6029
  rcases List.mem_cons.mp hq with rfl | hq
  · exact zkc_6030
  rcases List.mem_cons.mp hq with rfl | hq
  · exact zkc_6031
  rcases List.mem_cons.mp hq with rfl | hq
  · exact zkc_6032
  rcases List.mem_cons.mp hq with rfl | hq
  · exact zkc_6033
  rcases List.mem_cons.mp hq with rfl | hq
  · exact zkc_6034
  rcases List.mem_cons.mp hq with rfl | hq
  · exact zkc_6035
  rcases List.mem_cons.mp hq with rfl | hq
  · exact zkc_6036
  rcases List.mem_cons.mp hq with rfl | hq
  · exact zkc_6037
  rcases List.mem_cons.mp hq with rfl | hq
  · exact zkc_6038
  rcases List.mem_cons.mp hq with rfl | hq
  · exact zkc_6039
  rcases List.mem_cons.mp hq with rfl | hq
  · exact zkc_6040
  rcases List.mem_cons.mp hq with rfl | hq
  · exact zkc_6041
  rcases List.mem_cons.mp hq with rfl | hq
  · exact zkc_6042
  rcases List.mem_cons.mp hq with rfl | hq
  · exact zkc_6043
  rcases List.mem_cons.mp hq with rfl | hq
  · exact zkc_6044
  rcases List.mem_cons.mp hq with rfl | hq
  · exact zkc_6045
  rcases List.mem_cons.mp hq with rfl | hq
  · exact zkc_6046
  rcases List.mem_cons.mp hq with rfl | hq
  · exact zkc_6047
  rcases List.mem_cons.mp hq with rfl | hq
  · exact zkc_6048
  rcases List.mem_cons.mp hq with rfl | hq
  · exact zkc_6049
  rcases List.mem_cons.mp hq with rfl | hq
  · exact zkc_6050
  rcases List.mem_cons.mp hq with rfl | hq
  · exact zkc_6051
  rcases List.mem_cons.mp hq with rfl | hq
  · exact zkc_6052
  rcases List.mem_cons.mp hq with rfl | hq
  · exact zkc_6053
  rcases List.mem_cons.mp hq with rfl | hq
  · exact zkc_6054
  rcases List.mem_cons.mp hq with rfl | hq
  · exact zkc_6055
  rcases List.mem_cons.mp hq with rfl | hq
  · exact zkc_6056
  rcases List.mem_cons.mp hq with rfl | hq
  · exact zkc_6057
  rcases List.mem_cons.mp hq with rfl | hq
  · exact zkc_6058
  rcases List.mem_cons.mp hq with rfl | hq
  · exact zkc_6059
  rcases List.mem_cons.mp hq with rfl | hq
  · exact zkc_6060
  rcases List.mem_cons.mp hq with rfl | hq
  · exact zkc_6061
  rcases List.mem_cons.mp hq with rfl | hq
  · exact zkc_6062
  rcases List.mem_cons.mp hq with rfl | hq
  · exact zkc_6063
  rcases List.mem_cons.mp hq with rfl | hq
  · exact zkc_6064
  rcases List.mem_cons.mp hq with rfl | hq
  · exact zkc_6065
  rcases List.mem_cons.mp hq with rfl | hq
  · exact zkc_6066
  rcases List.mem_cons.mp hq with rfl | hq
  · exact zkc_6067
  rcases List.mem_cons.mp hq with rfl | hq
  · exact zkc_6068
  rcases List.mem_cons.mp hq with rfl | hq
  · exact zkc_6069
  rcases List.mem_cons.mp hq with rfl | hq
  · exact zkc_6070
  rcases List.mem_cons.mp hq with rfl | hq
  · exact zkc_6071
  rcases List.mem_cons.mp hq with rfl | hq
  · exact zkc_6072
  rcases List.mem_cons.mp hq with rfl | hq
  · exact zkc_6073
  rcases List.mem_cons.mp hq with rfl | hq
  · exact zkc_6074
  rcases List.mem_cons.mp hq with rfl | hq
  · exact zkc_6075
  rcases List.mem_cons.mp hq with rfl | hq
  · exact zkc_6076
  rcases List.mem_cons.mp hq with rfl | hq
  · exact zkc_6077
  rcases List.mem_cons.mp hq with rfl | hq
  · exact zkc_6078
  rcases List.mem_cons.mp hq with rfl | hq
  · exact zkc_6079
  rcases List.mem_cons.mp hq with rfl | hq
  · exact zkc_6080
  rcases List.mem_cons.mp hq with rfl | hq
  · exact zkc_6081
  rcases List.mem_cons.mp hq with rfl | hq
  · exact zkc_6082
  rcases List.mem_cons.mp hq with rfl | hq
  · exact zkc_6083
  rcases List.mem_cons.mp hq with rfl | hq
  · exact zkc_6084
  rcases List.mem_cons.mp hq with rfl | hq
  · exact zkc_6085
  rcases List.mem_cons.mp hq with rfl | hq
  · exact zkc_6086
  rcases List.mem_cons.mp hq with rfl | hq
  · exact zkc_6087
  rcases List.mem_cons.mp hq with rfl | hq
  · exact zkc_6088
  rcases List.mem_cons.mp hq with rfl | hq
  · exact zkc_6089
  rcases List.mem_cons.mp hq with rfl | hq
  · exact zkc_6090
  rcases List.mem_cons.mp hq with rfl | hq
  · exact zkc_6091
  rcases List.mem_cons.mp hq with rfl | hq
  · exact zkc_6092
  rcases List.mem_cons.mp hq with rfl | hq
  · exact zkc_6093
  rcases List.mem_cons.mp hq with rfl | hq
  · exact zkc_6094
  rcases List.mem_cons.mp hq with rfl | hq
  · exact zkc_6095
  rcases List.mem_cons.mp hq with rfl | hq
  · exact zkc_6096
  exact absurd hq List.not_mem_nil
theorem zw_K2 : ∀ q ∈ zKl, (zstat q.1 = true → tables_1[q.2.2.1]? = some (Cond.static (zy q.1))) ∧ (zstat q.1 = false → tables_1[q.2.2.1]? = some (Cond.instanceMethod (zy q.1)) ∧ lw_tbl[q.2.2.2]? = some (Cond.selects (zRn (q.1 / 1000)) (zy q.1) (zy q.1))) := by decide +kernel
theorem zw_K3 : ∀ q ∈ zKl, q.1 / 1000 < 7 ∧ (zy q.1).cls = zRn (q.1 / 1000) ∧ ((zy q.1).cls ≠ "java/lang/invoke/MethodHandle" ∧ (zy q.1).cls ≠ "java/lang/invoke/VarHandle" ∧ (parseMethodDescriptor (zy q.1).desc).map (fun d => d.parameters.length) = some (znarg q.1)) ∧ plainName (zy q.1).cls = true ∧ zmaxl q.1 ≤ 12 := by decide +kernel
theorem zw_K4 : ∀ q ∈ zKl, (zrt q.1 = 0 → zret q.1 = none) ∧ (zrt q.1 = 1 → zret q.1 = some .int) ∧ (zrt q.1 = 2 → zret q.1 = some .boolean) ∧ (zrt q.1 = 3 → zret q.1 = some .long) ∧ (zrt q.1 = 4 → zret q.1 = some (.object "TablesAndTips$House") ∨ zret q.1 = some (.object "TablesAndTips$Shelf") ∨ zret q.1 = some (.object "java/lang/String")) := by decide +kernel
theorem zw_ml : ∀ q ∈ zmlL, (q.2.2.1 < 7000 → q.2.2.1 ∈ zKl.map (fun k => k.1)) ∧ (q.2.2.1 < 7000 → (q.2.2.2.1 = 0 ∧ tables_1[q.2.2.2.2]? = some (Cond.methodLink (zRn q.1) q.2.1 (zy q.2.2.1))) ∨ (q.2.2.2.1 = 1 ∧ zstat q.2.2.1 = true ∧ tables_1[q.2.2.2.2]? = some (Cond.methodLinkNest (zRn q.1) q.2.1 (zy q.2.2.1) "TablesAndTips"))) ∧ (q.2.2.1 = 9001 → tables_1[q.2.2.2.2]? = some (Cond.methodLink (zRn q.1) q.2.1 Lib.Math.max.name)) ∧ (q.2.2.1 = 9002 → tables_1[q.2.2.2.2]? = some (Cond.methodLink (zRn q.1) q.2.1 Lib.Math.min.name)) ∧ (q.2.2.1 = 9003 → tables_1[q.2.2.2.2]? = some (Cond.methodLink (zRn q.1) q.2.1 ⟨"java/lang/String", "length", "()I"⟩)) ∧ (q.2.2.1 = 9004 → tables_1[q.2.2.2.2]? = some (Cond.methodLink (zRn q.1) q.2.1 ⟨"java/lang/String", "charAt", "(I)C"⟩)) := by decide +kernel
theorem zw_mm : Cond.static Lib.Math.max.name ∈ lw_tbl ∧ Cond.static Lib.Math.min.name ∈ lw_tbl ∧ Cond.initialized "java/lang/Math" ∈ lw_tbl ∧ Cond.code Lib.Math.max.name Lib.Math.max.code 2 (some .int) ∈ lw_tbl ∧ Cond.code Lib.Math.min.name Lib.Math.min.code 2 (some .int) ∈ lw_tbl := by decide +kernel
theorem zw_in : ∀ c, c < 7 → Cond.initialized (zRn c) ∈ lw_tbl := by decide +kernel
def zTbl : List Cond := lw_tbl.filter goodWord
theorem zTbl_mem {w : Cond} (h : w ∈ lw_tbl) (hg : goodWord w = true) : w ∈ zTbl := List.mem_filter.mpr ⟨h, hg⟩
theorem zTbl_sub : ∀ w ∈ zTbl, w ∈ lw_tbl := fun w h => (List.mem_filter.mp h).1
theorem zTbl_good : GoodIn zTbl zTbl := fun w h => ⟨h, good_of_word (List.mem_filter.mp h).2⟩
theorem zmg {w : Cond} {i : Nat} (h : tables_1[i]? = some w) (hg : goodWord w = true) : w ∈ zTbl := zTbl_mem (zme (List.mem_of_getElem? h)) hg
theorem zing_0 : ∀ w ∈ u_ws RX0 TX0 5, goodWord w = true := by decide +kernel
theorem zing_1 : ∀ w ∈ u_ws RX1 TX1 9, goodWord w = true := by decide +kernel
theorem zing_2 : ∀ w ∈ u_ws RX2 TX2 11, goodWord w = true := by decide +kernel
theorem zing_3 : ∀ w ∈ u_ws RX3 TX3 4, goodWord w = true := by decide +kernel
theorem zing_4 : ∀ w ∈ u_ws RX4 TX4 3, goodWord w = true := by decide +kernel
theorem zing_5 : ∀ w ∈ u_ws RX5 TX5 8, goodWord w = true := by decide +kernel
theorem zing_6 : ∀ w ∈ u_ws RX6 TX6 48, goodWord w = true := by decide +kernel
theorem zin_ok : ∀ c, c < 7 → ∀ w ∈ u_ws (zRn c) (zT c) (zNn c), w ∈ zTbl := by
  intro c h
  match c, h with
  | 0, _ => exact fun w hw => zTbl_mem (zin_0 w hw) (zing_0 w hw)
  | 1, _ => exact fun w hw => zTbl_mem (zin_1 w hw) (zing_1 w hw)
  | 2, _ => exact fun w hw => zTbl_mem (zin_2 w hw) (zing_2 w hw)
  | 3, _ => exact fun w hw => zTbl_mem (zin_3 w hw) (zing_3 w hw)
  | 4, _ => exact fun w hw => zTbl_mem (zin_4 w hw) (zing_4 w hw)
  | 5, _ => exact fun w hw => zTbl_mem (zin_5 w hw) (zing_5 w hw)
  | 6, _ => exact fun w hw => zTbl_mem (zin_6 w hw) (zing_6 w hw)
theorem zw_cs : ∀ q ∈ zcsL, (∃ t ∈ tables_1, ∃ v : Int32, q.2.2 = .int v ∧ t = Cond.constant (zRn q.1) q.2.1 v) ∨ (q.1 = 3 ∧ ∃ i, i < 5 ∧ q.2.2 = .ref (2000 + i) ∧ q.2.1 = 88 + 2 * i) := by
  intro q hq
  simp only [zcsL, List.mem_cons, List.not_mem_nil, or_false] at hq
  rcases hq with rfl | rfl | rfl | rfl | rfl | rfl | rfl | rfl | rfl
  · exact Or.inl ⟨_, List.mem_of_getElem? (i := 665) (by decide +kernel), _, rfl, rfl⟩
  · exact Or.inl ⟨_, List.mem_of_getElem? (i := 924) (by decide +kernel), _, rfl, rfl⟩
  · exact Or.inl ⟨_, List.mem_of_getElem? (i := 1369) (by decide +kernel), _, rfl, rfl⟩
  · exact Or.inl ⟨_, List.mem_of_getElem? (i := 1494) (by decide +kernel), _, rfl, rfl⟩
  · exact Or.inr ⟨rfl, 0, by decide, rfl, rfl⟩
  · exact Or.inr ⟨rfl, 1, by decide, rfl, rfl⟩
  · exact Or.inr ⟨rfl, 2, by decide, rfl, rfl⟩
  · exact Or.inr ⟨rfl, 3, by decide, rfl, rfl⟩
  · exact Or.inr ⟨rfl, 4, by decide, rfl, rfl⟩

theorem zw_c2 : ∀ q ∈ zc2L, Cond.constantLong (zRn q.1) q.2.1 q.2.2 ∈ tables_1 := by
  intro q hq
  simp only [zc2L, List.mem_cons, List.not_mem_nil, or_false] at hq
  rcases hq with rfl
  exact List.mem_of_getElem? (i := 1539) (by decide +kernel)
def zTx (i : Nat) : String := match i with
  | 0 => "waiter"
  | 1 => "table"
  | 2 => "sharing"
  | 3 => "added"
  | 4 => "numbers"
  | _ => ""
