def am_okY (y : mI) : Bool := plainFor (am_nm y) && decide ((am_nm y).cls = am_cn (am_own y)) && decide (am_ml y ≤ 60) && decide ((am_nm y).cls ≠ "java/lang/invoke/MethodHandle") && decide ((am_nm y).cls ≠ "java/lang/invoke/VarHandle")
def am_at? (p : Nat) (w : Cond) : Bool := decide (lw_tbl[p]? = some w)
theorem am_at_mem {p : Nat} {w : Cond} (h : am_at? p w = true) : w ∈ lw_tbl := List.mem_of_getElem? (of_decide_eq_true h)
def am_okC (C : String) (e : Nat × Nat × Nat × mI) (p : Nat × Nat × Nat × Nat) : Bool := am_okY e.2.2.2 && decide ((parseMethodDescriptor (am_nm e.2.2.2).desc).map (fun d => d.parameters.length) = some e.2.2.1) && am_at? p.1 (Cond.initialized (am_nm e.2.2.2).cls) && (match e.2.1 with
  | 0 => am_at? p.2.1 (Cond.methodLink C e.1 (am_nm e.2.2.2)) && am_at? p.2.2.1 (Cond.instanceMethod (am_nm e.2.2.2)) && am_at? p.2.2.2 (Cond.selects (am_nm e.2.2.2).cls (am_nm e.2.2.2) (am_nm e.2.2.2)) && (decide (am_own e.2.2.2 < 13) || decide (am_own e.2.2.2 = 16))
  | 1 => am_at? p.2.1 (Cond.methodLink C e.1 (am_nm e.2.2.2)) && am_at? p.2.2.1 (Cond.static (am_nm e.2.2.2))
  | 2 => am_at? p.2.1 (Cond.methodLink C e.1 (am_nm e.2.2.2)) && am_at? p.2.2.1 (Cond.instanceMethod (am_nm e.2.2.2)) && decide ((am_nm e.2.2.2).name = "<init>") && decide (am_rt e.2.2.2 = none)
  | 3 => am_at? p.2.1 (Cond.methodLinkNest C e.1 (am_nm e.2.2.2) "TownsUnderSail") && am_at? p.2.2.1 (Cond.static (am_nm e.2.2.2))
  | _ => false)
def am_cps : Nat → List (Nat × Nat × Nat × Nat) := fun n => match n with
  | 0 => [(88, 1051, 590, 591), (92, 1052, 1053, 0), (87, 1055, 595, 0), (98, 1056, 996, 997), (99, 1057, 1059, 31), (101, 1062, 827, 0), (99, 1063, 1065, 32), (99, 1067, 1069, 33), (95, 1082, 855, 0), (87, 1072, 578, 0), (89, 1073, 907, 908), (98, 1075, 1076, 1077), (101, 1079, 1080, 0)]
  | 1 => [(87, 809, 578, 0), (91, 886, 888, 19), (91, 890, 892, 20), (91, 894, 896, 21), (91, 898, 900, 22)]
  | 2 => [(94, 375, 376, 0), (101, 826, 827, 0), (94, 829, 830, 831), (101, 840, 841, 0), (94, 1114, 1115, 1116)]
  | 3 => [(89, 129, 130, 0), (90, 206, 207, 0), (91, 227, 228, 0), (88, 258, 259, 260), (92, 262, 263, 0), (91, 265, 266, 267), (89, 1127, 1128, 1129), (90, 1132, 1133, 1134), (91, 1137, 1138, 1139), (87, 593, 578, 0), (101, 944, 841, 0), (101, 945, 646, 0), (87, 946, 595, 0)]
  | 4 => [(92, 984, 263, 0), (87, 985, 595, 0), (88, 986, 590, 591), (98, 995, 996, 997), (98, 999, 1000, 1001), (101, 1003, 827, 0), (98, 1005, 1007, 28), (95, 1020, 855, 0), (89, 1009, 907, 908), (87, 1011, 578, 0), (98, 1013, 1015, 29), (98, 1017, 1018, 0), (107, 1096, 1097, 0)]
  | 5 => [(91, 461, 228, 0), (96, 677, 678, 679), (91, 756, 266, 267), (97, 757, 759, 6), (97, 761, 763, 7), (97, 765, 767, 8), (97, 769, 771, 9), (97, 789, 791, 13), (91, 805, 806, 807), (97, 773, 775, 10), (97, 798, 799, 0), (97, 801, 803, 15), (91, 785, 786, 787), (97, 777, 779, 11), (97, 793, 795, 14), (97, 781, 783, 12), (87, 797, 578, 0)]
  | 6 => [(90, 1136, 649, 650)]
  | 7 => [(87, 660, 578, 0), (96, 681, 683, 1), (96, 685, 687, 2), (96, 695, 697, 3), (96, 689, 690, 0), (96, 692, 693, 0), (96, 699, 701, 4), (96, 752, 754, 5), (102, 704, 705, 706), (102, 714, 715, 716)]
  | 8 => [(89, 380, 130, 0), (89, 836, 837, 838)]
  | 9 => [(89, 1131, 837, 838), (87, 639, 640, 0), (101, 910, 841, 0)]
  | 10 => [(101, 847, 827, 0), (88, 848, 849, 850), (95, 854, 855, 0), (95, 858, 860, 16), (95, 902, 904, 23), (95, 928, 930, 26), (95, 936, 938, 27), (87, 862, 578, 0), (88, 863, 590, 591), (87, 864, 595, 0), (91, 865, 866, 867), (95, 869, 871, 17), (95, 874, 876, 18), (91, 882, 883, 884), (89, 873, 636, 637), (90, 878, 879, 880), (89, 906, 907, 908), (88, 913, 612, 613), (95, 914, 916, 24), (95, 923, 925, 25), (90, 918, 919, 920), (88, 922, 628, 629), (101, 927, 646, 0), (87, 932, 933, 0), (88, 940, 941, 942)]
  | 11 => [(88, 118, 119, 0), (93, 368, 369, 0), (95, 414, 415, 0), (96, 433, 434, 0), (97, 456, 457, 0), (98, 488, 489, 0), (99, 517, 518, 0), (87, 577, 578, 0), (88, 580, 259, 260), (93, 581, 582, 583), (88, 589, 590, 591), (87, 594, 595, 0), (88, 611, 612, 613), (89, 615, 616, 617), (87, 623, 625, 0), (88, 627, 628, 629), (89, 635, 636, 637), (90, 648, 649, 650), (96, 656, 657, 658), (97, 669, 670, 671), (97, 673, 674, 675), (97, 810, 811, 812), (93, 822, 823, 824), (95, 843, 844, 845), (89, 951, 952, 953), (87, 959, 933, 0), (88, 964, 965, 966), (90, 968, 969, 970), (98, 980, 981, 982), (98, 987, 988, 989), (98, 991, 992, 993), (98, 1025, 1026, 1027), (92, 1033, 263, 0), (98, 1034, 1035, 1036), (87, 1038, 1040, 30), (99, 1047, 1048, 1049), (98, 1091, 1000, 1001), (98, 1092, 1093, 1094), (98, 1102, 1103, 1104), (93, 1110, 1111, 1112), (88, 1122, 1123, 1124), (87, 1146, 1148, 34), (101, 935, 841, 0), (101, 645, 646, 0), (101, 642, 643, 0)]
  | 12 => [(100, 1373, 1375, 41), (100, 1377, 1379, 42), (100, 1325, 1327, 35), (100, 1333, 1335, 36), (100, 1353, 1355, 38), (100, 1349, 1351, 37), (100, 1361, 1363, 39), (100, 1369, 1371, 40), (100, 1385, 1387, 43), (100, 1401, 1403, 45), (100, 1405, 1407, 46), (100, 1409, 1411, 47), (100, 1413, 1415, 48), (100, 1417, 1419, 49), (100, 1425, 1427, 51), (100, 1461, 1463, 60), (100, 1397, 1399, 44), (100, 1457, 1459, 59), (100, 1437, 1439, 54), (100, 1453, 1455, 58), (100, 1449, 1451, 57), (100, 1429, 1431, 52), (100, 1441, 1443, 55), (100, 1445, 1447, 56), (100, 1465, 1467, 61), (100, 1433, 1435, 53), (100, 1421, 1423, 50), (100, 1507, 1509, 69), (100, 1523, 1525, 73), (100, 1527, 1529, 74), (100, 1495, 1497, 66), (100, 1499, 1501, 67), (100, 1503, 1505, 68), (100, 1535, 1537, 76), (100, 1515, 1517, 71), (100, 1519, 1521, 72), (100, 1531, 1533, 75), (100, 1485, 1487, 64), (100, 1491, 1493, 65), (100, 1511, 1513, 70), (100, 1539, 1541, 77), (100, 1543, 1545, 78), (100, 1477, 1479, 62), (100, 1481, 1483, 63), (100, 1575, 1577, 81), (100, 1567, 1569, 79), (100, 1571, 1573, 80), (100, 1583, 1585, 82), (100, 1596, 1598, 83), (100, 1613, 1615, 84), (100, 1617, 1619, 85)]
  | 13 => [(87, 110, 111, 0), (100, 1152, 1153, 0), (87, 569, 570, 571), (100, 1317, 1318, 1319), (87, 573, 574, 575), (100, 1321, 1322, 1323), (87, 585, 586, 587), (100, 1329, 1330, 1331), (87, 597, 598, 599), (100, 1337, 1338, 1339), (87, 601, 602, 603), (100, 1341, 1342, 1343), (87, 607, 608, 609), (100, 1345, 1346, 1347), (87, 619, 620, 621), (100, 1357, 1358, 1359), (87, 631, 632, 633), (100, 1365, 1366, 1367), (87, 652, 653, 654), (100, 1381, 1382, 1383), (87, 661, 662, 663), (100, 1389, 1390, 1391), (87, 665, 666, 667), (100, 1393, 1394, 1395), (87, 814, 815, 816), (100, 1469, 1470, 1471), (87, 818, 819, 820), (100, 1473, 1474, 1475), (87, 947, 948, 949), (100, 1547, 1548, 1549), (87, 955, 956, 957), (100, 1551, 1552, 1553), (87, 960, 961, 962), (100, 1555, 1556, 1557), (87, 972, 973, 974), (100, 1559, 1560, 1561), (87, 976, 977, 978), (100, 1563, 1564, 1565), (87, 1021, 1022, 1023), (100, 1579, 1580, 1581), (87, 1029, 1030, 1031), (100, 1587, 1588, 1589), (87, 1042, 1043, 1044), (100, 1591, 1592, 1593), (87, 1083, 1084, 1085), (100, 1601, 1602, 1603), (87, 1087, 1088, 1089), (100, 1605, 1606, 1607), (87, 1106, 1107, 1108), (100, 1313, 1314, 1315), (87, 1118, 1119, 1120), (100, 1609, 1610, 1611), (87, 1142, 1143, 1144), (100, 1621, 1622, 1623)]
  | 14 => []
  | 15 => []
  | 16 => [(102, 708, 709, 710), (102, 718, 719, 720), (103, 722, 723, 0), (104, 730, 731, 0)]
  | 17 => [(102, 725, 726, 0)]
  | 18 => []
  | 19 => []
  | _ => []
theorem am_c0 : ((am_cls 0).zip (am_cps 0)).all (fun q => am_okC (am_cn 0) q.1 q.2) = true := by decide +kernel
theorem am_l0 : (am_cls 0).length = (am_cps 0).length := by decide +kernel
theorem am_c1 : ((am_cls 1).zip (am_cps 1)).all (fun q => am_okC (am_cn 1) q.1 q.2) = true := by decide +kernel
theorem am_l1 : (am_cls 1).length = (am_cps 1).length := by decide +kernel
theorem am_c2 : ((am_cls 2).zip (am_cps 2)).all (fun q => am_okC (am_cn 2) q.1 q.2) = true := by decide +kernel
theorem am_l2 : (am_cls 2).length = (am_cps 2).length := by decide +kernel
theorem am_c3 : ((am_cls 3).zip (am_cps 3)).all (fun q => am_okC (am_cn 3) q.1 q.2) = true := by decide +kernel
theorem am_l3 : (am_cls 3).length = (am_cps 3).length := by decide +kernel
theorem am_c4 : ((am_cls 4).zip (am_cps 4)).all (fun q => am_okC (am_cn 4) q.1 q.2) = true := by decide +kernel
theorem am_l4 : (am_cls 4).length = (am_cps 4).length := by decide +kernel
theorem am_c5 : ((am_cls 5).zip (am_cps 5)).all (fun q => am_okC (am_cn 5) q.1 q.2) = true := by decide +kernel
theorem am_l5 : (am_cls 5).length = (am_cps 5).length := by decide +kernel
theorem am_c6 : ((am_cls 6).zip (am_cps 6)).all (fun q => am_okC (am_cn 6) q.1 q.2) = true := by decide +kernel
theorem am_l6 : (am_cls 6).length = (am_cps 6).length := by decide +kernel
theorem am_c7 : ((am_cls 7).zip (am_cps 7)).all (fun q => am_okC (am_cn 7) q.1 q.2) = true := by decide +kernel
theorem am_l7 : (am_cls 7).length = (am_cps 7).length := by decide +kernel
theorem am_c8 : ((am_cls 8).zip (am_cps 8)).all (fun q => am_okC (am_cn 8) q.1 q.2) = true := by decide +kernel
theorem am_l8 : (am_cls 8).length = (am_cps 8).length := by decide +kernel
theorem am_c9 : ((am_cls 9).zip (am_cps 9)).all (fun q => am_okC (am_cn 9) q.1 q.2) = true := by decide +kernel
theorem am_l9 : (am_cls 9).length = (am_cps 9).length := by decide +kernel
theorem am_c10 : ((am_cls 10).zip (am_cps 10)).all (fun q => am_okC (am_cn 10) q.1 q.2) = true := by decide +kernel
theorem am_l10 : (am_cls 10).length = (am_cps 10).length := by decide +kernel
theorem am_c11 : ((am_cls 11).zip (am_cps 11)).all (fun q => am_okC (am_cn 11) q.1 q.2) = true := by decide +kernel
theorem am_l11 : (am_cls 11).length = (am_cps 11).length := by decide +kernel
theorem am_c12 : ((am_cls 12).zip (am_cps 12)).all (fun q => am_okC (am_cn 12) q.1 q.2) = true := by decide +kernel
theorem am_l12 : (am_cls 12).length = (am_cps 12).length := by decide +kernel
theorem am_c13 : ((am_cls 13).zip (am_cps 13)).all (fun q => am_okC (am_cn 13) q.1 q.2) = true := by decide +kernel
theorem am_l13 : (am_cls 13).length = (am_cps 13).length := by decide +kernel
theorem am_c14 : ((am_cls 14).zip (am_cps 14)).all (fun q => am_okC (am_cn 14) q.1 q.2) = true := by decide +kernel
theorem am_l14 : (am_cls 14).length = (am_cps 14).length := by decide +kernel
theorem am_c15 : ((am_cls 15).zip (am_cps 15)).all (fun q => am_okC (am_cn 15) q.1 q.2) = true := by decide +kernel
theorem am_l15 : (am_cls 15).length = (am_cps 15).length := by decide +kernel
theorem am_c16 : ((am_cls 16).zip (am_cps 16)).all (fun q => am_okC (am_cn 16) q.1 q.2) = true := by decide +kernel
theorem am_l16 : (am_cls 16).length = (am_cps 16).length := by decide +kernel
theorem am_c17 : ((am_cls 17).zip (am_cps 17)).all (fun q => am_okC (am_cn 17) q.1 q.2) = true := by decide +kernel
theorem am_l17 : (am_cls 17).length = (am_cps 17).length := by decide +kernel
theorem am_c18 : ((am_cls 18).zip (am_cps 18)).all (fun q => am_okC (am_cn 18) q.1 q.2) = true := by decide +kernel
theorem am_l18 : (am_cls 18).length = (am_cps 18).length := by decide +kernel
theorem am_c19 : ((am_cls 19).zip (am_cps 19)).all (fun q => am_okC (am_cn 19) q.1 q.2) = true := by decide +kernel
theorem am_l19 : (am_cls 19).length = (am_cps 19).length := by decide +kernel
