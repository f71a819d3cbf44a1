/-! THE LAW, 5, further. -/
def zLL : zL := ([], [], [], [(7, 11, 16), (10, 12, 73)], [], none)
theorem poolL : zk_pool zcl R_law zLL := zk_poolb_ok zlay zac (P := ([], [], [], [(93, 94, 75), (1139, 1140, 86)], [], 0)) (oi := (99, 100)) (by decide +kernel)
def lwX2_0 : List zX := [(13, 2, 11, mcX11_feed), (17, 2, 12, mcX12_feed_f), (17, 2, 12, mcX12_feed_n), (18, 2, 11, mcX11_end), (22, 2, 12, mcX12_end), (23, 2, 11, mcX11_spelling), (27, 2, 12, mcX12_spelling), (28, 2, 11, mcX11_list)]
theorem lwX2_0_w : zk_hwsb zcl R_law room_1 lwX2_0 [(508, 75, 505, 506, 507), (1372, 86, 1369, 1370, 1371), (1372, 86, 1369, 1370, 1371), (516, 75, 513, 514, 515), (1376, 86, 1373, 1374, 1375), (520, 75, 517, 518, 519), (1384, 86, 1381, 1382, 1383), (670, 75, 667, 668, 669)] = true := by decide +kernel
theorem lwX2_0_n : lwX2_0.all (fun x => zk_nsc x.2.2.2.cs) = true := by decide +kernel
theorem lwX2_0_c {D : zD} {l : Launch} (hD : zWD D) : zCs D l lwX2_0 := ⟨tcX11_feed hD, tcX12_feed_f hD, tcX12_feed_n hD, tcX11_end hD, tcX12_end hD, tcX11_spelling hD, tcX12_spelling hD, tcX11_list hD, trivial⟩
def lwX2_1 : List zX := [(31, 2, 12, mcX12_list), (32, 2, 11, mcX11_known), (35, 2, 12, mcX12_known), (36, 2, 11, mcX11_way), (39, 2, 12, mcX12_way), (40, 2, 11, mcX11_fault), (43, 2, 12, mcX12_fault), (44, 2, 11, mcX11_key)]
theorem lwX2_1_w : zk_hwsb zcl R_law room_1 lwX2_1 [(1444, 86, 1441, 1442, 1443), (717, 75, 714, 715, 716), (1469, 86, 1466, 1467, 1468), (729, 75, 726, 727, 728), (1536, 86, 1533, 1534, 1535), (774, 75, 771, 772, 773), (1380, 86, 1377, 1378, 1379), (778, 75, 775, 776, 777)] = true := by decide +kernel
theorem lwX2_1_n : lwX2_1.all (fun x => zk_nsc x.2.2.2.cs) = true := by decide +kernel
theorem lwX2_1_c {D : zD} {l : Launch} (hD : zWD D) : zCs D l lwX2_1 := ⟨tcX12_list hD, tcX11_known hD, tcX12_known hD, tcX11_way hD, tcX12_way hD, tcX11_fault hD, tcX12_fault hD, tcX11_key hD, trivial⟩
def lwX2_2 : List zX := [(47, 2, 12, mcX12_key), (48, 2, 11, mcX11_prime), (51, 2, 12, mcX12_prime), (52, 2, 11, mcX11_number), (56, 2, 12, mcX12_number), (57, 2, 11, mcX11_turning), (61, 2, 12, mcX12_turning), (62, 2, 11, mcX11_turned)]
theorem lwX2_2_w : zk_hwsb zcl R_law room_1 lwX2_2 [(1473, 86, 1470, 1471, 1472), (791, 75, 788, 789, 790), (1480, 86, 1477, 1478, 1479), (817, 75, 814, 815, 816), (1488, 86, 1485, 1486, 1487), (825, 75, 822, 823, 824), (1497, 86, 1494, 1495, 1496), (835, 75, 832, 833, 834)] = true := by decide +kernel
theorem lwX2_2_n : lwX2_2.all (fun x => zk_nsc x.2.2.2.cs) = true := by decide +kernel
theorem lwX2_2_c {D : zD} {l : Launch} (hD : zWD D) : zCs D l lwX2_2 := ⟨tcX12_key hD, tcX11_prime hD, tcX12_prime hD, tcX11_number hD, tcX12_number hD, tcX11_turning hD, tcX12_turning hD, tcX11_turned hD, trivial⟩
def lwX2_3 : List zX := [(66, 2, 12, mcX12_turned), (67, 2, 11, mcX11_fixed), (70, 2, 12, mcX12_fixed), (71, 2, 11, mcX11_unlike), (74, 2, 12, mcX12_unlike), (75, 2, 11, mcX11_seed), (78, 2, 12, mcX12_seed), (79, 2, 11, mcX11_run)]
theorem lwX2_3_w : zk_hwsb zcl R_law room_1 lwX2_3 [(1508, 86, 1505, 1506, 1507), (850, 75, 847, 848, 849), (1523, 86, 1520, 1521, 1522), (858, 75, 855, 856, 857), (1527, 86, 1524, 1525, 1526), (867, 75, 864, 865, 866), (1532, 86, 1529, 1530, 1531), (871, 75, 868, 869, 870)] = true := by decide +kernel
theorem lwX2_3_n : lwX2_3.all (fun x => zk_nsc x.2.2.2.cs) = true := by decide +kernel
theorem lwX2_3_c {D : zD} {l : Launch} (hD : zWD D) : zCs D l lwX2_3 := ⟨tcX12_turned hD, tcX11_fixed hD, tcX12_fixed hD, tcX11_unlike hD, tcX12_unlike hD, tcX11_seed hD, tcX12_seed hD, tcX11_run hD, trivial⟩
def lwX2_4 : List zX := [(82, 2, 12, mcX12_run), (83, 2, 11, mcX11_out), (86, 2, 12, mcX12_out), (87, 2, 11, mcX11_saw), (90, 2, 12, mcX12_saw), (91, 2, 11, mcX11_cost), (94, 2, 12, mcX12_cost), (95, 2, 11, mcX11_agree)]
theorem lwX2_4_w : zk_hwsb zcl R_law room_1 lwX2_4 [(1551, 86, 1548, 1549, 1550), (955, 75, 952, 953, 954), (1587, 86, 1584, 1585, 1586), (959, 75, 956, 957, 958), (1591, 86, 1588, 1589, 1590), (963, 75, 960, 961, 962), (1595, 86, 1592, 1593, 1594), (967, 75, 964, 965, 966)] = true := by decide +kernel
theorem lwX2_4_n : lwX2_4.all (fun x => zk_nsc x.2.2.2.cs) = true := by decide +kernel
theorem lwX2_4_c {D : zD} {l : Launch} (hD : zWD D) : zCs D l lwX2_4 := ⟨tcX12_run hD, tcX11_out hD, tcX12_out hD, tcX11_saw hD, tcX12_saw hD, tcX11_cost hD, tcX12_cost hD, tcX11_agree hD, trivial⟩
def lwX2_5 : List zX := [(98, 2, 12, mcX12_agree), (99, 2, 11, mcX11_surely), (102, 2, 12, mcX12_surely), (103, 2, 11, mcX11_read), (106, 2, 12, mcX12_read), (107, 2, 11, mcX11_thrown), (111, 2, 12, mcX12_thrown), (112, 2, 11, mcX11_strangers)]
theorem lwX2_5_w : zk_hwsb zcl R_law room_1 lwX2_5 [(1599, 86, 1596, 1597, 1598), (1021, 75, 1018, 1019, 1020), (1611, 86, 1608, 1609, 1610), (1029, 75, 1026, 1027, 1028), (1615, 86, 1612, 1613, 1614), (1041, 75, 1038, 1039, 1040), (1623, 86, 1620, 1621, 1622), (1060, 75, 1057, 1058, 1059)] = true := by decide +kernel
theorem lwX2_5_n : lwX2_5.all (fun x => zk_nsc x.2.2.2.cs) = true := by decide +kernel
theorem lwX2_5_c {D : zD} {l : Launch} (hD : zWD D) : zCs D l lwX2_5 := ⟨tcX12_agree hD, tcX11_surely hD, tcX12_surely hD, tcX11_read hD, tcX12_read hD, tcX11_thrown hD, tcX12_thrown hD, tcX11_strangers hD, trivial⟩
def lwX2_6 : List zX := [(115, 2, 12, mcX12_strangers), (116, 2, 11, mcX11_cheapest), (119, 2, 12, mcX12_cheapest), (120, 2, 11, mcX11_near), (123, 2, 12, mcX12_near), (124, 2, 11, mcX11_comes), (127, 2, 12, mcX12_comes), (128, 2, 11, mcX11_goes)]
theorem lwX2_6_w : zk_hwsb zcl R_law room_1 lwX2_6 [(1639, 86, 1636, 1637, 1638), (1073, 75, 1070, 1071, 1072), (1651, 86, 1648, 1649, 1650), (1077, 75, 1074, 1075, 1076), (1655, 86, 1652, 1653, 1654), (1081, 75, 1078, 1079, 1080), (1659, 86, 1656, 1657, 1658), (1103, 75, 1100, 1101, 1102)] = true := by decide +kernel
theorem lwX2_6_n : lwX2_6.all (fun x => zk_nsc x.2.2.2.cs) = true := by decide +kernel
theorem lwX2_6_c {D : zD} {l : Launch} (hD : zWD D) : zCs D l lwX2_6 := ⟨tcX12_strangers hD, tcX11_cheapest hD, tcX12_cheapest hD, tcX11_near hD, tcX12_near hD, tcX11_comes hD, tcX12_comes hD, tcX11_goes hD, trivial⟩
def lwX2_7 : List zX := [(131, 2, 12, mcX12_goes), (132, 2, 11, mcX11_both), (135, 2, 12, mcX12_both), (136, 2, 11, mcX11_size), (139, 2, 12, mcX12_size), (140, 2, 11, mcX11_caught), (144, 2, 12, mcX12_caught), (145, 2, 11, mcX11_opened)]
theorem lwX2_7_w : zk_hwsb zcl R_law room_1 lwX2_7 [(1676, 86, 1673, 1674, 1675), (1107, 75, 1104, 1105, 1106), (1680, 86, 1677, 1678, 1679), (1115, 75, 1112, 1113, 1114), (1684, 86, 1681, 1682, 1683), (1123, 75, 1120, 1121, 1122), (1688, 86, 1685, 1686, 1687), (1134, 75, 1131, 1132, 1133)] = true := by decide +kernel
theorem lwX2_7_n : lwX2_7.all (fun x => zk_nsc x.2.2.2.cs) = true := by decide +kernel
theorem lwX2_7_c {D : zD} {l : Launch} (hD : zWD D) : zCs D l lwX2_7 := ⟨tcX12_goes hD, tcX11_both hD, tcX12_both hD, tcX11_size hD, tcX12_size hD, tcX11_caught hD, tcX12_caught hD, tcX11_opened hD, trivial⟩
def lwX2_8 : List zX := [(149, 2, 12, mcX12_opened), (150, 2, 11, mcX11_count), (153, 2, 12, mcX12_count)]
theorem lwX2_8_w : zk_hwsb zcl R_law room_1 lwX2_8 [(1703, 86, 1700, 1701, 1702), (1138, 75, 1135, 1136, 1137), (1708, 86, 1705, 1706, 1707)] = true := by decide +kernel
theorem lwX2_8_n : lwX2_8.all (fun x => zk_nsc x.2.2.2.cs) = true := by decide +kernel
theorem lwX2_8_c {D : zD} {l : Launch} (hD : zWD D) : zCs D l lwX2_8 := ⟨tcX12_opened hD, tcX11_count hD, tcX12_count hD, trivial⟩
def lwX1 : List zX := [(9, 3, 11, mcX11_init_rz), (12, 3, 12, mcX12_init_rz)]
theorem lwX1_w : zk_hwsb zcl R_law room_1 lwX1 [(97, 75, 95, 96, 0), (1143, 86, 1141, 1142, 0)] = true := by decide +kernel
theorem lwX1_n : lwX1.all (fun x => zk_nsc x.2.2.2.cs) = true := by decide +kernel
theorem lwX1_c {D : zD} {l : Launch} (hD : zWD1 D) : zCs D l lwX1 := ⟨tcX11_init_rz hD, tcX12_init_rz hD, trivial⟩
def lwX2 : List zX := lwX2_0 ++ (lwX2_1 ++ (lwX2_2 ++ (lwX2_3 ++ (lwX2_4 ++ (lwX2_5 ++ (lwX2_6 ++ (lwX2_7 ++ (lwX2_8))))))))
theorem lwX2_all {D : zD} {l : Launch} (hD : zWD (zsc D)) : ∀ x ∈ lwX2, zk_con D zcl l x.2.2.2.y (zk_ws x.2.2.2) x.2.2.2.rm x.2.2.2.cs ∧ zk_hw zcl R_law room_1 x := List.forall_mem_append.mpr ⟨(zk_hcs (zCs_ok (zCs_sc lwX2_0_n (lwX2_0_c hD))) lwX2_0_w), List.forall_mem_append.mpr ⟨(zk_hcs (zCs_ok (zCs_sc lwX2_1_n (lwX2_1_c hD))) lwX2_1_w), List.forall_mem_append.mpr ⟨(zk_hcs (zCs_ok (zCs_sc lwX2_2_n (lwX2_2_c hD))) lwX2_2_w), List.forall_mem_append.mpr ⟨(zk_hcs (zCs_ok (zCs_sc lwX2_3_n (lwX2_3_c hD))) lwX2_3_w), List.forall_mem_append.mpr ⟨(zk_hcs (zCs_ok (zCs_sc lwX2_4_n (lwX2_4_c hD))) lwX2_4_w), List.forall_mem_append.mpr ⟨(zk_hcs (zCs_ok (zCs_sc lwX2_5_n (lwX2_5_c hD))) lwX2_5_w), List.forall_mem_append.mpr ⟨(zk_hcs (zCs_ok (zCs_sc lwX2_6_n (lwX2_6_c hD))) lwX2_6_w), List.forall_mem_append.mpr ⟨(zk_hcs (zCs_ok (zCs_sc lwX2_7_n (lwX2_7_c hD))) lwX2_7_w), (zk_hcs (zCs_ok (zCs_sc lwX2_8_n (lwX2_8_c hD))) lwX2_8_w)⟩⟩⟩⟩⟩⟩⟩⟩
theorem lwX1_all {D : zD} {l : Launch} (hD : zWD1 (zsc D)) : ∀ x ∈ lwX1, zk_con D zcl l x.2.2.2.y (zk_ws x.2.2.2) x.2.2.2.rm x.2.2.2.cs ∧ zk_hw zcl R_law room_1 x := zk_hcs (zCs_ok (zCs_sc lwX1_n (lwX1_c hD))) lwX1_w
