def xl_0_0 : List xx_I := [(0, (.new 7, (3, [6, 146, 147, 130]))), (3, (.dup, (1, []))), (4, (.invokespecial 9, (3, [0, 54, 0, 6, 148, 0, 149, 0, 130, 150]))), (7, (.astore_n 1, (1, []))), (8, (.new 10, (3, [7, 1061, 1062, 145]))), (11, (.dup, (1, []))), (12, (.invokespecial 12, (3, [0, 153, 0, 7, 1063, 0, 1064, 0, 145, 1065]))), (15, (.astore_n 2, (1, []))), (16, (.iconst 0, (1, [77]))), (17, (.istore_n 3, (1, []))), (18, (.iload_n 3, (1, []))), (19, (.aload_n 0, (1, [])))]
set_option maxRecDepth 1000000 in
set_option maxHeartbeats 40000000 in
theorem xlo_0_0 : xl_0_0.all (xx_okI xx_tab xm_LAW) = true := by decide +kernel
def xl_0_1 : List xx_I := [(20, (.arraylength, (1, []))), (21, (.bipush 6, (2, []))), (23, (.isub, (1, []))), (24, (.if_icmp .gt 1783, (3, []))), (27, (.aload_n 0, (1, []))), (28, (.iload_n 3, (1, []))), (29, (.iaload, (1, []))), (30, (.bipush 63, (2, []))), (32, (.iand, (1, []))), (33, (.tableswitch 1768 0 60 #[259, 322, 345, 358, 381, 414, 437, 460, 473, 486, 499, 522, 545, 578, 591, 604, 637, 680, 703, 716, 739, 752, 765, 798, 821, 854, 877, 900, 923, 956, 969, 982, 995, 1008, 1041, 1064, 1087, 1110, 1153, 1186, 1209, 1242, 1265, 1278, 1301, 1314, 1347, 1380, 1403, 1416, 1439, 1462, 1495, 1554, 1577, 1600, 1623, 1656, 1699, 1722, 1745], (259, []))), (292, (.aload_n 1, (1, [77]))), (293, (.aload_n 0, (1, [])))]
set_option maxRecDepth 1000000 in
set_option maxHeartbeats 40000000 in
theorem xlo_0_1 : xl_0_1.all (xx_okI xx_tab xm_LAW) = true := by decide +kernel
def xl_0_2 : List xx_I := [(294, (.iload_n 3, (1, []))), (295, (.iconst 1, (1, []))), (296, (.iadd, (1, []))), (297, (.iaload, (1, []))), (298, (.aload_n 0, (1, []))), (299, (.iload_n 3, (1, []))), (300, (.iconst 2, (1, []))), (301, (.iadd, (1, []))), (302, (.iaload, (1, []))), (303, (.aload_n 0, (1, []))), (304, (.iload_n 3, (1, []))), (305, (.iconst 3, (1, [])))]
set_option maxRecDepth 1000000 in
set_option maxHeartbeats 40000000 in
theorem xlo_0_2 : xl_0_2.all (xx_okI xx_tab xm_LAW) = true := by decide +kernel
def xl_0_3 : List xx_I := [(306, (.iadd, (1, []))), (307, (.iaload, (1, []))), (308, (.aload_n 0, (1, []))), (309, (.iload_n 3, (1, []))), (310, (.iconst 4, (1, []))), (311, (.iadd, (1, []))), (312, (.iaload, (1, []))), (313, (.aload_n 0, (1, []))), (314, (.iload_n 3, (1, []))), (315, (.iconst 5, (1, []))), (316, (.iadd, (1, []))), (317, (.iaload, (1, [])))]
set_option maxRecDepth 1000000 in
set_option maxHeartbeats 40000000 in
theorem xlo_0_3 : xl_0_3.all (xx_okI xx_tab xm_LAW) = true := by decide +kernel
def xl_0_4 : List xx_I := [(318, (.invokevirtual 13, (3, [0, 23, 5, 6, 628, 0, 629, 630, 130, 631]))), (321, (.aload_n 2, (1, [77]))), (322, (.aload_n 0, (1, []))), (323, (.iload_n 3, (1, []))), (324, (.iconst 1, (1, []))), (325, (.iadd, (1, []))), (326, (.iaload, (1, []))), (327, (.aload_n 0, (1, []))), (328, (.iload_n 3, (1, []))), (329, (.iconst 2, (1, []))), (330, (.iadd, (1, []))), (331, (.iaload, (1, [])))]
set_option maxRecDepth 1000000 in
set_option maxHeartbeats 40000000 in
theorem xlo_0_4 : xl_0_4.all (xx_okI xx_tab xm_LAW) = true := by decide +kernel
def xl_0_5 : List xx_I := [(332, (.aload_n 0, (1, []))), (333, (.iload_n 3, (1, []))), (334, (.iconst 3, (1, []))), (335, (.iadd, (1, []))), (336, (.iaload, (1, []))), (337, (.aload_n 0, (1, []))), (338, (.iload_n 3, (1, []))), (339, (.iconst 4, (1, []))), (340, (.iadd, (1, []))), (341, (.iaload, (1, []))), (342, (.aload_n 0, (1, []))), (343, (.iload_n 3, (1, [])))]
set_option maxRecDepth 1000000 in
set_option maxHeartbeats 40000000 in
theorem xlo_0_5 : xl_0_5.all (xx_okI xx_tab xm_LAW) = true := by decide +kernel
def xl_0_6 : List xx_I := [(344, (.iconst 5, (1, []))), (345, (.iadd, (1, []))), (346, (.iaload, (1, []))), (347, (.invokevirtual 17, (3, [0, 138, 5, 7, 1812, 0, 1813, 1814, 145, 1815]))), (350, (.if_icmp .eq 1451, (3, []))), (353, (.iconst 0, (1, []))), (354, (.ireturn, (1, []))), (355, (.aload_n 1, (1, [77]))), (356, (.aload_n 0, (1, []))), (357, (.iload_n 3, (1, []))), (358, (.iconst 1, (1, []))), (359, (.iadd, (1, [])))]
set_option maxRecDepth 1000000 in
set_option maxHeartbeats 40000000 in
theorem xlo_0_6 : xl_0_6.all (xx_okI xx_tab xm_LAW) = true := by decide +kernel
def xl_0_7 : List xx_I := [(360, (.iaload, (1, []))), (361, (.invokevirtual 18, (3, [0, 11, 1, 6, 636, 0, 637, 638, 130, 639]))), (364, (.aload_n 2, (1, [77]))), (365, (.aload_n 0, (1, []))), (366, (.iload_n 3, (1, []))), (367, (.iconst 1, (1, []))), (368, (.iadd, (1, []))), (369, (.iaload, (1, []))), (370, (.invokevirtual 22, (3, [0, 122, 1, 7, 1816, 0, 1817, 1818, 145, 1819]))), (373, (.if_icmp .eq 1428, (3, []))), (376, (.iconst 0, (1, []))), (377, (.ireturn, (1, [])))]
set_option maxRecDepth 1000000 in
set_option maxHeartbeats 40000000 in
theorem xlo_0_7 : xl_0_7.all (xx_okI xx_tab xm_LAW) = true := by decide +kernel
def xl_0_8 : List xx_I := [(378, (.aload_n 1, (1, [77]))), (379, (.invokevirtual 23, (3, [0, 73, 0, 6, 640, 0, 641, 642, 130, 643]))), (382, (.aload_n 2, (1, [77]))), (383, (.invokevirtual 27, (3, [0, 175, 0, 7, 1308, 0, 1309, 1310, 145, 1311])))]
set_option maxRecDepth 1000000 in
set_option maxHeartbeats 40000000 in
theorem xlo_0_8 : xl_0_8.all (xx_okI xx_tab xm_LAW) = true := by decide +kernel
theorem xo_LAW0 : xr_LAW_0.all (xx_okI xx_tab xm_LAW) = true := by
  have e : xr_LAW_0 = xl_0_0 ++ (xl_0_1 ++ (xl_0_2 ++ (xl_0_3 ++ (xl_0_4 ++ (xl_0_5 ++ (xl_0_6 ++ (xl_0_7 ++ (xl_0_8)))))))) := rfl
  rw [e]
  simp only [List.all_append, xlo_0_0, xlo_0_1, xlo_0_2, xlo_0_3, xlo_0_4, xlo_0_5, xlo_0_6, xlo_0_7, xlo_0_8, Bool.and_self]
def xl_1_0 : List xx_I := [(386, (.if_icmp .eq 1415, (3, []))), (389, (.iconst 0, (1, []))), (390, (.ireturn, (1, []))), (391, (.aload_n 1, (1, [77]))), (392, (.aload_n 0, (1, []))), (393, (.iload_n 3, (1, []))), (394, (.iconst 1, (1, []))), (395, (.iadd, (1, []))), (396, (.iaload, (1, []))), (397, (.invokevirtual 28, (3, [0, 21, 1, 6, 644, 0, 645, 646, 130, 647]))), (400, (.aload_n 2, (1, [77]))), (401, (.aload_n 0, (1, [])))]
set_option maxRecDepth 1000000 in
set_option maxHeartbeats 40000000 in
theorem xlo_1_0 : xl_1_0.all (xx_okI xx_tab xm_LAW) = true := by decide +kernel
def xl_1_1 : List xx_I := [(402, (.iload_n 3, (1, []))), (403, (.iconst 1, (1, []))), (404, (.iadd, (1, []))), (405, (.iaload, (1, []))), (406, (.invokevirtual 31, (3, [0, 137, 1, 7, 1440, 0, 1441, 1442, 145, 1443]))), (409, (.if_icmp .eq 1392, (3, []))), (412, (.iconst 0, (1, []))), (413, (.ireturn, (1, []))), (414, (.aload_n 1, (1, [77]))), (415, (.aload_n 0, (1, []))), (416, (.iload_n 3, (1, []))), (417, (.iconst 1, (1, [])))]
set_option maxRecDepth 1000000 in
set_option maxHeartbeats 40000000 in
theorem xlo_1_1 : xl_1_1.all (xx_okI xx_tab xm_LAW) = true := by decide +kernel
def xl_1_2 : List xx_I := [(418, (.iadd, (1, []))), (419, (.iaload, (1, []))), (420, (.aload_n 0, (1, []))), (421, (.iload_n 3, (1, []))), (422, (.iconst 2, (1, []))), (423, (.iadd, (1, []))), (424, (.iaload, (1, []))), (425, (.invokevirtual 32, (3, [0, 81, 2, 6, 648, 0, 649, 650, 130, 651]))), (428, (.aload_n 2, (1, [77]))), (429, (.aload_n 0, (1, []))), (430, (.iload_n 3, (1, []))), (431, (.iconst 1, (1, [])))]
set_option maxRecDepth 1000000 in
set_option maxHeartbeats 40000000 in
theorem xlo_1_2 : xl_1_2.all (xx_okI xx_tab xm_LAW) = true := by decide +kernel
def xl_1_3 : List xx_I := [(432, (.iadd, (1, []))), (433, (.iaload, (1, []))), (434, (.aload_n 0, (1, []))), (435, (.iload_n 3, (1, []))), (436, (.iconst 2, (1, []))), (437, (.iadd, (1, []))), (438, (.iaload, (1, []))), (439, (.invokevirtual 36, (3, [0, 182, 2, 7, 1444, 0, 1445, 1446, 145, 1447]))), (442, (.if_icmp .eq 1359, (3, []))), (445, (.iconst 0, (1, []))), (446, (.ireturn, (1, []))), (447, (.aload_n 1, (1, [77])))]
set_option maxRecDepth 1000000 in
set_option maxHeartbeats 40000000 in
theorem xlo_1_3 : xl_1_3.all (xx_okI xx_tab xm_LAW) = true := by decide +kernel
def xl_1_4 : List xx_I := [(448, (.aload_n 0, (1, []))), (449, (.iload_n 3, (1, []))), (450, (.iconst 1, (1, []))), (451, (.iadd, (1, []))), (452, (.iaload, (1, []))), (453, (.invokevirtual 37, (3, [0, 91, 1, 6, 657, 0, 658, 659, 130, 660]))), (456, (.aload_n 2, (1, [77]))), (457, (.aload_n 0, (1, []))), (458, (.iload_n 3, (1, []))), (459, (.iconst 1, (1, []))), (460, (.iadd, (1, []))), (461, (.iaload, (1, [])))]
set_option maxRecDepth 1000000 in
set_option maxHeartbeats 40000000 in
theorem xlo_1_4 : xl_1_4.all (xx_okI xx_tab xm_LAW) = true := by decide +kernel
def xl_1_5 : List xx_I := [(462, (.invokevirtual 40, (3, [0, 191, 1, 7, 1455, 0, 1456, 1457, 145, 1458]))), (465, (.if_icmp .eq 1336, (3, []))), (468, (.iconst 0, (1, []))), (469, (.ireturn, (1, []))), (470, (.aload_n 1, (1, [77]))), (471, (.aload_n 0, (1, []))), (472, (.iload_n 3, (1, []))), (473, (.iconst 1, (1, []))), (474, (.iadd, (1, []))), (475, (.iaload, (1, []))), (476, (.invokevirtual 41, (3, [0, 83, 1, 6, 666, 0, 667, 668, 130, 669]))), (479, (.aload_n 2, (1, [77])))]
set_option maxRecDepth 1000000 in
set_option maxHeartbeats 40000000 in
theorem xlo_1_5 : xl_1_5.all (xx_okI xx_tab xm_LAW) = true := by decide +kernel
def xl_1_6 : List xx_I := [(480, (.aload_n 0, (1, []))), (481, (.iload_n 3, (1, []))), (482, (.iconst 1, (1, []))), (483, (.iadd, (1, []))), (484, (.iaload, (1, []))), (485, (.invokevirtual 44, (3, [0, 184, 1, 7, 1464, 0, 1465, 1466, 145, 1467]))), (488, (.if_icmp .eq 1313, (3, []))), (491, (.iconst 0, (1, []))), (492, (.ireturn, (1, []))), (493, (.aload_n 1, (1, [77]))), (494, (.invokevirtual 45, (3, [0, 108, 0, 6, 673, 0, 674, 675, 130, 676]))), (497, (.aload_n 2, (1, [77])))]
set_option maxRecDepth 1000000 in
set_option maxHeartbeats 40000000 in
theorem xlo_1_6 : xl_1_6.all (xx_okI xx_tab xm_LAW) = true := by decide +kernel
def xl_1_7 : List xx_I := [(498, (.invokevirtual 48, (3, [0, 205, 0, 7, 1468, 0, 1469, 1470, 145, 1471]))), (501, (.if_icmp .eq 1300, (3, []))), (504, (.iconst 0, (1, []))), (505, (.ireturn, (1, []))), (506, (.aload_n 1, (1, [77]))), (507, (.invokevirtual 49, (3, [0, 68, 0, 6, 678, 0, 679, 680, 130, 681]))), (510, (.aload_n 2, (1, [77]))), (511, (.invokevirtual 52, (3, [0, 166, 0, 7, 1587, 0, 1588, 1589, 145, 1590]))), (514, (.if_icmp .eq 1287, (3, []))), (517, (.iconst 0, (1, []))), (518, (.ireturn, (1, []))), (519, (.aload_n 1, (1, [77])))]
set_option maxRecDepth 1000000 in
set_option maxHeartbeats 40000000 in
theorem xlo_1_7 : xl_1_7.all (xx_okI xx_tab xm_LAW) = true := by decide +kernel
def xl_1_8 : List xx_I := [(520, (.invokevirtual 53, (3, [0, 65, 0, 6, 709, 0, 710, 711, 130, 712]))), (523, (.aload_n 2, (1, [77]))), (524, (.invokevirtual 56, (3, [0, 163, 0, 7, 1603, 0, 1604, 1605, 145, 1606]))), (527, (.if_icmp .eq 1274, (3, [])))]
set_option maxRecDepth 1000000 in
set_option maxHeartbeats 40000000 in
theorem xlo_1_8 : xl_1_8.all (xx_okI xx_tab xm_LAW) = true := by decide +kernel
theorem xo_LAW1 : xr_LAW_1.all (xx_okI xx_tab xm_LAW) = true := by
  have e : xr_LAW_1 = xl_1_0 ++ (xl_1_1 ++ (xl_1_2 ++ (xl_1_3 ++ (xl_1_4 ++ (xl_1_5 ++ (xl_1_6 ++ (xl_1_7 ++ (xl_1_8)))))))) := rfl
  rw [e]
  simp only [List.all_append, xlo_1_0, xlo_1_1, xlo_1_2, xlo_1_3, xlo_1_4, xlo_1_5, xlo_1_6, xlo_1_7, xlo_1_8, Bool.and_self]
def xl_2_0 : List xx_I := [(530, (.iconst 0, (1, []))), (531, (.ireturn, (1, []))), (532, (.aload_n 1, (1, [77]))), (533, (.aload_n 0, (1, []))), (534, (.iload_n 3, (1, []))), (535, (.iconst 1, (1, []))), (536, (.iadd, (1, []))), (537, (.iaload, (1, []))), (538, (.invokevirtual 57, (3, [0, 4, 1, 6, 717, 0, 718, 719, 130, 720]))), (541, (.aload_n 2, (1, [77]))), (542, (.aload_n 0, (1, []))), (543, (.iload_n 3, (1, [])))]
set_option maxRecDepth 1000000 in
set_option maxHeartbeats 40000000 in
theorem xlo_2_0 : xl_2_0.all (xx_okI xx_tab xm_LAW) = true := by decide +kernel
def xl_2_1 : List xx_I := [(544, (.iconst 1, (1, []))), (545, (.iadd, (1, []))), (546, (.iaload, (1, []))), (547, (.invokevirtual 60, (3, [0, 116, 1, 7, 1607, 0, 1608, 1609, 145, 1610]))), (550, (.if_icmp .eq 1251, (3, []))), (553, (.iconst 0, (1, []))), (554, (.ireturn, (1, []))), (555, (.aload_n 1, (1, [77]))), (556, (.aload_n 0, (1, []))), (557, (.iload_n 3, (1, []))), (558, (.iconst 1, (1, []))), (559, (.iadd, (1, [])))]
set_option maxRecDepth 1000000 in
set_option maxHeartbeats 40000000 in
theorem xlo_2_1 : xl_2_1.all (xx_okI xx_tab xm_LAW) = true := by decide +kernel
def xl_2_2 : List xx_I := [(560, (.iaload, (1, []))), (561, (.invokevirtual 61, (3, [0, 75, 1, 6, 721, 0, 722, 723, 130, 724]))), (564, (.aload_n 2, (1, [77]))), (565, (.aload_n 0, (1, []))), (566, (.iload_n 3, (1, []))), (567, (.iconst 1, (1, []))), (568, (.iadd, (1, []))), (569, (.iaload, (1, []))), (570, (.invokevirtual 64, (3, [0, 177, 1, 7, 1615, 0, 1616, 1617, 145, 1618]))), (573, (.if_icmp .eq 1228, (3, []))), (576, (.iconst 0, (1, []))), (577, (.ireturn, (1, [])))]
set_option maxRecDepth 1000000 in
set_option maxHeartbeats 40000000 in
theorem xlo_2_2 : xl_2_2.all (xx_okI xx_tab xm_LAW) = true := by decide +kernel
def xl_2_3 : List xx_I := [(578, (.aload_n 1, (1, [77]))), (579, (.aload_n 0, (1, []))), (580, (.iload_n 3, (1, []))), (581, (.iconst 1, (1, []))), (582, (.iadd, (1, []))), (583, (.iaload, (1, []))), (584, (.aload_n 0, (1, []))), (585, (.iload_n 3, (1, []))), (586, (.iconst 2, (1, []))), (587, (.iadd, (1, []))), (588, (.iaload, (1, []))), (589, (.invokevirtual 65, (3, [0, 104, 2, 6, 729, 0, 730, 731, 130, 732])))]
set_option maxRecDepth 1000000 in
set_option maxHeartbeats 40000000 in
theorem xlo_2_3 : xl_2_3.all (xx_okI xx_tab xm_LAW) = true := by decide +kernel
def xl_2_4 : List xx_I := [(592, (.aload_n 2, (1, [77]))), (593, (.aload_n 0, (1, []))), (594, (.iload_n 3, (1, []))), (595, (.iconst 1, (1, []))), (596, (.iadd, (1, []))), (597, (.iaload, (1, []))), (598, (.aload_n 0, (1, []))), (599, (.iload_n 3, (1, []))), (600, (.iconst 2, (1, []))), (601, (.iadd, (1, []))), (602, (.iaload, (1, []))), (603, (.invokevirtual 68, (3, [0, 201, 2, 7, 1623, 0, 1624, 1625, 145, 1626])))]
set_option maxRecDepth 1000000 in
set_option maxHeartbeats 40000000 in
theorem xlo_2_4 : xl_2_4.all (xx_okI xx_tab xm_LAW) = true := by decide +kernel
def xl_2_5 : List xx_I := [(606, (.if_icmp .eq 1195, (3, []))), (609, (.iconst 0, (1, []))), (610, (.ireturn, (1, []))), (611, (.aload_n 1, (1, [77]))), (612, (.invokevirtual 69, (3, [0, 99, 0, 6, 743, 0, 744, 745, 130, 746]))), (615, (.aload_n 2, (1, [77]))), (616, (.invokevirtual 73, (3, [0, 198, 0, 7, 1631, 0, 1632, 1633, 145, 1634]))), (619, (.if_icmp .eq 1182, (3, []))), (622, (.iconst 0, (1, []))), (623, (.ireturn, (1, []))), (624, (.aload_n 1, (1, [77]))), (625, (.invokevirtual 74, (3, [0, 87, 0, 6, 751, 0, 752, 753, 130, 754])))]
set_option maxRecDepth 1000000 in
set_option maxHeartbeats 40000000 in
theorem xlo_2_5 : xl_2_5.all (xx_okI xx_tab xm_LAW) = true := by decide +kernel
def xl_2_6 : List xx_I := [(628, (.aload_n 2, (1, [77]))), (629, (.invokevirtual 77, (3, [0, 187, 0, 7, 1639, 0, 1640, 1641, 145, 1642]))), (632, (.if_icmp .eq 1169, (3, []))), (635, (.iconst 0, (1, []))), (636, (.ireturn, (1, []))), (637, (.aload_n 1, (1, [77]))), (638, (.aload_n 0, (1, []))), (639, (.iload_n 3, (1, []))), (640, (.iconst 1, (1, []))), (641, (.iadd, (1, []))), (642, (.iaload, (1, []))), (643, (.aload_n 0, (1, [])))]
set_option maxRecDepth 1000000 in
set_option maxHeartbeats 40000000 in
theorem xlo_2_6 : xl_2_6.all (xx_okI xx_tab xm_LAW) = true := by decide +kernel
def xl_2_7 : List xx_I := [(644, (.iload_n 3, (1, []))), (645, (.iconst 2, (1, []))), (646, (.iadd, (1, []))), (647, (.iaload, (1, []))), (648, (.invokevirtual 78, (3, [0, 55, 2, 6, 759, 0, 760, 761, 130, 762]))), (651, (.aload_n 2, (1, [77]))), (652, (.aload_n 0, (1, []))), (653, (.iload_n 3, (1, []))), (654, (.iconst 1, (1, []))), (655, (.iadd, (1, []))), (656, (.iaload, (1, []))), (657, (.aload_n 0, (1, [])))]
set_option maxRecDepth 1000000 in
set_option maxHeartbeats 40000000 in
theorem xlo_2_7 : xl_2_7.all (xx_okI xx_tab xm_LAW) = true := by decide +kernel
def xl_2_8 : List xx_I := [(658, (.iload_n 3, (1, []))), (659, (.iconst 2, (1, []))), (660, (.iadd, (1, []))), (661, (.iaload, (1, [])))]
set_option maxRecDepth 1000000 in
set_option maxHeartbeats 40000000 in
theorem xlo_2_8 : xl_2_8.all (xx_okI xx_tab xm_LAW) = true := by decide +kernel
theorem xo_LAW2 : xr_LAW_2.all (xx_okI xx_tab xm_LAW) = true := by
  have e : xr_LAW_2 = xl_2_0 ++ (xl_2_1 ++ (xl_2_2 ++ (xl_2_3 ++ (xl_2_4 ++ (xl_2_5 ++ (xl_2_6 ++ (xl_2_7 ++ (xl_2_8)))))))) := rfl
  rw [e]
  simp only [List.all_append, xlo_2_0, xlo_2_1, xlo_2_2, xlo_2_3, xlo_2_4, xlo_2_5, xlo_2_6, xlo_2_7, xlo_2_8, Bool.and_self]
def xl_3_0 : List xx_I := [(662, (.invokevirtual 81, (3, [0, 154, 2, 7, 1476, 0, 1477, 1478, 145, 1479]))), (665, (.if_icmp .eq 1136, (3, []))), (668, (.iconst 0, (1, []))), (669, (.ireturn, (1, []))), (670, (.aload_n 1, (1, [77]))), (671, (.aload_n 0, (1, []))), (672, (.iload_n 3, (1, []))), (673, (.iconst 1, (1, []))), (674, (.iadd, (1, []))), (675, (.iaload, (1, []))), (676, (.aload_n 0, (1, []))), (677, (.iload_n 3, (1, [])))]
set_option maxRecDepth 1000000 in
set_option maxHeartbeats 40000000 in
theorem xlo_3_0 : xl_3_0.all (xx_okI xx_tab xm_LAW) = true := by decide +kernel
def xl_3_1 : List xx_I := [(678, (.iconst 2, (1, []))), (679, (.iadd, (1, []))), (680, (.iaload, (1, []))), (681, (.aload_n 0, (1, []))), (682, (.iload_n 3, (1, []))), (683, (.iconst 3, (1, []))), (684, (.iadd, (1, []))), (685, (.iaload, (1, []))), (686, (.invokevirtual 82, (3, [0, 56, 3, 6, 771, 0, 772, 773, 130, 774]))), (689, (.aload_n 2, (1, [77]))), (690, (.aload_n 0, (1, []))), (691, (.iload_n 3, (1, [])))]
set_option maxRecDepth 1000000 in
set_option maxHeartbeats 40000000 in
theorem xlo_3_1 : xl_3_1.all (xx_okI xx_tab xm_LAW) = true := by decide +kernel
def xl_3_2 : List xx_I := [(692, (.iconst 1, (1, []))), (693, (.iadd, (1, []))), (694, (.iaload, (1, []))), (695, (.aload_n 0, (1, []))), (696, (.iload_n 3, (1, []))), (697, (.iconst 2, (1, []))), (698, (.iadd, (1, []))), (699, (.iaload, (1, []))), (700, (.aload_n 0, (1, []))), (701, (.iload_n 3, (1, []))), (702, (.iconst 3, (1, []))), (703, (.iadd, (1, [])))]
set_option maxRecDepth 1000000 in
set_option maxHeartbeats 40000000 in
theorem xlo_3_2 : xl_3_2.all (xx_okI xx_tab xm_LAW) = true := by decide +kernel
def xl_3_3 : List xx_I := [(704, (.iaload, (1, []))), (705, (.invokevirtual 86, (3, [0, 155, 3, 7, 1492, 0, 1493, 1494, 145, 1495]))), (708, (.if_icmp .eq 1093, (3, []))), (711, (.iconst 0, (1, []))), (712, (.ireturn, (1, []))), (713, (.aload_n 1, (1, [77]))), (714, (.aload_n 0, (1, []))), (715, (.iload_n 3, (1, []))), (716, (.iconst 1, (1, []))), (717, (.iadd, (1, []))), (718, (.iaload, (1, []))), (719, (.invokevirtual 87, (3, [0, 10, 1, 6, 779, 0, 780, 781, 130, 782])))]
set_option maxRecDepth 1000000 in
set_option maxHeartbeats 40000000 in
theorem xlo_3_3 : xl_3_3.all (xx_okI xx_tab xm_LAW) = true := by decide +kernel
def xl_3_4 : List xx_I := [(722, (.aload_n 2, (1, [77]))), (723, (.aload_n 0, (1, []))), (724, (.iload_n 3, (1, []))), (725, (.iconst 1, (1, []))), (726, (.iadd, (1, []))), (727, (.iaload, (1, []))), (728, (.invokevirtual 90, (3, [0, 121, 1, 7, 1567, 0, 1568, 1569, 145, 1570]))), (731, (.if_icmp .eq 1070, (3, []))), (734, (.iconst 0, (1, []))), (735, (.ireturn, (1, []))), (736, (.aload_n 1, (1, [77]))), (737, (.invokevirtual 91, (3, [0, 9, 0, 6, 787, 0, 788, 789, 130, 790])))]
set_option maxRecDepth 1000000 in
set_option maxHeartbeats 40000000 in
theorem xlo_3_4 : xl_3_4.all (xx_okI xx_tab xm_LAW) = true := by decide +kernel
def xl_3_5 : List xx_I := [(740, (.aload_n 2, (1, [77]))), (741, (.invokevirtual 94, (3, [0, 120, 0, 7, 1579, 0, 1580, 1581, 145, 1582]))), (744, (.if_icmp .eq 1057, (3, []))), (747, (.iconst 0, (1, []))), (748, (.ireturn, (1, []))), (749, (.aload_n 1, (1, [77]))), (750, (.aload_n 0, (1, []))), (751, (.iload_n 3, (1, []))), (752, (.iconst 1, (1, []))), (753, (.iadd, (1, []))), (754, (.iaload, (1, []))), (755, (.invokevirtual 95, (3, [0, 72, 1, 6, 791, 0, 792, 793, 130, 794])))]
set_option maxRecDepth 1000000 in
set_option maxHeartbeats 40000000 in
theorem xlo_3_5 : xl_3_5.all (xx_okI xx_tab xm_LAW) = true := by decide +kernel
def xl_3_6 : List xx_I := [(758, (.aload_n 2, (1, [77]))), (759, (.aload_n 0, (1, []))), (760, (.iload_n 3, (1, []))), (761, (.iconst 1, (1, []))), (762, (.iadd, (1, []))), (763, (.iaload, (1, []))), (764, (.invokevirtual 98, (3, [0, 171, 1, 7, 1500, 0, 1501, 1502, 145, 1503]))), (767, (.if_icmp .eq 1034, (3, []))), (770, (.iconst 0, (1, []))), (771, (.ireturn, (1, []))), (772, (.aload_n 1, (1, [77]))), (773, (.invokevirtual 99, (3, [0, 15, 0, 6, 878, 0, 879, 880, 130, 881])))]
set_option maxRecDepth 1000000 in
set_option maxHeartbeats 40000000 in
theorem xlo_3_6 : xl_3_6.all (xx_okI xx_tab xm_LAW) = true := by decide +kernel
def xl_3_7 : List xx_I := [(776, (.aload_n 2, (1, [77]))), (777, (.invokevirtual 102, (3, [0, 132, 0, 7, 1647, 0, 1648, 1649, 145, 1650]))), (780, (.if_icmp .eq 1021, (3, []))), (783, (.iconst 0, (1, []))), (784, (.ireturn, (1, []))), (785, (.aload_n 1, (1, [77]))), (786, (.invokevirtual 103, (3, [0, 25, 0, 6, 890, 0, 891, 892, 130, 893]))), (789, (.aload_n 2, (1, [77]))), (790, (.invokevirtual 106, (3, [0, 139, 0, 7, 1674, 0, 1675, 1676, 145, 1677]))), (793, (.if_icmp .eq 1008, (3, []))), (796, (.iconst 0, (1, []))), (797, (.ireturn, (1, [])))]
set_option maxRecDepth 1000000 in
set_option maxHeartbeats 40000000 in
theorem xlo_3_7 : xl_3_7.all (xx_okI xx_tab xm_LAW) = true := by decide +kernel
def xl_3_8 : List xx_I := [(798, (.aload_n 1, (1, [77]))), (799, (.aload_n 0, (1, []))), (800, (.iload_n 3, (1, []))), (801, (.iconst 1, (1, [])))]
set_option maxRecDepth 1000000 in
set_option maxHeartbeats 40000000 in
theorem xlo_3_8 : xl_3_8.all (xx_okI xx_tab xm_LAW) = true := by decide +kernel
theorem xo_LAW3 : xr_LAW_3.all (xx_okI xx_tab xm_LAW) = true := by
  have e : xr_LAW_3 = xl_3_0 ++ (xl_3_1 ++ (xl_3_2 ++ (xl_3_3 ++ (xl_3_4 ++ (xl_3_5 ++ (xl_3_6 ++ (xl_3_7 ++ (xl_3_8)))))))) := rfl
  rw [e]
  simp only [List.all_append, xlo_3_0, xlo_3_1, xlo_3_2, xlo_3_3, xlo_3_4, xlo_3_5, xlo_3_6, xlo_3_7, xlo_3_8, Bool.and_self]
def xl_4_0 : List xx_I := [(802, (.iadd, (1, []))), (803, (.iaload, (1, []))), (804, (.aload_n 0, (1, []))), (805, (.iload_n 3, (1, []))), (806, (.iconst 2, (1, []))), (807, (.iadd, (1, []))), (808, (.iaload, (1, []))), (809, (.invokevirtual 107, (3, [0, 105, 2, 6, 894, 0, 895, 896, 130, 897]))), (812, (.aload_n 2, (1, [77]))), (813, (.aload_n 0, (1, []))), (814, (.iload_n 3, (1, []))), (815, (.iconst 1, (1, [])))]
set_option maxRecDepth 1000000 in
set_option maxHeartbeats 40000000 in
theorem xlo_4_0 : xl_4_0.all (xx_okI xx_tab xm_LAW) = true := by decide +kernel
def xl_4_1 : List xx_I := [(816, (.iadd, (1, []))), (817, (.iaload, (1, []))), (818, (.aload_n 0, (1, []))), (819, (.iload_n 3, (1, []))), (820, (.iconst 2, (1, []))), (821, (.iadd, (1, []))), (822, (.iaload, (1, []))), (823, (.invokevirtual 110, (3, [0, 202, 2, 7, 1678, 0, 1679, 1680, 145, 1681]))), (826, (.if_icmp .eq 975, (3, []))), (829, (.iconst 0, (1, []))), (830, (.ireturn, (1, []))), (831, (.aload_n 1, (1, [77])))]
set_option maxRecDepth 1000000 in
set_option maxHeartbeats 40000000 in
theorem xlo_4_1 : xl_4_1.all (xx_okI xx_tab xm_LAW) = true := by decide +kernel
def xl_4_2 : List xx_I := [(832, (.aload_n 0, (1, []))), (833, (.iload_n 3, (1, []))), (834, (.iconst 1, (1, []))), (835, (.iadd, (1, []))), (836, (.iaload, (1, []))), (837, (.invokevirtual 111, (3, [0, 109, 1, 6, 898, 0, 899, 900, 130, 901]))), (840, (.aload_n 2, (1, [77]))), (841, (.aload_n 0, (1, []))), (842, (.iload_n 3, (1, []))), (843, (.iconst 1, (1, []))), (844, (.iadd, (1, []))), (845, (.iaload, (1, [])))]
set_option maxRecDepth 1000000 in
set_option maxHeartbeats 40000000 in
theorem xlo_4_2 : xl_4_2.all (xx_okI xx_tab xm_LAW) = true := by decide +kernel
def xl_4_3 : List xx_I := [(846, (.invokevirtual 114, (3, [0, 206, 1, 7, 1682, 0, 1683, 1684, 145, 1685]))), (849, (.if_icmp .eq 952, (3, []))), (852, (.iconst 0, (1, []))), (853, (.ireturn, (1, []))), (854, (.aload_n 1, (1, [77]))), (855, (.aload_n 0, (1, []))), (856, (.iload_n 3, (1, []))), (857, (.iconst 1, (1, []))), (858, (.iadd, (1, []))), (859, (.iaload, (1, []))), (860, (.aload_n 0, (1, []))), (861, (.iload_n 3, (1, [])))]
set_option maxRecDepth 1000000 in
set_option maxHeartbeats 40000000 in
theorem xlo_4_3 : xl_4_3.all (xx_okI xx_tab xm_LAW) = true := by decide +kernel
def xl_4_4 : List xx_I := [(862, (.iconst 2, (1, []))), (863, (.iadd, (1, []))), (864, (.iaload, (1, []))), (865, (.invokevirtual 115, (3, [0, 32, 2, 6, 906, 0, 907, 908, 130, 909]))), (868, (.aload_n 2, (1, [77]))), (869, (.aload_n 0, (1, []))), (870, (.iload_n 3, (1, []))), (871, (.iconst 1, (1, []))), (872, (.iadd, (1, []))), (873, (.iaload, (1, []))), (874, (.aload_n 0, (1, []))), (875, (.iload_n 3, (1, [])))]
set_option maxRecDepth 1000000 in
set_option maxHeartbeats 40000000 in
theorem xlo_4_4 : xl_4_4.all (xx_okI xx_tab xm_LAW) = true := by decide +kernel
def xl_4_5 : List xx_I := [(876, (.iconst 2, (1, []))), (877, (.iadd, (1, []))), (878, (.iaload, (1, []))), (879, (.invokevirtual 118, (3, [0, 147, 2, 7, 1736, 0, 1737, 1738, 145, 1739]))), (882, (.if_icmp .eq 919, (3, []))), (885, (.iconst 0, (1, []))), (886, (.ireturn, (1, []))), (887, (.aload_n 1, (1, [77]))), (888, (.aload_n 0, (1, []))), (889, (.iload_n 3, (1, []))), (890, (.iconst 1, (1, []))), (891, (.iadd, (1, [])))]
set_option maxRecDepth 1000000 in
set_option maxHeartbeats 40000000 in
theorem xlo_4_5 : xl_4_5.all (xx_okI xx_tab xm_LAW) = true := by decide +kernel
def xl_4_6 : List xx_I := [(892, (.iaload, (1, []))), (893, (.invokevirtual 119, (3, [0, 8, 1, 6, 924, 0, 925, 926, 130, 927]))), (896, (.aload_n 2, (1, [77]))), (897, (.aload_n 0, (1, []))), (898, (.iload_n 3, (1, []))), (899, (.iconst 1, (1, []))), (900, (.iadd, (1, []))), (901, (.iaload, (1, []))), (902, (.invokevirtual 122, (3, [0, 119, 1, 7, 1706, 0, 1707, 1708, 145, 1709]))), (905, (.if_icmp .eq 896, (3, []))), (908, (.iconst 0, (1, []))), (909, (.ireturn, (1, [])))]
set_option maxRecDepth 1000000 in
set_option maxHeartbeats 40000000 in
theorem xlo_4_6 : xl_4_6.all (xx_okI xx_tab xm_LAW) = true := by decide +kernel
def xl_4_7 : List xx_I := [(910, (.aload_n 1, (1, [77]))), (911, (.aload_n 0, (1, []))), (912, (.iload_n 3, (1, []))), (913, (.iconst 1, (1, []))), (914, (.iadd, (1, []))), (915, (.iaload, (1, []))), (916, (.invokevirtual 123, (3, [0, 34, 1, 6, 931, 0, 932, 933, 130, 934]))), (919, (.aload_n 2, (1, [77]))), (920, (.aload_n 0, (1, []))), (921, (.iload_n 3, (1, []))), (922, (.iconst 1, (1, []))), (923, (.iadd, (1, [])))]
set_option maxRecDepth 1000000 in
set_option maxHeartbeats 40000000 in
theorem xlo_4_7 : xl_4_7.all (xx_okI xx_tab xm_LAW) = true := by decide +kernel
def xl_4_8 : List xx_I := [(924, (.iaload, (1, []))), (925, (.invokevirtual 126, (3, [0, 149, 1, 7, 1710, 0, 1711, 1712, 145, 1713]))), (928, (.if_icmp .eq 873, (3, []))), (931, (.iconst 0, (1, [])))]
set_option maxRecDepth 1000000 in
set_option maxHeartbeats 40000000 in
theorem xlo_4_8 : xl_4_8.all (xx_okI xx_tab xm_LAW) = true := by decide +kernel
theorem xo_LAW4 : xr_LAW_4.all (xx_okI xx_tab xm_LAW) = true := by
  have e : xr_LAW_4 = xl_4_0 ++ (xl_4_1 ++ (xl_4_2 ++ (xl_4_3 ++ (xl_4_4 ++ (xl_4_5 ++ (xl_4_6 ++ (xl_4_7 ++ (xl_4_8)))))))) := rfl
  rw [e]
  simp only [List.all_append, xlo_4_0, xlo_4_1, xlo_4_2, xlo_4_3, xlo_4_4, xlo_4_5, xlo_4_6, xlo_4_7, xlo_4_8, Bool.and_self]
def xl_5_0 : List xx_I := [(932, (.ireturn, (1, []))), (933, (.aload_n 1, (1, [77]))), (934, (.aload_n 0, (1, []))), (935, (.iload_n 3, (1, []))), (936, (.iconst 1, (1, []))), (937, (.iadd, (1, []))), (938, (.iaload, (1, []))), (939, (.invokevirtual 127, (3, [0, 82, 1, 6, 947, 0, 948, 949, 130, 950]))), (942, (.aload_n 2, (1, [77]))), (943, (.aload_n 0, (1, []))), (944, (.iload_n 3, (1, []))), (945, (.iconst 1, (1, [])))]
set_option maxRecDepth 1000000 in
set_option maxHeartbeats 40000000 in
theorem xlo_5_0 : xl_5_0.all (xx_okI xx_tab xm_LAW) = true := by decide +kernel
def xl_5_1 : List xx_I := [(946, (.iadd, (1, []))), (947, (.iaload, (1, []))), (948, (.invokevirtual 130, (3, [0, 183, 1, 7, 1718, 0, 1719, 1720, 145, 1721]))), (951, (.if_icmp .eq 850, (3, []))), (954, (.iconst 0, (1, []))), (955, (.ireturn, (1, []))), (956, (.aload_n 1, (1, [77]))), (957, (.aload_n 0, (1, []))), (958, (.iload_n 3, (1, []))), (959, (.iconst 1, (1, []))), (960, (.iadd, (1, []))), (961, (.iaload, (1, [])))]
set_option maxRecDepth 1000000 in
set_option maxHeartbeats 40000000 in
theorem xlo_5_1 : xl_5_1.all (xx_okI xx_tab xm_LAW) = true := by decide +kernel
def xl_5_2 : List xx_I := [(962, (.aload_n 0, (1, []))), (963, (.iload_n 3, (1, []))), (964, (.iconst 2, (1, []))), (965, (.iadd, (1, []))), (966, (.iaload, (1, []))), (967, (.invokevirtual 131, (3, [0, 97, 2, 6, 795, 0, 796, 797, 130, 798]))), (970, (.aload_n 2, (1, [77]))), (971, (.aload_n 0, (1, []))), (972, (.iload_n 3, (1, []))), (973, (.iconst 1, (1, []))), (974, (.iadd, (1, []))), (975, (.iaload, (1, [])))]
set_option maxRecDepth 1000000 in
set_option maxHeartbeats 40000000 in
theorem xlo_5_2 : xl_5_2.all (xx_okI xx_tab xm_LAW) = true := by decide +kernel
def xl_5_3 : List xx_I := [(976, (.aload_n 0, (1, []))), (977, (.iload_n 3, (1, []))), (978, (.iconst 2, (1, []))), (979, (.iadd, (1, []))), (980, (.iaload, (1, []))), (981, (.invokevirtual 134, (3, [0, 197, 2, 7, 1748, 0, 1749, 1750, 145, 1751]))), (984, (.if_icmp .eq 817, (3, []))), (987, (.iconst 0, (1, []))), (988, (.ireturn, (1, []))), (989, (.aload_n 1, (1, [77]))), (990, (.invokevirtual 135, (3, [0, 110, 0, 6, 799, 0, 800, 801, 130, 802]))), (993, (.aload_n 2, (1, [77])))]
set_option maxRecDepth 1000000 in
set_option maxHeartbeats 40000000 in
theorem xlo_5_3 : xl_5_3.all (xx_okI xx_tab xm_LAW) = true := by decide +kernel
def xl_5_4 : List xx_I := [(994, (.invokevirtual 138, (3, [0, 207, 0, 7, 1539, 0, 1540, 1541, 145, 1542]))), (997, (.if_icmp .eq 804, (3, []))), (1000, (.iconst 0, (1, []))), (1001, (.ireturn, (1, []))), (1002, (.aload_n 1, (1, [77]))), (1003, (.invokevirtual 139, (3, [0, 89, 0, 6, 807, 0, 808, 809, 130, 810]))), (1006, (.aload_n 2, (1, [77]))), (1007, (.invokevirtual 142, (3, [0, 189, 0, 7, 1543, 0, 1544, 1545, 145, 1546]))), (1010, (.if_icmp .eq 791, (3, []))), (1013, (.iconst 0, (1, []))), (1014, (.ireturn, (1, []))), (1015, (.aload_n 1, (1, [77])))]
set_option maxRecDepth 1000000 in
set_option maxHeartbeats 40000000 in
theorem xlo_5_4 : xl_5_4.all (xx_okI xx_tab xm_LAW) = true := by decide +kernel
def xl_5_5 : List xx_I := [(1016, (.invokevirtual 143, (3, [0, 106, 0, 6, 815, 0, 816, 817, 130, 818]))), (1019, (.aload_n 2, (1, [77]))), (1020, (.invokevirtual 146, (3, [0, 203, 0, 7, 1504, 0, 1505, 1506, 145, 1507]))), (1023, (.if_icmp .eq 778, (3, []))), (1026, (.iconst 0, (1, []))), (1027, (.ireturn, (1, []))), (1028, (.aload_n 1, (1, [77]))), (1029, (.invokevirtual 147, (3, [0, 96, 0, 6, 827, 0, 828, 829, 130, 830]))), (1032, (.aload_n 2, (1, [77]))), (1033, (.invokevirtual 150, (3, [0, 196, 0, 7, 1508, 0, 1509, 1510, 145, 1511]))), (1036, (.if_icmp .eq 765, (3, []))), (1039, (.iconst 0, (1, [])))]
set_option maxRecDepth 1000000 in
set_option maxHeartbeats 40000000 in
theorem xlo_5_5 : xl_5_5.all (xx_okI xx_tab xm_LAW) = true := by decide +kernel
def xl_5_6 : List xx_I := [(1040, (.ireturn, (1, []))), (1041, (.aload_n 1, (1, [77]))), (1042, (.aload_n 0, (1, []))), (1043, (.iload_n 3, (1, []))), (1044, (.iconst 1, (1, []))), (1045, (.iadd, (1, []))), (1046, (.iaload, (1, []))), (1047, (.aload_n 0, (1, []))), (1048, (.iload_n 3, (1, []))), (1049, (.iconst 2, (1, []))), (1050, (.iadd, (1, []))), (1051, (.iaload, (1, [])))]
set_option maxRecDepth 1000000 in
set_option maxHeartbeats 40000000 in
theorem xlo_5_6 : xl_5_6.all (xx_okI xx_tab xm_LAW) = true := by decide +kernel
def xl_5_7 : List xx_I := [(1052, (.invokevirtual 151, (3, [0, 85, 2, 6, 835, 0, 836, 837, 130, 838]))), (1055, (.aload_n 2, (1, [77]))), (1056, (.aload_n 0, (1, []))), (1057, (.iload_n 3, (1, []))), (1058, (.iconst 1, (1, []))), (1059, (.iadd, (1, []))), (1060, (.iaload, (1, []))), (1061, (.aload_n 0, (1, []))), (1062, (.iload_n 3, (1, []))), (1063, (.iconst 2, (1, []))), (1064, (.iadd, (1, []))), (1065, (.iaload, (1, [])))]
set_option maxRecDepth 1000000 in
set_option maxHeartbeats 40000000 in
theorem xlo_5_7 : xl_5_7.all (xx_okI xx_tab xm_LAW) = true := by decide +kernel
def xl_5_8 : List xx_I := [(1066, (.invokevirtual 154, (3, [0, 186, 2, 7, 1516, 0, 1517, 1518, 145, 1519]))), (1069, (.if_icmp .eq 732, (3, []))), (1072, (.iconst 0, (1, []))), (1073, (.ireturn, (1, [])))]
set_option maxRecDepth 1000000 in
set_option maxHeartbeats 40000000 in
theorem xlo_5_8 : xl_5_8.all (xx_okI xx_tab xm_LAW) = true := by decide +kernel
theorem xo_LAW5 : xr_LAW_5.all (xx_okI xx_tab xm_LAW) = true := by
  have e : xr_LAW_5 = xl_5_0 ++ (xl_5_1 ++ (xl_5_2 ++ (xl_5_3 ++ (xl_5_4 ++ (xl_5_5 ++ (xl_5_6 ++ (xl_5_7 ++ (xl_5_8)))))))) := rfl
  rw [e]
  simp only [List.all_append, xlo_5_0, xlo_5_1, xlo_5_2, xlo_5_3, xlo_5_4, xlo_5_5, xlo_5_6, xlo_5_7, xlo_5_8, Bool.and_self]
def xl_6_0 : List xx_I := [(1074, (.aload_n 1, (1, [77]))), (1075, (.aload_n 0, (1, []))), (1076, (.iload_n 3, (1, []))), (1077, (.iconst 1, (1, []))), (1078, (.iadd, (1, []))), (1079, (.iaload, (1, []))), (1080, (.invokevirtual 155, (3, [0, 60, 1, 6, 839, 0, 840, 841, 130, 842]))), (1083, (.aload_n 2, (1, [77]))), (1084, (.aload_n 0, (1, []))), (1085, (.iload_n 3, (1, []))), (1086, (.iconst 1, (1, []))), (1087, (.iadd, (1, [])))]
set_option maxRecDepth 1000000 in
set_option maxHeartbeats 40000000 in
theorem xlo_6_0 : xl_6_0.all (xx_okI xx_tab xm_LAW) = true := by decide +kernel
def xl_6_1 : List xx_I := [(1088, (.iaload, (1, []))), (1089, (.invokevirtual 158, (3, [0, 159, 1, 7, 1520, 0, 1521, 1522, 145, 1523]))), (1092, (.if_icmp .eq 709, (3, []))), (1095, (.iconst 0, (1, []))), (1096, (.ireturn, (1, []))), (1097, (.aload_n 1, (1, [77]))), (1098, (.aload_n 0, (1, []))), (1099, (.iload_n 3, (1, []))), (1100, (.iconst 1, (1, []))), (1101, (.iadd, (1, []))), (1102, (.iaload, (1, []))), (1103, (.invokevirtual 159, (3, [0, 94, 1, 6, 843, 0, 844, 845, 130, 846])))]
set_option maxRecDepth 1000000 in
set_option maxHeartbeats 40000000 in
theorem xlo_6_1 : xl_6_1.all (xx_okI xx_tab xm_LAW) = true := by decide +kernel
def xl_6_2 : List xx_I := [(1106, (.aload_n 2, (1, [77]))), (1107, (.aload_n 0, (1, []))), (1108, (.iload_n 3, (1, []))), (1109, (.iconst 1, (1, []))), (1110, (.iadd, (1, []))), (1111, (.iaload, (1, []))), (1112, (.invokevirtual 162, (3, [0, 194, 1, 7, 1524, 0, 1525, 1526, 145, 1527]))), (1115, (.if_icmp .eq 686, (3, []))), (1118, (.iconst 0, (1, []))), (1119, (.ireturn, (1, []))), (1120, (.aload_n 1, (1, [77]))), (1121, (.aload_n 0, (1, [])))]
set_option maxRecDepth 1000000 in
set_option maxHeartbeats 40000000 in
theorem xlo_6_2 : xl_6_2.all (xx_okI xx_tab xm_LAW) = true := by decide +kernel
def xl_6_3 : List xx_I := [(1122, (.iload_n 3, (1, []))), (1123, (.iconst 1, (1, []))), (1124, (.iadd, (1, []))), (1125, (.iaload, (1, []))), (1126, (.invokevirtual 163, (3, [0, 59, 1, 6, 847, 0, 848, 849, 130, 850]))), (1129, (.aload_n 2, (1, [77]))), (1130, (.aload_n 0, (1, []))), (1131, (.iload_n 3, (1, []))), (1132, (.iconst 1, (1, []))), (1133, (.iadd, (1, []))), (1134, (.iaload, (1, []))), (1135, (.invokevirtual 166, (3, [0, 158, 1, 7, 1563, 0, 1564, 1565, 145, 1566])))]
set_option maxRecDepth 1000000 in
set_option maxHeartbeats 40000000 in
theorem xlo_6_3 : xl_6_3.all (xx_okI xx_tab xm_LAW) = true := by decide +kernel
def xl_6_4 : List xx_I := [(1138, (.if_icmp .eq 663, (3, []))), (1141, (.iconst 0, (1, []))), (1142, (.ireturn, (1, []))), (1143, (.aload_n 1, (1, [77]))), (1144, (.aload_n 0, (1, []))), (1145, (.iload_n 3, (1, []))), (1146, (.iconst 1, (1, []))), (1147, (.iadd, (1, []))), (1148, (.iaload, (1, []))), (1149, (.aload_n 0, (1, []))), (1150, (.iload_n 3, (1, []))), (1151, (.iconst 2, (1, [])))]
set_option maxRecDepth 1000000 in
set_option maxHeartbeats 40000000 in
theorem xlo_6_4 : xl_6_4.all (xx_okI xx_tab xm_LAW) = true := by decide +kernel
def xl_6_5 : List xx_I := [(1152, (.iadd, (1, []))), (1153, (.iaload, (1, []))), (1154, (.aload_n 0, (1, []))), (1155, (.iload_n 3, (1, []))), (1156, (.iconst 3, (1, []))), (1157, (.iadd, (1, []))), (1158, (.iaload, (1, []))), (1159, (.invokevirtual 167, (3, [0, 6, 3, 6, 851, 0, 852, 853, 130, 854]))), (1162, (.aload_n 2, (1, [77]))), (1163, (.aload_n 0, (1, []))), (1164, (.iload_n 3, (1, []))), (1165, (.iconst 1, (1, [])))]
set_option maxRecDepth 1000000 in
set_option maxHeartbeats 40000000 in
theorem xlo_6_5 : xl_6_5.all (xx_okI xx_tab xm_LAW) = true := by decide +kernel
def xl_6_6 : List xx_I := [(1166, (.iadd, (1, []))), (1167, (.iaload, (1, []))), (1168, (.aload_n 0, (1, []))), (1169, (.iload_n 3, (1, []))), (1170, (.iconst 2, (1, []))), (1171, (.iadd, (1, []))), (1172, (.iaload, (1, []))), (1173, (.aload_n 0, (1, []))), (1174, (.iload_n 3, (1, []))), (1175, (.iconst 3, (1, []))), (1176, (.iadd, (1, []))), (1177, (.iaload, (1, [])))]
set_option maxRecDepth 1000000 in
set_option maxHeartbeats 40000000 in
theorem xlo_6_6 : xl_6_6.all (xx_okI xx_tab xm_LAW) = true := by decide +kernel
def xl_6_7 : List xx_I := [(1178, (.invokevirtual 170, (3, [0, 118, 3, 7, 1528, 0, 1529, 1530, 145, 1531]))), (1181, (.if_icmp .eq 620, (3, []))), (1184, (.iconst 0, (1, []))), (1185, (.ireturn, (1, []))), (1186, (.aload_n 1, (1, [77]))), (1187, (.aload_n 0, (1, []))), (1188, (.iload_n 3, (1, []))), (1189, (.iconst 1, (1, []))), (1190, (.iadd, (1, []))), (1191, (.iaload, (1, []))), (1192, (.aload_n 0, (1, []))), (1193, (.iload_n 3, (1, [])))]
set_option maxRecDepth 1000000 in
set_option maxHeartbeats 40000000 in
theorem xlo_6_7 : xl_6_7.all (xx_okI xx_tab xm_LAW) = true := by decide +kernel
def xl_6_8 : List xx_I := [(1194, (.iconst 2, (1, []))), (1195, (.iadd, (1, []))), (1196, (.iaload, (1, []))), (1197, (.invokevirtual 171, (3, [0, 90, 2, 6, 858, 0, 859, 860, 130, 861])))]
set_option maxRecDepth 1000000 in
set_option maxHeartbeats 40000000 in
theorem xlo_6_8 : xl_6_8.all (xx_okI xx_tab xm_LAW) = true := by decide +kernel
theorem xo_LAW6 : xr_LAW_6.all (xx_okI xx_tab xm_LAW) = true := by
  have e : xr_LAW_6 = xl_6_0 ++ (xl_6_1 ++ (xl_6_2 ++ (xl_6_3 ++ (xl_6_4 ++ (xl_6_5 ++ (xl_6_6 ++ (xl_6_7 ++ (xl_6_8)))))))) := rfl
  rw [e]
  simp only [List.all_append, xlo_6_0, xlo_6_1, xlo_6_2, xlo_6_3, xlo_6_4, xlo_6_5, xlo_6_6, xlo_6_7, xlo_6_8, Bool.and_self]
def xl_7_0 : List xx_I := [(1200, (.aload_n 2, (1, [77]))), (1201, (.aload_n 0, (1, []))), (1202, (.iload_n 3, (1, []))), (1203, (.iconst 1, (1, []))), (1204, (.iadd, (1, []))), (1205, (.iaload, (1, []))), (1206, (.aload_n 0, (1, []))), (1207, (.iload_n 3, (1, []))), (1208, (.iconst 2, (1, []))), (1209, (.iadd, (1, []))), (1210, (.iaload, (1, []))), (1211, (.invokevirtual 174, (3, [0, 190, 2, 7, 1583, 0, 1584, 1585, 145, 1586])))]
set_option maxRecDepth 1000000 in
set_option maxHeartbeats 40000000 in
theorem xlo_7_0 : xl_7_0.all (xx_okI xx_tab xm_LAW) = true := by decide +kernel
def xl_7_1 : List xx_I := [(1214, (.if_icmp .eq 587, (3, []))), (1217, (.iconst 0, (1, []))), (1218, (.ireturn, (1, []))), (1219, (.aload_n 1, (1, [77]))), (1220, (.aload_n 0, (1, []))), (1221, (.iload_n 3, (1, []))), (1222, (.iconst 1, (1, []))), (1223, (.iadd, (1, []))), (1224, (.iaload, (1, []))), (1225, (.invokevirtual 175, (3, [0, 74, 1, 6, 862, 0, 863, 864, 130, 865]))), (1228, (.aload_n 2, (1, [77]))), (1229, (.aload_n 0, (1, [])))]
set_option maxRecDepth 1000000 in
set_option maxHeartbeats 40000000 in
theorem xlo_7_1 : xl_7_1.all (xx_okI xx_tab xm_LAW) = true := by decide +kernel
def xl_7_2 : List xx_I := [(1230, (.iload_n 3, (1, []))), (1231, (.iconst 1, (1, []))), (1232, (.iadd, (1, []))), (1233, (.iaload, (1, []))), (1234, (.invokevirtual 178, (3, [0, 176, 1, 7, 1535, 0, 1536, 1537, 145, 1538]))), (1237, (.if_icmp .eq 564, (3, []))), (1240, (.iconst 0, (1, []))), (1241, (.ireturn, (1, []))), (1242, (.aload_n 1, (1, [77]))), (1243, (.aload_n 0, (1, []))), (1244, (.iload_n 3, (1, []))), (1245, (.iconst 1, (1, [])))]
set_option maxRecDepth 1000000 in
set_option maxHeartbeats 40000000 in
theorem xlo_7_2 : xl_7_2.all (xx_okI xx_tab xm_LAW) = true := by decide +kernel
def xl_7_3 : List xx_I := [(1246, (.iadd, (1, []))), (1247, (.iaload, (1, []))), (1248, (.aload_n 0, (1, []))), (1249, (.iload_n 3, (1, []))), (1250, (.iconst 2, (1, []))), (1251, (.iadd, (1, []))), (1252, (.iaload, (1, []))), (1253, (.invokevirtual 179, (3, [0, 3, 2, 6, 866, 0, 867, 868, 130, 869]))), (1256, (.aload_n 2, (1, [77]))), (1257, (.aload_n 0, (1, []))), (1258, (.iload_n 3, (1, []))), (1259, (.iconst 1, (1, [])))]
set_option maxRecDepth 1000000 in
set_option maxHeartbeats 40000000 in
theorem xlo_7_3 : xl_7_3.all (xx_okI xx_tab xm_LAW) = true := by decide +kernel
def xl_7_4 : List xx_I := [(1260, (.iadd, (1, []))), (1261, (.iaload, (1, []))), (1262, (.aload_n 0, (1, []))), (1263, (.iload_n 3, (1, []))), (1264, (.iconst 2, (1, []))), (1265, (.iadd, (1, []))), (1266, (.iaload, (1, []))), (1267, (.invokevirtual 182, (3, [0, 115, 2, 7, 1752, 0, 1753, 1754, 145, 1755]))), (1270, (.if_icmp .eq 531, (3, []))), (1273, (.iconst 0, (1, []))), (1274, (.ireturn, (1, []))), (1275, (.aload_n 1, (1, [77])))]
set_option maxRecDepth 1000000 in
set_option maxHeartbeats 40000000 in
theorem xlo_7_4 : xl_7_4.all (xx_okI xx_tab xm_LAW) = true := by decide +kernel
def xl_7_5 : List xx_I := [(1276, (.aload_n 0, (1, []))), (1277, (.iload_n 3, (1, []))), (1278, (.iconst 1, (1, []))), (1279, (.iadd, (1, []))), (1280, (.iaload, (1, []))), (1281, (.invokevirtual 183, (3, [0, 20, 1, 6, 967, 0, 968, 969, 130, 970]))), (1284, (.aload_n 2, (1, [77]))), (1285, (.aload_n 0, (1, []))), (1286, (.iload_n 3, (1, []))), (1287, (.iconst 1, (1, []))), (1288, (.iadd, (1, []))), (1289, (.iaload, (1, [])))]
set_option maxRecDepth 1000000 in
set_option maxHeartbeats 40000000 in
theorem xlo_7_5 : xl_7_5.all (xx_okI xx_tab xm_LAW) = true := by decide +kernel
def xl_7_6 : List xx_I := [(1290, (.invokevirtual 186, (3, [0, 136, 1, 7, 1690, 0, 1691, 1692, 145, 1693]))), (1293, (.if_icmp .eq 508, (3, []))), (1296, (.iconst 0, (1, []))), (1297, (.ireturn, (1, []))), (1298, (.aload_n 1, (1, [77]))), (1299, (.invokevirtual 187, (3, [0, 58, 0, 6, 975, 0, 976, 977, 130, 978]))), (1302, (.aload_n 2, (1, [77]))), (1303, (.invokevirtual 190, (3, [0, 157, 0, 7, 1698, 0, 1699, 1700, 145, 1701]))), (1306, (.if_icmp .eq 495, (3, []))), (1309, (.iconst 0, (1, []))), (1310, (.ireturn, (1, []))), (1311, (.aload_n 1, (1, [77])))]
set_option maxRecDepth 1000000 in
set_option maxHeartbeats 40000000 in
theorem xlo_7_6 : xl_7_6.all (xx_okI xx_tab xm_LAW) = true := by decide +kernel
def xl_7_7 : List xx_I := [(1312, (.aload_n 0, (1, []))), (1313, (.iload_n 3, (1, []))), (1314, (.iconst 1, (1, []))), (1315, (.iadd, (1, []))), (1316, (.iaload, (1, []))), (1317, (.invokevirtual 191, (3, [0, 95, 1, 6, 979, 0, 980, 981, 130, 982]))), (1320, (.aload_n 2, (1, [77]))), (1321, (.aload_n 0, (1, []))), (1322, (.iload_n 3, (1, []))), (1323, (.iconst 1, (1, []))), (1324, (.iadd, (1, []))), (1325, (.iaload, (1, [])))]
set_option maxRecDepth 1000000 in
set_option maxHeartbeats 40000000 in
theorem xlo_7_7 : xl_7_7.all (xx_okI xx_tab xm_LAW) = true := by decide +kernel
def xl_7_8 : List xx_I := [(1326, (.invokevirtual 194, (3, [0, 195, 1, 7, 1702, 0, 1703, 1704, 145, 1705]))), (1329, (.if_icmp .eq 472, (3, []))), (1332, (.iconst 0, (1, []))), (1333, (.ireturn, (1, [])))]
set_option maxRecDepth 1000000 in
set_option maxHeartbeats 40000000 in
theorem xlo_7_8 : xl_7_8.all (xx_okI xx_tab xm_LAW) = true := by decide +kernel
theorem xo_LAW7 : xr_LAW_7.all (xx_okI xx_tab xm_LAW) = true := by
  have e : xr_LAW_7 = xl_7_0 ++ (xl_7_1 ++ (xl_7_2 ++ (xl_7_3 ++ (xl_7_4 ++ (xl_7_5 ++ (xl_7_6 ++ (xl_7_7 ++ (xl_7_8)))))))) := rfl
  rw [e]
  simp only [List.all_append, xlo_7_0, xlo_7_1, xlo_7_2, xlo_7_3, xlo_7_4, xlo_7_5, xlo_7_6, xlo_7_7, xlo_7_8, Bool.and_self]
def xl_8_0 : List xx_I := [(1334, (.aload_n 1, (1, [77]))), (1335, (.invokevirtual 195, (3, [0, 84, 0, 6, 870, 0, 871, 872, 130, 873]))), (1338, (.aload_n 2, (1, [77]))), (1339, (.invokevirtual 198, (3, [0, 185, 0, 7, 1551, 0, 1552, 1553, 145, 1554]))), (1342, (.if_icmp .eq 459, (3, []))), (1345, (.iconst 0, (1, []))), (1346, (.ireturn, (1, []))), (1347, (.aload_n 1, (1, [77]))), (1348, (.aload_n 0, (1, []))), (1349, (.iload_n 3, (1, []))), (1350, (.iconst 1, (1, []))), (1351, (.iadd, (1, [])))]
set_option maxRecDepth 1000000 in
set_option maxHeartbeats 40000000 in
theorem xlo_8_0 : xl_8_0.all (xx_okI xx_tab xm_LAW) = true := by decide +kernel
def xl_8_1 : List xx_I := [(1352, (.iaload, (1, []))), (1353, (.aload_n 0, (1, []))), (1354, (.iload_n 3, (1, []))), (1355, (.iconst 2, (1, []))), (1356, (.iadd, (1, []))), (1357, (.iaload, (1, []))), (1358, (.invokevirtual 199, (3, [0, 80, 2, 6, 951, 0, 952, 953, 130, 954]))), (1361, (.aload_n 2, (1, [77]))), (1362, (.aload_n 0, (1, []))), (1363, (.iload_n 3, (1, []))), (1364, (.iconst 1, (1, []))), (1365, (.iadd, (1, [])))]
set_option maxRecDepth 1000000 in
set_option maxHeartbeats 40000000 in
theorem xlo_8_1 : xl_8_1.all (xx_okI xx_tab xm_LAW) = true := by decide +kernel
def xl_8_2 : List xx_I := [(1366, (.iaload, (1, []))), (1367, (.aload_n 0, (1, []))), (1368, (.iload_n 3, (1, []))), (1369, (.iconst 2, (1, []))), (1370, (.iadd, (1, []))), (1371, (.iaload, (1, []))), (1372, (.invokevirtual 202, (3, [0, 181, 2, 7, 1726, 0, 1727, 1728, 145, 1729]))), (1375, (.if_icmp .eq 426, (3, []))), (1378, (.iconst 0, (1, []))), (1379, (.ireturn, (1, []))), (1380, (.aload_n 1, (1, [77]))), (1381, (.aload_n 0, (1, [])))]
set_option maxRecDepth 1000000 in
set_option maxHeartbeats 40000000 in
theorem xlo_8_2 : xl_8_2.all (xx_okI xx_tab xm_LAW) = true := by decide +kernel
def xl_8_3 : List xx_I := [(1382, (.iload_n 3, (1, []))), (1383, (.iconst 1, (1, []))), (1384, (.iadd, (1, []))), (1385, (.iaload, (1, []))), (1386, (.aload_n 0, (1, []))), (1387, (.iload_n 3, (1, []))), (1388, (.iconst 2, (1, []))), (1389, (.iadd, (1, []))), (1390, (.iaload, (1, []))), (1391, (.invokevirtual 203, (3, [0, 92, 2, 6, 959, 0, 960, 961, 130, 962]))), (1394, (.aload_n 2, (1, [77]))), (1395, (.aload_n 0, (1, [])))]
set_option maxRecDepth 1000000 in
set_option maxHeartbeats 40000000 in
theorem xlo_8_3 : xl_8_3.all (xx_okI xx_tab xm_LAW) = true := by decide +kernel
def xl_8_4 : List xx_I := [(1396, (.iload_n 3, (1, []))), (1397, (.iconst 1, (1, []))), (1398, (.iadd, (1, []))), (1399, (.iaload, (1, []))), (1400, (.aload_n 0, (1, []))), (1401, (.iload_n 3, (1, []))), (1402, (.iconst 2, (1, []))), (1403, (.iadd, (1, []))), (1404, (.iaload, (1, []))), (1405, (.invokevirtual 206, (3, [0, 192, 2, 7, 1744, 0, 1745, 1746, 145, 1747]))), (1408, (.if_icmp .eq 393, (3, []))), (1411, (.iconst 0, (1, [])))]
set_option maxRecDepth 1000000 in
set_option maxHeartbeats 40000000 in
theorem xlo_8_4 : xl_8_4.all (xx_okI xx_tab xm_LAW) = true := by decide +kernel
def xl_8_5 : List xx_I := [(1412, (.ireturn, (1, []))), (1413, (.aload_n 1, (1, [77]))), (1414, (.aload_n 0, (1, []))), (1415, (.iload_n 3, (1, []))), (1416, (.iconst 1, (1, []))), (1417, (.iadd, (1, []))), (1418, (.iaload, (1, []))), (1419, (.invokevirtual 207, (3, [0, 66, 1, 6, 943, 0, 944, 945, 130, 946]))), (1422, (.aload_n 2, (1, [77]))), (1423, (.aload_n 0, (1, []))), (1424, (.iload_n 3, (1, []))), (1425, (.iconst 1, (1, [])))]
set_option maxRecDepth 1000000 in
set_option maxHeartbeats 40000000 in
theorem xlo_8_5 : xl_8_5.all (xx_okI xx_tab xm_LAW) = true := by decide +kernel
def xl_8_6 : List xx_I := [(1426, (.iadd, (1, []))), (1427, (.iaload, (1, []))), (1428, (.invokevirtual 210, (3, [0, 164, 1, 7, 1714, 0, 1715, 1716, 145, 1717]))), (1431, (.if_icmp .eq 370, (3, []))), (1434, (.iconst 0, (1, []))), (1435, (.ireturn, (1, []))), (1436, (.aload_n 1, (1, [77]))), (1437, (.invokevirtual 211, (3, [0, 100, 0, 6, 874, 0, 875, 876, 130, 877]))), (1440, (.aload_n 2, (1, [77]))), (1441, (.invokevirtual 214, (3, [0, 199, 0, 7, 1547, 0, 1548, 1549, 145, 1550]))), (1444, (.if_icmp .eq 357, (3, []))), (1447, (.iconst 0, (1, [])))]
set_option maxRecDepth 1000000 in
set_option maxHeartbeats 40000000 in
theorem xlo_8_6 : xl_8_6.all (xx_okI xx_tab xm_LAW) = true := by decide +kernel
def xl_8_7 : List xx_I := [(1448, (.ireturn, (1, []))), (1449, (.aload_n 1, (1, [77]))), (1450, (.aload_n 0, (1, []))), (1451, (.iload_n 3, (1, []))), (1452, (.iconst 1, (1, []))), (1453, (.iadd, (1, []))), (1454, (.iaload, (1, []))), (1455, (.invokevirtual 215, (3, [0, 107, 1, 6, 902, 0, 903, 904, 130, 905]))), (1458, (.aload_n 2, (1, [77]))), (1459, (.aload_n 0, (1, []))), (1460, (.iload_n 3, (1, []))), (1461, (.iconst 1, (1, [])))]
set_option maxRecDepth 1000000 in
set_option maxHeartbeats 40000000 in
theorem xlo_8_7 : xl_8_7.all (xx_okI xx_tab xm_LAW) = true := by decide +kernel
def xl_8_8 : List xx_I := [(1462, (.iadd, (1, []))), (1463, (.iaload, (1, []))), (1464, (.invokevirtual 218, (3, [0, 204, 1, 7, 1686, 0, 1687, 1688, 145, 1689]))), (1467, (.if_icmp .eq 334, (3, [])))]
set_option maxRecDepth 1000000 in
set_option maxHeartbeats 40000000 in
theorem xlo_8_8 : xl_8_8.all (xx_okI xx_tab xm_LAW) = true := by decide +kernel
theorem xo_LAW8 : xr_LAW_8.all (xx_okI xx_tab xm_LAW) = true := by
  have e : xr_LAW_8 = xl_8_0 ++ (xl_8_1 ++ (xl_8_2 ++ (xl_8_3 ++ (xl_8_4 ++ (xl_8_5 ++ (xl_8_6 ++ (xl_8_7 ++ (xl_8_8)))))))) := rfl
  rw [e]
  simp only [List.all_append, xlo_8_0, xlo_8_1, xlo_8_2, xlo_8_3, xlo_8_4, xlo_8_5, xlo_8_6, xlo_8_7, xlo_8_8, Bool.and_self]
def xl_9_0 : List xx_I := [(1470, (.iconst 0, (1, []))), (1471, (.ireturn, (1, []))), (1472, (.aload_n 1, (1, [77]))), (1473, (.aload_n 0, (1, []))), (1474, (.iload_n 3, (1, []))), (1475, (.iconst 1, (1, []))), (1476, (.iadd, (1, []))), (1477, (.iaload, (1, []))), (1478, (.invokevirtual 219, (3, [0, 61, 1, 6, 983, 0, 984, 985, 130, 986]))), (1481, (.aload_n 2, (1, [77]))), (1482, (.aload_n 0, (1, []))), (1483, (.iload_n 3, (1, [])))]
set_option maxRecDepth 1000000 in
set_option maxHeartbeats 40000000 in
theorem xlo_9_0 : xl_9_0.all (xx_okI xx_tab xm_LAW) = true := by decide +kernel
def xl_9_1 : List xx_I := [(1484, (.iconst 1, (1, []))), (1485, (.iadd, (1, []))), (1486, (.iaload, (1, []))), (1487, (.invokevirtual 222, (3, [0, 160, 1, 7, 1643, 0, 1644, 1645, 145, 1646]))), (1490, (.if_icmp .eq 311, (3, []))), (1493, (.iconst 0, (1, []))), (1494, (.ireturn, (1, []))), (1495, (.aload_n 1, (1, [77]))), (1496, (.aload_n 0, (1, []))), (1497, (.iload_n 3, (1, []))), (1498, (.iconst 1, (1, []))), (1499, (.iadd, (1, [])))]
set_option maxRecDepth 1000000 in
set_option maxHeartbeats 40000000 in
theorem xlo_9_1 : xl_9_1.all (xx_okI xx_tab xm_LAW) = true := by decide +kernel
def xl_9_2 : List xx_I := [(1500, (.iaload, (1, []))), (1501, (.aload_n 0, (1, []))), (1502, (.iload_n 3, (1, []))), (1503, (.iconst 2, (1, []))), (1504, (.iadd, (1, []))), (1505, (.iaload, (1, []))), (1506, (.invokevirtual 223, (3, [0, 71, 2, 6, 987, 0, 988, 989, 130, 990]))), (1509, (.aload_n 2, (1, [77]))), (1510, (.aload_n 0, (1, []))), (1511, (.iload_n 3, (1, []))), (1512, (.iconst 1, (1, []))), (1513, (.iadd, (1, [])))]
set_option maxRecDepth 1000000 in
set_option maxHeartbeats 40000000 in
theorem xlo_9_2 : xl_9_2.all (xx_okI xx_tab xm_LAW) = true := by decide +kernel
def xl_9_3 : List xx_I := [(1514, (.iaload, (1, []))), (1515, (.aload_n 0, (1, []))), (1516, (.iload_n 3, (1, []))), (1517, (.iconst 2, (1, []))), (1518, (.iadd, (1, []))), (1519, (.iaload, (1, []))), (1520, (.invokevirtual 226, (3, [0, 170, 2, 7, 1756, 0, 1757, 1758, 145, 1759]))), (1523, (.if_icmp .eq 278, (3, []))), (1526, (.iconst 0, (1, []))), (1527, (.ireturn, (1, []))), (1528, (.aload_n 1, (1, [77]))), (1529, (.aload_n 0, (1, [])))]
set_option maxRecDepth 1000000 in
set_option maxHeartbeats 40000000 in
theorem xlo_9_3 : xl_9_3.all (xx_okI xx_tab xm_LAW) = true := by decide +kernel
def xl_9_4 : List xx_I := [(1530, (.iload_n 3, (1, []))), (1531, (.iconst 1, (1, []))), (1532, (.iadd, (1, []))), (1533, (.iaload, (1, []))), (1534, (.aload_n 0, (1, []))), (1535, (.iload_n 3, (1, []))), (1536, (.iconst 2, (1, []))), (1537, (.iadd, (1, []))), (1538, (.iaload, (1, []))), (1539, (.aload_n 0, (1, []))), (1540, (.iload_n 3, (1, []))), (1541, (.iconst 3, (1, [])))]
set_option maxRecDepth 1000000 in
set_option maxHeartbeats 40000000 in
theorem xlo_9_4 : xl_9_4.all (xx_okI xx_tab xm_LAW) = true := by decide +kernel
def xl_9_5 : List xx_I := [(1542, (.iadd, (1, []))), (1543, (.iaload, (1, []))), (1544, (.ifCond .eq 7, (3, []))), (1547, (.iconst 1, (1, []))), (1548, (.goto 4, (3, []))), (1551, (.iconst 0, (1, []))), (1552, (.invokevirtual 227, (3, [0, 88, 3, 6, 991, 0, 992, 993, 130, 994]))), (1555, (.aload_n 2, (1, [77]))), (1556, (.aload_n 0, (1, []))), (1557, (.iload_n 3, (1, []))), (1558, (.iconst 1, (1, []))), (1559, (.iadd, (1, [])))]
set_option maxRecDepth 1000000 in
set_option maxHeartbeats 40000000 in
theorem xlo_9_5 : xl_9_5.all (xx_okI xx_tab xm_LAW) = true := by decide +kernel
def xl_9_6 : List xx_I := [(1560, (.iaload, (1, []))), (1561, (.aload_n 0, (1, []))), (1562, (.iload_n 3, (1, []))), (1563, (.iconst 2, (1, []))), (1564, (.iadd, (1, []))), (1565, (.iaload, (1, []))), (1566, (.aload_n 0, (1, []))), (1567, (.iload_n 3, (1, []))), (1568, (.iconst 3, (1, []))), (1569, (.iadd, (1, []))), (1570, (.iaload, (1, []))), (1571, (.ifCond .eq 7, (3, [])))]
set_option maxRecDepth 1000000 in
set_option maxHeartbeats 40000000 in
theorem xlo_9_6 : xl_9_6.all (xx_okI xx_tab xm_LAW) = true := by decide +kernel
def xl_9_7 : List xx_I := [(1574, (.iconst 1, (1, []))), (1575, (.goto 4, (3, []))), (1578, (.iconst 0, (1, []))), (1579, (.invokevirtual 231, (3, [0, 188, 3, 7, 1763, 0, 1764, 1765, 145, 1766]))), (1582, (.if_icmp .eq 219, (3, []))), (1585, (.iconst 0, (1, []))), (1586, (.ireturn, (1, []))), (1587, (.aload_n 1, (1, [77]))), (1588, (.aload_n 0, (1, []))), (1589, (.iload_n 3, (1, []))), (1590, (.iconst 1, (1, []))), (1591, (.iadd, (1, [])))]
set_option maxRecDepth 1000000 in
set_option maxHeartbeats 40000000 in
theorem xlo_9_7 : xl_9_7.all (xx_okI xx_tab xm_LAW) = true := by decide +kernel
def xl_9_8 : List xx_I := [(1592, (.iaload, (1, []))), (1593, (.invokevirtual 232, (3, [0, 102, 1, 6, 999, 0, 1000, 1001, 130, 1002]))), (1596, (.aload_n 2, (1, [77]))), (1597, (.aload_n 0, (1, [])))]
set_option maxRecDepth 1000000 in
set_option maxHeartbeats 40000000 in
theorem xlo_9_8 : xl_9_8.all (xx_okI xx_tab xm_LAW) = true := by decide +kernel
theorem xo_LAW9 : xr_LAW_9.all (xx_okI xx_tab xm_LAW) = true := by
  have e : xr_LAW_9 = xl_9_0 ++ (xl_9_1 ++ (xl_9_2 ++ (xl_9_3 ++ (xl_9_4 ++ (xl_9_5 ++ (xl_9_6 ++ (xl_9_7 ++ (xl_9_8)))))))) := rfl
  rw [e]
  simp only [List.all_append, xlo_9_0, xlo_9_1, xlo_9_2, xlo_9_3, xlo_9_4, xlo_9_5, xlo_9_6, xlo_9_7, xlo_9_8, Bool.and_self]
def xl_10_0 : List xx_I := [(1598, (.iload_n 3, (1, []))), (1599, (.iconst 1, (1, []))), (1600, (.iadd, (1, []))), (1601, (.iaload, (1, []))), (1602, (.invokevirtual 236, (3, [0, 200, 1, 7, 1767, 0, 1768, 1769, 145, 1770]))), (1605, (.if_icmp .eq 196, (3, []))), (1608, (.iconst 0, (1, []))), (1609, (.ireturn, (1, []))), (1610, (.aload_n 1, (1, [77]))), (1611, (.aload_n 0, (1, []))), (1612, (.iload_n 3, (1, []))), (1613, (.iconst 1, (1, [])))]
set_option maxRecDepth 1000000 in
set_option maxHeartbeats 40000000 in
theorem xlo_10_0 : xl_10_0.all (xx_okI xx_tab xm_LAW) = true := by decide +kernel
def xl_10_1 : List xx_I := [(1614, (.iadd, (1, []))), (1615, (.iaload, (1, []))), (1616, (.invokevirtual 237, (3, [0, 57, 1, 6, 1007, 0, 1008, 1009, 130, 1010]))), (1619, (.aload_n 2, (1, [77]))), (1620, (.aload_n 0, (1, []))), (1621, (.iload_n 3, (1, []))), (1622, (.iconst 1, (1, []))), (1623, (.iadd, (1, []))), (1624, (.iaload, (1, []))), (1625, (.invokevirtual 240, (3, [0, 156, 1, 7, 1771, 0, 1772, 1773, 145, 1774]))), (1628, (.if_icmp .eq 173, (3, []))), (1631, (.iconst 0, (1, [])))]
set_option maxRecDepth 1000000 in
set_option maxHeartbeats 40000000 in
theorem xlo_10_1 : xl_10_1.all (xx_okI xx_tab xm_LAW) = true := by decide +kernel
def xl_10_2 : List xx_I := [(1632, (.ireturn, (1, []))), (1633, (.aload_n 1, (1, [77]))), (1634, (.aload_n 0, (1, []))), (1635, (.iload_n 3, (1, []))), (1636, (.iconst 1, (1, []))), (1637, (.iadd, (1, []))), (1638, (.iaload, (1, []))), (1639, (.invokevirtual 241, (3, [0, 31, 1, 6, 1012, 0, 1013, 1014, 130, 1015]))), (1642, (.aload_n 2, (1, [77]))), (1643, (.aload_n 0, (1, []))), (1644, (.iload_n 3, (1, []))), (1645, (.iconst 1, (1, [])))]
set_option maxRecDepth 1000000 in
set_option maxHeartbeats 40000000 in
theorem xlo_10_2 : xl_10_2.all (xx_okI xx_tab xm_LAW) = true := by decide +kernel
def xl_10_3 : List xx_I := [(1646, (.iadd, (1, []))), (1647, (.iaload, (1, []))), (1648, (.invokevirtual 244, (3, [0, 146, 1, 7, 1776, 0, 1777, 1778, 145, 1779]))), (1651, (.if_icmp .eq 150, (3, []))), (1654, (.iconst 0, (1, []))), (1655, (.ireturn, (1, []))), (1656, (.aload_n 1, (1, [77]))), (1657, (.aload_n 0, (1, []))), (1658, (.iload_n 3, (1, []))), (1659, (.iconst 1, (1, []))), (1660, (.iadd, (1, []))), (1661, (.iaload, (1, [])))]
set_option maxRecDepth 1000000 in
set_option maxHeartbeats 40000000 in
theorem xlo_10_3 : xl_10_3.all (xx_okI xx_tab xm_LAW) = true := by decide +kernel
def xl_10_4 : List xx_I := [(1662, (.aload_n 0, (1, []))), (1663, (.iload_n 3, (1, []))), (1664, (.iconst 2, (1, []))), (1665, (.iadd, (1, []))), (1666, (.iaload, (1, []))), (1667, (.invokevirtual 245, (3, [0, 93, 2, 6, 1040, 0, 1041, 1042, 130, 1043]))), (1670, (.aload_n 2, (1, [77]))), (1671, (.aload_n 0, (1, []))), (1672, (.iload_n 3, (1, []))), (1673, (.iconst 1, (1, []))), (1674, (.iadd, (1, []))), (1675, (.iaload, (1, [])))]
set_option maxRecDepth 1000000 in
set_option maxHeartbeats 40000000 in
theorem xlo_10_4 : xl_10_4.all (xx_okI xx_tab xm_LAW) = true := by decide +kernel
def xl_10_5 : List xx_I := [(1676, (.aload_n 0, (1, []))), (1677, (.iload_n 3, (1, []))), (1678, (.iconst 2, (1, []))), (1679, (.iadd, (1, []))), (1680, (.iaload, (1, []))), (1681, (.invokevirtual 248, (3, [0, 193, 2, 7, 1788, 0, 1789, 1790, 145, 1791]))), (1684, (.if_icmp .eq 117, (3, []))), (1687, (.iconst 0, (1, []))), (1688, (.ireturn, (1, []))), (1689, (.aload_n 1, (1, [77]))), (1690, (.aload_n 0, (1, []))), (1691, (.iload_n 3, (1, [])))]
set_option maxRecDepth 1000000 in
set_option maxHeartbeats 40000000 in
theorem xlo_10_5 : xl_10_5.all (xx_okI xx_tab xm_LAW) = true := by decide +kernel
def xl_10_6 : List xx_I := [(1692, (.iconst 1, (1, []))), (1693, (.iadd, (1, []))), (1694, (.iaload, (1, []))), (1695, (.aload_n 0, (1, []))), (1696, (.iload_n 3, (1, []))), (1697, (.iconst 2, (1, []))), (1698, (.iadd, (1, []))), (1699, (.iaload, (1, []))), (1700, (.aload_n 0, (1, []))), (1701, (.iload_n 3, (1, []))), (1702, (.iconst 3, (1, []))), (1703, (.iadd, (1, [])))]
set_option maxRecDepth 1000000 in
set_option maxHeartbeats 40000000 in
theorem xlo_10_6 : xl_10_6.all (xx_okI xx_tab xm_LAW) = true := by decide +kernel
def xl_10_7 : List xx_I := [(1704, (.iaload, (1, []))), (1705, (.invokevirtual 249, (3, [0, 69, 3, 6, 1044, 0, 1045, 1046, 130, 1047]))), (1708, (.aload_n 2, (1, [77]))), (1709, (.aload_n 0, (1, []))), (1710, (.iload_n 3, (1, []))), (1711, (.iconst 1, (1, []))), (1712, (.iadd, (1, []))), (1713, (.iaload, (1, []))), (1714, (.aload_n 0, (1, []))), (1715, (.iload_n 3, (1, []))), (1716, (.iconst 2, (1, []))), (1717, (.iadd, (1, [])))]
set_option maxRecDepth 1000000 in
set_option maxHeartbeats 40000000 in
theorem xlo_10_7 : xl_10_7.all (xx_okI xx_tab xm_LAW) = true := by decide +kernel
def xl_10_8 : List xx_I := [(1718, (.iaload, (1, []))), (1719, (.aload_n 0, (1, []))), (1720, (.iload_n 3, (1, []))), (1721, (.iconst 3, (1, [])))]
set_option maxRecDepth 1000000 in
set_option maxHeartbeats 40000000 in
theorem xlo_10_8 : xl_10_8.all (xx_okI xx_tab xm_LAW) = true := by decide +kernel
theorem xo_LAW10 : xr_LAW_10.all (xx_okI xx_tab xm_LAW) = true := by
  have e : xr_LAW_10 = xl_10_0 ++ (xl_10_1 ++ (xl_10_2 ++ (xl_10_3 ++ (xl_10_4 ++ (xl_10_5 ++ (xl_10_6 ++ (xl_10_7 ++ (xl_10_8)))))))) := rfl
  rw [e]
  simp only [List.all_append, xlo_10_0, xlo_10_1, xlo_10_2, xlo_10_3, xlo_10_4, xlo_10_5, xlo_10_6, xlo_10_7, xlo_10_8, Bool.and_self]
def xl_11_0 : List xx_I := [(1722, (.iadd, (1, []))), (1723, (.iaload, (1, []))), (1724, (.invokevirtual 252, (3, [0, 167, 3, 7, 1792, 0, 1793, 1794, 145, 1795]))), (1727, (.if_icmp .eq 74, (3, []))), (1730, (.iconst 0, (1, []))), (1731, (.ireturn, (1, []))), (1732, (.aload_n 1, (1, [77]))), (1733, (.aload_n 0, (1, []))), (1734, (.iload_n 3, (1, []))), (1735, (.iconst 1, (1, []))), (1736, (.iadd, (1, []))), (1737, (.iaload, (1, [])))]
set_option maxRecDepth 1000000 in
set_option maxHeartbeats 40000000 in
theorem xlo_11_0 : xl_11_0.all (xx_okI xx_tab xm_LAW) = true := by decide +kernel
def xl_11_1 : List xx_I := [(1738, (.invokevirtual 253, (3, [0, 35, 1, 6, 1049, 0, 1050, 1051, 130, 1052]))), (1741, (.aload_n 2, (1, [77]))), (1742, (.aload_n 0, (1, []))), (1743, (.iload_n 3, (1, []))), (1744, (.iconst 1, (1, []))), (1745, (.iadd, (1, []))), (1746, (.iaload, (1, []))), (1747, (.invokevirtual 256, (3, [0, 150, 1, 7, 1800, 0, 1801, 1802, 145, 1803]))), (1750, (.if_icmp .eq 51, (3, []))), (1753, (.iconst 0, (1, []))), (1754, (.ireturn, (1, []))), (1755, (.aload_n 1, (1, [77])))]
set_option maxRecDepth 1000000 in
set_option maxHeartbeats 40000000 in
theorem xlo_11_1 : xl_11_1.all (xx_okI xx_tab xm_LAW) = true := by decide +kernel
def xl_11_2 : List xx_I := [(1756, (.aload_n 0, (1, []))), (1757, (.iload_n 3, (1, []))), (1758, (.iconst 1, (1, []))), (1759, (.iadd, (1, []))), (1760, (.iaload, (1, []))), (1761, (.invokevirtual 257, (3, [0, 5, 1, 6, 1053, 0, 1054, 1055, 130, 1056]))), (1764, (.aload_n 2, (1, [77]))), (1765, (.aload_n 0, (1, []))), (1766, (.iload_n 3, (1, []))), (1767, (.iconst 1, (1, []))), (1768, (.iadd, (1, []))), (1769, (.iaload, (1, [])))]
set_option maxRecDepth 1000000 in
set_option maxHeartbeats 40000000 in
theorem xlo_11_2 : xl_11_2.all (xx_okI xx_tab xm_LAW) = true := by decide +kernel
def xl_11_3 : List xx_I := [(1770, (.invokevirtual 260, (3, [0, 117, 1, 7, 1804, 0, 1805, 1806, 145, 1807]))), (1773, (.if_icmp .eq 28, (3, []))), (1776, (.iconst 0, (1, []))), (1777, (.ireturn, (1, []))), (1778, (.aload_n 1, (1, [77]))), (1779, (.aload_n 0, (1, []))), (1780, (.iload_n 3, (1, []))), (1781, (.iconst 1, (1, []))), (1782, (.iadd, (1, []))), (1783, (.iaload, (1, []))), (1784, (.invokevirtual 261, (3, [0, 0, 1, 6, 1057, 0, 1058, 1059, 130, 1060]))), (1787, (.aload_n 2, (1, [77])))]
set_option maxRecDepth 1000000 in
set_option maxHeartbeats 40000000 in
theorem xlo_11_3 : xl_11_3.all (xx_okI xx_tab xm_LAW) = true := by decide +kernel
def xl_11_4 : List xx_I := [(1788, (.aload_n 0, (1, []))), (1789, (.iload_n 3, (1, []))), (1790, (.iconst 1, (1, []))), (1791, (.iadd, (1, []))), (1792, (.iaload, (1, []))), (1793, (.invokevirtual 264, (3, [0, 112, 1, 7, 1808, 0, 1809, 1810, 145, 1811]))), (1796, (.if_icmp .eq 5, (3, []))), (1799, (.iconst 0, (1, []))), (1800, (.ireturn, (1, []))), (1801, (.iinc 3 6, (3, []))), (1804, (.goto (-1786), (3, []))), (1807, (.iconst 1, (1, [])))]
set_option maxRecDepth 1000000 in
set_option maxHeartbeats 40000000 in
theorem xlo_11_4 : xl_11_4.all (xx_okI xx_tab xm_LAW) = true := by decide +kernel
def xl_11_5 : List xx_I := [(1808, (.ireturn, (1, [])))]
set_option maxRecDepth 1000000 in
set_option maxHeartbeats 40000000 in
theorem xlo_11_5 : xl_11_5.all (xx_okI xx_tab xm_LAW) = true := by decide +kernel
theorem xo_LAW11 : xr_LAW_11.all (xx_okI xx_tab xm_LAW) = true := by
  have e : xr_LAW_11 = xl_11_0 ++ (xl_11_1 ++ (xl_11_2 ++ (xl_11_3 ++ (xl_11_4 ++ (xl_11_5))))) := rfl
  rw [e]
  simp only [List.all_append, xlo_11_0, xlo_11_1, xlo_11_2, xlo_11_3, xlo_11_4, xlo_11_5, Bool.and_self]
theorem xx_lawk : xx_okM xx_tab xm_LAW = true := by
  have h : xm_LAW.2.2.2.2.2.all (xx_okI xx_tab xm_LAW) = true := by
    show (xr_LAW_0 ++ (xr_LAW_1 ++ (xr_LAW_2 ++ (xr_LAW_3 ++ (xr_LAW_4 ++ (xr_LAW_5 ++ (xr_LAW_6 ++ (xr_LAW_7 ++ (xr_LAW_8 ++ (xr_LAW_9 ++ (xr_LAW_10 ++ (xr_LAW_11)))))))))))).all (xx_okI xx_tab xm_LAW) = true
    simp only [List.all_append, xo_LAW0, xo_LAW1, xo_LAW2, xo_LAW3, xo_LAW4, xo_LAW5, xo_LAW6, xo_LAW7, xo_LAW8, xo_LAW9, xo_LAW10, xo_LAW11, Bool.and_self]
  unfold xx_okM
  rw [h]
  decide +kernel
theorem xx_tbk0 : xx_tb0.all (xx_okM xx_tab) = true := by
  unfold xx_tb0
  simp only [List.all_cons, List.all_nil, xo_X6_about, xo_X6_isPerson, xo_X6_arePeople, xo_X6_alike, xo_X6_ask, xo_X6_back, xo_X6_bet, xo_X6_oneOrNumber, xo_X6_call, xo_X6_common, xo_X6_depth, xo_X6_end, xo_X1_copyFrom, xo_X6_endOf, xo_X6_endNow, xo_X6_ending, xo_X6_fateOf, xo_X6_has, xo_X6_isWorld, xo_X6_isPossible, Bool.and_self]
theorem xx_tbk1 : xx_tb1.all (xx_okM xx_tab) = true := by
  unfold xx_tb1
  simp only [List.all_cons, List.all_nil, xo_X6_fate, xo_X6_fault, xo_X3_append, xo_X6_feed, xo_X6_dawn, xo_X6_first, xo_J13_bitCount_95d88, xo_X5_startDay, xo_X4_follow, xo_X4_followAll, xo_X4_fitting, xo_X6_fits, xo_X6_group, xo_X6_twoOrEnd, xo_X6_hint, xo_X6_image, xo_X1_init, xo_X0_init, xo_X2_init, xo_X5_init, Bool.and_self]
theorem xx_tbk2 : xx_tb2.all (xx_okM xx_tab) = true := by
  unfold xx_tb2
  simp only [List.all_cons, List.all_nil, xo_X3_init, xo_X2_add, xo_X2_isUnit, xo_J6_bitCount_0f7a4, xo_X2_unitIn, xo_X2_valueIn, xo_X3_advance, xo_X5_clear, xo_X3_read, xo_X4_init, xo_X0_forget, xo_X4_forget, xo_X5_copyFrom, xo_X6_startAnew, xo_X6_init, xo_X6_knows, xo_X6_knowsIn, xo_X6_later, xo_X6_latest, xo_X6_law, Bool.and_self]
theorem xx_tbk3 : xx_tb3.all (xx_okM xx_tab) = true := by
  unfold xx_tb3
  simp only [List.all_cons, List.all_nil, xo_X6_least, xo_X6_lies, xo_X0_push, xo_X0_keep, xo_X5_signedLike, xo_X6_measure, xo_X6_meeting, xo_X6_foggyDawn, xo_X6_morning, xo_X6_next, xo_X6_lowest, xo_X6_odds, xo_X6_open, xo_X6_parish, xo_X6_parts, xo_X6_peg, xo_X6_spread, xo_X6_likeTrue, xo_X6_bestPegs, xo_X6_countOrSet, Bool.and_self]
theorem xx_tbk4 : xx_tb4.all (xx_okM xx_tab) = true := by
  unfold xx_tb4
  simp only [List.all_cons, List.all_nil, xo_X6_pegs, xo_X6_person, xo_X6_pin, xo_X6_possible, xo_X6_quiet, xo_X6_reach, xo_X0_doAgain, xo_X6_redo, xo_X6_seen, xo_X6_settled, xo_X6_shared, xo_X6_sign, xo_X6_spy, xo_X6_sure, xo_X6_suspected, xo_X6_tale, xo_X6_talked, xo_X6_thinks, xo_X0_takeBack, xo_X6_undo, Bool.and_self]
theorem xx_tbk5 : xx_tb5.all (xx_okM xx_tab) = true := by
  unfold xx_tb5
  simp only [List.all_cons, List.all_nil, xo_X6_unsure, xo_X4_withdraw, xo_X6_untell, xo_X6_canWhisper, xo_X6_whisper, xo_X6_will, xo_X6_wisest, xo_X6_within, xo_X6_worlds, xo_X6_worldsAt, xo_X6_wronged, xo_X7_folk, xo_X7_about, xo_X7_isIn, xo_X7_isPerson, xo_X7_alike, xo_X7_ask, xo_X7_back, xo_X7_bet, xo_X7_call, Bool.and_self]
theorem xx_tbk6 : xx_tb6.all (xx_okM xx_tab) = true := by
  unfold xx_tb6
  simp only [List.all_cons, List.all_nil, xo_X7_common, xo_X7_depth, xo_X7_end, xo_X7_bringBack, xo_X7_every, xo_X7_ownIn, xo_X7_goMorning, xo_X7_behind, xo_X7_endOf, xo_X7_keepNow, xo_X7_endNow, xo_X7_orNone, xo_X7_ending, xo_X7_fateOf, xo_X7_isWorld, xo_X7_mayBe, xo_X7_fate, xo_X7_fault, xo_X7_feed, xo_X7_first, Bool.and_self]
theorem xx_tbk7 : xx_tb7.all (xx_okM xx_tab) = true := by
  unfold xx_tb7
  simp only [List.all_cons, List.all_nil, xo_X7_doesFit, xo_X7_bit, xo_X7_bitsOf, xo_X7_signOf, xo_X7_layTold, xo_X7_layOwns, xo_X7_fits, xo_X7_group, xo_X7_canWhisper, xo_X7_hint, xo_X7_image, xo_X7_clearBank, xo_X7_startAnew, xo_X7_init, xo_X7_knows, xo_X7_knowsIn, xo_X7_later, xo_X7_latest, xo_X7_law, xo_X7_least, Bool.and_self]
theorem xx_tbk8 : xx_tb8.all (xx_okM xx_tab) = true := by
  unfold xx_tb8
  simp only [List.all_cons, List.all_nil, xo_X7_lies, xo_X7_countMay, xo_X7_keepAct, xo_X7_measure, xo_X7_meeting, xo_X7_goInEarnest, xo_X7_morning, xo_X7_next, xo_X7_divisor, xo_X7_power, xo_X7_odds, xo_X7_open, xo_X7_byteAt, xo_X7_goOn, xo_X7_isGood, xo_X7_parish, xo_X7_parts, xo_X7_peg, xo_X7_endPegged, xo_X7_isLess, Bool.and_self]
theorem xx_tbk9 : xx_tb9.all (xx_okM xx_tab) = true := by
  unfold xx_tb9
  simp only [List.all_cons, List.all_nil, xo_X7_toldOf, xo_X7_pegs, xo_X7_person, xo_X7_pin, xo_X7_possible, xo_X7_quiet, xo_X7_reach, xo_X7_redo, xo_X7_seen, xo_X7_settled, xo_X7_shared, xo_X7_sign, xo_X7_spy, xo_X7_sure, xo_X7_suspected, xo_X7_tale, xo_X7_talked, xo_X7_thinks, xo_X7_undo, xo_X7_unsure, Bool.and_self]
theorem xx_tbk10 : xx_tb10.all (xx_okM xx_tab) = true := by
  unfold xx_tb10
  simp only [List.all_cons, List.all_nil, xo_X7_untell, xo_X7_whisper, xo_X7_will, xo_X7_wisest, xo_X7_within, xo_X7_worlds, xo_X7_worldsAt, xo_X7_wronged, Bool.and_self]
