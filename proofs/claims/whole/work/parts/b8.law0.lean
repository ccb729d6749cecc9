/-! entries of the law -/
def m_law : cp_M := (⟨"ColdPlungeLaw", "law", "([I)Z"⟩, code, 7, some .boolean)
def b_Lw_0 : List cp_AI := [(0, .new 8, 3, [10, 14], [123, 124, 101], 0, 0, cp_m0), (3, .dup, 1, [], [], 0, 0, cp_m0), (4, .invokespecial 15, 3, [0, 0, 43, 1324], [125, 126], 0, 0, m_CP_init), (7, .astore_n 1, 1, [1], [], 0, 0, cp_m0), (8, .new 16, 3, [11, 41], [1380, 1381, 112], 0, 0, cp_m0), (11, .dup, 1, [], [], 0, 0, cp_m0), (12, .invokespecial 18, 3, [0, 0, 14, 2037], [1382, 1383], 0, 0, m_Mod_init), (15, .astore_n 2, 1, [2], [], 0, 0, cp_m0), (16, .iconst 1, 1, [], [], 1, 0, cp_m0), (17, .newarray .long, 2, [2], [235], 0, 0, cp_m0), (19, .astore_n 3, 1, [3], [], 0, 0, cp_m0), (20, .iconst 0, 1, [], [], 0, 0, cp_m0), (21, .istore 4, 2, [4], [], 0, 0, cp_m0), (23, .nop, 0, [], [], 0, 0, cp_m0)]
def bl_Lw : List (Nat × List cp_AI) := [(0, b_Lw_0)]
set_option maxRecDepth 100000 in
theorem ck_Lw : cp_bl m_law bl_Lw = true := by decide +kernel
theorem j_Lw_0 : cp_jl bl_Lw 0 = b_Lw_0 := rfl
def b_LwS_23 : List cp_AI := [(23, .iload 4, 2, [4], [], 0, 0, cp_m0), (25, .aload_n 0, 1, [0], [], 0, 0, cp_m0), (26, .arraylength, 1, [0], [], 0, 0, cp_m0), (27, .bipush 6, 2, [], [], 6, 0, cp_m0), (29, .isub, 1, [], [], 0, 0, cp_m0), (30, .if_icmp .gt 1922, 3, [1952], [], 0, 0, cp_m0), (33, .aload_n 0, 1, [0], [], 0, 0, cp_m0), (34, .iload 4, 2, [4], [], 0, 0, cp_m0), (36, .iaload, 1, [1], [], 0, 0, cp_m0), (37, .bipush 63, 2, [], [], 63, 0, cp_m0), (39, .iand, 1, [], [], 0, 0, cp_m0), (40, .tableswitch 1906 0 63 #[272, 345, 370, 383, 396, 433, 470, 483, 508, 533, 546, 571, 596, 621, 634, 647, 672, 685, 710, 735, 760, 785, 810, 835, 860, 897, 910, 923, 936, 949, 974, 1011, 1024, 1049, 1074, 1111, 1124, 1137, 1162, 1175, 1188, 1201, 1214, 1227, 1240, 1253, 1278, 1387, 1412, 1437, 1491, 1533, 1575, 1624, 1661, 1686, 1711, 1748, 1761, 1774, 1787, 1812, 1868, 1893], 272, [1946, 312, 385, 410, 423, 436, 473, 510, 523, 548, 573, 586, 611, 636, 661, 674, 687, 712, 725, 750, 775, 800, 825, 850, 875, 900, 937, 950, 963, 976, 989, 1014, 1051, 1064, 1089, 1114, 1151, 1164, 1177, 1202, 1215, 1228, 1241, 1254, 1267, 1280, 1293, 1318, 1427, 1452, 1477, 1531, 1573, 1615, 1664, 1701, 1726, 1751, 1788, 1801, 1814, 1827, 1852, 1908, 1933], [], 0, 0, cp_m0)]
def bl_LwS : List (Nat × List cp_AI) := [(23, b_LwS_23)]
set_option maxRecDepth 100000 in
theorem ck_LwS : cp_bl m_law bl_LwS = true := by decide +kernel
theorem j_LwS_23 : cp_jl bl_LwS 23 = b_LwS_23 := rfl
def b_LwE_1946 : List cp_AI := [(1946, .iinc 4 6, 3, [4], [], 6, 0, cp_m0), (1949, .goto (-1926), 3, [23], [], 0, 0, cp_m0)]
def bl_LwE : List (Nat × List cp_AI) := [(1946, b_LwE_1946)]
set_option maxRecDepth 100000 in
theorem ck_LwE : cp_bl m_law bl_LwE = true := by decide +kernel
theorem j_LwE_1946 : cp_jl bl_LwE 1946 = b_LwE_1946 := rfl
def b_LwX_1952 : List cp_AI := [(1952, .iconst 1, 1, [], [], 1, 0, cp_m0), (1953, .ireturn, 1, [1], [], 0, 0, cp_m0)]
def bl_LwX : List (Nat × List cp_AI) := [(1952, b_LwX_1952)]
set_option maxRecDepth 100000 in
theorem ck_LwX : cp_bl m_law bl_LwX = true := by decide +kernel
theorem j_LwX_1952 : cp_jl bl_LwX 1952 = b_LwX_1952 := rfl
def b_Lw0_312 : List cp_AI := [(312, .aload_n 1, 1, [1], [], 0, 0, cp_m0), (313, .aload_n 0, 1, [0], [], 0, 0, cp_m0), (314, .iload 4, 2, [4], [], 0, 0, cp_m0), (316, .iconst 1, 1, [], [], 1, 0, cp_m0), (317, .iadd, 1, [], [], 0, 0, cp_m0), (318, .iaload, 1, [1], [], 0, 0, cp_m0), (319, .aload_n 0, 1, [0], [], 0, 0, cp_m0), (320, .iload 4, 2, [4], [], 0, 0, cp_m0), (322, .iconst 2, 1, [], [], 2, 0, cp_m0), (323, .iadd, 1, [], [], 0, 0, cp_m0), (324, .iaload, 1, [1], [], 0, 0, cp_m0), (325, .aload_n 0, 1, [0], [], 0, 0, cp_m0), (326, .iload 4, 2, [4], [], 0, 0, cp_m0), (328, .iconst 3, 1, [], [], 3, 0, cp_m0), (329, .iadd, 1, [], [], 0, 0, cp_m0), (330, .iaload, 1, [1], [], 0, 0, cp_m0), (331, .aload_n 0, 1, [0], [], 0, 0, cp_m0), (332, .iload 4, 2, [4], [], 0, 0, cp_m0), (334, .iconst 4, 1, [], [], 4, 0, cp_m0), (335, .iadd, 1, [], [], 0, 0, cp_m0), (336, .iaload, 1, [1], [], 0, 0, cp_m0), (337, .aload_n 0, 1, [0], [], 0, 0, cp_m0), (338, .iload 4, 2, [4], [], 0, 0, cp_m0), (340, .iconst 5, 1, [], [], 5, 0, cp_m0), (341, .iadd, 1, [], [], 0, 0, cp_m0), (342, .iaload, 1, [1], [], 0, 0, cp_m0), (343, .invokevirtual 19, 3, [5, 10, 14, 0, 0], [466, 467, 468], 0, 0, m_CP_feed), (346, .aload_n 2, 1, [2], [], 0, 0, cp_m0), (347, .aload_n 0, 1, [0], [], 0, 0, cp_m0), (348, .iload 4, 2, [4], [], 0, 0, cp_m0), (350, .iconst 1, 1, [], [], 1, 0, cp_m0), (351, .iadd, 1, [], [], 0, 0, cp_m0), (352, .iaload, 1, [1], [], 0, 0, cp_m0), (353, .aload_n 0, 1, [0], [], 0, 0, cp_m0), (354, .iload 4, 2, [4], [], 0, 0, cp_m0), (356, .iconst 2, 1, [], [], 2, 0, cp_m0), (357, .iadd, 1, [], [], 0, 0, cp_m0), (358, .iaload, 1, [1], [], 0, 0, cp_m0), (359, .aload_n 0, 1, [0], [], 0, 0, cp_m0), (360, .iload 4, 2, [4], [], 0, 0, cp_m0), (362, .iconst 3, 1, [], [], 3, 0, cp_m0), (363, .iadd, 1, [], [], 0, 0, cp_m0), (364, .iaload, 1, [1], [], 0, 0, cp_m0), (365, .aload_n 0, 1, [0], [], 0, 0, cp_m0), (366, .iload 4, 2, [4], [], 0, 0, cp_m0), (368, .iconst 4, 1, [], [], 4, 0, cp_m0), (369, .iadd, 1, [], [], 0, 0, cp_m0), (370, .iaload, 1, [1], [], 0, 0, cp_m0), (371, .aload_n 0, 1, [0], [], 0, 0, cp_m0), (372, .iload 4, 2, [4], [], 0, 0, cp_m0), (374, .iconst 5, 1, [], [], 5, 0, cp_m0), (375, .iadd, 1, [], [], 0, 0, cp_m0), (376, .iaload, 1, [1], [], 0, 0, cp_m0), (377, .invokevirtual 23, 3, [5, 11, 41, 0, 0], [1514, 1515, 1516], 0, 0, m_Mod_feed), (380, .if_icmp .eq 1566, 3, [1946], [], 0, 0, cp_m0), (383, .iconst 0, 1, [], [], 0, 0, cp_m0), (384, .ireturn, 1, [1], [], 0, 0, cp_m0)]
def bl_Lw0 : List (Nat × List cp_AI) := [(312, b_Lw0_312)]
set_option maxRecDepth 100000 in
theorem ck_Lw0 : cp_bl m_law bl_Lw0 = true := by decide +kernel
theorem j_Lw0_312 : cp_jl bl_Lw0 312 = b_Lw0_312 := rfl
def b_Lw1_385 : List cp_AI := [(385, .aload_n 1, 1, [1], [], 0, 0, cp_m0), (386, .aload_n 0, 1, [0], [], 0, 0, cp_m0), (387, .iload 4, 2, [4], [], 0, 0, cp_m0), (389, .iconst 1, 1, [], [], 1, 0, cp_m0), (390, .iadd, 1, [], [], 0, 0, cp_m0), (391, .iaload, 1, [1], [], 0, 0, cp_m0), (392, .invokevirtual 24, 3, [1, 10, 14, 0, 0], [474, 475, 476], 0, 0, m_CP_plunge), (395, .aload_n 2, 1, [2], [], 0, 0, cp_m0), (396, .aload_n 0, 1, [0], [], 0, 0, cp_m0), (397, .iload 4, 2, [4], [], 0, 0, cp_m0), (399, .iconst 1, 1, [], [], 1, 0, cp_m0), (400, .iadd, 1, [], [], 0, 0, cp_m0), (401, .iaload, 1, [1], [], 0, 0, cp_m0), (402, .invokevirtual 27, 3, [1, 11, 41, 0, 0], [1518, 1519, 1520], 0, 0, m_Mod_plunge), (405, .if_icmp .eq 1541, 3, [1946], [], 0, 0, cp_m0), (408, .iconst 0, 1, [], [], 0, 0, cp_m0), (409, .ireturn, 1, [1], [], 0, 0, cp_m0)]
def bl_Lw1 : List (Nat × List cp_AI) := [(385, b_Lw1_385)]
set_option maxRecDepth 100000 in
theorem ck_Lw1 : cp_bl m_law bl_Lw1 = true := by decide +kernel
theorem j_Lw1_385 : cp_jl bl_Lw1 385 = b_Lw1_385 := rfl
def b_Lw2_410 : List cp_AI := [(410, .aload_n 1, 1, [1], [], 0, 0, cp_m0), (411, .invokevirtual 28, 3, [0, 10, 14, 0, 0], [713, 714, 715], 0, 0, m_CP_fault), (414, .aload_n 2, 1, [2], [], 0, 0, cp_m0), (415, .invokevirtual 32, 3, [0, 11, 41, 0, 0], [1646, 1647, 1648], 0, 0, m_Mod_fault), (418, .if_icmp .eq 1528, 3, [1946], [], 0, 0, cp_m0), (421, .iconst 0, 1, [], [], 0, 0, cp_m0), (422, .ireturn, 1, [1], [], 0, 0, cp_m0)]
def bl_Lw2 : List (Nat × List cp_AI) := [(410, b_Lw2_410)]
set_option maxRecDepth 100000 in
theorem ck_Lw2 : cp_bl m_law bl_Lw2 = true := by decide +kernel
theorem j_Lw2_410 : cp_jl bl_Lw2 410 = b_Lw2_410 := rfl
def b_Lw3_423 : List cp_AI := [(423, .aload_n 1, 1, [1], [], 0, 0, cp_m0), (424, .invokevirtual 33, 3, [0, 10, 14, 0, 0], [717, 718, 719], 0, 0, m_CP_where), (427, .aload_n 2, 1, [2], [], 0, 0, cp_m0), (428, .invokevirtual 36, 3, [0, 11, 41, 0, 0], [1650, 1651, 1652], 0, 0, m_Mod_where), (431, .if_icmp .eq 1515, 3, [1946], [], 0, 0, cp_m0), (434, .iconst 0, 1, [], [], 0, 0, cp_m0), (435, .ireturn, 1, [1], [], 0, 0, cp_m0)]
def bl_Lw3 : List (Nat × List cp_AI) := [(423, b_Lw3_423)]
set_option maxRecDepth 100000 in
theorem ck_Lw3 : cp_bl m_law bl_Lw3 = true := by decide +kernel
theorem j_Lw3_423 : cp_jl bl_Lw3 423 = b_Lw3_423 := rfl
def b_Lw4_436 : List cp_AI := [(436, .aload_n 1, 1, [1], [], 0, 0, cp_m0), (437, .aload_n 0, 1, [0], [], 0, 0, cp_m0), (438, .iload 4, 2, [4], [], 0, 0, cp_m0), (440, .iconst 1, 1, [], [], 1, 0, cp_m0), (441, .iadd, 1, [], [], 0, 0, cp_m0), (442, .iaload, 1, [1], [], 0, 0, cp_m0), (443, .aload_n 0, 1, [0], [], 0, 0, cp_m0), (444, .iload 4, 2, [4], [], 0, 0, cp_m0), (446, .iconst 2, 1, [], [], 2, 0, cp_m0), (447, .iadd, 1, [], [], 0, 0, cp_m0), (448, .iaload, 1, [1], [], 0, 0, cp_m0), (449, .invokevirtual 37, 3, [2, 10, 14, 0, 0], [721, 722, 723], 0, 0, m_CP_bather), (452, .aload_n 2, 1, [2], [], 0, 0, cp_m0), (453, .aload_n 0, 1, [0], [], 0, 0, cp_m0), (454, .iload 4, 2, [4], [], 0, 0, cp_m0), (456, .iconst 1, 1, [], [], 1, 0, cp_m0), (457, .iadd, 1, [], [], 0, 0, cp_m0), (458, .iaload, 1, [1], [], 0, 0, cp_m0), (459, .aload_n 0, 1, [0], [], 0, 0, cp_m0), (460, .iload 4, 2, [4], [], 0, 0, cp_m0), (462, .iconst 2, 1, [], [], 2, 0, cp_m0), (463, .iadd, 1, [], [], 0, 0, cp_m0), (464, .iaload, 1, [1], [], 0, 0, cp_m0), (465, .invokevirtual 41, 3, [2, 11, 41, 0, 0], [1654, 1655, 1656], 0, 0, m_Mod_bather), (468, .if_icmp .eq 1478, 3, [1946], [], 0, 0, cp_m0), (471, .iconst 0, 1, [], [], 0, 0, cp_m0), (472, .ireturn, 1, [1], [], 0, 0, cp_m0)]
def bl_Lw4 : List (Nat × List cp_AI) := [(436, b_Lw4_436)]
set_option maxRecDepth 100000 in
theorem ck_Lw4 : cp_bl m_law bl_Lw4 = true := by decide +kernel
theorem j_Lw4_436 : cp_jl bl_Lw4 436 = b_Lw4_436 := rfl
def b_Lw5_473 : List cp_AI := [(473, .aload_n 1, 1, [1], [], 0, 0, cp_m0), (474, .aload_n 0, 1, [0], [], 0, 0, cp_m0), (475, .iload 4, 2, [4], [], 0, 0, cp_m0), (477, .iconst 1, 1, [], [], 1, 0, cp_m0), (478, .iadd, 1, [], [], 0, 0, cp_m0), (479, .iaload, 1, [1], [], 0, 0, cp_m0), (480, .aload_n 0, 1, [0], [], 0, 0, cp_m0), (481, .iload 4, 2, [4], [], 0, 0, cp_m0), (483, .iconst 2, 1, [], [], 2, 0, cp_m0), (484, .iadd, 1, [], [], 0, 0, cp_m0), (485, .iaload, 1, [1], [], 0, 0, cp_m0), (486, .invokevirtual 42, 3, [2, 10, 14, 0, 0], [743, 744, 745], 0, 0, m_CP_ties), (489, .aload_n 2, 1, [2], [], 0, 0, cp_m0), (490, .aload_n 0, 1, [0], [], 0, 0, cp_m0), (491, .iload 4, 2, [4], [], 0, 0, cp_m0), (493, .iconst 1, 1, [], [], 1, 0, cp_m0), (494, .iadd, 1, [], [], 0, 0, cp_m0), (495, .iaload, 1, [1], [], 0, 0, cp_m0), (496, .aload_n 0, 1, [0], [], 0, 0, cp_m0), (497, .iload 4, 2, [4], [], 0, 0, cp_m0), (499, .iconst 2, 1, [], [], 2, 0, cp_m0), (500, .iadd, 1, [], [], 0, 0, cp_m0), (501, .iaload, 1, [1], [], 0, 0, cp_m0), (502, .invokevirtual 45, 3, [2, 11, 41, 0, 0], [1689, 1690, 1691], 0, 0, m_Mod_ties), (505, .if_icmp .eq 1441, 3, [1946], [], 0, 0, cp_m0), (508, .iconst 0, 1, [], [], 0, 0, cp_m0), (509, .ireturn, 1, [1], [], 0, 0, cp_m0)]
def bl_Lw5 : List (Nat × List cp_AI) := [(473, b_Lw5_473)]
set_option maxRecDepth 100000 in
theorem ck_Lw5 : cp_bl m_law bl_Lw5 = true := by decide +kernel
theorem j_Lw5_473 : cp_jl bl_Lw5 473 = b_Lw5_473 := rfl
def b_Lw6_510 : List cp_AI := [(510, .aload_n 1, 1, [1], [], 0, 0, cp_m0), (511, .invokevirtual 46, 3, [0, 10, 14, 0, 0], [752, 753, 754], 0, 0, m_CP_company), (514, .aload_n 2, 1, [2], [], 0, 0, cp_m0), (515, .invokevirtual 49, 3, [0, 11, 41, 0, 0], [1697, 1698, 1699], 0, 0, m_Mod_company), (518, .if_icmp .eq 1428, 3, [1946], [], 0, 0, cp_m0), (521, .iconst 0, 1, [], [], 0, 0, cp_m0), (522, .ireturn, 1, [1], [], 0, 0, cp_m0)]
def bl_Lw6 : List (Nat × List cp_AI) := [(510, b_Lw6_510)]
set_option maxRecDepth 100000 in
theorem ck_Lw6 : cp_bl m_law bl_Lw6 = true := by decide +kernel
theorem j_Lw6_510 : cp_jl bl_Lw6 510 = b_Lw6_510 := rfl
def b_Lw7_523 : List cp_AI := [(523, .aload_n 1, 1, [1], [], 0, 0, cp_m0), (524, .aload_n 0, 1, [0], [], 0, 0, cp_m0), (525, .iload 4, 2, [4], [], 0, 0, cp_m0), (527, .iconst 1, 1, [], [], 1, 0, cp_m0), (528, .iadd, 1, [], [], 0, 0, cp_m0), (529, .iaload, 1, [1], [], 0, 0, cp_m0), (530, .invokevirtual 50, 3, [1, 10, 14, 0, 0], [760, 761, 762], 0, 0, m_CP_warmth), (533, .aload_n 2, 1, [2], [], 0, 0, cp_m0), (534, .aload_n 0, 1, [0], [], 0, 0, cp_m0), (535, .iload 4, 2, [4], [], 0, 0, cp_m0), (537, .iconst 1, 1, [], [], 1, 0, cp_m0), (538, .iadd, 1, [], [], 0, 0, cp_m0), (539, .iaload, 1, [1], [], 0, 0, cp_m0), (540, .invokevirtual 53, 3, [1, 11, 41, 0, 0], [1701, 1702, 1703], 0, 0, m_Mod_warmth), (543, .if_icmp .eq 1403, 3, [1946], [], 0, 0, cp_m0), (546, .iconst 0, 1, [], [], 0, 0, cp_m0), (547, .ireturn, 1, [1], [], 0, 0, cp_m0)]
def bl_Lw7 : List (Nat × List cp_AI) := [(523, b_Lw7_523)]
set_option maxRecDepth 100000 in
theorem ck_Lw7 : cp_bl m_law bl_Lw7 = true := by decide +kernel
theorem j_Lw7_523 : cp_jl bl_Lw7 523 = b_Lw7_523 := rfl
def b_Lw8_548 : List cp_AI := [(548, .aload_n 1, 1, [1], [], 0, 0, cp_m0), (549, .aload_n 0, 1, [0], [], 0, 0, cp_m0), (550, .iload 4, 2, [4], [], 0, 0, cp_m0), (552, .iconst 1, 1, [], [], 1, 0, cp_m0), (553, .iadd, 1, [], [], 0, 0, cp_m0), (554, .iaload, 1, [1], [], 0, 0, cp_m0), (555, .invokevirtual 54, 3, [1, 10, 14, 0, 0], [777, 778, 779], 0, 0, m_CP_bear), (558, .aload_n 2, 1, [2], [], 0, 0, cp_m0), (559, .aload_n 0, 1, [0], [], 0, 0, cp_m0), (560, .iload 4, 2, [4], [], 0, 0, cp_m0), (562, .iconst 1, 1, [], [], 1, 0, cp_m0), (563, .iadd, 1, [], [], 0, 0, cp_m0), (564, .iaload, 1, [1], [], 0, 0, cp_m0), (565, .invokevirtual 57, 3, [1, 11, 41, 0, 0], [1717, 1718, 1719], 0, 0, m_Mod_bear), (568, .if_icmp .eq 1378, 3, [1946], [], 0, 0, cp_m0), (571, .iconst 0, 1, [], [], 0, 0, cp_m0), (572, .ireturn, 1, [1], [], 0, 0, cp_m0)]
def bl_Lw8 : List (Nat × List cp_AI) := [(548, b_Lw8_548)]
set_option maxRecDepth 100000 in
theorem ck_Lw8 : cp_bl m_law bl_Lw8 = true := by decide +kernel
theorem j_Lw8_548 : cp_jl bl_Lw8 548 = b_Lw8_548 := rfl
def b_Lw9_573 : List cp_AI := [(573, .aload_n 1, 1, [1], [], 0, 0, cp_m0), (574, .invokevirtual 58, 3, [0, 10, 14, 0, 0], [781, 782, 783], 0, 0, m_CP_iced), (577, .aload_n 2, 1, [2], [], 0, 0, cp_m0), (578, .invokevirtual 61, 3, [0, 11, 41, 0, 0], [1721, 1722, 1723], 0, 0, m_Mod_iced), (581, .if_icmp .eq 1365, 3, [1946], [], 0, 0, cp_m0), (584, .iconst 0, 1, [], [], 0, 0, cp_m0), (585, .ireturn, 1, [1], [], 0, 0, cp_m0)]
def bl_Lw9 : List (Nat × List cp_AI) := [(573, b_Lw9_573)]
set_option maxRecDepth 100000 in
theorem ck_Lw9 : cp_bl m_law bl_Lw9 = true := by decide +kernel
theorem j_Lw9_573 : cp_jl bl_Lw9 573 = b_Lw9_573 := rfl
def b_Lw10_586 : List cp_AI := [(586, .aload_n 1, 1, [1], [], 0, 0, cp_m0), (587, .aload_n 0, 1, [0], [], 0, 0, cp_m0), (588, .iload 4, 2, [4], [], 0, 0, cp_m0), (590, .iconst 1, 1, [], [], 1, 0, cp_m0), (591, .iadd, 1, [], [], 0, 0, cp_m0), (592, .iaload, 1, [1], [], 0, 0, cp_m0), (593, .invokevirtual 62, 3, [1, 10, 14, 0, 0], [789, 790, 791], 0, 0, m_CP_stays), (596, .aload_n 2, 1, [2], [], 0, 0, cp_m0), (597, .aload_n 0, 1, [0], [], 0, 0, cp_m0), (598, .iload 4, 2, [4], [], 0, 0, cp_m0), (600, .iconst 1, 1, [], [], 1, 0, cp_m0), (601, .iadd, 1, [], [], 0, 0, cp_m0), (602, .iaload, 1, [1], [], 0, 0, cp_m0), (603, .invokevirtual 65, 3, [1, 11, 41, 0, 0], [1725, 1726, 1727], 0, 0, m_Mod_stays), (606, .if_icmp .eq 1340, 3, [1946], [], 0, 0, cp_m0), (609, .iconst 0, 1, [], [], 0, 0, cp_m0), (610, .ireturn, 1, [1], [], 0, 0, cp_m0)]
def bl_Lw10 : List (Nat × List cp_AI) := [(586, b_Lw10_586)]
set_option maxRecDepth 100000 in
theorem ck_Lw10 : cp_bl m_law bl_Lw10 = true := by decide +kernel
theorem j_Lw10_586 : cp_jl bl_Lw10 586 = b_Lw10_586 := rfl
def b_Lw11_611 : List cp_AI := [(611, .aload_n 1, 1, [1], [], 0, 0, cp_m0), (612, .aload_n 0, 1, [0], [], 0, 0, cp_m0), (613, .iload 4, 2, [4], [], 0, 0, cp_m0), (615, .iconst 1, 1, [], [], 1, 0, cp_m0), (616, .iadd, 1, [], [], 0, 0, cp_m0), (617, .iaload, 1, [1], [], 0, 0, cp_m0), (618, .invokevirtual 66, 3, [1, 10, 14, 0, 0], [802, 803, 804], 0, 0, m_CP_minutes), (621, .aload_n 2, 1, [2], [], 0, 0, cp_m0), (622, .aload_n 0, 1, [0], [], 0, 0, cp_m0), (623, .iload 4, 2, [4], [], 0, 0, cp_m0), (625, .iconst 1, 1, [], [], 1, 0, cp_m0), (626, .iadd, 1, [], [], 0, 0, cp_m0), (627, .iaload, 1, [1], [], 0, 0, cp_m0), (628, .invokevirtual 69, 3, [1, 11, 41, 0, 0], [1737, 1738, 1739], 0, 0, m_Mod_minutes), (631, .if_icmp .eq 1315, 3, [1946], [], 0, 0, cp_m0), (634, .iconst 0, 1, [], [], 0, 0, cp_m0), (635, .ireturn, 1, [1], [], 0, 0, cp_m0)]
def bl_Lw11 : List (Nat × List cp_AI) := [(611, b_Lw11_611)]
set_option maxRecDepth 100000 in
theorem ck_Lw11 : cp_bl m_law bl_Lw11 = true := by decide +kernel
theorem j_Lw11_611 : cp_jl bl_Lw11 611 = b_Lw11_611 := rfl
def b_Lw12_636 : List cp_AI := [(636, .aload_n 1, 1, [1], [], 0, 0, cp_m0), (637, .aload_n 0, 1, [0], [], 0, 0, cp_m0), (638, .iload 4, 2, [4], [], 0, 0, cp_m0), (640, .iconst 1, 1, [], [], 1, 0, cp_m0), (641, .iadd, 1, [], [], 0, 0, cp_m0), (642, .iaload, 1, [1], [], 0, 0, cp_m0), (643, .invokevirtual 70, 3, [1, 10, 14, 0, 0], [810, 811, 812], 0, 0, m_CP_spare), (646, .aload_n 2, 1, [2], [], 0, 0, cp_m0), (647, .aload_n 0, 1, [0], [], 0, 0, cp_m0), (648, .iload 4, 2, [4], [], 0, 0, cp_m0), (650, .iconst 1, 1, [], [], 1, 0, cp_m0), (651, .iadd, 1, [], [], 0, 0, cp_m0), (652, .iaload, 1, [1], [], 0, 0, cp_m0), (653, .invokevirtual 73, 3, [1, 11, 41, 0, 0], [1749, 1750, 1751], 0, 0, m_Mod_spare), (656, .if_icmp .eq 1290, 3, [1946], [], 0, 0, cp_m0), (659, .iconst 0, 1, [], [], 0, 0, cp_m0), (660, .ireturn, 1, [1], [], 0, 0, cp_m0)]
def bl_Lw12 : List (Nat × List cp_AI) := [(636, b_Lw12_636)]
set_option maxRecDepth 100000 in
theorem ck_Lw12 : cp_bl m_law bl_Lw12 = true := by decide +kernel
theorem j_Lw12_636 : cp_jl bl_Lw12 636 = b_Lw12_636 := rfl
def b_Lw13_661 : List cp_AI := [(661, .aload_n 1, 1, [1], [], 0, 0, cp_m0), (662, .invokevirtual 74, 3, [0, 10, 14, 0, 0], [814, 815, 816], 0, 0, m_CP_closest), (665, .aload_n 2, 1, [2], [], 0, 0, cp_m0), (666, .invokevirtual 77, 3, [0, 11, 41, 0, 0], [1753, 1754, 1755], 0, 0, m_Mod_closest), (669, .if_icmp .eq 1277, 3, [1946], [], 0, 0, cp_m0), (672, .iconst 0, 1, [], [], 0, 0, cp_m0), (673, .ireturn, 1, [1], [], 0, 0, cp_m0)]
def bl_Lw13 : List (Nat × List cp_AI) := [(661, b_Lw13_661)]
set_option maxRecDepth 100000 in
theorem ck_Lw13 : cp_bl m_law bl_Lw13 = true := by decide +kernel
theorem j_Lw13_661 : cp_jl bl_Lw13 661 = b_Lw13_661 := rfl
def b_Lw14_674 : List cp_AI := [(674, .aload_n 1, 1, [1], [], 0, 0, cp_m0), (675, .invokevirtual 78, 3, [0, 10, 14, 0, 0], [822, 823, 824], 0, 0, m_CP_loneliest), (678, .aload_n 2, 1, [2], [], 0, 0, cp_m0), (679, .invokevirtual 81, 3, [0, 11, 41, 0, 0], [1757, 1758, 1759], 0, 0, m_Mod_loneliest), (682, .if_icmp .eq 1264, 3, [1946], [], 0, 0, cp_m0), (685, .iconst 0, 1, [], [], 0, 0, cp_m0), (686, .ireturn, 1, [1], [], 0, 0, cp_m0)]
def bl_Lw14 : List (Nat × List cp_AI) := [(674, b_Lw14_674)]
set_option maxRecDepth 100000 in
theorem ck_Lw14 : cp_bl m_law bl_Lw14 = true := by decide +kernel
theorem j_Lw14_674 : cp_jl bl_Lw14 674 = b_Lw14_674 := rfl
def b_Lw15_687 : List cp_AI := [(687, .aload_n 1, 1, [1], [], 0, 0, cp_m0), (688, .aload_n 0, 1, [0], [], 0, 0, cp_m0), (689, .iload 4, 2, [4], [], 0, 0, cp_m0), (691, .iconst 1, 1, [], [], 1, 0, cp_m0), (692, .iadd, 1, [], [], 0, 0, cp_m0), (693, .iaload, 1, [1], [], 0, 0, cp_m0), (694, .invokevirtual 82, 3, [1, 10, 14, 0, 0], [836, 837, 838], 0, 0, m_CP_mates), (697, .aload_n 2, 1, [2], [], 0, 0, cp_m0), (698, .aload_n 0, 1, [0], [], 0, 0, cp_m0), (699, .iload 4, 2, [4], [], 0, 0, cp_m0), (701, .iconst 1, 1, [], [], 1, 0, cp_m0), (702, .iadd, 1, [], [], 0, 0, cp_m0), (703, .iaload, 1, [1], [], 0, 0, cp_m0), (704, .invokevirtual 85, 3, [1, 11, 41, 0, 0], [1741, 1742, 1743], 0, 0, m_Mod_mates), (707, .if_icmp .eq 1239, 3, [1946], [], 0, 0, cp_m0), (710, .iconst 0, 1, [], [], 0, 0, cp_m0), (711, .ireturn, 1, [1], [], 0, 0, cp_m0)]
def bl_Lw15 : List (Nat × List cp_AI) := [(687, b_Lw15_687)]
set_option maxRecDepth 100000 in
theorem ck_Lw15 : cp_bl m_law bl_Lw15 = true := by decide +kernel
theorem j_Lw15_687 : cp_jl bl_Lw15 687 = b_Lw15_687 := rfl
def b_Lw16_712 : List cp_AI := [(712, .aload_n 1, 1, [1], [], 0, 0, cp_m0), (713, .invokevirtual 86, 3, [0, 10, 14, 0, 0], [844, 845, 846], 0, 0, m_CP_most), (716, .aload_n 2, 1, [2], [], 0, 0, cp_m0), (717, .invokevirtual 89, 3, [0, 11, 41, 0, 0], [1764, 1765, 1766], 0, 0, m_Mod_most), (720, .if_icmp .eq 1226, 3, [1946], [], 0, 0, cp_m0), (723, .iconst 0, 1, [], [], 0, 0, cp_m0), (724, .ireturn, 1, [1], [], 0, 0, cp_m0)]
def bl_Lw16 : List (Nat × List cp_AI) := [(712, b_Lw16_712)]
set_option maxRecDepth 100000 in
theorem ck_Lw16 : cp_bl m_law bl_Lw16 = true := by decide +kernel
theorem j_Lw16_712 : cp_jl bl_Lw16 712 = b_Lw16_712 := rfl
def b_Lw17_725 : List cp_AI := [(725, .aload_n 1, 1, [1], [], 0, 0, cp_m0), (726, .aload_n 0, 1, [0], [], 0, 0, cp_m0), (727, .iload 4, 2, [4], [], 0, 0, cp_m0), (729, .iconst 1, 1, [], [], 1, 0, cp_m0), (730, .iadd, 1, [], [], 0, 0, cp_m0), (731, .iaload, 1, [1], [], 0, 0, cp_m0), (732, .invokevirtual 90, 3, [1, 10, 14, 0, 0], [855, 856, 857], 0, 0, m_CP_mostWith), (735, .aload_n 2, 1, [2], [], 0, 0, cp_m0), (736, .aload_n 0, 1, [0], [], 0, 0, cp_m0), (737, .iload 4, 2, [4], [], 0, 0, cp_m0), (739, .iconst 1, 1, [], [], 1, 0, cp_m0), (740, .iadd, 1, [], [], 0, 0, cp_m0), (741, .iaload, 1, [1], [], 0, 0, cp_m0), (742, .invokevirtual 93, 3, [1, 11, 41, 0, 0], [1772, 1773, 1774], 0, 0, m_Mod_mostWith), (745, .if_icmp .eq 1201, 3, [1946], [], 0, 0, cp_m0), (748, .iconst 0, 1, [], [], 0, 0, cp_m0), (749, .ireturn, 1, [1], [], 0, 0, cp_m0)]
def bl_Lw17 : List (Nat × List cp_AI) := [(725, b_Lw17_725)]
set_option maxRecDepth 100000 in
theorem ck_Lw17 : cp_bl m_law bl_Lw17 = true := by decide +kernel
theorem j_Lw17_725 : cp_jl bl_Lw17 725 = b_Lw17_725 := rfl
def b_Lw18_750 : List cp_AI := [(750, .aload_n 1, 1, [1], [], 0, 0, cp_m0), (751, .aload_n 0, 1, [0], [], 0, 0, cp_m0), (752, .iload 4, 2, [4], [], 0, 0, cp_m0), (754, .iconst 1, 1, [], [], 1, 0, cp_m0), (755, .iadd, 1, [], [], 0, 0, cp_m0), (756, .iaload, 1, [1], [], 0, 0, cp_m0), (757, .invokevirtual 94, 3, [1, 10, 14, 0, 0], [859, 860, 861], 0, 0, m_CP_warmest), (760, .aload_n 2, 1, [2], [], 0, 0, cp_m0), (761, .aload_n 0, 1, [0], [], 0, 0, cp_m0), (762, .iload 4, 2, [4], [], 0, 0, cp_m0), (764, .iconst 1, 1, [], [], 1, 0, cp_m0), (765, .iadd, 1, [], [], 0, 0, cp_m0), (766, .iaload, 1, [1], [], 0, 0, cp_m0), (767, .invokevirtual 97, 3, [1, 11, 41, 0, 0], [1776, 1777, 1778], 0, 0, m_Mod_warmest), (770, .if_icmp .eq 1176, 3, [1946], [], 0, 0, cp_m0), (773, .iconst 0, 1, [], [], 0, 0, cp_m0), (774, .ireturn, 1, [1], [], 0, 0, cp_m0)]
def bl_Lw18 : List (Nat × List cp_AI) := [(750, b_Lw18_750)]
set_option maxRecDepth 100000 in
theorem ck_Lw18 : cp_bl m_law bl_Lw18 = true := by decide +kernel
theorem j_Lw18_750 : cp_jl bl_Lw18 750 = b_Lw18_750 := rfl
def b_Lw19_775 : List cp_AI := [(775, .aload_n 1, 1, [1], [], 0, 0, cp_m0), (776, .aload_n 0, 1, [0], [], 0, 0, cp_m0), (777, .iload 4, 2, [4], [], 0, 0, cp_m0), (779, .iconst 1, 1, [], [], 1, 0, cp_m0), (780, .iadd, 1, [], [], 0, 0, cp_m0), (781, .iaload, 1, [1], [], 0, 0, cp_m0), (782, .invokevirtual 98, 3, [1, 10, 14, 0, 0], [872, 873, 874], 0, 0, m_CP_coldest), (785, .aload_n 2, 1, [2], [], 0, 0, cp_m0), (786, .aload_n 0, 1, [0], [], 0, 0, cp_m0), (787, .iload 4, 2, [4], [], 0, 0, cp_m0), (789, .iconst 1, 1, [], [], 1, 0, cp_m0), (790, .iadd, 1, [], [], 0, 0, cp_m0), (791, .iaload, 1, [1], [], 0, 0, cp_m0), (792, .invokevirtual 101, 3, [1, 11, 41, 0, 0], [1784, 1785, 1786], 0, 0, m_Mod_coldest), (795, .if_icmp .eq 1151, 3, [1946], [], 0, 0, cp_m0), (798, .iconst 0, 1, [], [], 0, 0, cp_m0), (799, .ireturn, 1, [1], [], 0, 0, cp_m0)]
def bl_Lw19 : List (Nat × List cp_AI) := [(775, b_Lw19_775)]
set_option maxRecDepth 100000 in
theorem ck_Lw19 : cp_bl m_law bl_Lw19 = true := by decide +kernel
theorem j_Lw19_775 : cp_jl bl_Lw19 775 = b_Lw19_775 := rfl
def b_Lw20_800 : List cp_AI := [(800, .aload_n 1, 1, [1], [], 0, 0, cp_m0), (801, .aload_n 0, 1, [0], [], 0, 0, cp_m0), (802, .iload 4, 2, [4], [], 0, 0, cp_m0), (804, .iconst 1, 1, [], [], 1, 0, cp_m0), (805, .iadd, 1, [], [], 0, 0, cp_m0), (806, .iaload, 1, [1], [], 0, 0, cp_m0), (807, .invokevirtual 102, 3, [1, 10, 14, 0, 0], [876, 877, 878], 0, 0, m_CP_bearsWith), (810, .aload_n 2, 1, [2], [], 0, 0, cp_m0), (811, .aload_n 0, 1, [0], [], 0, 0, cp_m0), (812, .iload 4, 2, [4], [], 0, 0, cp_m0), (814, .iconst 1, 1, [], [], 1, 0, cp_m0), (815, .iadd, 1, [], [], 0, 0, cp_m0), (816, .iaload, 1, [1], [], 0, 0, cp_m0), (817, .invokevirtual 105, 3, [1, 11, 41, 0, 0], [1792, 1793, 1794], 0, 0, m_Mod_bearsWith), (820, .if_icmp .eq 1126, 3, [1946], [], 0, 0, cp_m0), (823, .iconst 0, 1, [], [], 0, 0, cp_m0), (824, .ireturn, 1, [1], [], 0, 0, cp_m0)]
def bl_Lw20 : List (Nat × List cp_AI) := [(800, b_Lw20_800)]
set_option maxRecDepth 100000 in
theorem ck_Lw20 : cp_bl m_law bl_Lw20 = true := by decide +kernel
theorem j_Lw20_800 : cp_jl bl_Lw20 800 = b_Lw20_800 := rfl
def b_Lw21_825 : List cp_AI := [(825, .aload_n 1, 1, [1], [], 0, 0, cp_m0), (826, .aload_n 0, 1, [0], [], 0, 0, cp_m0), (827, .iload 4, 2, [4], [], 0, 0, cp_m0), (829, .iconst 1, 1, [], [], 1, 0, cp_m0), (830, .iadd, 1, [], [], 0, 0, cp_m0), (831, .iaload, 1, [1], [], 0, 0, cp_m0), (832, .invokevirtual 106, 3, [1, 10, 14, 0, 0], [885, 886, 887], 0, 0, m_CP_spoils), (835, .aload_n 2, 1, [2], [], 0, 0, cp_m0), (836, .aload_n 0, 1, [0], [], 0, 0, cp_m0), (837, .iload 4, 2, [4], [], 0, 0, cp_m0), (839, .iconst 1, 1, [], [], 1, 0, cp_m0), (840, .iadd, 1, [], [], 0, 0, cp_m0), (841, .iaload, 1, [1], [], 0, 0, cp_m0), (842, .invokevirtual 109, 3, [1, 11, 41, 0, 0], [1796, 1797, 1798], 0, 0, m_Mod_spoils), (845, .if_icmp .eq 1101, 3, [1946], [], 0, 0, cp_m0), (848, .iconst 0, 1, [], [], 0, 0, cp_m0), (849, .ireturn, 1, [1], [], 0, 0, cp_m0)]
def bl_Lw21 : List (Nat × List cp_AI) := [(825, b_Lw21_825)]
set_option maxRecDepth 100000 in
theorem ck_Lw21 : cp_bl m_law bl_Lw21 = true := by decide +kernel
theorem j_Lw21_825 : cp_jl bl_Lw21 825 = b_Lw21_825 := rfl
def b_Lw22_850 : List cp_AI := [(850, .aload_n 1, 1, [1], [], 0, 0, cp_m0), (851, .aload_n 0, 1, [0], [], 0, 0, cp_m0), (852, .iload 4, 2, [4], [], 0, 0, cp_m0), (854, .iconst 1, 1, [], [], 1, 0, cp_m0), (855, .iadd, 1, [], [], 0, 0, cp_m0), (856, .iaload, 1, [1], [], 0, 0, cp_m0), (857, .invokevirtual 110, 3, [1, 10, 14, 0, 0], [893, 894, 895], 0, 0, m_CP_mends), (860, .aload_n 2, 1, [2], [], 0, 0, cp_m0), (861, .aload_n 0, 1, [0], [], 0, 0, cp_m0), (862, .iload 4, 2, [4], [], 0, 0, cp_m0), (864, .iconst 1, 1, [], [], 1, 0, cp_m0), (865, .iadd, 1, [], [], 0, 0, cp_m0), (866, .iaload, 1, [1], [], 0, 0, cp_m0), (867, .invokevirtual 113, 3, [1, 11, 41, 0, 0], [1804, 1805, 1806], 0, 0, m_Mod_mends), (870, .if_icmp .eq 1076, 3, [1946], [], 0, 0, cp_m0), (873, .iconst 0, 1, [], [], 0, 0, cp_m0), (874, .ireturn, 1, [1], [], 0, 0, cp_m0)]
def bl_Lw22 : List (Nat × List cp_AI) := [(850, b_Lw22_850)]
set_option maxRecDepth 100000 in
theorem ck_Lw22 : cp_bl m_law bl_Lw22 = true := by decide +kernel
theorem j_Lw22_850 : cp_jl bl_Lw22 850 = b_Lw22_850 := rfl
def b_Lw23_875 : List cp_AI := [(875, .aload_n 1, 1, [1], [], 0, 0, cp_m0), (876, .aload_n 0, 1, [0], [], 0, 0, cp_m0), (877, .iload 4, 2, [4], [], 0, 0, cp_m0), (879, .iconst 1, 1, [], [], 1, 0, cp_m0), (880, .iadd, 1, [], [], 0, 0, cp_m0), (881, .iaload, 1, [1], [], 0, 0, cp_m0), (882, .invokevirtual 114, 3, [1, 10, 14, 0, 0], [897, 898, 899], 0, 0, m_CP_comes), (885, .aload_n 2, 1, [2], [], 0, 0, cp_m0), (886, .aload_n 0, 1, [0], [], 0, 0, cp_m0), (887, .iload 4, 2, [4], [], 0, 0, cp_m0), (889, .iconst 1, 1, [], [], 1, 0, cp_m0), (890, .iadd, 1, [], [], 0, 0, cp_m0), (891, .iaload, 1, [1], [], 0, 0, cp_m0), (892, .invokevirtual 117, 3, [1, 11, 41, 0, 0], [1820, 1821, 1822], 0, 0, m_Mod_comes), (895, .if_icmp .eq 1051, 3, [1946], [], 0, 0, cp_m0), (898, .iconst 0, 1, [], [], 0, 0, cp_m0), (899, .ireturn, 1, [1], [], 0, 0, cp_m0)]
def bl_Lw23 : List (Nat × List cp_AI) := [(875, b_Lw23_875)]
set_option maxRecDepth 100000 in
theorem ck_Lw23 : cp_bl m_law bl_Lw23 = true := by decide +kernel
theorem j_Lw23_875 : cp_jl bl_Lw23 875 = b_Lw23_875 := rfl
def b_Lw24_900 : List cp_AI := [(900, .aload_n 1, 1, [1], [], 0, 0, cp_m0), (901, .aload_n 0, 1, [0], [], 0, 0, cp_m0), (902, .iload 4, 2, [4], [], 0, 0, cp_m0), (904, .iconst 1, 1, [], [], 1, 0, cp_m0), (905, .iadd, 1, [], [], 0, 0, cp_m0), (906, .iaload, 1, [1], [], 0, 0, cp_m0), (907, .aload_n 0, 1, [0], [], 0, 0, cp_m0), (908, .iload 4, 2, [4], [], 0, 0, cp_m0), (910, .iconst 2, 1, [], [], 2, 0, cp_m0), (911, .iadd, 1, [], [], 0, 0, cp_m0), (912, .iaload, 1, [1], [], 0, 0, cp_m0), (913, .invokevirtual 118, 3, [2, 10, 14, 0, 0], [913, 914, 915], 0, 0, m_CP_comesAt), (916, .aload_n 2, 1, [2], [], 0, 0, cp_m0), (917, .aload_n 0, 1, [0], [], 0, 0, cp_m0), (918, .iload 4, 2, [4], [], 0, 0, cp_m0), (920, .iconst 1, 1, [], [], 1, 0, cp_m0), (921, .iadd, 1, [], [], 0, 0, cp_m0), (922, .iaload, 1, [1], [], 0, 0, cp_m0), (923, .aload_n 0, 1, [0], [], 0, 0, cp_m0), (924, .iload 4, 2, [4], [], 0, 0, cp_m0), (926, .iconst 2, 1, [], [], 2, 0, cp_m0), (927, .iadd, 1, [], [], 0, 0, cp_m0), (928, .iaload, 1, [1], [], 0, 0, cp_m0), (929, .invokevirtual 121, 3, [2, 11, 41, 0, 0], [1828, 1829, 1830], 0, 0, m_Mod_comesAt), (932, .if_icmp .eq 1014, 3, [1946], [], 0, 0, cp_m0), (935, .iconst 0, 1, [], [], 0, 0, cp_m0), (936, .ireturn, 1, [1], [], 0, 0, cp_m0)]
def bl_Lw24 : List (Nat × List cp_AI) := [(900, b_Lw24_900)]
set_option maxRecDepth 100000 in
theorem ck_Lw24 : cp_bl m_law bl_Lw24 = true := by decide +kernel
theorem j_Lw24_900 : cp_jl bl_Lw24 900 = b_Lw24_900 := rfl
def b_Lw25_937 : List cp_AI := [(937, .aload_n 1, 1, [1], [], 0, 0, cp_m0), (938, .invokevirtual 122, 3, [0, 10, 14, 0, 0], [921, 922, 923], 0, 0, m_CP_snugs), (941, .aload_n 2, 1, [2], [], 0, 0, cp_m0), (942, .invokevirtual 125, 3, [0, 11, 41, 0, 0], [1788, 1789, 1790], 0, 0, m_Mod_snugs), (945, .if_icmp .eq 1001, 3, [1946], [], 0, 0, cp_m0), (948, .iconst 0, 1, [], [], 0, 0, cp_m0), (949, .ireturn, 1, [1], [], 0, 0, cp_m0)]
def bl_Lw25 : List (Nat × List cp_AI) := [(937, b_Lw25_937)]
set_option maxRecDepth 100000 in
theorem ck_Lw25 : cp_bl m_law bl_Lw25 = true := by decide +kernel
theorem j_Lw25_937 : cp_jl bl_Lw25 937 = b_Lw25_937 := rfl
def b_Lw26_950 : List cp_AI := [(950, .aload_n 1, 1, [1], [], 0, 0, cp_m0), (951, .invokevirtual 126, 3, [0, 10, 14, 0, 0], [929, 930, 931], 0, 0, m_CP_toCall), (954, .aload_n 2, 1, [2], [], 0, 0, cp_m0), (955, .invokevirtual 129, 3, [0, 11, 41, 0, 0], [1808, 1809, 1810], 0, 0, m_Mod_toCall), (958, .if_icmp .eq 988, 3, [1946], [], 0, 0, cp_m0), (961, .iconst 0, 1, [], [], 0, 0, cp_m0), (962, .ireturn, 1, [1], [], 0, 0, cp_m0)]
def bl_Lw26 : List (Nat × List cp_AI) := [(950, b_Lw26_950)]
set_option maxRecDepth 100000 in
theorem ck_Lw26 : cp_bl m_law bl_Lw26 = true := by decide +kernel
theorem j_Lw26_950 : cp_jl bl_Lw26 950 = b_Lw26_950 := rfl
def b_Lw27_963 : List cp_AI := [(963, .aload_n 1, 1, [1], [], 0, 0, cp_m0), (964, .invokevirtual 130, 3, [0, 10, 14, 0, 0], [937, 938, 939], 0, 0, m_CP_toSend), (967, .aload_n 2, 1, [2], [], 0, 0, cp_m0), (968, .invokevirtual 133, 3, [0, 11, 41, 0, 0], [1816, 1817, 1818], 0, 0, m_Mod_toSend), (971, .if_icmp .eq 975, 3, [1946], [], 0, 0, cp_m0), (974, .iconst 0, 1, [], [], 0, 0, cp_m0), (975, .ireturn, 1, [1], [], 0, 0, cp_m0)]
def bl_Lw27 : List (Nat × List cp_AI) := [(963, b_Lw27_963)]
set_option maxRecDepth 100000 in
theorem ck_Lw27 : cp_bl m_law bl_Lw27 = true := by decide +kernel
theorem j_Lw27_963 : cp_jl bl_Lw27 963 = b_Lw27_963 := rfl
def b_Lw28_976 : List cp_AI := [(976, .aload_n 1, 1, [1], [], 0, 0, cp_m0), (977, .invokevirtual 134, 3, [0, 10, 14, 0, 0], [941, 942, 943], 0, 0, m_CP_baths), (980, .aload_n 2, 1, [2], [], 0, 0, cp_m0), (981, .invokevirtual 137, 3, [0, 11, 41, 0, 0], [1832, 1833, 1834], 0, 0, m_Mod_baths), (984, .if_icmp .eq 962, 3, [1946], [], 0, 0, cp_m0), (987, .iconst 0, 1, [], [], 0, 0, cp_m0), (988, .ireturn, 1, [1], [], 0, 0, cp_m0)]
def bl_Lw28 : List (Nat × List cp_AI) := [(976, b_Lw28_976)]
set_option maxRecDepth 100000 in
theorem ck_Lw28 : cp_bl m_law bl_Lw28 = true := by decide +kernel
theorem j_Lw28_976 : cp_jl bl_Lw28 976 = b_Lw28_976 := rfl
def b_Lw29_989 : List cp_AI := [(989, .aload_n 1, 1, [1], [], 0, 0, cp_m0), (990, .aload_n 0, 1, [0], [], 0, 0, cp_m0), (991, .iload 4, 2, [4], [], 0, 0, cp_m0), (993, .iconst 1, 1, [], [], 1, 0, cp_m0), (994, .iadd, 1, [], [], 0, 0, cp_m0), (995, .iaload, 1, [1], [], 0, 0, cp_m0), (996, .invokevirtual 138, 3, [1, 10, 14, 0, 0], [957, 958, 959], 0, 0, m_CP_bathOf), (999, .aload_n 2, 1, [2], [], 0, 0, cp_m0), (1000, .aload_n 0, 1, [0], [], 0, 0, cp_m0), (1001, .iload 4, 2, [4], [], 0, 0, cp_m0), (1003, .iconst 1, 1, [], [], 1, 0, cp_m0), (1004, .iadd, 1, [], [], 0, 0, cp_m0), (1005, .iaload, 1, [1], [], 0, 0, cp_m0), (1006, .invokevirtual 141, 3, [1, 11, 41, 0, 0], [1845, 1846, 1847], 0, 0, m_Mod_bathOf), (1009, .if_icmp .eq 937, 3, [1946], [], 0, 0, cp_m0), (1012, .iconst 0, 1, [], [], 0, 0, cp_m0), (1013, .ireturn, 1, [1], [], 0, 0, cp_m0)]
def bl_Lw29 : List (Nat × List cp_AI) := [(989, b_Lw29_989)]
set_option maxRecDepth 100000 in
theorem ck_Lw29 : cp_bl m_law bl_Lw29 = true := by decide +kernel
theorem j_Lw29_989 : cp_jl bl_Lw29 989 = b_Lw29_989 := rfl
def b_Lw30_1014 : List cp_AI := [(1014, .aload_n 1, 1, [1], [], 0, 0, cp_m0), (1015, .aload_n 0, 1, [0], [], 0, 0, cp_m0), (1016, .iload 4, 2, [4], [], 0, 0, cp_m0), (1018, .iconst 1, 1, [], [], 1, 0, cp_m0), (1019, .iadd, 1, [], [], 0, 0, cp_m0), (1020, .iaload, 1, [1], [], 0, 0, cp_m0), (1021, .aload_n 0, 1, [0], [], 0, 0, cp_m0), (1022, .iload 4, 2, [4], [], 0, 0, cp_m0), (1024, .iconst 2, 1, [], [], 2, 0, cp_m0), (1025, .iadd, 1, [], [], 0, 0, cp_m0), (1026, .iaload, 1, [1], [], 0, 0, cp_m0), (1027, .invokevirtual 142, 3, [2, 10, 14, 0, 0], [966, 967, 968], 0, 0, m_CP_canMeet), (1030, .aload_n 2, 1, [2], [], 0, 0, cp_m0), (1031, .aload_n 0, 1, [0], [], 0, 0, cp_m0), (1032, .iload 4, 2, [4], [], 0, 0, cp_m0), (1034, .iconst 1, 1, [], [], 1, 0, cp_m0), (1035, .iadd, 1, [], [], 0, 0, cp_m0), (1036, .iaload, 1, [1], [], 0, 0, cp_m0), (1037, .aload_n 0, 1, [0], [], 0, 0, cp_m0), (1038, .iload 4, 2, [4], [], 0, 0, cp_m0), (1040, .iconst 2, 1, [], [], 2, 0, cp_m0), (1041, .iadd, 1, [], [], 0, 0, cp_m0), (1042, .iaload, 1, [1], [], 0, 0, cp_m0), (1043, .invokevirtual 145, 3, [2, 11, 41, 0, 0], [1849, 1850, 1851], 0, 0, m_Mod_canMeet), (1046, .if_icmp .eq 900, 3, [1946], [], 0, 0, cp_m0), (1049, .iconst 0, 1, [], [], 0, 0, cp_m0), (1050, .ireturn, 1, [1], [], 0, 0, cp_m0)]
def bl_Lw30 : List (Nat × List cp_AI) := [(1014, b_Lw30_1014)]
set_option maxRecDepth 100000 in
theorem ck_Lw30 : cp_bl m_law bl_Lw30 = true := by decide +kernel
theorem j_Lw30_1014 : cp_jl bl_Lw30 1014 = b_Lw30_1014 := rfl
def b_Lw31_1051 : List cp_AI := [(1051, .aload_n 1, 1, [1], [], 0, 0, cp_m0), (1052, .invokevirtual 146, 3, [0, 10, 14, 0, 0], [978, 979, 980], 0, 0, m_CP_meetings), (1055, .aload_n 2, 1, [2], [], 0, 0, cp_m0), (1056, .invokevirtual 149, 3, [0, 11, 41, 0, 0], [1857, 1858, 1859], 0, 0, m_Mod_meetings), (1059, .if_icmp .eq 887, 3, [1946], [], 0, 0, cp_m0), (1062, .iconst 0, 1, [], [], 0, 0, cp_m0), (1063, .ireturn, 1, [1], [], 0, 0, cp_m0)]
def bl_Lw31 : List (Nat × List cp_AI) := [(1051, b_Lw31_1051)]
set_option maxRecDepth 100000 in
theorem ck_Lw31 : cp_bl m_law bl_Lw31 = true := by decide +kernel
theorem j_Lw31_1051 : cp_jl bl_Lw31 1051 = b_Lw31_1051 := rfl
def b_Lw32_1064 : List cp_AI := [(1064, .aload_n 1, 1, [1], [], 0, 0, cp_m0), (1065, .aload_n 0, 1, [0], [], 0, 0, cp_m0), (1066, .iload 4, 2, [4], [], 0, 0, cp_m0), (1068, .iconst 1, 1, [], [], 1, 0, cp_m0), (1069, .iadd, 1, [], [], 0, 0, cp_m0), (1070, .iaload, 1, [1], [], 0, 0, cp_m0), (1071, .invokevirtual 150, 3, [1, 10, 14, 0, 0], [988, 989, 990], 0, 0, m_CP_fewest), (1074, .aload_n 2, 1, [2], [], 0, 0, cp_m0), (1075, .aload_n 0, 1, [0], [], 0, 0, cp_m0), (1076, .iload 4, 2, [4], [], 0, 0, cp_m0), (1078, .iconst 1, 1, [], [], 1, 0, cp_m0), (1079, .iadd, 1, [], [], 0, 0, cp_m0), (1080, .iaload, 1, [1], [], 0, 0, cp_m0), (1081, .invokevirtual 153, 3, [1, 11, 41, 0, 0], [1861, 1862, 1863], 0, 0, m_Mod_fewest), (1084, .if_icmp .eq 862, 3, [1946], [], 0, 0, cp_m0), (1087, .iconst 0, 1, [], [], 0, 0, cp_m0), (1088, .ireturn, 1, [1], [], 0, 0, cp_m0)]
def bl_Lw32 : List (Nat × List cp_AI) := [(1064, b_Lw32_1064)]
set_option maxRecDepth 100000 in
theorem ck_Lw32 : cp_bl m_law bl_Lw32 = true := by decide +kernel
theorem j_Lw32_1064 : cp_jl bl_Lw32 1064 = b_Lw32_1064 := rfl
def b_Lw33_1089 : List cp_AI := [(1089, .aload_n 1, 1, [1], [], 0, 0, cp_m0), (1090, .aload_n 0, 1, [0], [], 0, 0, cp_m0), (1091, .iload 4, 2, [4], [], 0, 0, cp_m0), (1093, .iconst 1, 1, [], [], 1, 0, cp_m0), (1094, .iadd, 1, [], [], 0, 0, cp_m0), (1095, .iaload, 1, [1], [], 0, 0, cp_m0), (1096, .invokevirtual 154, 3, [1, 10, 14, 0, 0], [1013, 1014, 1015], 0, 0, m_CP_firstMeeting), (1099, .aload_n 2, 1, [2], [], 0, 0, cp_m0), (1100, .aload_n 0, 1, [0], [], 0, 0, cp_m0), (1101, .iload 4, 2, [4], [], 0, 0, cp_m0), (1103, .iconst 1, 1, [], [], 1, 0, cp_m0), (1104, .iadd, 1, [], [], 0, 0, cp_m0), (1105, .iaload, 1, [1], [], 0, 0, cp_m0), (1106, .invokevirtual 157, 3, [1, 11, 41, 0, 0], [1873, 1874, 1875], 0, 0, m_Mod_firstMeeting), (1109, .if_icmp .eq 837, 3, [1946], [], 0, 0, cp_m0), (1112, .iconst 0, 1, [], [], 0, 0, cp_m0), (1113, .ireturn, 1, [1], [], 0, 0, cp_m0)]
def bl_Lw33 : List (Nat × List cp_AI) := [(1089, b_Lw33_1089)]
set_option maxRecDepth 100000 in
theorem ck_Lw33 : cp_bl m_law bl_Lw33 = true := by decide +kernel
theorem j_Lw33_1089 : cp_jl bl_Lw33 1089 = b_Lw33_1089 := rfl
def b_Lw34_1114 : List cp_AI := [(1114, .aload_n 1, 1, [1], [], 0, 0, cp_m0), (1115, .aload_n 0, 1, [0], [], 0, 0, cp_m0), (1116, .iload 4, 2, [4], [], 0, 0, cp_m0), (1118, .iconst 1, 1, [], [], 1, 0, cp_m0), (1119, .iadd, 1, [], [], 0, 0, cp_m0), (1120, .iaload, 1, [1], [], 0, 0, cp_m0), (1121, .aload_n 0, 1, [0], [], 0, 0, cp_m0), (1122, .iload 4, 2, [4], [], 0, 0, cp_m0), (1124, .iconst 2, 1, [], [], 2, 0, cp_m0), (1125, .iadd, 1, [], [], 0, 0, cp_m0), (1126, .iaload, 1, [1], [], 0, 0, cp_m0), (1127, .invokevirtual 158, 3, [2, 10, 14, 0, 0], [1022, 1023, 1024], 0, 0, m_CP_between), (1130, .aload_n 2, 1, [2], [], 0, 0, cp_m0), (1131, .aload_n 0, 1, [0], [], 0, 0, cp_m0), (1132, .iload 4, 2, [4], [], 0, 0, cp_m0), (1134, .iconst 1, 1, [], [], 1, 0, cp_m0), (1135, .iadd, 1, [], [], 0, 0, cp_m0), (1136, .iaload, 1, [1], [], 0, 0, cp_m0), (1137, .aload_n 0, 1, [0], [], 0, 0, cp_m0), (1138, .iload 4, 2, [4], [], 0, 0, cp_m0), (1140, .iconst 2, 1, [], [], 2, 0, cp_m0), (1141, .iadd, 1, [], [], 0, 0, cp_m0), (1142, .iaload, 1, [1], [], 0, 0, cp_m0), (1143, .invokevirtual 161, 3, [2, 11, 41, 0, 0], [1877, 1878, 1879], 0, 0, m_Mod_between), (1146, .if_icmp .eq 800, 3, [1946], [], 0, 0, cp_m0), (1149, .iconst 0, 1, [], [], 0, 0, cp_m0), (1150, .ireturn, 1, [1], [], 0, 0, cp_m0)]
def bl_Lw34 : List (Nat × List cp_AI) := [(1114, b_Lw34_1114)]
set_option maxRecDepth 100000 in
theorem ck_Lw34 : cp_bl m_law bl_Lw34 = true := by decide +kernel
theorem j_Lw34_1114 : cp_jl bl_Lw34 1114 = b_Lw34_1114 := rfl
def b_Lw35_1151 : List cp_AI := [(1151, .aload_n 1, 1, [1], [], 0, 0, cp_m0), (1152, .invokevirtual 162, 3, [0, 10, 14, 0, 0], [1033, 1034, 1035], 0, 0, m_CP_circles), (1155, .aload_n 2, 1, [2], [], 0, 0, cp_m0), (1156, .invokevirtual 165, 3, [0, 11, 41, 0, 0], [1885, 1886, 1887], 0, 0, m_Mod_circles), (1159, .if_icmp .eq 787, 3, [1946], [], 0, 0, cp_m0), (1162, .iconst 0, 1, [], [], 0, 0, cp_m0), (1163, .ireturn, 1, [1], [], 0, 0, cp_m0)]
def bl_Lw35 : List (Nat × List cp_AI) := [(1151, b_Lw35_1151)]
set_option maxRecDepth 100000 in
theorem ck_Lw35 : cp_bl m_law bl_Lw35 = true := by decide +kernel
theorem j_Lw35_1151 : cp_jl bl_Lw35 1151 = b_Lw35_1151 := rfl
def b_Lw36_1164 : List cp_AI := [(1164, .aload_n 1, 1, [1], [], 0, 0, cp_m0), (1165, .invokevirtual 166, 3, [0, 10, 14, 0, 0], [1044, 1045, 1046], 0, 0, m_CP_fits), (1168, .aload_n 2, 1, [2], [], 0, 0, cp_m0), (1169, .invokevirtual 169, 3, [0, 11, 41, 0, 0], [1893, 1894, 1895], 0, 0, m_Mod_fits), (1172, .if_icmp .eq 774, 3, [1946], [], 0, 0, cp_m0), (1175, .iconst 0, 1, [], [], 0, 0, cp_m0), (1176, .ireturn, 1, [1], [], 0, 0, cp_m0)]
def bl_Lw36 : List (Nat × List cp_AI) := [(1164, b_Lw36_1164)]
set_option maxRecDepth 100000 in
theorem ck_Lw36 : cp_bl m_law bl_Lw36 = true := by decide +kernel
theorem j_Lw36_1164 : cp_jl bl_Lw36 1164 = b_Lw36_1164 := rfl
def b_Lw37_1177 : List cp_AI := [(1177, .aload_n 1, 1, [1], [], 0, 0, cp_m0), (1178, .aload_n 0, 1, [0], [], 0, 0, cp_m0), (1179, .iload 4, 2, [4], [], 0, 0, cp_m0), (1181, .iconst 1, 1, [], [], 1, 0, cp_m0), (1182, .iadd, 1, [], [], 0, 0, cp_m0), (1183, .iaload, 1, [1], [], 0, 0, cp_m0), (1184, .invokevirtual 170, 3, [1, 10, 14, 0, 0], [1062, 1063, 1064], 0, 0, m_CP_fitAt), (1187, .aload_n 2, 1, [2], [], 0, 0, cp_m0), (1188, .aload_n 0, 1, [0], [], 0, 0, cp_m0), (1189, .iload 4, 2, [4], [], 0, 0, cp_m0), (1191, .iconst 1, 1, [], [], 1, 0, cp_m0), (1192, .iadd, 1, [], [], 0, 0, cp_m0), (1193, .iaload, 1, [1], [], 0, 0, cp_m0), (1194, .invokevirtual 173, 3, [1, 11, 41, 0, 0], [1905, 1906, 1907], 0, 0, m_Mod_fitAt), (1197, .if_icmp .eq 749, 3, [1946], [], 0, 0, cp_m0), (1200, .iconst 0, 1, [], [], 0, 0, cp_m0), (1201, .ireturn, 1, [1], [], 0, 0, cp_m0)]
def bl_Lw37 : List (Nat × List cp_AI) := [(1177, b_Lw37_1177)]
set_option maxRecDepth 100000 in
theorem ck_Lw37 : cp_bl m_law bl_Lw37 = true := by decide +kernel
theorem j_Lw37_1177 : cp_jl bl_Lw37 1177 = b_Lw37_1177 := rfl
def b_Lw38_1202 : List cp_AI := [(1202, .aload_n 1, 1, [1], [], 0, 0, cp_m0), (1203, .invokevirtual 174, 3, [0, 10, 14, 0, 0], [1071, 1072, 1073], 0, 0, m_CP_could), (1206, .aload_n 2, 1, [2], [], 0, 0, cp_m0), (1207, .invokevirtual 177, 3, [0, 11, 41, 0, 0], [1909, 1910, 1911], 0, 0, m_Mod_could), (1210, .if_icmp .eq 736, 3, [1946], [], 0, 0, cp_m0), (1213, .iconst 0, 1, [], [], 0, 0, cp_m0), (1214, .ireturn, 1, [1], [], 0, 0, cp_m0)]
def bl_Lw38 : List (Nat × List cp_AI) := [(1202, b_Lw38_1202)]
set_option maxRecDepth 100000 in
theorem ck_Lw38 : cp_bl m_law bl_Lw38 = true := by decide +kernel
theorem j_Lw38_1202 : cp_jl bl_Lw38 1202 = b_Lw38_1202 := rfl
def b_Lw39_1215 : List cp_AI := [(1215, .aload_n 1, 1, [1], [], 0, 0, cp_m0), (1216, .invokevirtual 178, 3, [0, 10, 14, 0, 0], [1082, 1083, 1084], 0, 0, m_CP_surely), (1219, .aload_n 2, 1, [2], [], 0, 0, cp_m0), (1220, .invokevirtual 181, 3, [0, 11, 41, 0, 0], [1913, 1914, 1915], 0, 0, m_Mod_surely), (1223, .if_icmp .eq 723, 3, [1946], [], 0, 0, cp_m0), (1226, .iconst 0, 1, [], [], 0, 0, cp_m0), (1227, .ireturn, 1, [1], [], 0, 0, cp_m0)]
def bl_Lw39 : List (Nat × List cp_AI) := [(1215, b_Lw39_1215)]
set_option maxRecDepth 100000 in
theorem ck_Lw39 : cp_bl m_law bl_Lw39 = true := by decide +kernel
theorem j_Lw39_1215 : cp_jl bl_Lw39 1215 = b_Lw39_1215 := rfl
def b_Lw40_1228 : List cp_AI := [(1228, .aload_n 1, 1, [1], [], 0, 0, cp_m0), (1229, .invokevirtual 182, 3, [0, 10, 14, 0, 0], [1091, 1092, 1093], 0, 0, m_CP_ask), (1232, .aload_n 2, 1, [2], [], 0, 0, cp_m0), (1233, .invokevirtual 185, 3, [0, 11, 41, 0, 0], [1917, 1918, 1919], 0, 0, m_Mod_ask), (1236, .if_icmp .eq 710, 3, [1946], [], 0, 0, cp_m0), (1239, .iconst 0, 1, [], [], 0, 0, cp_m0), (1240, .ireturn, 1, [1], [], 0, 0, cp_m0)]
def bl_Lw40 : List (Nat × List cp_AI) := [(1228, b_Lw40_1228)]
set_option maxRecDepth 100000 in
theorem ck_Lw40 : cp_bl m_law bl_Lw40 = true := by decide +kernel
theorem j_Lw40_1228 : cp_jl bl_Lw40 1228 = b_Lw40_1228 := rfl
def b_Lw41_1241 : List cp_AI := [(1241, .aload_n 1, 1, [1], [], 0, 0, cp_m0), (1242, .invokevirtual 186, 3, [0, 10, 14, 0, 0], [1102, 1103, 1104], 0, 0, m_CP_askLeaves), (1245, .aload_n 2, 1, [2], [], 0, 0, cp_m0), (1246, .invokevirtual 189, 3, [0, 11, 41, 0, 0], [1929, 1930, 1931], 0, 0, m_Mod_askLeaves), (1249, .if_icmp .eq 697, 3, [1946], [], 0, 0, cp_m0), (1252, .iconst 0, 1, [], [], 0, 0, cp_m0), (1253, .ireturn, 1, [1], [], 0, 0, cp_m0)]
def bl_Lw41 : List (Nat × List cp_AI) := [(1241, b_Lw41_1241)]
set_option maxRecDepth 100000 in
theorem ck_Lw41 : cp_bl m_law bl_Lw41 = true := by decide +kernel
theorem j_Lw41_1241 : cp_jl bl_Lw41 1241 = b_Lw41_1241 := rfl
def b_Lw42_1254 : List cp_AI := [(1254, .aload_n 1, 1, [1], [], 0, 0, cp_m0), (1255, .invokevirtual 190, 3, [0, 10, 14, 0, 0], [1111, 1112, 1113], 0, 0, m_CP_chills), (1258, .aload_n 2, 1, [2], [], 0, 0, cp_m0), (1259, .invokevirtual 193, 3, [0, 11, 41, 0, 0], [1933, 1934, 1935], 0, 0, m_Mod_chills), (1262, .if_icmp .eq 684, 3, [1946], [], 0, 0, cp_m0), (1265, .iconst 0, 1, [], [], 0, 0, cp_m0), (1266, .ireturn, 1, [1], [], 0, 0, cp_m0)]
def bl_Lw42 : List (Nat × List cp_AI) := [(1254, b_Lw42_1254)]
set_option maxRecDepth 100000 in
theorem ck_Lw42 : cp_bl m_law bl_Lw42 = true := by decide +kernel
theorem j_Lw42_1254 : cp_jl bl_Lw42 1254 = b_Lw42_1254 := rfl
def b_Lw43_1267 : List cp_AI := [(1267, .aload_n 1, 1, [1], [], 0, 0, cp_m0), (1268, .invokevirtual 194, 3, [0, 10, 14, 0, 0], [1119, 1120, 1121], 0, 0, m_CP_judge), (1271, .aload_n 2, 1, [2], [], 0, 0, cp_m0), (1272, .invokevirtual 197, 3, [0, 11, 41, 0, 0], [1937, 1938, 1939], 0, 0, m_Mod_judge), (1275, .if_icmp .eq 671, 3, [1946], [], 0, 0, cp_m0), (1278, .iconst 0, 1, [], [], 0, 0, cp_m0), (1279, .ireturn, 1, [1], [], 0, 0, cp_m0)]
def bl_Lw43 : List (Nat × List cp_AI) := [(1267, b_Lw43_1267)]
set_option maxRecDepth 100000 in
theorem ck_Lw43 : cp_bl m_law bl_Lw43 = true := by decide +kernel
theorem j_Lw43_1267 : cp_jl bl_Lw43 1267 = b_Lw43_1267 := rfl
def b_Lw44_1280 : List cp_AI := [(1280, .aload_n 1, 1, [1], [], 0, 0, cp_m0), (1281, .invokevirtual 198, 3, [0, 10, 14, 0, 0], [1127, 1128, 1129], 0, 0, m_CP_rests), (1284, .aload_n 2, 1, [2], [], 0, 0, cp_m0), (1285, .invokevirtual 201, 3, [0, 11, 41, 0, 0], [1941, 1942, 1943], 0, 0, m_Mod_rests), (1288, .if_icmp .eq 658, 3, [1946], [], 0, 0, cp_m0), (1291, .iconst 0, 1, [], [], 0, 0, cp_m0), (1292, .ireturn, 1, [1], [], 0, 0, cp_m0)]
def bl_Lw44 : List (Nat × List cp_AI) := [(1280, b_Lw44_1280)]
set_option maxRecDepth 100000 in
theorem ck_Lw44 : cp_bl m_law bl_Lw44 = true := by decide +kernel
theorem j_Lw44_1280 : cp_jl bl_Lw44 1280 = b_Lw44_1280 := rfl
def b_Lw45_1293 : List cp_AI := [(1293, .aload_n 1, 1, [1], [], 0, 0, cp_m0), (1294, .aload_n 0, 1, [0], [], 0, 0, cp_m0), (1295, .iload 4, 2, [4], [], 0, 0, cp_m0), (1297, .iconst 1, 1, [], [], 1, 0, cp_m0), (1298, .iadd, 1, [], [], 0, 0, cp_m0), (1299, .iaload, 1, [1], [], 0, 0, cp_m0), (1300, .invokevirtual 202, 3, [1, 10, 14, 0, 0], [1138, 1139, 1140], 0, 0, m_CP_restAt), (1303, .aload_n 2, 1, [2], [], 0, 0, cp_m0), (1304, .aload_n 0, 1, [0], [], 0, 0, cp_m0), (1305, .iload 4, 2, [4], [], 0, 0, cp_m0), (1307, .iconst 1, 1, [], [], 1, 0, cp_m0), (1308, .iadd, 1, [], [], 0, 0, cp_m0), (1309, .iaload, 1, [1], [], 0, 0, cp_m0), (1310, .invokevirtual 205, 3, [1, 11, 41, 0, 0], [1949, 1950, 1951], 0, 0, m_Mod_restAt), (1313, .if_icmp .eq 633, 3, [1946], [], 0, 0, cp_m0), (1316, .iconst 0, 1, [], [], 0, 0, cp_m0), (1317, .ireturn, 1, [1], [], 0, 0, cp_m0)]
def bl_Lw45 : List (Nat × List cp_AI) := [(1293, b_Lw45_1293)]
set_option maxRecDepth 100000 in
theorem ck_Lw45 : cp_bl m_law bl_Lw45 = true := by decide +kernel
theorem j_Lw45_1293 : cp_jl bl_Lw45 1293 = b_Lw45_1293 := rfl
def b_Lw46_1318 : List cp_AI := [(1318, .aload_n 1, 1, [1], [], 0, 0, cp_m0), (1319, .aload_n 0, 1, [0], [], 0, 0, cp_m0), (1320, .iload 4, 2, [4], [], 0, 0, cp_m0), (1322, .iconst 1, 1, [], [], 1, 0, cp_m0), (1323, .iadd, 1, [], [], 0, 0, cp_m0), (1324, .iaload, 1, [1], [], 0, 0, cp_m0), (1325, .aload_n 0, 1, [0], [], 0, 0, cp_m0), (1326, .iload 4, 2, [4], [], 0, 0, cp_m0), (1328, .iconst 2, 1, [], [], 2, 0, cp_m0), (1329, .iadd, 1, [], [], 0, 0, cp_m0), (1330, .iaload, 1, [1], [], 0, 0, cp_m0), (1331, .ifCond .eq 7, 3, [1338], [], 0, 0, cp_m0), (1334, .iconst 1, 1, [], [], 1, 0, cp_m0), (1335, .goto 4, 3, [1339], [], 0, 0, cp_m0)]
def b_Lw46_1338 : List cp_AI := [(1338, .iconst 0, 1, [], [], 0, 0, cp_m0), (1339, .nop, 0, [], [], 0, 0, cp_m0)]
def b_Lw46_1339 : List cp_AI := [(1339, .aload_n 0, 1, [0], [], 0, 0, cp_m0), (1340, .iload 4, 2, [4], [], 0, 0, cp_m0), (1342, .iconst 3, 1, [], [], 3, 0, cp_m0), (1343, .iadd, 1, [], [], 0, 0, cp_m0), (1344, .iaload, 1, [1], [], 0, 0, cp_m0), (1345, .ifCond .eq 7, 3, [1352], [], 0, 0, cp_m0), (1348, .iconst 1, 1, [], [], 1, 0, cp_m0), (1349, .goto 4, 3, [1353], [], 0, 0, cp_m0)]
def b_Lw46_1352 : List cp_AI := [(1352, .iconst 0, 1, [], [], 0, 0, cp_m0), (1353, .nop, 0, [], [], 0, 0, cp_m0)]
def b_Lw46_1353 : List cp_AI := [(1353, .aload_n 0, 1, [0], [], 0, 0, cp_m0), (1354, .iload 4, 2, [4], [], 0, 0, cp_m0), (1356, .iconst 4, 1, [], [], 4, 0, cp_m0), (1357, .iadd, 1, [], [], 0, 0, cp_m0), (1358, .iaload, 1, [1], [], 0, 0, cp_m0), (1359, .ifCond .eq 7, 3, [1366], [], 0, 0, cp_m0), (1362, .iconst 1, 1, [], [], 1, 0, cp_m0), (1363, .goto 4, 3, [1367], [], 0, 0, cp_m0)]
def b_Lw46_1366 : List cp_AI := [(1366, .iconst 0, 1, [], [], 0, 0, cp_m0), (1367, .nop, 0, [], [], 0, 0, cp_m0)]
def b_Lw46_1367 : List cp_AI := [(1367, .invokevirtual 206, 3, [4, 10, 14, 0, 0], [1146, 1147, 1148], 0, 0, m_CP_swim), (1370, .aload_n 2, 1, [2], [], 0, 0, cp_m0), (1371, .aload_n 0, 1, [0], [], 0, 0, cp_m0), (1372, .iload 4, 2, [4], [], 0, 0, cp_m0), (1374, .iconst 1, 1, [], [], 1, 0, cp_m0), (1375, .iadd, 1, [], [], 0, 0, cp_m0), (1376, .iaload, 1, [1], [], 0, 0, cp_m0), (1377, .aload_n 0, 1, [0], [], 0, 0, cp_m0), (1378, .iload 4, 2, [4], [], 0, 0, cp_m0), (1380, .iconst 2, 1, [], [], 2, 0, cp_m0), (1381, .iadd, 1, [], [], 0, 0, cp_m0), (1382, .iaload, 1, [1], [], 0, 0, cp_m0), (1383, .ifCond .eq 7, 3, [1390], [], 0, 0, cp_m0), (1386, .iconst 1, 1, [], [], 1, 0, cp_m0), (1387, .goto 4, 3, [1391], [], 0, 0, cp_m0)]
def b_Lw46_1390 : List cp_AI := [(1390, .iconst 0, 1, [], [], 0, 0, cp_m0), (1391, .nop, 0, [], [], 0, 0, cp_m0)]
def b_Lw46_1391 : List cp_AI := [(1391, .aload_n 0, 1, [0], [], 0, 0, cp_m0), (1392, .iload 4, 2, [4], [], 0, 0, cp_m0), (1394, .iconst 3, 1, [], [], 3, 0, cp_m0), (1395, .iadd, 1, [], [], 0, 0, cp_m0), (1396, .iaload, 1, [1], [], 0, 0, cp_m0), (1397, .ifCond .eq 7, 3, [1404], [], 0, 0, cp_m0), (1400, .iconst 1, 1, [], [], 1, 0, cp_m0), (1401, .goto 4, 3, [1405], [], 0, 0, cp_m0)]
def b_Lw46_1404 : List cp_AI := [(1404, .iconst 0, 1, [], [], 0, 0, cp_m0), (1405, .nop, 0, [], [], 0, 0, cp_m0)]
def b_Lw46_1405 : List cp_AI := [(1405, .aload_n 0, 1, [0], [], 0, 0, cp_m0), (1406, .iload 4, 2, [4], [], 0, 0, cp_m0), (1408, .iconst 4, 1, [], [], 4, 0, cp_m0), (1409, .iadd, 1, [], [], 0, 0, cp_m0), (1410, .iaload, 1, [1], [], 0, 0, cp_m0), (1411, .ifCond .eq 7, 3, [1418], [], 0, 0, cp_m0), (1414, .iconst 1, 1, [], [], 1, 0, cp_m0), (1415, .goto 4, 3, [1419], [], 0, 0, cp_m0)]
def b_Lw46_1418 : List cp_AI := [(1418, .iconst 0, 1, [], [], 0, 0, cp_m0), (1419, .nop, 0, [], [], 0, 0, cp_m0)]
def b_Lw46_1419 : List cp_AI := [(1419, .invokevirtual 210, 3, [4, 11, 41, 0, 0], [1953, 1954, 1955], 0, 0, m_Mod_swim), (1422, .if_icmp .eq 524, 3, [1946], [], 0, 0, cp_m0), (1425, .iconst 0, 1, [], [], 0, 0, cp_m0), (1426, .ireturn, 1, [1], [], 0, 0, cp_m0)]
def bl_Lw46 : List (Nat × List cp_AI) := [(1318, b_Lw46_1318), (1338, b_Lw46_1338), (1339, b_Lw46_1339), (1352, b_Lw46_1352), (1353, b_Lw46_1353), (1366, b_Lw46_1366), (1367, b_Lw46_1367), (1390, b_Lw46_1390), (1391, b_Lw46_1391), (1404, b_Lw46_1404), (1405, b_Lw46_1405), (1418, b_Lw46_1418), (1419, b_Lw46_1419)]
set_option maxRecDepth 100000 in
theorem ck_Lw46 : cp_bl m_law bl_Lw46 = true := by decide +kernel
theorem j_Lw46_1318 : cp_jl bl_Lw46 1318 = b_Lw46_1318 := rfl
theorem j_Lw46_1338 : cp_jl bl_Lw46 1338 = b_Lw46_1338 := rfl
theorem j_Lw46_1339 : cp_jl bl_Lw46 1339 = b_Lw46_1339 := rfl
theorem j_Lw46_1352 : cp_jl bl_Lw46 1352 = b_Lw46_1352 := rfl
theorem j_Lw46_1353 : cp_jl bl_Lw46 1353 = b_Lw46_1353 := rfl
theorem j_Lw46_1366 : cp_jl bl_Lw46 1366 = b_Lw46_1366 := rfl
theorem j_Lw46_1367 : cp_jl bl_Lw46 1367 = b_Lw46_1367 := rfl
theorem j_Lw46_1390 : cp_jl bl_Lw46 1390 = b_Lw46_1390 := rfl
theorem j_Lw46_1391 : cp_jl bl_Lw46 1391 = b_Lw46_1391 := rfl
theorem j_Lw46_1404 : cp_jl bl_Lw46 1404 = b_Lw46_1404 := rfl
theorem j_Lw46_1405 : cp_jl bl_Lw46 1405 = b_Lw46_1405 := rfl
theorem j_Lw46_1418 : cp_jl bl_Lw46 1418 = b_Lw46_1418 := rfl
theorem j_Lw46_1419 : cp_jl bl_Lw46 1419 = b_Lw46_1419 := rfl
def b_Lw47_1427 : List cp_AI := [(1427, .aload_n 1, 1, [1], [], 0, 0, cp_m0), (1428, .aload_n 0, 1, [0], [], 0, 0, cp_m0), (1429, .iload 4, 2, [4], [], 0, 0, cp_m0), (1431, .iconst 1, 1, [], [], 1, 0, cp_m0), (1432, .iadd, 1, [], [], 0, 0, cp_m0), (1433, .iaload, 1, [1], [], 0, 0, cp_m0), (1434, .invokevirtual 211, 3, [1, 10, 14, 0, 0], [1157, 1158, 1159], 0, 0, m_CP_evens), (1437, .aload_n 2, 1, [2], [], 0, 0, cp_m0), (1438, .aload_n 0, 1, [0], [], 0, 0, cp_m0), (1439, .iload 4, 2, [4], [], 0, 0, cp_m0), (1441, .iconst 1, 1, [], [], 1, 0, cp_m0), (1442, .iadd, 1, [], [], 0, 0, cp_m0), (1443, .iaload, 1, [1], [], 0, 0, cp_m0), (1444, .invokevirtual 214, 3, [1, 11, 41, 0, 0], [1960, 1961, 1962], 0, 0, m_Mod_evens), (1447, .if_icmp .eq 499, 3, [1946], [], 0, 0, cp_m0), (1450, .iconst 0, 1, [], [], 0, 0, cp_m0), (1451, .ireturn, 1, [1], [], 0, 0, cp_m0)]
def bl_Lw47 : List (Nat × List cp_AI) := [(1427, b_Lw47_1427)]
set_option maxRecDepth 100000 in
theorem ck_Lw47 : cp_bl m_law bl_Lw47 = true := by decide +kernel
theorem j_Lw47_1427 : cp_jl bl_Lw47 1427 = b_Lw47_1427 := rfl
def b_Lw48_1452 : List cp_AI := [(1452, .aload_n 1, 1, [1], [], 0, 0, cp_m0), (1453, .aload_n 0, 1, [0], [], 0, 0, cp_m0), (1454, .iload 4, 2, [4], [], 0, 0, cp_m0), (1456, .iconst 1, 1, [], [], 1, 0, cp_m0), (1457, .iadd, 1, [], [], 0, 0, cp_m0), (1458, .iaload, 1, [1], [], 0, 0, cp_m0), (1459, .invokevirtual 215, 3, [1, 10, 14, 0, 0], [1164, 1165, 1166], 0, 0, m_CP_even), (1462, .aload_n 2, 1, [2], [], 0, 0, cp_m0), (1463, .aload_n 0, 1, [0], [], 0, 0, cp_m0), (1464, .iload 4, 2, [4], [], 0, 0, cp_m0), (1466, .iconst 1, 1, [], [], 1, 0, cp_m0), (1467, .iadd, 1, [], [], 0, 0, cp_m0), (1468, .iaload, 1, [1], [], 0, 0, cp_m0), (1469, .invokevirtual 218, 3, [1, 11, 41, 0, 0], [1968, 1969, 1970], 0, 0, m_Mod_even), (1472, .if_icmp .eq 474, 3, [1946], [], 0, 0, cp_m0), (1475, .iconst 0, 1, [], [], 0, 0, cp_m0), (1476, .ireturn, 1, [1], [], 0, 0, cp_m0)]
def bl_Lw48 : List (Nat × List cp_AI) := [(1452, b_Lw48_1452)]
set_option maxRecDepth 100000 in
theorem ck_Lw48 : cp_bl m_law bl_Lw48 = true := by decide +kernel
theorem j_Lw48_1452 : cp_jl bl_Lw48 1452 = b_Lw48_1452 := rfl
def b_Lw49_1477 : List cp_AI := [(1477, .aload_n 1, 1, [1], [], 0, 0, cp_m0), (1478, .aload_n 0, 1, [0], [], 0, 0, cp_m0), (1479, .iload 4, 2, [4], [], 0, 0, cp_m0), (1481, .iconst 1, 1, [], [], 1, 0, cp_m0), (1482, .iadd, 1, [], [], 0, 0, cp_m0), (1483, .iaload, 1, [1], [], 0, 0, cp_m0), (1484, .aload_n 0, 1, [0], [], 0, 0, cp_m0), (1485, .iload 4, 2, [4], [], 0, 0, cp_m0), (1487, .iconst 2, 1, [], [], 2, 0, cp_m0), (1488, .iadd, 1, [], [], 0, 0, cp_m0), (1489, .iaload, 1, [1], [], 0, 0, cp_m0), (1490, .ifCond .eq 7, 3, [1497], [], 0, 0, cp_m0), (1493, .iconst 1, 1, [], [], 1, 0, cp_m0), (1494, .goto 4, 3, [1498], [], 0, 0, cp_m0)]
def b_Lw49_1497 : List cp_AI := [(1497, .iconst 0, 1, [], [], 0, 0, cp_m0), (1498, .nop, 0, [], [], 0, 0, cp_m0)]
def b_Lw49_1498 : List cp_AI := [(1498, .invokevirtual 219, 3, [2, 10, 14, 0, 0], [1168, 1169, 1170], 0, 0, m_CP_odds), (1501, .aload_n 2, 1, [2], [], 0, 0, cp_m0), (1502, .aload_n 0, 1, [0], [], 0, 0, cp_m0), (1503, .iload 4, 2, [4], [], 0, 0, cp_m0), (1505, .iconst 1, 1, [], [], 1, 0, cp_m0), (1506, .iadd, 1, [], [], 0, 0, cp_m0), (1507, .iaload, 1, [1], [], 0, 0, cp_m0), (1508, .aload_n 0, 1, [0], [], 0, 0, cp_m0), (1509, .iload 4, 2, [4], [], 0, 0, cp_m0), (1511, .iconst 2, 1, [], [], 2, 0, cp_m0), (1512, .iadd, 1, [], [], 0, 0, cp_m0), (1513, .iaload, 1, [1], [], 0, 0, cp_m0), (1514, .ifCond .eq 7, 3, [1521], [], 0, 0, cp_m0), (1517, .iconst 1, 1, [], [], 1, 0, cp_m0), (1518, .goto 4, 3, [1522], [], 0, 0, cp_m0)]
def b_Lw49_1521 : List cp_AI := [(1521, .iconst 0, 1, [], [], 0, 0, cp_m0), (1522, .nop, 0, [], [], 0, 0, cp_m0)]
def b_Lw49_1522 : List cp_AI := [(1522, .invokevirtual 223, 3, [2, 11, 41, 0, 0], [1972, 1973, 1974], 0, 0, m_Mod_odds), (1525, .lcmp, 1, [], [], 0, 0, cp_m0), (1526, .ifCond .eq 420, 3, [1946], [], 0, 0, cp_m0), (1529, .iconst 0, 1, [], [], 0, 0, cp_m0), (1530, .ireturn, 1, [1], [], 0, 0, cp_m0)]
def bl_Lw49 : List (Nat × List cp_AI) := [(1477, b_Lw49_1477), (1497, b_Lw49_1497), (1498, b_Lw49_1498), (1521, b_Lw49_1521), (1522, b_Lw49_1522)]
set_option maxRecDepth 100000 in
theorem ck_Lw49 : cp_bl m_law bl_Lw49 = true := by decide +kernel
theorem j_Lw49_1477 : cp_jl bl_Lw49 1477 = b_Lw49_1477 := rfl
theorem j_Lw49_1497 : cp_jl bl_Lw49 1497 = b_Lw49_1497 := rfl
theorem j_Lw49_1498 : cp_jl bl_Lw49 1498 = b_Lw49_1498 := rfl
theorem j_Lw49_1521 : cp_jl bl_Lw49 1521 = b_Lw49_1521 := rfl
theorem j_Lw49_1522 : cp_jl bl_Lw49 1522 = b_Lw49_1522 := rfl
def b_Lw50_1531 : List cp_AI := [(1531, .aload_n 1, 1, [1], [], 0, 0, cp_m0), (1532, .aload_n 0, 1, [0], [], 0, 0, cp_m0), (1533, .iload 4, 2, [4], [], 0, 0, cp_m0), (1535, .iconst 1, 1, [], [], 1, 0, cp_m0), (1536, .iadd, 1, [], [], 0, 0, cp_m0), (1537, .iaload, 1, [1], [], 0, 0, cp_m0), (1538, .ifCond .eq 7, 3, [1545], [], 0, 0, cp_m0), (1541, .iconst 1, 1, [], [], 1, 0, cp_m0), (1542, .goto 4, 3, [1546], [], 0, 0, cp_m0)]
def b_Lw50_1545 : List cp_AI := [(1545, .iconst 0, 1, [], [], 0, 0, cp_m0), (1546, .nop, 0, [], [], 0, 0, cp_m0)]
def b_Lw50_1546 : List cp_AI := [(1546, .invokevirtual 224, 3, [1, 10, 14, 0, 0], [1193, 1194, 1195], 0, 0, m_CP_mean), (1549, .aload_n 2, 1, [2], [], 0, 0, cp_m0), (1550, .aload_n 0, 1, [0], [], 0, 0, cp_m0), (1551, .iload 4, 2, [4], [], 0, 0, cp_m0), (1553, .iconst 1, 1, [], [], 1, 0, cp_m0), (1554, .iadd, 1, [], [], 0, 0, cp_m0), (1555, .iaload, 1, [1], [], 0, 0, cp_m0), (1556, .ifCond .eq 7, 3, [1563], [], 0, 0, cp_m0), (1559, .iconst 1, 1, [], [], 1, 0, cp_m0), (1560, .goto 4, 3, [1564], [], 0, 0, cp_m0)]
def b_Lw50_1563 : List cp_AI := [(1563, .iconst 0, 1, [], [], 0, 0, cp_m0), (1564, .nop, 0, [], [], 0, 0, cp_m0)]
def b_Lw50_1564 : List cp_AI := [(1564, .invokevirtual 228, 3, [1, 11, 41, 0, 0], [1983, 1984, 1985], 0, 0, m_Mod_mean), (1567, .lcmp, 1, [], [], 0, 0, cp_m0), (1568, .ifCond .eq 378, 3, [1946], [], 0, 0, cp_m0), (1571, .iconst 0, 1, [], [], 0, 0, cp_m0), (1572, .ireturn, 1, [1], [], 0, 0, cp_m0)]
def bl_Lw50 : List (Nat × List cp_AI) := [(1531, b_Lw50_1531), (1545, b_Lw50_1545), (1546, b_Lw50_1546), (1563, b_Lw50_1563), (1564, b_Lw50_1564)]
set_option maxRecDepth 100000 in
theorem ck_Lw50 : cp_bl m_law bl_Lw50 = true := by decide +kernel
theorem j_Lw50_1531 : cp_jl bl_Lw50 1531 = b_Lw50_1531 := rfl
theorem j_Lw50_1545 : cp_jl bl_Lw50 1545 = b_Lw50_1545 := rfl
theorem j_Lw50_1546 : cp_jl bl_Lw50 1546 = b_Lw50_1546 := rfl
theorem j_Lw50_1563 : cp_jl bl_Lw50 1563 = b_Lw50_1563 := rfl
theorem j_Lw50_1564 : cp_jl bl_Lw50 1564 = b_Lw50_1564 := rfl
def b_Lw51_1573 : List cp_AI := [(1573, .aload_n 1, 1, [1], [], 0, 0, cp_m0), (1574, .aload_n 0, 1, [0], [], 0, 0, cp_m0), (1575, .iload 4, 2, [4], [], 0, 0, cp_m0), (1577, .iconst 1, 1, [], [], 1, 0, cp_m0), (1578, .iadd, 1, [], [], 0, 0, cp_m0), (1579, .iaload, 1, [1], [], 0, 0, cp_m0), (1580, .ifCond .eq 7, 3, [1587], [], 0, 0, cp_m0), (1583, .iconst 1, 1, [], [], 1, 0, cp_m0), (1584, .goto 4, 3, [1588], [], 0, 0, cp_m0)]
def b_Lw51_1587 : List cp_AI := [(1587, .iconst 0, 1, [], [], 0, 0, cp_m0), (1588, .nop, 0, [], [], 0, 0, cp_m0)]
def b_Lw51_1588 : List cp_AI := [(1588, .invokevirtual 229, 3, [1, 10, 14, 0, 0], [1202, 1203, 1204], 0, 0, m_CP_icy), (1591, .aload_n 2, 1, [2], [], 0, 0, cp_m0), (1592, .aload_n 0, 1, [0], [], 0, 0, cp_m0), (1593, .iload 4, 2, [4], [], 0, 0, cp_m0), (1595, .iconst 1, 1, [], [], 1, 0, cp_m0), (1596, .iadd, 1, [], [], 0, 0, cp_m0), (1597, .iaload, 1, [1], [], 0, 0, cp_m0), (1598, .ifCond .eq 7, 3, [1605], [], 0, 0, cp_m0), (1601, .iconst 1, 1, [], [], 1, 0, cp_m0), (1602, .goto 4, 3, [1606], [], 0, 0, cp_m0)]
def b_Lw51_1605 : List cp_AI := [(1605, .iconst 0, 1, [], [], 0, 0, cp_m0), (1606, .nop, 0, [], [], 0, 0, cp_m0)]
def b_Lw51_1606 : List cp_AI := [(1606, .invokevirtual 232, 3, [1, 11, 41, 0, 0], [1987, 1988, 1989], 0, 0, m_Mod_icy), (1609, .lcmp, 1, [], [], 0, 0, cp_m0), (1610, .ifCond .eq 336, 3, [1946], [], 0, 0, cp_m0), (1613, .iconst 0, 1, [], [], 0, 0, cp_m0), (1614, .ireturn, 1, [1], [], 0, 0, cp_m0)]
def bl_Lw51 : List (Nat × List cp_AI) := [(1573, b_Lw51_1573), (1587, b_Lw51_1587), (1588, b_Lw51_1588), (1605, b_Lw51_1605), (1606, b_Lw51_1606)]
set_option maxRecDepth 100000 in
theorem ck_Lw51 : cp_bl m_law bl_Lw51 = true := by decide +kernel
theorem j_Lw51_1573 : cp_jl bl_Lw51 1573 = b_Lw51_1573 := rfl
theorem j_Lw51_1587 : cp_jl bl_Lw51 1587 = b_Lw51_1587 := rfl
theorem j_Lw51_1588 : cp_jl bl_Lw51 1588 = b_Lw51_1588 := rfl
theorem j_Lw51_1605 : cp_jl bl_Lw51 1605 = b_Lw51_1605 := rfl
theorem j_Lw51_1606 : cp_jl bl_Lw51 1606 = b_Lw51_1606 := rfl
def b_Lw52_1615 : List cp_AI := [(1615, .aload_n 1, 1, [1], [], 0, 0, cp_m0), (1616, .aload_n 0, 1, [0], [], 0, 0, cp_m0), (1617, .iload 4, 2, [4], [], 0, 0, cp_m0), (1619, .iconst 1, 1, [], [], 1, 0, cp_m0), (1620, .iadd, 1, [], [], 0, 0, cp_m0), (1621, .iaload, 1, [1], [], 0, 0, cp_m0), (1622, .aload_n 0, 1, [0], [], 0, 0, cp_m0), (1623, .iload 4, 2, [4], [], 0, 0, cp_m0), (1625, .iconst 2, 1, [], [], 2, 0, cp_m0), (1626, .iadd, 1, [], [], 0, 0, cp_m0), (1627, .iaload, 1, [1], [], 0, 0, cp_m0), (1628, .aload_n 0, 1, [0], [], 0, 0, cp_m0), (1629, .iload 4, 2, [4], [], 0, 0, cp_m0), (1631, .iconst 3, 1, [], [], 3, 0, cp_m0), (1632, .iadd, 1, [], [], 0, 0, cp_m0), (1633, .iaload, 1, [1], [], 0, 0, cp_m0), (1634, .invokevirtual 233, 3, [3, 10, 14, 0, 0], [1211, 1212, 1213], 0, 0, m_CP_mornings), (1637, .aload_n 2, 1, [2], [], 0, 0, cp_m0), (1638, .aload_n 0, 1, [0], [], 0, 0, cp_m0), (1639, .iload 4, 2, [4], [], 0, 0, cp_m0), (1641, .iconst 1, 1, [], [], 1, 0, cp_m0), (1642, .iadd, 1, [], [], 0, 0, cp_m0), (1643, .iaload, 1, [1], [], 0, 0, cp_m0), (1644, .aload_n 0, 1, [0], [], 0, 0, cp_m0), (1645, .iload 4, 2, [4], [], 0, 0, cp_m0), (1647, .iconst 2, 1, [], [], 2, 0, cp_m0), (1648, .iadd, 1, [], [], 0, 0, cp_m0), (1649, .iaload, 1, [1], [], 0, 0, cp_m0), (1650, .aload_n 0, 1, [0], [], 0, 0, cp_m0), (1651, .iload 4, 2, [4], [], 0, 0, cp_m0), (1653, .iconst 3, 1, [], [], 3, 0, cp_m0), (1654, .iadd, 1, [], [], 0, 0, cp_m0), (1655, .iaload, 1, [1], [], 0, 0, cp_m0), (1656, .invokevirtual 237, 3, [3, 11, 41, 0, 0], [1991, 1992, 1993], 0, 0, m_Mod_mornings), (1659, .if_icmp .eq 287, 3, [1946], [], 0, 0, cp_m0), (1662, .iconst 0, 1, [], [], 0, 0, cp_m0), (1663, .ireturn, 1, [1], [], 0, 0, cp_m0)]
def bl_Lw52 : List (Nat × List cp_AI) := [(1615, b_Lw52_1615)]
set_option maxRecDepth 100000 in
theorem ck_Lw52 : cp_bl m_law bl_Lw52 = true := by decide +kernel
theorem j_Lw52_1615 : cp_jl bl_Lw52 1615 = b_Lw52_1615 := rfl
def b_Lw53_1664 : List cp_AI := [(1664, .aload_n 1, 1, [1], [], 0, 0, cp_m0), (1665, .aload_n 0, 1, [0], [], 0, 0, cp_m0), (1666, .iload 4, 2, [4], [], 0, 0, cp_m0), (1668, .iconst 1, 1, [], [], 1, 0, cp_m0), (1669, .iadd, 1, [], [], 0, 0, cp_m0), (1670, .iaload, 1, [1], [], 0, 0, cp_m0), (1671, .aload_n 0, 1, [0], [], 0, 0, cp_m0), (1672, .iload 4, 2, [4], [], 0, 0, cp_m0), (1674, .iconst 2, 1, [], [], 2, 0, cp_m0), (1675, .iadd, 1, [], [], 0, 0, cp_m0), (1676, .iaload, 1, [1], [], 0, 0, cp_m0), (1677, .invokevirtual 238, 3, [2, 10, 14, 0, 0], [1230, 1231, 1232], 0, 0, m_CP_waits), (1680, .aload_n 2, 1, [2], [], 0, 0, cp_m0), (1681, .aload_n 0, 1, [0], [], 0, 0, cp_m0), (1682, .iload 4, 2, [4], [], 0, 0, cp_m0), (1684, .iconst 1, 1, [], [], 1, 0, cp_m0), (1685, .iadd, 1, [], [], 0, 0, cp_m0), (1686, .iaload, 1, [1], [], 0, 0, cp_m0), (1687, .aload_n 0, 1, [0], [], 0, 0, cp_m0), (1688, .iload 4, 2, [4], [], 0, 0, cp_m0), (1690, .iconst 2, 1, [], [], 2, 0, cp_m0), (1691, .iadd, 1, [], [], 0, 0, cp_m0), (1692, .iaload, 1, [1], [], 0, 0, cp_m0), (1693, .invokevirtual 241, 3, [2, 11, 41, 0, 0], [2001, 2002, 2003], 0, 0, m_Mod_waits), (1696, .if_icmp .eq 250, 3, [1946], [], 0, 0, cp_m0), (1699, .iconst 0, 1, [], [], 0, 0, cp_m0), (1700, .ireturn, 1, [1], [], 0, 0, cp_m0)]
def bl_Lw53 : List (Nat × List cp_AI) := [(1664, b_Lw53_1664)]
set_option maxRecDepth 100000 in
theorem ck_Lw53 : cp_bl m_law bl_Lw53 = true := by decide +kernel
theorem j_Lw53_1664 : cp_jl bl_Lw53 1664 = b_Lw53_1664 := rfl
def b_Lw54_1701 : List cp_AI := [(1701, .aload_n 1, 1, [1], [], 0, 0, cp_m0), (1702, .aload_n 0, 1, [0], [], 0, 0, cp_m0), (1703, .iload 4, 2, [4], [], 0, 0, cp_m0), (1705, .iconst 1, 1, [], [], 1, 0, cp_m0), (1706, .iadd, 1, [], [], 0, 0, cp_m0), (1707, .iaload, 1, [1], [], 0, 0, cp_m0), (1708, .invokevirtual 242, 3, [1, 10, 14, 0, 0], [1239, 1240, 1241], 0, 0, m_CP_come), (1711, .aload_n 2, 1, [2], [], 0, 0, cp_m0), (1712, .aload_n 0, 1, [0], [], 0, 0, cp_m0), (1713, .iload 4, 2, [4], [], 0, 0, cp_m0), (1715, .iconst 1, 1, [], [], 1, 0, cp_m0), (1716, .iadd, 1, [], [], 0, 0, cp_m0), (1717, .iaload, 1, [1], [], 0, 0, cp_m0), (1718, .invokevirtual 245, 3, [1, 11, 41, 0, 0], [2005, 2006, 2007], 0, 0, m_Mod_come), (1721, .if_icmp .eq 225, 3, [1946], [], 0, 0, cp_m0), (1724, .iconst 0, 1, [], [], 0, 0, cp_m0), (1725, .ireturn, 1, [1], [], 0, 0, cp_m0)]
def bl_Lw54 : List (Nat × List cp_AI) := [(1701, b_Lw54_1701)]
set_option maxRecDepth 100000 in
theorem ck_Lw54 : cp_bl m_law bl_Lw54 = true := by decide +kernel
theorem j_Lw54_1701 : cp_jl bl_Lw54 1701 = b_Lw54_1701 := rfl
def b_Lw55_1726 : List cp_AI := [(1726, .aload_n 1, 1, [1], [], 0, 0, cp_m0), (1727, .aload_n 0, 1, [0], [], 0, 0, cp_m0), (1728, .iload 4, 2, [4], [], 0, 0, cp_m0), (1730, .iconst 1, 1, [], [], 1, 0, cp_m0), (1731, .iadd, 1, [], [], 0, 0, cp_m0), (1732, .iaload, 1, [1], [], 0, 0, cp_m0), (1733, .invokevirtual 246, 3, [1, 10, 14, 0, 0], [1253, 1254, 1255], 0, 0, m_CP_get), (1736, .aload_n 2, 1, [2], [], 0, 0, cp_m0), (1737, .aload_n 0, 1, [0], [], 0, 0, cp_m0), (1738, .iload 4, 2, [4], [], 0, 0, cp_m0), (1740, .iconst 1, 1, [], [], 1, 0, cp_m0), (1741, .iadd, 1, [], [], 0, 0, cp_m0), (1742, .iaload, 1, [1], [], 0, 0, cp_m0), (1743, .invokevirtual 249, 3, [1, 11, 41, 0, 0], [2017, 2018, 2019], 0, 0, m_Mod_get), (1746, .if_icmp .eq 200, 3, [1946], [], 0, 0, cp_m0), (1749, .iconst 0, 1, [], [], 0, 0, cp_m0), (1750, .ireturn, 1, [1], [], 0, 0, cp_m0)]
def bl_Lw55 : List (Nat × List cp_AI) := [(1726, b_Lw55_1726)]
set_option maxRecDepth 100000 in
theorem ck_Lw55 : cp_bl m_law bl_Lw55 = true := by decide +kernel
theorem j_Lw55_1726 : cp_jl bl_Lw55 1726 = b_Lw55_1726 := rfl
def b_Lw56_1751 : List cp_AI := [(1751, .aload_n 1, 1, [1], [], 0, 0, cp_m0), (1752, .aload_n 0, 1, [0], [], 0, 0, cp_m0), (1753, .iload 4, 2, [4], [], 0, 0, cp_m0), (1755, .iconst 1, 1, [], [], 1, 0, cp_m0), (1756, .iadd, 1, [], [], 0, 0, cp_m0), (1757, .iaload, 1, [1], [], 0, 0, cp_m0), (1758, .aload_n 0, 1, [0], [], 0, 0, cp_m0), (1759, .iload 4, 2, [4], [], 0, 0, cp_m0), (1761, .iconst 2, 1, [], [], 2, 0, cp_m0), (1762, .iadd, 1, [], [], 0, 0, cp_m0), (1763, .iaload, 1, [1], [], 0, 0, cp_m0), (1764, .invokevirtual 250, 3, [2, 10, 14, 0, 0], [1257, 1258, 1259], 0, 0, m_CP_introduce), (1767, .aload_n 2, 1, [2], [], 0, 0, cp_m0), (1768, .aload_n 0, 1, [0], [], 0, 0, cp_m0), (1769, .iload 4, 2, [4], [], 0, 0, cp_m0), (1771, .iconst 1, 1, [], [], 1, 0, cp_m0), (1772, .iadd, 1, [], [], 0, 0, cp_m0), (1773, .iaload, 1, [1], [], 0, 0, cp_m0), (1774, .aload_n 0, 1, [0], [], 0, 0, cp_m0), (1775, .iload 4, 2, [4], [], 0, 0, cp_m0), (1777, .iconst 2, 1, [], [], 2, 0, cp_m0), (1778, .iadd, 1, [], [], 0, 0, cp_m0), (1779, .iaload, 1, [1], [], 0, 0, cp_m0), (1780, .invokevirtual 254, 3, [2, 11, 41, 0, 0], [2021, 2022, 2023], 0, 0, m_Mod_introduce), (1783, .if_icmp .eq 163, 3, [1946], [], 0, 0, cp_m0), (1786, .iconst 0, 1, [], [], 0, 0, cp_m0), (1787, .ireturn, 1, [1], [], 0, 0, cp_m0)]
def bl_Lw56 : List (Nat × List cp_AI) := [(1751, b_Lw56_1751)]
set_option maxRecDepth 100000 in
theorem ck_Lw56 : cp_bl m_law bl_Lw56 = true := by decide +kernel
theorem j_Lw56_1751 : cp_jl bl_Lw56 1751 = b_Lw56_1751 := rfl
def b_Lw57_1788 : List cp_AI := [(1788, .aload_n 1, 1, [1], [], 0, 0, cp_m0), (1789, .invokevirtual 255, 3, [0, 10, 14, 0, 0], [1262, 1263, 1264], 0, 0, m_CP_minute), (1792, .aload_n 2, 1, [2], [], 0, 0, cp_m0), (1793, .invokevirtual 258, 3, [0, 11, 41, 0, 0], [2029, 2030, 2031], 0, 0, m_Mod_minute), (1796, .if_icmp .eq 150, 3, [1946], [], 0, 0, cp_m0), (1799, .iconst 0, 1, [], [], 0, 0, cp_m0), (1800, .ireturn, 1, [1], [], 0, 0, cp_m0)]
def bl_Lw57 : List (Nat × List cp_AI) := [(1788, b_Lw57_1788)]
set_option maxRecDepth 100000 in
theorem ck_Lw57 : cp_bl m_law bl_Lw57 = true := by decide +kernel
theorem j_Lw57_1788 : cp_jl bl_Lw57 1788 = b_Lw57_1788 := rfl
def b_Lw58_1801 : List cp_AI := [(1801, .aload_n 1, 1, [1], [], 0, 0, cp_m0), (1802, .invokevirtual 259, 3, [0, 10, 14, 0, 0], [1266, 1267, 1268], 0, 0, m_CP_undo), (1805, .aload_n 2, 1, [2], [], 0, 0, cp_m0), (1806, .invokevirtual 263, 3, [0, 11, 41, 0, 0], [2033, 2034, 2035], 0, 0, m_Mod_undo), (1809, .if_icmp .eq 137, 3, [1946], [], 0, 0, cp_m0), (1812, .iconst 0, 1, [], [], 0, 0, cp_m0), (1813, .ireturn, 1, [1], [], 0, 0, cp_m0)]
def bl_Lw58 : List (Nat × List cp_AI) := [(1801, b_Lw58_1801)]
set_option maxRecDepth 100000 in
theorem ck_Lw58 : cp_bl m_law bl_Lw58 = true := by decide +kernel
theorem j_Lw58_1801 : cp_jl bl_Lw58 1801 = b_Lw58_1801 := rfl
def b_Lw59_1814 : List cp_AI := [(1814, .aload_n 1, 1, [1], [], 0, 0, cp_m0), (1815, .invokevirtual 264, 3, [0, 10, 14, 0, 0], [1275, 1276, 1277], 0, 0, m_CP_image), (1818, .aload_n 2, 1, [2], [], 0, 0, cp_m0), (1819, .invokevirtual 267, 3, [0, 11, 41, 0, 0], [2037, 2038, 2039], 0, 0, m_Mod_image), (1822, .if_icmp .eq 124, 3, [1946], [], 0, 0, cp_m0), (1825, .iconst 0, 1, [], [], 0, 0, cp_m0), (1826, .ireturn, 1, [1], [], 0, 0, cp_m0)]
def bl_Lw59 : List (Nat × List cp_AI) := [(1814, b_Lw59_1814)]
set_option maxRecDepth 100000 in
theorem ck_Lw59 : cp_bl m_law bl_Lw59 = true := by decide +kernel
theorem j_Lw59_1814 : cp_jl bl_Lw59 1814 = b_Lw59_1814 := rfl
def b_Lw60_1827 : List cp_AI := [(1827, .aload_n 1, 1, [1], [], 0, 0, cp_m0), (1828, .aload_n 0, 1, [0], [], 0, 0, cp_m0), (1829, .iload 4, 2, [4], [], 0, 0, cp_m0), (1831, .iconst 1, 1, [], [], 1, 0, cp_m0), (1832, .iadd, 1, [], [], 0, 0, cp_m0), (1833, .iaload, 1, [1], [], 0, 0, cp_m0), (1834, .invokevirtual 268, 3, [1, 10, 14, 0, 0], [1283, 1284, 1285], 0, 0, m_CP_back), (1837, .aload_n 2, 1, [2], [], 0, 0, cp_m0), (1838, .aload_n 0, 1, [0], [], 0, 0, cp_m0), (1839, .iload 4, 2, [4], [], 0, 0, cp_m0), (1841, .iconst 1, 1, [], [], 1, 0, cp_m0), (1842, .iadd, 1, [], [], 0, 0, cp_m0), (1843, .iaload, 1, [1], [], 0, 0, cp_m0), (1844, .invokevirtual 272, 3, [1, 11, 41, 0, 0], [2041, 2042, 2043], 0, 0, m_Mod_back), (1847, .if_icmp .eq 99, 3, [1946], [], 0, 0, cp_m0), (1850, .iconst 0, 1, [], [], 0, 0, cp_m0), (1851, .ireturn, 1, [1], [], 0, 0, cp_m0)]
def bl_Lw60 : List (Nat × List cp_AI) := [(1827, b_Lw60_1827)]
set_option maxRecDepth 100000 in
theorem ck_Lw60 : cp_bl m_law bl_Lw60 = true := by decide +kernel
theorem j_Lw60_1827 : cp_jl bl_Lw60 1827 = b_Lw60_1827 := rfl
def b_Lw61_1852 : List cp_AI := [(1852, .aload_n 1, 1, [1], [], 0, 0, cp_m0), (1853, .aload_n 0, 1, [0], [], 0, 0, cp_m0), (1854, .iload 4, 2, [4], [], 0, 0, cp_m0), (1856, .iconst 1, 1, [], [], 1, 0, cp_m0), (1857, .iadd, 1, [], [], 0, 0, cp_m0), (1858, .iaload, 1, [1], [], 0, 0, cp_m0), (1859, .aload_n 3, 1, [3], [], 0, 0, cp_m0), (1860, .nop, 0, [], [], 0, 0, cp_m0)]
def b_Lw61_1863 : List cp_AI := [(1863, .istore 5, 2, [5], [], 0, 0, cp_m0), (1865, .aload_n 2, 1, [2], [], 0, 0, cp_m0), (1866, .aload_n 0, 1, [0], [], 0, 0, cp_m0), (1867, .iload 4, 2, [4], [], 0, 0, cp_m0), (1869, .iconst 1, 1, [], [], 1, 0, cp_m0), (1870, .iadd, 1, [], [], 0, 0, cp_m0), (1871, .iaload, 1, [1], [], 0, 0, cp_m0), (1872, .invokevirtual 278, 3, [1, 11, 41, 0, 0], [2045, 2046, 2047], 0, 0, m_Mod_led), (1875, .istore 6, 2, [6], [], 0, 0, cp_m0), (1877, .aload_n 2, 1, [2], [], 0, 0, cp_m0), (1878, .invokevirtual 279, 3, [0, 11, 41, 0, 0], [1510, 1511, 1512], 0, 0, m_Mod_thrown), (1881, .iload 5, 2, [5], [], 0, 0, cp_m0), (1883, .if_icmp .eq 5, 3, [1888], [], 0, 0, cp_m0), (1886, .iconst 0, 1, [], [], 0, 0, cp_m0), (1887, .ireturn, 1, [1], [], 0, 0, cp_m0)]
def b_Lw61_1888 : List cp_AI := [(1888, .iload 5, 2, [5], [], 0, 0, cp_m0), (1890, .ifCond .ne 15, 3, [1905], [], 0, 0, cp_m0), (1893, .aload_n 3, 1, [3], [], 0, 0, cp_m0), (1894, .iconst 0, 1, [], [], 0, 0, cp_m0), (1895, .laload, 1, [], [], 0, 0, cp_m0), (1896, .iload 6, 2, [6], [], 0, 0, cp_m0), (1898, .i2l, 1, [], [], 0, 0, cp_m0), (1899, .lcmp, 1, [], [], 0, 0, cp_m0), (1900, .ifCond .eq 5, 3, [1905], [], 0, 0, cp_m0), (1903, .iconst 0, 1, [], [], 0, 0, cp_m0), (1904, .ireturn, 1, [1], [], 0, 0, cp_m0)]
def b_Lw61_1905 : List cp_AI := [(1905, .goto 41, 3, [1946], [], 0, 0, cp_m0)]
def bl_Lw61 : List (Nat × List cp_AI) := [(1852, b_Lw61_1852), (1863, b_Lw61_1863), (1888, b_Lw61_1888), (1905, b_Lw61_1905)]
set_option maxRecDepth 100000 in
theorem ck_Lw61 : cp_bl m_law bl_Lw61 = true := by decide +kernel
theorem j_Lw61_1852 : cp_jl bl_Lw61 1852 = b_Lw61_1852 := rfl
theorem j_Lw61_1863 : cp_jl bl_Lw61 1863 = b_Lw61_1863 := rfl
theorem j_Lw61_1888 : cp_jl bl_Lw61 1888 = b_Lw61_1888 := rfl
theorem j_Lw61_1905 : cp_jl bl_Lw61 1905 = b_Lw61_1905 := rfl
def b_Lw62_1908 : List cp_AI := [(1908, .aload_n 1, 1, [1], [], 0, 0, cp_m0), (1909, .aload_n 0, 1, [0], [], 0, 0, cp_m0), (1910, .iload 4, 2, [4], [], 0, 0, cp_m0), (1912, .iconst 1, 1, [], [], 1, 0, cp_m0), (1913, .iadd, 1, [], [], 0, 0, cp_m0), (1914, .iaload, 1, [1], [], 0, 0, cp_m0), (1915, .invokevirtual 282, 3, [1, 10, 14, 0, 0], [1291, 1292, 1293], 0, 0, m_CP_size), (1918, .aload_n 2, 1, [2], [], 0, 0, cp_m0), (1919, .aload_n 0, 1, [0], [], 0, 0, cp_m0), (1920, .iload 4, 2, [4], [], 0, 0, cp_m0), (1922, .iconst 1, 1, [], [], 1, 0, cp_m0), (1923, .iadd, 1, [], [], 0, 0, cp_m0), (1924, .iaload, 1, [1], [], 0, 0, cp_m0), (1925, .invokevirtual 285, 3, [1, 11, 41, 0, 0], [2049, 2050, 2051], 0, 0, m_Mod_size), (1928, .if_icmp .eq 18, 3, [1946], [], 0, 0, cp_m0), (1931, .iconst 0, 1, [], [], 0, 0, cp_m0), (1932, .ireturn, 1, [1], [], 0, 0, cp_m0)]
def bl_Lw62 : List (Nat × List cp_AI) := [(1908, b_Lw62_1908)]
set_option maxRecDepth 100000 in
theorem ck_Lw62 : cp_bl m_law bl_Lw62 = true := by decide +kernel
theorem j_Lw62_1908 : cp_jl bl_Lw62 1908 = b_Lw62_1908 := rfl
def b_Lw63_1933 : List cp_AI := [(1933, .aload_n 1, 1, [1], [], 0, 0, cp_m0), (1934, .invokevirtual 286, 3, [0, 10, 14, 0, 0], [1299, 1300, 1301], 0, 0, m_CP_trouble), (1937, .aload_n 2, 1, [2], [], 0, 0, cp_m0), (1938, .invokevirtual 289, 3, [0, 11, 41, 0, 0], [2057, 2058, 2059], 0, 0, m_Mod_trouble), (1941, .if_icmp .eq 5, 3, [1946], [], 0, 0, cp_m0), (1944, .iconst 0, 1, [], [], 0, 0, cp_m0), (1945, .ireturn, 1, [1], [], 0, 0, cp_m0)]
def bl_Lw63 : List (Nat × List cp_AI) := [(1933, b_Lw63_1933)]
set_option maxRecDepth 100000 in
theorem ck_Lw63 : cp_bl m_law bl_Lw63 = true := by decide +kernel
theorem j_Lw63_1933 : cp_jl bl_Lw63 1933 = b_Lw63_1933 := rfl
theorem k_law : cp_k m_law = 2 := by decide +kernel
