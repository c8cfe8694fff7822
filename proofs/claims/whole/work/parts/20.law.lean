def dl_law_0 : List (Nat × Instr × Nat) := [(0, .new 7, 3), (3, .dup, 1), (4, .aload_n 0, 1), (5, .iconst 0, 1), (6, .invokestatic 9, 3), (9, .invokespecial 15, 3), (12, .astore_n 1, 1), (13, .new 18, 3), (16, .dup, 1), (17, .aload_n 0, 1), (18, .iconst 0, 1), (19, .invokestatic 9, 3), (22, .invokespecial 20, 3), (25, .astore_n 2, 1), (26, .iconst 1, 1), (27, .istore_n 3, 1), (28, .iload_n 3, 1), (29, .aload_n 0, 1), (30, .arraylength, 1), (31, .bipush 6, 2), (33, .isub, 1), (34, .if_icmp .gt 1181, 3), (37, .aload_n 0, 1), (38, .iload_n 3, 1), (39, .iaload, 1), (40, .bipush 31, 2), (42, .iand, 1), (43, .tableswitch 1166 0 28 #[129, 172, 215, 278, 301, 334, 377, 420, 433, 466, 499, 522, 575, 608, 661, 694, 707, 740, 783, 836, 899, 942, 955, 988, 1021, 1064, 1107, 1130, 1153], 129), (172, .aload_n 1, 1), (173, .aload_n 0, 1), (174, .iload_n 3, 1), (175, .iconst 1, 1), (176, .iadd, 1), (177, .iaload, 1), (178, .aload_n 0, 1), (179, .iload_n 3, 1), (180, .iconst 2, 1), (181, .iadd, 1), (182, .iaload, 1), (183, .aload_n 0, 1), (184, .iload_n 3, 1), (185, .iconst 3, 1), (186, .iadd, 1), (187, .iaload, 1), (188, .invokevirtual 21, 3), (191, .aload_n 2, 1), (192, .aload_n 0, 1), (193, .iload_n 3, 1), (194, .iconst 1, 1), (195, .iadd, 1), (196, .iaload, 1), (197, .aload_n 0, 1), (198, .iload_n 3, 1), (199, .iconst 2, 1), (200, .iadd, 1), (201, .iaload, 1), (202, .aload_n 0, 1), (203, .iload_n 3, 1), (204, .iconst 3, 1), (205, .iadd, 1)]
theorem dd_law_0 : dAllb code dl_law_0 = true := by decide +kernel
def dl_law_1 : List (Nat × Instr × Nat) := [(206, .iaload, 1), (207, .invokevirtual 25, 3), (210, .if_icmp .eq 999, 3), (213, .iconst 0, 1), (214, .ireturn, 1), (215, .aload_n 1, 1), (216, .aload_n 0, 1), (217, .iload_n 3, 1), (218, .iconst 1, 1), (219, .iadd, 1), (220, .iaload, 1), (221, .aload_n 0, 1), (222, .iload_n 3, 1), (223, .iconst 2, 1), (224, .iadd, 1), (225, .iaload, 1), (226, .aload_n 0, 1), (227, .iload_n 3, 1), (228, .iconst 3, 1), (229, .iadd, 1), (230, .iaload, 1), (231, .invokevirtual 26, 3), (234, .aload_n 2, 1), (235, .aload_n 0, 1), (236, .iload_n 3, 1), (237, .iconst 1, 1), (238, .iadd, 1), (239, .iaload, 1), (240, .aload_n 0, 1), (241, .iload_n 3, 1), (242, .iconst 2, 1), (243, .iadd, 1), (244, .iaload, 1), (245, .aload_n 0, 1), (246, .iload_n 3, 1), (247, .iconst 3, 1), (248, .iadd, 1), (249, .iaload, 1), (250, .invokevirtual 29, 3), (253, .if_icmp .eq 956, 3), (256, .iconst 0, 1), (257, .ireturn, 1), (258, .aload_n 1, 1), (259, .aload_n 0, 1), (260, .iload_n 3, 1), (261, .iconst 1, 1), (262, .iadd, 1), (263, .iaload, 1), (264, .aload_n 0, 1), (265, .iload_n 3, 1), (266, .iconst 2, 1), (267, .iadd, 1), (268, .iaload, 1), (269, .aload_n 0, 1), (270, .iload_n 3, 1), (271, .iconst 3, 1), (272, .iadd, 1), (273, .iaload, 1), (274, .aload_n 0, 1), (275, .iload_n 3, 1)]
theorem dd_law_1 : dAllb code dl_law_1 = true := by decide +kernel
def dl_law_2 : List (Nat × Instr × Nat) := [(276, .iconst 4, 1), (277, .iadd, 1), (278, .iaload, 1), (279, .aload_n 0, 1), (280, .iload_n 3, 1), (281, .iconst 5, 1), (282, .iadd, 1), (283, .iaload, 1), (284, .invokevirtual 30, 3), (287, .aload_n 2, 1), (288, .aload_n 0, 1), (289, .iload_n 3, 1), (290, .iconst 1, 1), (291, .iadd, 1), (292, .iaload, 1), (293, .aload_n 0, 1), (294, .iload_n 3, 1), (295, .iconst 2, 1), (296, .iadd, 1), (297, .iaload, 1), (298, .aload_n 0, 1), (299, .iload_n 3, 1), (300, .iconst 3, 1), (301, .iadd, 1), (302, .iaload, 1), (303, .aload_n 0, 1), (304, .iload_n 3, 1), (305, .iconst 4, 1), (306, .iadd, 1), (307, .iaload, 1), (308, .aload_n 0, 1), (309, .iload_n 3, 1), (310, .iconst 5, 1), (311, .iadd, 1), (312, .iaload, 1), (313, .invokevirtual 34, 3), (316, .if_icmp .eq 893, 3), (319, .iconst 0, 1), (320, .ireturn, 1), (321, .aload_n 1, 1), (322, .aload_n 0, 1), (323, .iload_n 3, 1), (324, .iconst 1, 1), (325, .iadd, 1), (326, .iaload, 1), (327, .invokevirtual 35, 3), (330, .aload_n 2, 1), (331, .aload_n 0, 1), (332, .iload_n 3, 1), (333, .iconst 1, 1), (334, .iadd, 1), (335, .iaload, 1), (336, .invokevirtual 39, 3), (339, .if_icmp .eq 870, 3), (342, .iconst 0, 1), (343, .ireturn, 1), (344, .aload_n 1, 1), (345, .aload_n 0, 1), (346, .iload_n 3, 1), (347, .iconst 1, 1)]
theorem dd_law_2 : dAllb code dl_law_2 = true := by decide +kernel
def dl_law_3 : List (Nat × Instr × Nat) := [(348, .iadd, 1), (349, .iaload, 1), (350, .aload_n 0, 1), (351, .iload_n 3, 1), (352, .iconst 2, 1), (353, .iadd, 1), (354, .iaload, 1), (355, .invokevirtual 40, 3), (358, .aload_n 2, 1), (359, .aload_n 0, 1), (360, .iload_n 3, 1), (361, .iconst 1, 1), (362, .iadd, 1), (363, .iaload, 1), (364, .aload_n 0, 1), (365, .iload_n 3, 1), (366, .iconst 2, 1), (367, .iadd, 1), (368, .iaload, 1), (369, .invokevirtual 44, 3), (372, .if_icmp .eq 837, 3), (375, .iconst 0, 1), (376, .ireturn, 1), (377, .aload_n 1, 1), (378, .aload_n 0, 1), (379, .iload_n 3, 1), (380, .iconst 1, 1), (381, .iadd, 1), (382, .iaload, 1), (383, .aload_n 0, 1), (384, .iload_n 3, 1), (385, .iconst 2, 1), (386, .iadd, 1), (387, .iaload, 1), (388, .aload_n 0, 1), (389, .iload_n 3, 1), (390, .iconst 3, 1), (391, .iadd, 1), (392, .iaload, 1), (393, .invokevirtual 45, 3), (396, .aload_n 2, 1), (397, .aload_n 0, 1), (398, .iload_n 3, 1), (399, .iconst 1, 1), (400, .iadd, 1), (401, .iaload, 1), (402, .aload_n 0, 1), (403, .iload_n 3, 1), (404, .iconst 2, 1), (405, .iadd, 1), (406, .iaload, 1), (407, .aload_n 0, 1), (408, .iload_n 3, 1), (409, .iconst 3, 1), (410, .iadd, 1), (411, .iaload, 1), (412, .invokevirtual 48, 3), (415, .if_icmp .eq 794, 3), (418, .iconst 0, 1), (419, .ireturn, 1)]
theorem dd_law_3 : dAllb code dl_law_3 = true := by decide +kernel
def dl_law_4 : List (Nat × Instr × Nat) := [(420, .aload_n 1, 1), (421, .aload_n 0, 1), (422, .iload_n 3, 1), (423, .iconst 1, 1), (424, .iadd, 1), (425, .iaload, 1), (426, .aload_n 0, 1), (427, .iload_n 3, 1), (428, .iconst 2, 1), (429, .iadd, 1), (430, .iaload, 1), (431, .aload_n 0, 1), (432, .iload_n 3, 1), (433, .iconst 3, 1), (434, .iadd, 1), (435, .iaload, 1), (436, .invokevirtual 49, 3), (439, .aload_n 2, 1), (440, .aload_n 0, 1), (441, .iload_n 3, 1), (442, .iconst 1, 1), (443, .iadd, 1), (444, .iaload, 1), (445, .aload_n 0, 1), (446, .iload_n 3, 1), (447, .iconst 2, 1), (448, .iadd, 1), (449, .iaload, 1), (450, .aload_n 0, 1), (451, .iload_n 3, 1), (452, .iconst 3, 1), (453, .iadd, 1), (454, .iaload, 1), (455, .invokevirtual 52, 3), (458, .if_icmp .eq 751, 3), (461, .iconst 0, 1), (462, .ireturn, 1), (463, .aload_n 1, 1), (464, .invokevirtual 53, 3), (467, .aload_n 2, 1), (468, .invokevirtual 57, 3), (471, .if_icmp .eq 738, 3), (474, .iconst 0, 1), (475, .ireturn, 1), (476, .aload_n 1, 1), (477, .aload_n 0, 1), (478, .iload_n 3, 1), (479, .iconst 1, 1), (480, .iadd, 1), (481, .iaload, 1), (482, .aload_n 0, 1), (483, .iload_n 3, 1), (484, .iconst 2, 1), (485, .iadd, 1), (486, .iaload, 1), (487, .invokevirtual 58, 3), (490, .aload_n 2, 1), (491, .aload_n 0, 1), (492, .iload_n 3, 1), (493, .iconst 1, 1)]
theorem dd_law_4 : dAllb code dl_law_4 = true := by decide +kernel
def dl_law_5 : List (Nat × Instr × Nat) := [(494, .iadd, 1), (495, .iaload, 1), (496, .aload_n 0, 1), (497, .iload_n 3, 1), (498, .iconst 2, 1), (499, .iadd, 1), (500, .iaload, 1), (501, .invokevirtual 61, 3), (504, .if_icmp .eq 705, 3), (507, .iconst 0, 1), (508, .ireturn, 1), (509, .aload_n 1, 1), (510, .aload_n 0, 1), (511, .iload_n 3, 1), (512, .iconst 1, 1), (513, .iadd, 1), (514, .iaload, 1), (515, .aload_n 0, 1), (516, .iload_n 3, 1), (517, .iconst 2, 1), (518, .iadd, 1), (519, .iaload, 1), (520, .invokevirtual 62, 3), (523, .aload_n 2, 1), (524, .aload_n 0, 1), (525, .iload_n 3, 1), (526, .iconst 1, 1), (527, .iadd, 1), (528, .iaload, 1), (529, .aload_n 0, 1), (530, .iload_n 3, 1), (531, .iconst 2, 1), (532, .iadd, 1), (533, .iaload, 1), (534, .invokevirtual 65, 3), (537, .if_icmp .eq 672, 3), (540, .iconst 0, 1), (541, .ireturn, 1), (542, .aload_n 1, 1), (543, .aload_n 0, 1), (544, .iload_n 3, 1), (545, .iconst 1, 1), (546, .iadd, 1), (547, .iaload, 1), (548, .invokevirtual 66, 3), (551, .aload_n 2, 1), (552, .aload_n 0, 1), (553, .iload_n 3, 1), (554, .iconst 1, 1), (555, .iadd, 1), (556, .iaload, 1), (557, .invokevirtual 69, 3), (560, .if_icmp .eq 649, 3), (563, .iconst 0, 1), (564, .ireturn, 1), (565, .aload_n 1, 1), (566, .aload_n 0, 1), (567, .iload_n 3, 1), (568, .iconst 1, 1), (569, .iadd, 1)]
theorem dd_law_5 : dAllb code dl_law_5 = true := by decide +kernel
def dl_law_6 : List (Nat × Instr × Nat) := [(570, .iaload, 1), (571, .aload_n 0, 1), (572, .iload_n 3, 1), (573, .iconst 2, 1), (574, .iadd, 1), (575, .iaload, 1), (576, .aload_n 0, 1), (577, .iload_n 3, 1), (578, .iconst 3, 1), (579, .iadd, 1), (580, .iaload, 1), (581, .aload_n 0, 1), (582, .iload_n 3, 1), (583, .iconst 4, 1), (584, .iadd, 1), (585, .iaload, 1), (586, .invokevirtual 70, 3), (589, .aload_n 2, 1), (590, .aload_n 0, 1), (591, .iload_n 3, 1), (592, .iconst 1, 1), (593, .iadd, 1), (594, .iaload, 1), (595, .aload_n 0, 1), (596, .iload_n 3, 1), (597, .iconst 2, 1), (598, .iadd, 1), (599, .iaload, 1), (600, .aload_n 0, 1), (601, .iload_n 3, 1), (602, .iconst 3, 1), (603, .iadd, 1), (604, .iaload, 1), (605, .aload_n 0, 1), (606, .iload_n 3, 1), (607, .iconst 4, 1), (608, .iadd, 1), (609, .iaload, 1), (610, .invokevirtual 74, 3), (613, .if_icmp .eq 596, 3), (616, .iconst 0, 1), (617, .ireturn, 1), (618, .aload_n 1, 1), (619, .aload_n 0, 1), (620, .iload_n 3, 1), (621, .iconst 1, 1), (622, .iadd, 1), (623, .iaload, 1), (624, .aload_n 0, 1), (625, .iload_n 3, 1), (626, .iconst 2, 1), (627, .iadd, 1), (628, .iaload, 1), (629, .invokevirtual 75, 3), (632, .aload_n 2, 1), (633, .aload_n 0, 1), (634, .iload_n 3, 1), (635, .iconst 1, 1), (636, .iadd, 1), (637, .iaload, 1)]
theorem dd_law_6 : dAllb code dl_law_6 = true := by decide +kernel
def dl_law_7 : List (Nat × Instr × Nat) := [(638, .aload_n 0, 1), (639, .iload_n 3, 1), (640, .iconst 2, 1), (641, .iadd, 1), (642, .iaload, 1), (643, .invokevirtual 78, 3), (646, .if_icmp .eq 563, 3), (649, .iconst 0, 1), (650, .ireturn, 1), (651, .aload_n 1, 1), (652, .aload_n 0, 1), (653, .iload_n 3, 1), (654, .iconst 1, 1), (655, .iadd, 1), (656, .iaload, 1), (657, .aload_n 0, 1), (658, .iload_n 3, 1), (659, .iconst 2, 1), (660, .iadd, 1), (661, .iaload, 1), (662, .aload_n 0, 1), (663, .iload_n 3, 1), (664, .iconst 3, 1), (665, .iadd, 1), (666, .iaload, 1), (667, .aload_n 0, 1), (668, .iload_n 3, 1), (669, .iconst 4, 1), (670, .iadd, 1), (671, .iaload, 1), (672, .invokevirtual 79, 3), (675, .aload_n 2, 1), (676, .aload_n 0, 1), (677, .iload_n 3, 1), (678, .iconst 1, 1), (679, .iadd, 1), (680, .iaload, 1), (681, .aload_n 0, 1), (682, .iload_n 3, 1), (683, .iconst 2, 1), (684, .iadd, 1), (685, .iaload, 1), (686, .aload_n 0, 1), (687, .iload_n 3, 1), (688, .iconst 3, 1), (689, .iadd, 1), (690, .iaload, 1), (691, .aload_n 0, 1), (692, .iload_n 3, 1), (693, .iconst 4, 1), (694, .iadd, 1), (695, .iaload, 1), (696, .invokevirtual 82, 3), (699, .if_icmp .eq 510, 3), (702, .iconst 0, 1), (703, .ireturn, 1), (704, .aload_n 1, 1), (705, .aload_n 0, 1), (706, .iload_n 3, 1), (707, .iconst 1, 1)]
theorem dd_law_7 : dAllb code dl_law_7 = true := by decide +kernel
def dl_law_8 : List (Nat × Instr × Nat) := [(708, .iadd, 1), (709, .iaload, 1), (710, .aload_n 0, 1), (711, .iload_n 3, 1), (712, .iconst 2, 1), (713, .iadd, 1), (714, .iaload, 1), (715, .invokevirtual 83, 3), (718, .aload_n 2, 1), (719, .aload_n 0, 1), (720, .iload_n 3, 1), (721, .iconst 1, 1), (722, .iadd, 1), (723, .iaload, 1), (724, .aload_n 0, 1), (725, .iload_n 3, 1), (726, .iconst 2, 1), (727, .iadd, 1), (728, .iaload, 1), (729, .invokevirtual 86, 3), (732, .if_icmp .eq 477, 3), (735, .iconst 0, 1), (736, .ireturn, 1), (737, .aload_n 1, 1), (738, .invokevirtual 87, 3), (741, .aload_n 2, 1), (742, .invokevirtual 90, 3), (745, .if_icmp .eq 464, 3), (748, .iconst 0, 1), (749, .ireturn, 1), (750, .aload_n 1, 1), (751, .aload_n 0, 1), (752, .iload_n 3, 1), (753, .iconst 1, 1), (754, .iadd, 1), (755, .iaload, 1), (756, .aload_n 0, 1), (757, .iload_n 3, 1), (758, .iconst 2, 1), (759, .iadd, 1), (760, .iaload, 1), (761, .invokevirtual 91, 3), (764, .aload_n 2, 1), (765, .aload_n 0, 1), (766, .iload_n 3, 1), (767, .iconst 1, 1), (768, .iadd, 1), (769, .iaload, 1), (770, .aload_n 0, 1), (771, .iload_n 3, 1), (772, .iconst 2, 1), (773, .iadd, 1), (774, .iaload, 1), (775, .invokevirtual 94, 3), (778, .if_icmp .eq 431, 3), (781, .iconst 0, 1), (782, .ireturn, 1), (783, .aload_n 1, 1), (784, .aload_n 0, 1), (785, .iload_n 3, 1)]
theorem dd_law_8 : dAllb code dl_law_8 = true := by decide +kernel
def dl_law_9 : List (Nat × Instr × Nat) := [(786, .iconst 1, 1), (787, .iadd, 1), (788, .iaload, 1), (789, .aload_n 0, 1), (790, .iload_n 3, 1), (791, .iconst 2, 1), (792, .iadd, 1), (793, .iaload, 1), (794, .aload_n 0, 1), (795, .iload_n 3, 1), (796, .iconst 3, 1), (797, .iadd, 1), (798, .iaload, 1), (799, .invokevirtual 95, 3), (802, .aload_n 2, 1), (803, .aload_n 0, 1), (804, .iload_n 3, 1), (805, .iconst 1, 1), (806, .iadd, 1), (807, .iaload, 1), (808, .aload_n 0, 1), (809, .iload_n 3, 1), (810, .iconst 2, 1), (811, .iadd, 1), (812, .iaload, 1), (813, .aload_n 0, 1), (814, .iload_n 3, 1), (815, .iconst 3, 1), (816, .iadd, 1), (817, .iaload, 1), (818, .invokevirtual 98, 3), (821, .if_icmp .eq 388, 3), (824, .iconst 0, 1), (825, .ireturn, 1), (826, .aload_n 1, 1), (827, .aload_n 0, 1), (828, .iload_n 3, 1), (829, .iconst 1, 1), (830, .iadd, 1), (831, .iaload, 1), (832, .aload_n 0, 1), (833, .iload_n 3, 1), (834, .iconst 2, 1), (835, .iadd, 1), (836, .iaload, 1), (837, .aload_n 0, 1), (838, .iload_n 3, 1), (839, .iconst 3, 1), (840, .iadd, 1), (841, .iaload, 1), (842, .aload_n 0, 1), (843, .iload_n 3, 1), (844, .iconst 4, 1), (845, .iadd, 1), (846, .iaload, 1), (847, .invokevirtual 99, 3), (850, .aload_n 2, 1), (851, .aload_n 0, 1), (852, .iload_n 3, 1), (853, .iconst 1, 1)]
theorem dd_law_9 : dAllb code dl_law_9 = true := by decide +kernel
def dl_law_10 : List (Nat × Instr × Nat) := [(854, .iadd, 1), (855, .iaload, 1), (856, .aload_n 0, 1), (857, .iload_n 3, 1), (858, .iconst 2, 1), (859, .iadd, 1), (860, .iaload, 1), (861, .aload_n 0, 1), (862, .iload_n 3, 1), (863, .iconst 3, 1), (864, .iadd, 1), (865, .iaload, 1), (866, .aload_n 0, 1), (867, .iload_n 3, 1), (868, .iconst 4, 1), (869, .iadd, 1), (870, .iaload, 1), (871, .invokevirtual 102, 3), (874, .if_icmp .eq 335, 3), (877, .iconst 0, 1), (878, .ireturn, 1), (879, .aload_n 1, 1), (880, .aload_n 0, 1), (881, .iload_n 3, 1), (882, .iconst 1, 1), (883, .iadd, 1), (884, .iaload, 1), (885, .aload_n 0, 1), (886, .iload_n 3, 1), (887, .iconst 2, 1), (888, .iadd, 1), (889, .iaload, 1), (890, .aload_n 0, 1), (891, .iload_n 3, 1), (892, .iconst 3, 1), (893, .iadd, 1), (894, .iaload, 1), (895, .aload_n 0, 1), (896, .iload_n 3, 1), (897, .iconst 4, 1), (898, .iadd, 1), (899, .iaload, 1), (900, .aload_n 0, 1), (901, .iload_n 3, 1), (902, .iconst 5, 1), (903, .iadd, 1), (904, .iaload, 1), (905, .invokevirtual 103, 3), (908, .aload_n 2, 1), (909, .aload_n 0, 1), (910, .iload_n 3, 1), (911, .iconst 1, 1), (912, .iadd, 1), (913, .iaload, 1), (914, .aload_n 0, 1), (915, .iload_n 3, 1), (916, .iconst 2, 1), (917, .iadd, 1), (918, .iaload, 1), (919, .aload_n 0, 1)]
theorem dd_law_10 : dAllb code dl_law_10 = true := by decide +kernel
def dl_law_11 : List (Nat × Instr × Nat) := [(920, .iload_n 3, 1), (921, .iconst 3, 1), (922, .iadd, 1), (923, .iaload, 1), (924, .aload_n 0, 1), (925, .iload_n 3, 1), (926, .iconst 4, 1), (927, .iadd, 1), (928, .iaload, 1), (929, .aload_n 0, 1), (930, .iload_n 3, 1), (931, .iconst 5, 1), (932, .iadd, 1), (933, .iaload, 1), (934, .invokevirtual 106, 3), (937, .if_icmp .eq 272, 3), (940, .iconst 0, 1), (941, .ireturn, 1), (942, .aload_n 1, 1), (943, .aload_n 0, 1), (944, .iload_n 3, 1), (945, .iconst 1, 1), (946, .iadd, 1), (947, .iaload, 1), (948, .aload_n 0, 1), (949, .iload_n 3, 1), (950, .iconst 2, 1), (951, .iadd, 1), (952, .iaload, 1), (953, .aload_n 0, 1), (954, .iload_n 3, 1), (955, .iconst 3, 1), (956, .iadd, 1), (957, .iaload, 1), (958, .invokevirtual 107, 3), (961, .aload_n 2, 1), (962, .aload_n 0, 1), (963, .iload_n 3, 1), (964, .iconst 1, 1), (965, .iadd, 1), (966, .iaload, 1), (967, .aload_n 0, 1), (968, .iload_n 3, 1), (969, .iconst 2, 1), (970, .iadd, 1), (971, .iaload, 1), (972, .aload_n 0, 1), (973, .iload_n 3, 1), (974, .iconst 3, 1), (975, .iadd, 1), (976, .iaload, 1), (977, .invokevirtual 110, 3), (980, .if_icmp .eq 229, 3), (983, .iconst 0, 1), (984, .ireturn, 1), (985, .aload_n 1, 1), (986, .invokevirtual 111, 3), (989, .aload_n 2, 1), (990, .invokevirtual 114, 3), (993, .if_icmp .eq 216, 3)]
theorem dd_law_11 : dAllb code dl_law_11 = true := by decide +kernel
def dl_law_12 : List (Nat × Instr × Nat) := [(996, .iconst 0, 1), (997, .ireturn, 1), (998, .aload_n 1, 1), (999, .aload_n 0, 1), (1000, .iload_n 3, 1), (1001, .iconst 1, 1), (1002, .iadd, 1), (1003, .iaload, 1), (1004, .aload_n 0, 1), (1005, .iload_n 3, 1), (1006, .iconst 2, 1), (1007, .iadd, 1), (1008, .iaload, 1), (1009, .invokevirtual 115, 3), (1012, .aload_n 2, 1), (1013, .aload_n 0, 1), (1014, .iload_n 3, 1), (1015, .iconst 1, 1), (1016, .iadd, 1), (1017, .iaload, 1), (1018, .aload_n 0, 1), (1019, .iload_n 3, 1), (1020, .iconst 2, 1), (1021, .iadd, 1), (1022, .iaload, 1), (1023, .invokevirtual 118, 3), (1026, .if_icmp .eq 183, 3), (1029, .iconst 0, 1), (1030, .ireturn, 1), (1031, .aload_n 1, 1), (1032, .aload_n 0, 1), (1033, .iload_n 3, 1), (1034, .iconst 1, 1), (1035, .iadd, 1), (1036, .iaload, 1), (1037, .aload_n 0, 1), (1038, .iload_n 3, 1), (1039, .iconst 2, 1), (1040, .iadd, 1), (1041, .iaload, 1), (1042, .invokevirtual 119, 3), (1045, .aload_n 2, 1), (1046, .aload_n 0, 1), (1047, .iload_n 3, 1), (1048, .iconst 1, 1), (1049, .iadd, 1), (1050, .iaload, 1), (1051, .aload_n 0, 1), (1052, .iload_n 3, 1), (1053, .iconst 2, 1), (1054, .iadd, 1), (1055, .iaload, 1), (1056, .invokevirtual 122, 3), (1059, .if_icmp .eq 150, 3), (1062, .iconst 0, 1), (1063, .ireturn, 1), (1064, .aload_n 1, 1), (1065, .aload_n 0, 1), (1066, .iload_n 3, 1), (1067, .iconst 1, 1)]
theorem dd_law_12 : dAllb code dl_law_12 = true := by decide +kernel
def dl_law_13 : List (Nat × Instr × Nat) := [(1068, .iadd, 1), (1069, .iaload, 1), (1070, .aload_n 0, 1), (1071, .iload_n 3, 1), (1072, .iconst 2, 1), (1073, .iadd, 1), (1074, .iaload, 1), (1075, .aload_n 0, 1), (1076, .iload_n 3, 1), (1077, .iconst 3, 1), (1078, .iadd, 1), (1079, .iaload, 1), (1080, .invokevirtual 123, 3), (1083, .aload_n 2, 1), (1084, .aload_n 0, 1), (1085, .iload_n 3, 1), (1086, .iconst 1, 1), (1087, .iadd, 1), (1088, .iaload, 1), (1089, .aload_n 0, 1), (1090, .iload_n 3, 1), (1091, .iconst 2, 1), (1092, .iadd, 1), (1093, .iaload, 1), (1094, .aload_n 0, 1), (1095, .iload_n 3, 1), (1096, .iconst 3, 1), (1097, .iadd, 1), (1098, .iaload, 1), (1099, .invokevirtual 126, 3), (1102, .if_icmp .eq 107, 3), (1105, .iconst 0, 1), (1106, .ireturn, 1), (1107, .aload_n 1, 1), (1108, .aload_n 0, 1), (1109, .iload_n 3, 1), (1110, .iconst 1, 1), (1111, .iadd, 1), (1112, .iaload, 1), (1113, .aload_n 0, 1), (1114, .iload_n 3, 1), (1115, .iconst 2, 1), (1116, .iadd, 1), (1117, .iaload, 1), (1118, .aload_n 0, 1), (1119, .iload_n 3, 1), (1120, .iconst 3, 1), (1121, .iadd, 1), (1122, .iaload, 1), (1123, .invokevirtual 127, 3), (1126, .aload_n 2, 1), (1127, .aload_n 0, 1), (1128, .iload_n 3, 1), (1129, .iconst 1, 1), (1130, .iadd, 1), (1131, .iaload, 1), (1132, .aload_n 0, 1), (1133, .iload_n 3, 1), (1134, .iconst 2, 1), (1135, .iadd, 1)]
theorem dd_law_13 : dAllb code dl_law_13 = true := by decide +kernel
def dl_law_14 : List (Nat × Instr × Nat) := [(1136, .iaload, 1), (1137, .aload_n 0, 1), (1138, .iload_n 3, 1), (1139, .iconst 3, 1), (1140, .iadd, 1), (1141, .iaload, 1), (1142, .invokevirtual 130, 3), (1145, .if_icmp .eq 64, 3), (1148, .iconst 0, 1), (1149, .ireturn, 1), (1150, .aload_n 1, 1), (1151, .aload_n 0, 1), (1152, .iload_n 3, 1), (1153, .iconst 1, 1), (1154, .iadd, 1), (1155, .iaload, 1), (1156, .invokevirtual 131, 3), (1159, .aload_n 2, 1), (1160, .aload_n 0, 1), (1161, .iload_n 3, 1), (1162, .iconst 1, 1), (1163, .iadd, 1), (1164, .iaload, 1), (1165, .invokevirtual 134, 3), (1168, .if_icmp .eq 41, 3), (1171, .iconst 0, 1), (1172, .ireturn, 1), (1173, .aload_n 1, 1), (1174, .aload_n 0, 1), (1175, .iload_n 3, 1), (1176, .iconst 1, 1), (1177, .iadd, 1), (1178, .iaload, 1), (1179, .invokevirtual 135, 3), (1182, .aload_n 2, 1), (1183, .aload_n 0, 1), (1184, .iload_n 3, 1), (1185, .iconst 1, 1), (1186, .iadd, 1), (1187, .iaload, 1), (1188, .invokevirtual 138, 3), (1191, .if_icmp .eq 18, 3), (1194, .iconst 0, 1), (1195, .ireturn, 1), (1196, .aload_n 1, 1), (1197, .invokevirtual 139, 3), (1200, .aload_n 2, 1), (1201, .invokevirtual 142, 3), (1204, .if_icmp .eq 5, 3), (1207, .iconst 0, 1), (1208, .ireturn, 1), (1209, .iinc 3 6, 3), (1212, .goto (-1184), 3), (1215, .iconst 1, 1), (1216, .ireturn, 1)]
theorem dd_law_14 : dAllb code dl_law_14 = true := by decide +kernel
def dl_L_cell : List (Nat × Instr × Nat) := [(0, .iload_n 1, 1), (1, .aload_n 0, 1), (2, .arraylength, 1), (3, .if_icmp .ge 9, 3), (6, .aload_n 0, 1), (7, .iload_n 1, 1), (8, .iaload, 1), (9, .goto 4, 3), (12, .iconst 0, 1), (13, .ireturn, 1)]
theorem dd_L_cell : dAllb cL_cell dl_L_cell = true := by decide +kernel
def R_law : String := "GoldenKeeperLaw"
def lw_P (b : Addr) (xs : List Int32) (args : Array Value) (s : State) : Prop := args = #[.ref b] ∧ s.IntsAt b xs ∧ xs.length ≤ 3073 ∧ (Jvm.Cond.and given_1 narrow_1).before args s = true
def lw_Q (_ : Array Value) (s : State) (o : Outcome) (t : State) : Prop := o = .returned (some (.int 1)) ∧ Framed s o t [] 600000 room_1.slots
def lw_Z (below : List Frame) (a : Array Value) (s : State) : State → Prop := fun t => ∃ o, t.status = .running ∧ Ended t below o ∧ lw_Q a s o t
/-- the law's own end, with 1 on the stack, nothing written that was there before, its room as the claim has it -/
theorem lw_ret {p : Program} {l : Launch} {e : Env} {s : State} {m : MethodId} {below : List Frame} {meth : Method} {c : Code} {b : Nat} (hx : p.tables.exec = Jvm.exec) (hb : c.code = code) (hr : meth.sig.returnType = ret) (hlocks : meth.locks = false) {pc : Nat} {H : Heap} {ls : Array Slot} (hdg : decode code pc = .ok (.ireturn, 1)) : W p l e room_1 s m #[Value.ref b] below meth c H [] 600000 room_1.slots (lw_Z below #[Value.ref b] s) (F0 m pc ls [.int 1]) := by
  intro T hT X
  obtain ⟨fs, hret, hrun, hended, hW, hframe⟩ := X.leave (v := some (.int 1)) (hlocks := hlocks) (fun h => by rw [hr] at h; cases h)
  have hmeth' : T.vm.method? m = some meth := X.method'
  refine ⟨T.setFrames fs, ?_, .returned (some (.int 1)), hrun, hended, rfl, ⟨_, rfl⟩, hW, hframe⟩
  jvm_step X.here [X.here.top, hx, hb, hdg, hmeth', hr, ret, narrow_b1]
  (try refine ⟨rfl, ?_⟩); (try refine ⟨rfl, ?_⟩)
  first | (intro acts; rw [hret _ acts rfl rfl rfl]) | rw [hret _ _ rfl rfl rfl]
  exact Steps.refl _
/-- what holds at the law's entry: the machine, the code, the tables' words (any of lw_tbl by 'hts w (by decide +kernel)'), the script of L ints xs at the cell b, what the Statement gives of the start (any of its parts by flat_of_before) -/
def lw_At (p : Program) (s : State) (m : MethodId) (meth : Method) (c : Code) (b L : Nat) (xs : Nat → Int32) : Prop :=
  p.tables.exec = Jvm.exec ∧ c.code = code ∧ meth.sig.returnType = ret ∧ c.maxLocals = 4 ∧ s.vm.findClass R_law = some m.cls ∧ (∀ w ∈ lw_tbl, w.before #[Value.ref b] s = true) ∧ va_X b L xs s s.heap ∧ b < s.heap.size ∧ meth.locks = false ∧ (Jvm.Cond.and given_1 narrow_1).before #[Value.ref b] s = true
/-! THE LAW, over two pools: the class's and the reference's. Open: MainR (pure). -/
def e_AH (n : Nat) : AH := (n, (fun _ => 0), (fun _ => 0), (fun _ _ => 0), (fun _ _ => none))
def a_to (n : Nat) (h : AH) : AH := (n, h.2)
def OPC (op : Nat) (h : AH) (c : Nat) (p1 p2 p3 p4 p5 : Int32) : RX Int32 := match op with
  | 0 => f_X10_row h c p1 p2 p3
  | 1 => f_X10_set h c p1 p2 p3
  | 2 => f_X10_copy h c p1 p2 p3 p4 p5
  | 3 => f_X10_drop h c p1
  | 4 => f_X10_fold h c p1 p2
  | 5 => f_X10_keep h c p1 p2 p3
  | 6 => f_X10_give h c p1 p2 p3
  | 7 => f_X10_begin h c 
  | 8 => f_X10_forget h c p1 p2
  | 9 => f_X10_state h c p1 p2
  | 10 => f_X10_states h c p1
  | 11 => f_X10_token h c p1 p2 p3 p4
  | 12 => f_X10_cost h c p1 p2
  | 13 => f_X10_change h c p1 p2 p3 p4
  | 14 => f_X10_nearest h c p1 p2
  | 15 => f_X10_groups h c 
  | 16 => f_X10_group h c p1 p2
  | 17 => f_X10_shape h c p1 p2 p3
  | 18 => f_X10_look h c p1 p2 p3 p4
  | 19 => f_X10_approve h c p1 p2 p3 p4 p5
  | 20 => f_X10_approveAll h c p1 p2 p3
  | 21 => f_X10_undo h c 
  | 22 => f_X10_entry h c p1 p2
  | 23 => f_X10_kind h c p1 p2
  | 24 => f_X10_as h c p1 p2 p3
  | 25 => f_X10_ask h c p1 p2 p3
  | 26 => f_X10_trace h c p1
  | 27 => f_X10_count h c p1
  | 28 => f_X10_status h c 
  | _ => none
def OPM (op : Nat) (h : AH) (c : Nat) (p1 p2 p3 p4 p5 : Int32) : RX Int32 := match op with
  | 0 => f_X11_row h c p1 p2 p3
  | 1 => f_X11_set h c p1 p2 p3
  | 2 => f_X11_copy h c p1 p2 p3 p4 p5
  | 3 => f_X11_drop h c p1
  | 4 => f_X11_fold h c p1 p2
  | 5 => f_X11_keep h c p1 p2 p3
  | 6 => f_X11_give h c p1 p2 p3
  | 7 => f_X11_begin h c 
  | 8 => f_X11_forget h c p1 p2
  | 9 => f_X11_state h c p1 p2
  | 10 => f_X11_states h c p1
  | 11 => f_X11_token h c p1 p2 p3 p4
  | 12 => f_X11_cost h c p1 p2
  | 13 => f_X11_change h c p1 p2 p3 p4
  | 14 => f_X11_nearest h c p1 p2
  | 15 => f_X11_groups h c 
  | 16 => f_X11_group h c p1 p2
  | 17 => f_X11_shape h c p1 p2 p3
  | 18 => f_X11_look h c p1 p2 p3 p4
  | 19 => f_X11_approve h c p1 p2 p3 p4 p5
  | 20 => f_X11_approveAll h c p1 p2 p3
  | 21 => f_X11_undo h c 
  | 22 => f_X11_entry h c p1 p2
  | 23 => f_X11_kind h c p1 p2
  | 24 => f_X11_as h c p1 p2 p3
  | 25 => f_X11_ask h c p1 p2 p3
  | 26 => f_X11_trace h c p1
  | 27 => f_X11_count h c p1
  | 28 => f_X11_status h c 
  | _ => none
/-- what the pure side must give -/
def MainR (R : Nat → Nat → AH → AH → Nat → Prop) : Prop :=
  (∀ N rules, ∃ hC k n hM k2 n2, f_X10_init (a_mk (e_AH N) 10 0) N rules = some ((), hC, k, n) ∧ f_X11_init (a_mk (e_AH (a_nx hC)) 11 0) (a_nx hC) rules = some ((), hM, k2, n2) ∧ R N (a_nx hC) (a_to (a_nx hM) hC) hM 0 ∧ k + k2 ≤ 2000 ∧ n + n2 ≤ 700000) ∧
  (∀ c m hC hM t, R c m hC hM t → a_kd hC c = 10 ∧ a_kd hM m = 11 ∧ a_nx hC = a_nx hM) ∧
  (∀ c m hC hM t op p1 p2 p3 p4 p5, R c m hC hM t → t < 512 → op < 29 → ∃ r hC' k n hM', OPC op hC c p1 p2 p3 p4 p5 = some (r, hC', k, n) ∧ OPM op (a_to (a_nx hC') hM) m p1 p2 p3 p4 p5 = some (r, hM', 0, 0) ∧ R c m hC' hM' (t + 1) ∧ k ≤ 100 ∧ n ≤ 5000) ∧
  (∀ c m hC hM t, R c m hC hM t → R c m hC hM (t + 1))
section LAW
variable {C : CT} {pc : Nat} {lv : List (Nat × Value)} {st : List Value} {hC hM : AH} {cells slots : Nat} {b L : Nat} {xs : Nat → Int32}
/-- what is so in the whole of the law -/
def OKL (C : CT) (b L : Nat) (xs : Nat → Int32) : Prop :=
  C.1.tables.exec = Jvm.exec ∧ (c_c C).code = code ∧ (c_c C).maxLocals = 4 ∧ (c_s C).vm.findClass R_law = some (c_m C).cls ∧ (∀ w ∈ LW, w.before (c_args C) (c_s C) = true) ∧ GX (c_D C) (c_cy C) (c_s C) ∧ (c_meth C).locks = false ∧ (c_meth C).sig.returnType = ret ∧ c_R C = room_1 ∧ va_X b L xs (c_s C) (c_s C).heap ∧ b < (c_s C).heap.size ∧ c_args C = #[Value.ref b]
def LI (C : CT) (hC hM : AH) (H : Heap) (locs : List Loc) : Prop :=
  HB (c_D C) (c_cy C) hC H ∧ HB (c_D C) (c_cy C) hM H ∧ (∀ q, a_kd hC q ≠ 0 → a_kd hM q = 0) ∧ (∀ q, a_kd hC q ≠ 0 ∨ a_kd hM q ≠ 0 → (c_s C).heap.size ≤ q) ∧ va_S (fun q : Nat => (c_s C).heap.size ≤ q) (c_s C).heap H locs
def WL (C : CT) (pc : Nat) (lv : List (Nat × Value)) (st : List Value) (hC hM : AH) (cells slots : Nat) : Prop :=
  ∀ ls : Array Slot, lv_has ls (c_c C).maxLocals lv → ∀ (H : Heap) (locs : List Loc), LI C hC hM H locs → Wc C H locs cells slots (lw_Z (c_below C) (c_args C) (c_s C)) (F0 (c_m C) pc ls st)
theorem l_iconst {i : Int} {v : Int32} (hL : OKL C b L xs) (hd : decode code pc = .ok (.iconst i, 1)) {p' : Nat} (hp : pc + 1 = p') (hv : Int32.ofInt i = v) (kk : WL C p' lv (.int v :: st) hC hM cells slots) : WL C pc lv (st) hC hM cells slots := by
  subst hp
  exact fun ls hl H locs hI => lv_iconst hL.1 hL.2.1 hd hv (kk ls hl H locs hI)
theorem l_bipush {i : Int} {v : Int32} (hL : OKL C b L xs) (hd : decode code pc = .ok (.bipush i, 2)) {p' : Nat} (hp : pc + 2 = p') (hv : (Int8.ofInt i).toInt32 = v) (kk : WL C p' lv (.int v :: st) hC hM cells slots) : WL C pc lv (st) hC hM cells slots := by
  subst hp
  exact fun ls hl H locs hI => lv_bipush hL.1 hL.2.1 hd hv (kk ls hl H locs hI)
theorem l_iload_n {i : Fin 4} {j : Nat} {v : Int32} (q : Nat) (hL : OKL C b L xs) (hd : decode code pc = .ok (.iload_n i, 1)) {p' : Nat} (hp : pc + 1 = p') (hi : (i : Nat) = j) (hq : lv[q]? = some (j, .int v)) (kk : WL C p' lv (.int v :: st) hC hM cells slots) : WL C pc lv (st) hC hM cells slots := by
  subst hp
  exact fun ls hl H locs hI => lv_iload_n hL.1 hL.2.1 hd hi (lv_at hl q hq) (kk ls hl H locs hI)
theorem l_aload_n {i : Fin 4} {j : Nat} {v : Nat} (q : Nat) (hL : OKL C b L xs) (hd : decode code pc = .ok (.aload_n i, 1)) {p' : Nat} (hp : pc + 1 = p') (hi : (i : Nat) = j) (hq : lv[q]? = some (j, va_rf (some v))) (kk : WL C p' lv (va_rf (some v) :: st) hC hM cells slots) : WL C pc lv (st) hC hM cells slots := by
  subst hp
  exact fun ls hl H locs hI => lv_aload_n hL.1 hL.2.1 hd hi (lv_at hl q hq) (kk ls hl H locs hI)
theorem l_iadd {a c : Int32} (hL : OKL C b L xs) (hd : decode code pc = .ok (.iadd, 1)) {p' : Nat} (hp : pc + 1 = p') (kk : WL C p' lv (.int (a + c) :: st) hC hM cells slots) : WL C pc lv (.int c :: .int a :: st) hC hM cells slots := by
  subst hp
  exact fun ls hl H locs hI => lv_iadd hL.1 hL.2.1 hd (kk ls hl H locs hI)
theorem l_isub {a c : Int32} (hL : OKL C b L xs) (hd : decode code pc = .ok (.isub, 1)) {p' : Nat} (hp : pc + 1 = p') (kk : WL C p' lv (.int (a - c) :: st) hC hM cells slots) : WL C pc lv (.int c :: .int a :: st) hC hM cells slots := by
  subst hp
  exact fun ls hl H locs hI => lv_isub hL.1 hL.2.1 hd (kk ls hl H locs hI)
theorem l_iand {a c : Int32} (hL : OKL C b L xs) (hd : decode code pc = .ok (.iand, 1)) {p' : Nat} (hp : pc + 1 = p') (kk : WL C p' lv (.int (a &&& c) :: st) hC hM cells slots) : WL C pc lv (.int c :: .int a :: st) hC hM cells slots := by
  subst hp
  exact fun ls hl H locs hI => lv_iand hL.1 hL.2.1 hd (kk ls hl H locs hI)
theorem l_dup {v : Nat} (hL : OKL C b L xs) (hd : decode code pc = .ok (.dup, 1)) {p' : Nat} (hp : pc + 1 = p') (kk : WL C p' lv (va_rf (some v) :: va_rf (some v) :: st) hC hM cells slots) : WL C pc lv (va_rf (some v) :: st) hC hM cells slots := by
  subst hp
  exact fun ls hl H locs hI => lv_dup hL.1 hL.2.1 hd rfl (kk ls hl H locs hI)
theorem l_astore_n {i : Fin 4} {j : Nat} {v : Nat} {lv' : List (Nat × Value)} (hL : OKL C b L xs) (hd : decode code pc = .ok (.astore_n i, 1)) {p' : Nat} (hp : pc + 1 = p') (hi : (i : Nat) = j) (hn : j < 4) (hl0 : (j, va_rf (some v)) :: lv.filter (fun q => !(q.1 == j) && !(q.1 + 1 == j && q.2.category == 2)) = lv') (kk : WL C p' lv' (st) hC hM cells slots) : WL C pc lv (va_rf (some v) :: st) hC hM cells slots := by
  subst hp
  exact fun ls hl H locs hI => lv_astore_n hL.1 hL.2.1 hd hi (by rw [← hL.2.2.1]; exact hl) hn hl0 (fun ls' hl' => kk ls' (by rw [hL.2.2.1]; exact hl') H locs hI)
theorem l_istore_n {i : Fin 4} {j : Nat} {v : Int32} {lv' : List (Nat × Value)} (hL : OKL C b L xs) (hd : decode code pc = .ok (.istore_n i, 1)) {p' : Nat} (hp : pc + 1 = p') (hi : (i : Nat) = j) (hn : j < 4) (hl0 : (j, Value.int v) :: lv.filter (fun q => !(q.1 == j) && !(q.1 + 1 == j && q.2.category == 2)) = lv') (kk : WL C p' lv' (st) hC hM cells slots) : WL C pc lv (.int v :: st) hC hM cells slots := by
  subst hp
  exact fun ls hl H locs hI => lv_istore_n hL.1 hL.2.1 hd hi (by rw [← hL.2.2.1]; exact hl) hn hl0 (fun ls' hl' => kk ls' (by rw [hL.2.2.1]; exact hl') H locs hI)
theorem l_iinc {j : Nat} {d : Int} {v w : Int32} {lv' : List (Nat × Value)} (q : Nat) (hL : OKL C b L xs) (hd : decode code pc = .ok (.iinc j d, 3)) {p' : Nat} (hp : pc + 3 = p') (hq : lv[q]? = some (j, .int v)) (hv : v + Int32.ofInt d = w) (hn : j < 4) (hl0 : (j, Value.int w) :: lv.filter (fun q => !(q.1 == j) && !(q.1 + 1 == j && q.2.category == 2)) = lv') (kk : WL C p' lv' (st) hC hM cells slots) : WL C pc lv (st) hC hM cells slots := by
  subst hp
  exact fun ls hl H locs hI => lv_iinc hL.1 hL.2.1 hd (by rw [← hL.2.2.1]; exact hl) hq hv hn hl0 (fun ls' hl' => kk ls' (by rw [hL.2.2.1]; exact hl') H locs hI)
theorem l_goto {off : Int} {tgt : Nat} (hL : OKL C b L xs) (hd : decode code pc = .ok (.goto off, 3)) (ht : (pc : Int) + off = (tgt : Int)) (kk : WL C tgt lv st hC hM cells slots) : WL C pc lv st hC hM cells slots := fun ls hl H locs hI => lv_goto hL.1 hL.2.1 hd ht (kk ls hl H locs hI)
theorem l_icmp_gt {a c : Int32} {off : Int} {tgt : Nat} (hL : OKL C b L xs) (hd : decode code pc = .ok (.if_icmp .gt off, 3)) (ht : (pc : Int) + off = (tgt : Int)) {p' : Nat} (hp : pc + 3 = p') (k1 : c < a → WL C tgt lv st hC hM cells slots) (k2 : ¬ c < a → WL C p' lv st hC hM cells slots) : WL C pc lv (.int c :: .int a :: st) hC hM cells slots := by
  subst hp
  exact fun ls hl H locs hI => lv_icmp_gt hL.1 hL.2.1 hd ht (fun q => k1 q ls hl H locs hI) (fun q => k2 q ls hl H locs hI)
theorem l_icmp_eq {a c : Int32} {off : Int} {tgt : Nat} (hL : OKL C b L xs) (hd : decode code pc = .ok (.if_icmp .eq off, 3)) (ht : (pc : Int) + off = (tgt : Int)) (he : a = c) (k1 : WL C tgt lv st hC hM cells slots) : WL C pc lv (.int c :: .int a :: st) hC hM cells slots := fun ls hl H locs hI => lv_icmp_eq hL.1 hL.2.1 hd ht (fun q => k1 ls hl H locs hI) (fun q => absurd he q)
theorem l_switch_out {dflt lo hi : Int} {offs : Array Int} {len : Nat} {a : Int32} {tgt : Nat} (hL : OKL C b L xs) (hd : decode code pc = .ok (.tableswitch dflt lo hi offs, len)) (hq : a.toInt < lo ∨ hi < a.toInt) (ht : (pc : Int) + dflt = (tgt : Int)) (kk : WL C tgt lv st hC hM cells slots) : WL C pc lv (.int a :: st) hC hM cells slots := fun ls hl H locs hI => lv_tableOut hL.1 hL.2.1 hd hq ht (kk ls hl H locs hI)
theorem l_switch_in {dflt lo hi : Int} {offs : Array Int} {len : Nat} {a : Int32} {off : Int} {tgt : Nat} (hL : OKL C b L xs) (hd : decode code pc = .ok (.tableswitch dflt lo hi offs, len)) (h1 : ¬ a.toInt < lo) (h2 : ¬ hi < a.toInt) (ho : offs[(a.toInt - lo).toNat]? = some off) (ht : (pc : Int) + off = (tgt : Int)) (kk : WL C tgt lv st hC hM cells slots) : WL C pc lv (.int a :: st) hC hM cells slots := fun ls hl H locs hI => lv_tableIn hL.1 hL.2.1 hd h1 h2 ho ht (kk ls hl H locs hI)
theorem l_sld {i : Int32} (hL : OKL C b L xs) (hi : vp_in i L) (hd : decode code pc = .ok (.iaload, 1)) {p' : Nat} (hp : pc + 1 = p') (kk : WL C p' lv (.int (xs i.toNatClampNeg) :: st) hC hM cells slots) : WL C pc lv (.int i :: va_rf (some b) :: st) hC hM cells slots := by
  subst hp
  exact fun ls hl H locs hI => va_sld hL.1 hL.2.1 hL.2.2.2.2.2.2.2.2.2.1 hL.2.2.2.2.2.2.2.2.2.2.1 (Nat.not_le.mpr hL.2.2.2.2.2.2.2.2.2.2.1) hI.2.2.2.2 hi hd (kk ls hl H locs hI)
theorem l_slen (hL : OKL C b L xs) (hd : decode code pc = .ok (.arraylength, 1)) {p' : Nat} (hp : pc + 1 = p') (kk : WL C p' lv (.int (Int32.ofNat L) :: st) hC hM cells slots) : WL C pc lv (va_rf (some b) :: st) hC hM cells slots := by
  subst hp
  exact fun ls hl H locs hI => va_slen hL.1 hL.2.1 hL.2.2.2.2.2.2.2.2.2.1 hL.2.2.2.2.2.2.2.2.2.2.1 (Nat.not_le.mpr hL.2.2.2.2.2.2.2.2.2.2.1) hI.2.2.2.2 hd (kk ls hl H locs hI)
/-- a call behind which the frame is told -/
theorem l_run {ρ2 : Type} {rv2 : ρ2 → Option Value} {ls : Array Slot} {H : Heap} {locs : List Loc} {k1 n1 : Nat} {rest st0 : List Value} {a : Array Value} {r1 : ρ2} {h1 : AH} {Q : State → Prop} {A1 A0 : Nat → Prop} (hr : va_Run C.1 C.2.1 C.2.2.1 (c_R C) (c_s C) (c_m C) (c_args C) (c_below C) (c_meth C) (c_c C) H locs cells slots k1 n1 (F0 (c_m C) pc ls st0) rest (QX rv2 (c_D C) (c_cy C) A1 r1 h1 a) A1) (hS : va_S A0 (c_s C).heap H locs) (hA : ∀ q, A1 q → A0 q)
    (kk : ∀ (H1 : Heap) (locs1 : List Loc), HB (c_D C) (c_cy C) h1 H1 → (∀ q, a_kd h1 q ≠ 0 → A1 q) → H.size ≤ H1.size → (∀ q, q < H.size → ¬ A1 q → H1[q]? = H[q]?) → va_S A0 (c_s C).heap H1 locs1 → Wc C H1 locs1 (cells + k1) (slots + n1) Q (F0 (c_m C) (pc + 3) ls ((rv2 r1).toList ++ rest))) : Wc C H locs cells slots Q (F0 (c_m C) pc ls st0) := by
  intro T hT X
  obtain ⟨v, st₀, t, T', Lo, h0, X', hL, e1, e2, ⟨⟨hv, hB, hq⟩, hz, hk⟩, st⟩ := hr T hT X
  cases hv
  rw [h0] at hz hk
  obtain ⟨t2, a1, b1⟩ := kk T'.heap (locs ++ Lo) (by rw [e1]; exact hB) hq (by rw [e1]; exact hz) (fun q g1 g2 => by rw [e1]; exact hk q g1 g2)
    ⟨Nat.le_trans hS.1 (by rw [e1]; exact hz), fun q g1 g2 => by rw [e1, hk q (Nat.lt_of_lt_of_le g1 hS.1) (fun z => g2 (hA q z))]; exact hS.2.1 q g1 g2, fun q hq => by
      rcases List.mem_append.mp hq with g | g
      · exact hS.2.2 q g
      · exact hA _ (hL q g)⟩ T' rfl X'
  exact ⟨t2, st t2 a1, b1⟩
theorem hb_to {D : va_G} {cy : Nat → ClassId} {h : AH} {H H1 : Heap} (hB : HB D cy h H) (hk : ∀ q, a_kd h q ≠ 0 → H1[q]? = H[q]?) : HB D cy (a_to H1.size h) H1 :=
  ⟨rfl, fun a ha => (hB.2 a ha).kept (hk a ha) rfl rfl rfl rfl⟩
theorem l_AX {H : Heap} {locs : List Loc} {h h2 : AH} (hB : HB (c_D C) (c_cy C) h H) (hd : ∀ q, a_kd h q ≠ 0 → (c_s C).heap.size ≤ q) (hS : va_S (fun q : Nat => (c_s C).heap.size ≤ q) (c_s C).heap H locs) : ∀ q, AX h q → (c_s C).heap.size ≤ q := fun q hq => by
  rcases hq with g | g
  · exact hd q g
  · exact Nat.le_trans hS.1 (by rw [hB.1]; exact g)
/-- behind a call in the class's pool -/
theorem l_aftC {H H1 : Heap} {locs locs1 : List Loc} {h1 : AH} (hI : LI C hC hM H locs) (hB : HB (c_D C) (c_cy C) h1 H1) (hq : ∀ q, a_kd h1 q ≠ 0 → AX hC q) (hz : H.size ≤ H1.size) (hk : ∀ q, q < H.size → ¬ AX hC q → H1[q]? = H[q]?) (hS : va_S (fun q : Nat => (c_s C).heap.size ≤ q) (c_s C).heap H1 locs1) : LI C h1 (a_to (a_nx h1) hM) H1 locs1 := by
  have key : ∀ q, a_kd hM q ≠ 0 → ¬ AX hC q := fun q g z => by
    rcases z with z | z
    · exact g (hI.2.2.1 q z)
    · have := (hI.2.1.2 q g).lt
      rw [hI.1.1] at this; omega
  refine ⟨hB, ?_, fun q g => ?_, fun q g => ?_, hS⟩
  · rw [← hB.1]
    exact hb_to hI.2.1 (fun q g => hk q (hI.2.1.2 q g).lt (key q g))
  · by_cases z : a_kd hM q = 0
    · exact z
    · exact absurd (hq q g) (key q z)
  · rcases g with g | g
    · exact l_AX (h2 := hC) hI.1 (fun q z => hI.2.2.2.1 q (Or.inl z)) hI.2.2.2.2 q (hq q g)
    · exact hI.2.2.2.1 q (Or.inr g)
theorem l_aftM {H H1 : Heap} {locs locs1 : List Loc} {h1 : AH} (hI : LI C hC hM H locs) (hB : HB (c_D C) (c_cy C) h1 H1) (hq : ∀ q, a_kd h1 q ≠ 0 → AX hM q) (hz : H.size ≤ H1.size) (hk : ∀ q, q < H.size → ¬ AX hM q → H1[q]? = H[q]?) (hS : va_S (fun q : Nat => (c_s C).heap.size ≤ q) (c_s C).heap H1 locs1) : LI C (a_to (a_nx h1) hC) h1 H1 locs1 := by
  have key : ∀ q, a_kd hC q ≠ 0 → ¬ AX hM q := fun q g z => by
    rcases z with z | z
    · exact z (hI.2.2.1 q g)
    · have := (hI.1.2 q g).lt
      rw [hI.2.1.1] at this; omega
  refine ⟨?_, hB, fun q g => ?_, fun q g => ?_, hS⟩
  · rw [← hB.1]
    exact hb_to hI.1 (fun q g => hk q (hI.1.2 q g).lt (key q g))
  · by_cases z : a_kd h1 q = 0
    · exact z
    · exact absurd (hq q z) (key q g)
  · rcases g with g | g
    · exact hI.2.2.2.1 q (Or.inl g)
    · exact l_AX (h2 := hM) hI.2.1 (fun q z => hI.2.2.2.1 q (Or.inr z)) hI.2.2.2.2 q (hq q g)
theorem l_callC {y2 : MethodName} {cc2 : ByteArray} {nL2 F2 L2 index n2 ci : Nat} {ret2 : Option FieldType} {Cn : String} {w : vw_C} {As : List Value} {a : Nat} {z : RX Int32} {r : Int32} {h1 : AH} {k1 n1 : Nat} {stk : List Value} (hL : OKL C b L xs) (hM2 : MX rvI C.2.1 y2 (Cond.code y2 cc2 nL2 ret2 :: LW) F2 L2 (c_D C) (c_cy C) hC (va_rf (some a) :: As) z) (hz : z = some (r, h1, k1, n1)) (g1 : Cond.methodLink R_law index y2 ∈ LW) (g2 : Cond.instanceMethod y2 ∈ LW) (g3 : Cond.selects Cn y2 y2 ∈ LW) (g4 : Cond.initialized Cn ∈ LW) (g5 : Cond.code y2 cc2 nL2 ret2 ∈ LW)
    (hd2 : y2.cls = Cn ∧ y2.cls ≠ "java/lang/invoke/MethodHandle" ∧ y2.cls ≠ "java/lang/invoke/VarHandle" ∧ (parseMethodDescriptor y2.desc).map (fun d => d.parameters.length) = some n2) (hR : F2 + 1 ≤ 10 ∧ 8 + (nL2 + 11) + L2 ≤ 374) (hc : vwCl[ci]? = some w) (hcn : w.1 = Cn) (h11 : ci + 1 ≤ 11) (hka : a_kd hC a = ci + 1) (hn : As.length = n2) (hrest : (st.map fun v => v.category).sum ≤ 8) (hst : stk = As.reverse ++ va_rf (some a) :: st) (hcs : cells + k1 ≤ 600000 ∧ slots + n1 ≤ 7000000) (hd : decode code pc = .ok (.invokevirtual index, 3)) {p' : Nat} (hp : pc + 3 = p')
    (kk : WL C p' lv (.int r :: st) h1 (a_to (a_nx h1) hM) (cells + k1) (slots + n1)) : WL C pc lv stk hC hM cells slots := by
  subst hst
  subst hp
  intro ls hl H locs hI
  have hMet := hM2 r h1 k1 n1 hz
  obtain ⟨cell, v1, v2, v3, -⟩ := (hI.1.2 a (by rw [hka]; omega)).obj hka h11
  have hcls := (hL.2.2.2.2.2.1.1.1 ci w hc).2
  have hRm : c_R C = room_1 := hL.2.2.2.2.2.2.2.2.1
  refine l_run (k1 := k1) (n1 := n1) (A0 := fun q : Nat => (c_s C).heap.size ≤ q) (va_runV (As := As) (rest := st) (b := a) (C := Cn) ⟨hL.1, hL.2.1, hL.2.2.1, hL.2.2.2.1, hL.2.2.2.2.1⟩ hMet (cwV n2 hL.2.2.2.2.1 (good_V g1 g2 g3 g4 g5) rfl rfl rfl hd2 ⟨by rw [hRm]; exact hR.1, by rw [hRm]; exact hR.2⟩) ⟨PX.blind, ⟨cell, v1, by rw [v3]; rfl, by rw [v2, ← hcn]; exact hcls.1⟩, fun U hU hW => ⟨rfl, by rw [hU]; exact hI.1, hL.2.2.2.2.2.1.warm hW⟩⟩ rfl hn (by rw [← hL.2.2.1]; exact hl.1) rfl (lv_room hrest) hd ⟨by rw [hRm]; exact hcs.1, by rw [hRm]; exact Nat.le_trans hcs.2 (by decide)⟩) hI.2.2.2.2 (l_AX (h2 := hC) hI.1 (fun q z => hI.2.2.2.1 q (Or.inl z)) hI.2.2.2.2) (fun H1 locs1 hB hq hz1 hk1 hS => ?_)
  exact kk ls hl H1 locs1 (l_aftC hI hB hq hz1 hk1 hS)
theorem l_callM {y2 : MethodName} {cc2 : ByteArray} {nL2 F2 L2 index n2 ci : Nat} {ret2 : Option FieldType} {Cn : String} {w : vw_C} {As : List Value} {a : Nat} {z : RX Int32} {r : Int32} {h1 : AH} {k1 n1 : Nat} {stk : List Value} (hL : OKL C b L xs) (hM2 : MX rvI C.2.1 y2 (Cond.code y2 cc2 nL2 ret2 :: LW) F2 L2 (c_D C) (c_cy C) hM (va_rf (some a) :: As) z) (hz : z = some (r, h1, k1, n1)) (g1 : Cond.methodLink R_law index y2 ∈ LW) (g2 : Cond.instanceMethod y2 ∈ LW) (g3 : Cond.selects Cn y2 y2 ∈ LW) (g4 : Cond.initialized Cn ∈ LW) (g5 : Cond.code y2 cc2 nL2 ret2 ∈ LW)
    (hd2 : y2.cls = Cn ∧ y2.cls ≠ "java/lang/invoke/MethodHandle" ∧ y2.cls ≠ "java/lang/invoke/VarHandle" ∧ (parseMethodDescriptor y2.desc).map (fun d => d.parameters.length) = some n2) (hR : F2 + 1 ≤ 10 ∧ 8 + (nL2 + 11) + L2 ≤ 374) (hc : vwCl[ci]? = some w) (hcn : w.1 = Cn) (h11 : ci + 1 ≤ 11) (hka : a_kd hM a = ci + 1) (hn : As.length = n2) (hrest : (st.map fun v => v.category).sum ≤ 8) (hst : stk = As.reverse ++ va_rf (some a) :: st) (hcs : cells + k1 ≤ 600000 ∧ slots + n1 ≤ 7000000) (hd : decode code pc = .ok (.invokevirtual index, 3)) {p' : Nat} (hp : pc + 3 = p')
    (kk : WL C p' lv (.int r :: st) (a_to (a_nx h1) hC) h1 (cells + k1) (slots + n1)) : WL C pc lv stk hC hM cells slots := by
  subst hst
  subst hp
  intro ls hl H locs hI
  have hMet := hM2 r h1 k1 n1 hz
  obtain ⟨cell, v1, v2, v3, -⟩ := (hI.2.1.2 a (by rw [hka]; omega)).obj hka h11
  have hcls := (hL.2.2.2.2.2.1.1.1 ci w hc).2
  have hRm : c_R C = room_1 := hL.2.2.2.2.2.2.2.2.1
  refine l_run (k1 := k1) (n1 := n1) (A0 := fun q : Nat => (c_s C).heap.size ≤ q) (va_runV (As := As) (rest := st) (b := a) (C := Cn) ⟨hL.1, hL.2.1, hL.2.2.1, hL.2.2.2.1, hL.2.2.2.2.1⟩ hMet (cwV n2 hL.2.2.2.2.1 (good_V g1 g2 g3 g4 g5) rfl rfl rfl hd2 ⟨by rw [hRm]; exact hR.1, by rw [hRm]; exact hR.2⟩) ⟨PX.blind, ⟨cell, v1, by rw [v3]; rfl, by rw [v2, ← hcn]; exact hcls.1⟩, fun U hU hW => ⟨rfl, by rw [hU]; exact hI.2.1, hL.2.2.2.2.2.1.warm hW⟩⟩ rfl hn (by rw [← hL.2.2.1]; exact hl.1) rfl (lv_room hrest) hd ⟨by rw [hRm]; exact hcs.1, by rw [hRm]; exact Nat.le_trans hcs.2 (by decide)⟩) hI.2.2.2.2 (l_AX (h2 := hM) hI.2.1 (fun q z => hI.2.2.2.1 q (Or.inr z)) hI.2.2.2.2) (fun H1 locs1 hB hq hz1 hk1 hS => ?_)
  exact kk ls hl H1 locs1 (l_aftM hI hB hq hz1 hk1 hS)
theorem l_newC {ci index N : Nat} {Cn : String} {T : u_T} {ty0 : Nat → FieldType} (hL : OKL C b L xs) (hin : ∀ w ∈ u_ws Cn T N, w ∈ LW) (hc : vwCl[ci]? = some (Cn, T, N)) (hN : (a_sg (ci + 1)).length = N) (h11 : ci + 1 ≤ 11) (hT : TK T N ty0) (hdf : ∀ j, j < N → defaultValue (ty0 j) = bif (a_sg (ci + 1)).getD j false then .null else .int 0) (hw1 : Cond.classLink R_law index Cn ∈ LW) (hw2 : Cond.instantiable Cn N ∈ LW) (hw3 : Cond.initialized Cn ∈ LW) (hcs : cells + 1 ≤ 600000 ∧ slots + N ≤ 7000000) (hd : decode code pc = .ok (.new index, 3)) {p' : Nat} (hp : pc + 3 = p') (kk : WL C p' lv (va_rf (some (a_nx hC)) :: st) (a_mk hC (ci + 1) 0) (a_to (a_nx hC + 1) hM) (cells + 1) (slots + N)) : WL C pc lv st hC hM cells slots := by
  subst hp
  intro ls hl H locs hI
  have hts := hL.2.2.2.2.1
  have hKn := hL.2.2.2.2.2.1.1.1 ci _ hc
  have hRm : c_R C = room_1 := hL.2.2.2.2.2.2.2.2.1
  refine W.newcK hL.1 hL.2.1 hL.2.2.2.1 (hts _ hw1) (hts _ hw2) (hts _ hw3) rfl hd (by show _ ≤ (c_R C).cells; rw [hRm]; exact hcs.1) (by show _ ≤ (c_R C).slots; rw [hRm]; exact Nat.le_trans hcs.2 (by decide)) hKn.2.1 hI.1.1 fun H1 kC hkC g1 g2 g3 => ?_
  have g2' : H1.size = H.size + 1 := by rw [g2, hI.1.1]
  have g3' : ∀ q, q < H.size → H1[q]? = H[q]? := fun q hq => g3 q (by rw [← hI.1.1]; exact hq)
  have hB1 : HB (c_D C) (c_cy C) (a_mk hC (ci + 1) 0) H1 := by
    refine hb_mk hI.1 g2' g3' ?_
    have ek : a_kd (a_mk hC (ci + 1) 0) (a_nx hC) = ci + 1 := va_up_at _ _ _
    unfold a_at
    rw [ek, if_pos h11, hN]
    refine (u_born ty0 hts hin hKn hkC g1 hT.1).to (fun j hj => ?_)
    unfold a_V
    rw [ek, hdf j hj, show a_gi (a_mk hC (ci + 1) 0) (a_nx hC) = (fun _ => 0) from va_up_at _ _ _, show a_gr (a_mk hC (ci + 1) 0) (a_nx hC) = (fun _ => none) from va_up_at _ _ _]
    rfl
  have hq : ∀ q, a_kd (a_mk hC (ci + 1) 0) q ≠ 0 → AX hC q := fun q g => by
    by_cases z : q = a_nx hC
    · exact Or.inr (by rw [z]; exact Nat.le_refl _)
    · exact Or.inl (fun w => g ((va_up_off _ _ z).trans w))
  exact kk ls hl H1 locs (l_aftC hI hB1 hq (by omega) (fun q g _ => g3' q g) (x_iS hI.2.2.2.2 g2' g3'))
theorem l_newM {ci index N : Nat} {Cn : String} {T : u_T} {ty0 : Nat → FieldType} (hL : OKL C b L xs) (hin : ∀ w ∈ u_ws Cn T N, w ∈ LW) (hc : vwCl[ci]? = some (Cn, T, N)) (hN : (a_sg (ci + 1)).length = N) (h11 : ci + 1 ≤ 11) (hT : TK T N ty0) (hdf : ∀ j, j < N → defaultValue (ty0 j) = bif (a_sg (ci + 1)).getD j false then .null else .int 0) (hw1 : Cond.classLink R_law index Cn ∈ LW) (hw2 : Cond.instantiable Cn N ∈ LW) (hw3 : Cond.initialized Cn ∈ LW) (hcs : cells + 1 ≤ 600000 ∧ slots + N ≤ 7000000) (hd : decode code pc = .ok (.new index, 3)) {p' : Nat} (hp : pc + 3 = p') (kk : WL C p' lv (va_rf (some (a_nx hM)) :: st) (a_to (a_nx hM + 1) hC) (a_mk hM (ci + 1) 0) (cells + 1) (slots + N)) : WL C pc lv st hC hM cells slots := by
  subst hp
  intro ls hl H locs hI
  have hts := hL.2.2.2.2.1
  have hKn := hL.2.2.2.2.2.1.1.1 ci _ hc
  have hRm : c_R C = room_1 := hL.2.2.2.2.2.2.2.2.1
  refine W.newcK hL.1 hL.2.1 hL.2.2.2.1 (hts _ hw1) (hts _ hw2) (hts _ hw3) rfl hd (by show _ ≤ (c_R C).cells; rw [hRm]; exact hcs.1) (by show _ ≤ (c_R C).slots; rw [hRm]; exact Nat.le_trans hcs.2 (by decide)) hKn.2.1 hI.2.1.1 fun H1 kC hkC g1 g2 g3 => ?_
  have g2' : H1.size = H.size + 1 := by rw [g2, hI.2.1.1]
  have g3' : ∀ q, q < H.size → H1[q]? = H[q]? := fun q hq => g3 q (by rw [← hI.2.1.1]; exact hq)
  have hB1 : HB (c_D C) (c_cy C) (a_mk hM (ci + 1) 0) H1 := by
    refine hb_mk hI.2.1 g2' g3' ?_
    have ek : a_kd (a_mk hM (ci + 1) 0) (a_nx hM) = ci + 1 := va_up_at _ _ _
    unfold a_at
    rw [ek, if_pos h11, hN]
    refine (u_born ty0 hts hin hKn hkC g1 hT.1).to (fun j hj => ?_)
    unfold a_V
    rw [ek, hdf j hj, show a_gi (a_mk hM (ci + 1) 0) (a_nx hM) = (fun _ => 0) from va_up_at _ _ _, show a_gr (a_mk hM (ci + 1) 0) (a_nx hM) = (fun _ => none) from va_up_at _ _ _]
    rfl
  have hq : ∀ q, a_kd (a_mk hM (ci + 1) 0) q ≠ 0 → AX hM q := fun q g => by
    by_cases z : q = a_nx hM
    · exact Or.inr (by rw [z]; exact Nat.le_refl _)
    · exact Or.inl (fun w => g ((va_up_off _ _ z).trans w))
  exact kk ls hl H1 locs (l_aftM hI hB1 hq (by omega) (fun q g _ => g3' q g) (x_iS hI.2.2.2.2 g2' g3'))
theorem l_initC {y2 : MethodName} {cc2 : ByteArray} {nL2 F2 L2 index n2 : Nat} {As : List Value} {a : Nat} {z : RX Unit} {h1 : AH} {k1 n1 : Nat} {stk : List Value} (hL : OKL C b L xs) (hM2 : MX rvV C.2.1 y2 (Cond.code y2 cc2 nL2 none :: LW) F2 L2 (c_D C) (c_cy C) hC (va_rf (some a) :: As) z) (hz : z = some ((), h1, k1, n1)) (g5 : Cond.code y2 cc2 nL2 none ∈ LW) (w1 : Cond.initialized y2.cls ∈ LW) (w2 : Cond.methodLink R_law index y2 ∈ LW) (w3 : Cond.instanceMethod y2 ∈ LW) (hy : y2.name = "<init>")
    (hd2 : y2.cls ≠ "java/lang/invoke/MethodHandle" ∧ y2.cls ≠ "java/lang/invoke/VarHandle" ∧ (parseMethodDescriptor y2.desc).map (fun d => d.parameters.length) = some n2) (hR : F2 + 1 ≤ 10 ∧ 8 + (nL2 + 11) + L2 ≤ 374) (hn : As.length = n2) (hrest : (st.map fun v => v.category).sum ≤ 8) (hst : stk = As.reverse ++ va_rf (some a) :: st) (hcs : cells + k1 ≤ 600000 ∧ slots + n1 ≤ 7000000) (hd : decode code pc = .ok (.invokespecial index, 3)) {p' : Nat} (hp : pc + 3 = p')
    (kk : WL C p' lv st h1 (a_to (a_nx h1) hM) (cells + k1) (slots + n1)) : WL C pc lv stk hC hM cells slots := by
  subst hst
  subst hp
  intro ls hl H locs hI
  have hMet := hM2 () h1 k1 n1 hz
  have hts := hL.2.2.2.2.1
  have hRm : c_R C = room_1 := hL.2.2.2.2.2.2.2.2.1
  refine l_run (k1 := k1) (n1 := n1) (A0 := fun q : Nat => (c_s C).heap.size ≤ q) (va_runI (As := As) (rest := st) (b := a) ⟨hL.1, hL.2.1, hL.2.2.1, hL.2.2.2.1, hL.2.2.2.2.1⟩ hMet (cwI n2 hL.2.2.2.2.1 (good_C g5) rfl rfl rfl (hts _ w1) (hts _ w2) (hts _ w3) hy hd2 ⟨by rw [hRm]; exact hR.1, by rw [hRm]; exact hR.2⟩) ⟨PX.blind, fun U hU hW => ⟨rfl, by rw [hU]; exact hI.1, hL.2.2.2.2.2.1.warm hW⟩⟩ rfl hn (by rw [← hL.2.2.1]; exact hl.1) rfl (lv_room hrest) hd ⟨by rw [hRm]; exact hcs.1, by rw [hRm]; exact Nat.le_trans hcs.2 (by decide)⟩) hI.2.2.2.2 (l_AX (h2 := hC) hI.1 (fun q z => hI.2.2.2.1 q (Or.inl z)) hI.2.2.2.2) (fun H1 locs1 hB hq hz1 hk1 hS => ?_)
  exact kk ls hl H1 locs1 (l_aftC hI hB hq hz1 hk1 hS)
theorem l_initM {y2 : MethodName} {cc2 : ByteArray} {nL2 F2 L2 index n2 : Nat} {As : List Value} {a : Nat} {z : RX Unit} {h1 : AH} {k1 n1 : Nat} {stk : List Value} (hL : OKL C b L xs) (hM2 : MX rvV C.2.1 y2 (Cond.code y2 cc2 nL2 none :: LW) F2 L2 (c_D C) (c_cy C) hM (va_rf (some a) :: As) z) (hz : z = some ((), h1, k1, n1)) (g5 : Cond.code y2 cc2 nL2 none ∈ LW) (w1 : Cond.initialized y2.cls ∈ LW) (w2 : Cond.methodLink R_law index y2 ∈ LW) (w3 : Cond.instanceMethod y2 ∈ LW) (hy : y2.name = "<init>")
    (hd2 : y2.cls ≠ "java/lang/invoke/MethodHandle" ∧ y2.cls ≠ "java/lang/invoke/VarHandle" ∧ (parseMethodDescriptor y2.desc).map (fun d => d.parameters.length) = some n2) (hR : F2 + 1 ≤ 10 ∧ 8 + (nL2 + 11) + L2 ≤ 374) (hn : As.length = n2) (hrest : (st.map fun v => v.category).sum ≤ 8) (hst : stk = As.reverse ++ va_rf (some a) :: st) (hcs : cells + k1 ≤ 600000 ∧ slots + n1 ≤ 7000000) (hd : decode code pc = .ok (.invokespecial index, 3)) {p' : Nat} (hp : pc + 3 = p')
    (kk : WL C p' lv st (a_to (a_nx h1) hC) h1 (cells + k1) (slots + n1)) : WL C pc lv stk hC hM cells slots := by
  subst hst
  subst hp
  intro ls hl H locs hI
  have hMet := hM2 () h1 k1 n1 hz
  have hts := hL.2.2.2.2.1
  have hRm : c_R C = room_1 := hL.2.2.2.2.2.2.2.2.1
  refine l_run (k1 := k1) (n1 := n1) (A0 := fun q : Nat => (c_s C).heap.size ≤ q) (va_runI (As := As) (rest := st) (b := a) ⟨hL.1, hL.2.1, hL.2.2.1, hL.2.2.2.1, hL.2.2.2.2.1⟩ hMet (cwI n2 hL.2.2.2.2.1 (good_C g5) rfl rfl rfl (hts _ w1) (hts _ w2) (hts _ w3) hy hd2 ⟨by rw [hRm]; exact hR.1, by rw [hRm]; exact hR.2⟩) ⟨PX.blind, fun U hU hW => ⟨rfl, by rw [hU]; exact hI.2.1, hL.2.2.2.2.2.1.warm hW⟩⟩ rfl hn (by rw [← hL.2.2.1]; exact hl.1) rfl (lv_room hrest) hd ⟨by rw [hRm]; exact hcs.1, by rw [hRm]; exact Nat.le_trans hcs.2 (by decide)⟩) hI.2.2.2.2 (l_AX (h2 := hM) hI.2.1 (fun q z => hI.2.2.2.1 q (Or.inr z)) hI.2.2.2.2) (fun H1 locs1 hB hq hz1 hk1 hS => ?_)
  exact kk ls hl H1 locs1 (l_aftM hI hB hq hz1 hk1 hS)
/-- cell(script, 0) -/
theorem c_L_cell (l : Launch) (b L : Nat) (xs : Nat → Int32) (hL : L ≤ 3073) : Met l yL_cell (Cond.code yL_cell cL_cell 2 (some .int) :: LW) ({ frames := 0, cells := 0, slots := 0, locals := 0 }) (va_Pc [.ref b, .int 0] (fun U => va_X b L xs U U.heap)) (QcRead (if 0 < L then xs 0 else 0)) 0 0 (fun _ => False) := by
  refine Met.ofW (cc := cL_cell) (maxL := 2) (ret := some .int) (by decide) rfl ?_
  intro p e s m args below meth c s₁ B hml hv
  obtain ⟨rfl, hX⟩ := hv
  have hx := B.exec
  have hb := B.bytes
  have hr := B.returns
  have hlocks := B.notSynchronized
  have hbl : b < s.heap.size := by
    obtain ⟨scr, h1, -⟩ := hX
    exact (Array.getElem?_eq_some_iff.mp h1).1
  have hS : va_S (fun _ => False) s.heap s.heap [] := va_S.rf
  have hl := lv_entry ([.ref b, .int 0]) (n := 2) (Nat.le_of_ble_eq_true rfl)
  rw [lg_entry_eq]
  generalize (lg_sl ([.ref b, .int 0]) ++ List.replicate (2 - (lg_sl ([.ref b, .int 0])).length) Slot.unset).toArray = ls at hl ⊢
  have hl : lv_has ls 2 [(0, .ref b), (1, .int 0)] := hl
  refine lv_iload_n hx hb (dAt dd_L_cell 0 rfl) rfl (lv_at hl 1 rfl) ?_
  refine lv_aload_n hx hb (dAt dd_L_cell 1 rfl) rfl (lv_at hl 0 rfl) ?_
  refine va_slen hx hb hX hbl (fun z => z) hS (dAt dd_L_cell 2 rfl) ?_
  refine lv_icmp_ge (tgt := 12) hx hb (dAt dd_L_cell 3 rfl) (by decide) (fun q => ?_) (fun q => ?_)
  · have h0 : ¬ 0 < L := fun z => absurd q (by have := nI_lt (a := 0) (b := L) z (by omega); rw [nI_0] at this; exact fun w => absurd this (Int32.not_lt.mpr w))
    rw [if_neg h0]
    refine lv_iconst (v := 0) hx hb (dAt dd_L_cell 8 rfl) (by decide) ?_
    exact W.iret hx hb hr (fun t ht _ => ⟨rfl, ht⟩) (fun q h => by cases h) (dAt dd_L_cell 9 rfl)
  · have h0 : 0 < L := by
      rcases Nat.eq_zero_or_pos L with z | z
      · exact absurd (by rw [z]; decide) q
      · exact z
    rw [if_pos h0]
    refine lv_aload_n hx hb (dAt dd_L_cell 4 rfl) rfl (lv_at hl 0 rfl) ?_
    refine lv_iload_n hx hb (dAt dd_L_cell 5 rfl) rfl (lv_at hl 1 rfl) ?_
    refine va_sld hx hb hX hbl (fun z => z) hS (i := 0) (by rw [← nI_0]; exact vp_in_nI h0 (by omega)) (dAt dd_L_cell 6 rfl) ?_
    refine lv_goto (tgt := 13) hx hb (dAt dd_L_cell 7 rfl) (by decide) ?_
    exact W.iret hx hb hr (fun t ht _ => ⟨rfl, ht⟩) (fun q h => by cases h) (dAt dd_L_cell 9 rfl)
theorem l_cell (hL3 : L ≤ 3073) (hL : OKL C b L xs) (hrest : (st.map fun v => v.category).sum ≤ 8) (hcs : cells ≤ 600000 ∧ slots ≤ 7000000) (hd : decode code pc = .ok (.invokestatic 9, 3)) {p' : Nat} (hp : pc + 3 = p') (kk : WL C p' lv (.int (if 0 < L then xs 0 else 0) :: st) hC hM cells slots) : WL C pc lv (.int 0 :: va_rf (some b) :: st) hC hM cells slots := by
  subst hp
  intro ls hl H locs hI
  have hRm : c_R C = room_1 := hL.2.2.2.2.2.2.2.2.1
  refine W.callR (W.runS (As := [.ref b, .int 0]) (rest := st) ⟨hL.1, hL.2.1, hL.2.2.1, hL.2.2.2.1, hL.2.2.2.2.1⟩ (c_L_cell C.2.1 b L xs hL3) (va_cwS 2 hL.2.2.2.2.1 (good_S k_740 k_741 k_0 k_742) rfl rfl rfl (by decide +kernel) ⟨by show _ ≤ (c_R C).frames; rw [hRm]; decide, by show _ ≤ (c_R C).locals; rw [hRm]; decide⟩) ⟨fun a U g mk q => ⟨q.1, va_X.moved (Vm.Alike.refl _) q.2⟩, fun U hU hW => ⟨rfl, ?_⟩⟩ rfl rfl (by rw [← hL.2.2.1]; exact hl.1) rfl (lv_room hrest) hd ⟨by show _ ≤ (c_R C).cells; rw [hRm]; exact hcs.1, by show _ ≤ (c_R C).slots; rw [hRm]; exact Nat.le_trans hcs.2 (by decide)⟩) (kk ls hl H locs hI)
  show va_X b L xs U U.heap
  rw [hU]
  exact va_X.moved hW.alike (hL.2.2.2.2.2.2.2.2.2.1.kept (hI.2.2.2.2.2.1 b hL.2.2.2.2.2.2.2.2.2.2.1 (Nat.not_le.mpr hL.2.2.2.2.2.2.2.2.2.2.1)))
theorem l_ret (hL : OKL C b L xs) (hcs : cells ≤ 600000 ∧ slots ≤ 7000000) (hd : decode code pc = .ok (.ireturn, 1)) : WL C pc lv [.int 1] hC hM cells slots := by
  intro ls hl H locs hI
  obtain ⟨p, l, e, R, s, m, args, below, meth, c, D, cy, A⟩ := C
  have ha : args = #[Value.ref b] := hL.2.2.2.2.2.2.2.2.2.2.2
  subst ha
  have hRm : R = room_1 := hL.2.2.2.2.2.2.2.2.1
  subst hRm
  refine va_forget (fun q hq => hI.2.2.2.2.2.2 q hq) ?_
  refine W.widen (k := 600000) (n := room_1.slots) hcs.1 (Nat.le_trans hcs.2 (by decide)) ?_
  exact lw_ret hL.1 hL.2.1 hL.2.2.2.2.2.2.2.1 hL.2.2.2.2.2.2.1 hd
end LAW
set_option maxHeartbeats 4000000 in
set_option maxRecDepth 100000 in
theorem law_case_0 {C : CT} {b L : Nat} {xs : Nat → Int32} {R : Nat → Nat → AH → AH → Nat → Prop} (hR : MainR R) (hL : OKL C b L xs) {c m t : Nat} {hC hM : AH} {x3 : Int32} {cells slots : Nat} (h0 : R c m hC hM t) (ht : t < 512) (hc : cells ≤ 10000 + 100 * t) (hs : slots ≤ 800000 + 5000 * t) (q1 : vp_in (x3 + 1) L) (q2 : vp_in (x3 + 2) L) (q3 : vp_in (x3 + 3) L) (q4 : vp_in (x3 + 4) L) (q5 : vp_in (x3 + 5) L) (kk : ∀ hC' hM' cells' slots', R c m hC' hM' (t + 1) → cells' ≤ 10000 + 100 * (t + 1) → slots' ≤ 800000 + 5000 * (t + 1) → WL C 1209 [(0, va_rf (some b)), (1, va_rf (some c)), (2, va_rf (some m)), (3, .int x3)] [] hC' hM' cells' slots') : WL C 172 [(0, va_rf (some b)), (1, va_rf (some c)), (2, va_rf (some m)), (3, .int x3)] [] hC hM cells slots := by
  obtain ⟨r, hC', k, n, hM', e1, e2, hR', hk, hn⟩ := hR.2.2.1 c m hC hM t 0 (xs (x3 + 1).toNatClampNeg) (xs (x3 + 2).toNatClampNeg) (xs (x3 + 3).toNatClampNeg) (xs (x3 + 4).toNatClampNeg) (xs (x3 + 5).toNatClampNeg) h0 ht (by decide)
  have w1 := hR.2.1 c m hC hM t h0
  have w2 := hR.2.1 c m hC' hM' (t + 1) hR'
  refine l_aload_n (p' := 173) 1 hL (dAt dd_law_0 28 rfl) rfl rfl rfl ?_
  refine l_aload_n (p' := 174) 0 hL (dAt dd_law_0 29 rfl) rfl rfl rfl ?_
  refine l_iload_n (p' := 175) 3 hL (dAt dd_law_0 30 rfl) rfl rfl rfl ?_
  refine l_iconst (v := 1) (p' := 176) hL (dAt dd_law_0 31 rfl) rfl (by decide) ?_
  refine l_iadd (p' := 177) hL (dAt dd_law_0 32 rfl) rfl ?_
  refine l_sld (p' := 178) hL q1 (dAt dd_law_0 33 rfl) rfl ?_
  refine l_aload_n (p' := 179) 0 hL (dAt dd_law_0 34 rfl) rfl rfl rfl ?_
  refine l_iload_n (p' := 180) 3 hL (dAt dd_law_0 35 rfl) rfl rfl rfl ?_
  refine l_iconst (v := 2) (p' := 181) hL (dAt dd_law_0 36 rfl) rfl (by decide) ?_
  refine l_iadd (p' := 182) hL (dAt dd_law_0 37 rfl) rfl ?_
  refine l_sld (p' := 183) hL q2 (dAt dd_law_0 38 rfl) rfl ?_
  refine l_aload_n (p' := 184) 0 hL (dAt dd_law_0 39 rfl) rfl rfl rfl ?_
  refine l_iload_n (p' := 185) 3 hL (dAt dd_law_0 40 rfl) rfl rfl rfl ?_
  refine l_iconst (v := 3) (p' := 186) hL (dAt dd_law_0 41 rfl) rfl (by decide) ?_
  refine l_iadd (p' := 187) hL (dAt dd_law_0 42 rfl) rfl ?_
  refine l_sld (p' := 188) hL q3 (dAt dd_law_0 43 rfl) rfl ?_
  refine l_callC (n2 := 3) (As := [.int (xs (x3 + 1).toNatClampNeg), .int (xs (x3 + 2).toNatClampNeg), .int (xs (x3 + 3).toNatClampNeg)]) (p' := 191) hL (c_X10_row _ _ _ hC c (xs (x3 + 1).toNatClampNeg) (xs (x3 + 2).toNatClampNeg) (xs (x3 + 3).toNatClampNeg)) e1 k_259 k_260 k_261 k_1 k_262 (by decide +kernel) ⟨by decide, by decide⟩ (ci := 9) rfl rfl (by decide) w1.1 rfl (Nat.le_of_ble_eq_true rfl) rfl ⟨by omega, by omega⟩ (dAt dd_law_0 44 rfl) rfl ?_
  refine l_aload_n (p' := 192) 2 hL (dAt dd_law_0 45 rfl) rfl rfl rfl ?_
  refine l_aload_n (p' := 193) 0 hL (dAt dd_law_0 46 rfl) rfl rfl rfl ?_
  refine l_iload_n (p' := 194) 3 hL (dAt dd_law_0 47 rfl) rfl rfl rfl ?_
  refine l_iconst (v := 1) (p' := 195) hL (dAt dd_law_0 48 rfl) rfl (by decide) ?_
  refine l_iadd (p' := 196) hL (dAt dd_law_0 49 rfl) rfl ?_
  refine l_sld (p' := 197) hL q1 (dAt dd_law_0 50 rfl) rfl ?_
  refine l_aload_n (p' := 198) 0 hL (dAt dd_law_0 51 rfl) rfl rfl rfl ?_
  refine l_iload_n (p' := 199) 3 hL (dAt dd_law_0 52 rfl) rfl rfl rfl ?_
  refine l_iconst (v := 2) (p' := 200) hL (dAt dd_law_0 53 rfl) rfl (by decide) ?_
  refine l_iadd (p' := 201) hL (dAt dd_law_0 54 rfl) rfl ?_
  refine l_sld (p' := 202) hL q2 (dAt dd_law_0 55 rfl) rfl ?_
  refine l_aload_n (p' := 203) 0 hL (dAt dd_law_0 56 rfl) rfl rfl rfl ?_
  refine l_iload_n (p' := 204) 3 hL (dAt dd_law_0 57 rfl) rfl rfl rfl ?_
  refine l_iconst (v := 3) (p' := 205) hL (dAt dd_law_0 58 rfl) rfl (by decide) ?_
  refine l_iadd (p' := 206) hL (dAt dd_law_0 59 rfl) rfl ?_
  refine l_sld (p' := 207) hL q3 (dAt dd_law_1 0 rfl) rfl ?_
  refine l_callM (n2 := 3) (As := [.int (xs (x3 + 1).toNatClampNeg), .int (xs (x3 + 2).toNatClampNeg), .int (xs (x3 + 3).toNatClampNeg)]) (p' := 210) hL (c_X11_row _ _ _ (a_to (a_nx hC') hM) m (xs (x3 + 1).toNatClampNeg) (xs (x3 + 2).toNatClampNeg) (xs (x3 + 3).toNatClampNeg)) e2 k_906 k_907 k_908 k_9 k_909 (by decide +kernel) ⟨by decide, by decide⟩ (ci := 10) rfl rfl (by decide) w1.2.1 rfl (Nat.le_of_ble_eq_true rfl) rfl ⟨by omega, by omega⟩ (dAt dd_law_1 1 rfl) rfl ?_
  refine l_icmp_eq (tgt := 1209) hL (dAt dd_law_1 2 rfl) (by decide) rfl ?_
  have e9 : a_to (a_nx hM') hC' = hC' := by rw [← w2.2.2]; rfl
  rw [e9]
  exact kk _ _ _ _ hR' (by omega) (by omega)
set_option maxHeartbeats 4000000 in
set_option maxRecDepth 100000 in
theorem law_case_1 {C : CT} {b L : Nat} {xs : Nat → Int32} {R : Nat → Nat → AH → AH → Nat → Prop} (hR : MainR R) (hL : OKL C b L xs) {c m t : Nat} {hC hM : AH} {x3 : Int32} {cells slots : Nat} (h0 : R c m hC hM t) (ht : t < 512) (hc : cells ≤ 10000 + 100 * t) (hs : slots ≤ 800000 + 5000 * t) (q1 : vp_in (x3 + 1) L) (q2 : vp_in (x3 + 2) L) (q3 : vp_in (x3 + 3) L) (q4 : vp_in (x3 + 4) L) (q5 : vp_in (x3 + 5) L) (kk : ∀ hC' hM' cells' slots', R c m hC' hM' (t + 1) → cells' ≤ 10000 + 100 * (t + 1) → slots' ≤ 800000 + 5000 * (t + 1) → WL C 1209 [(0, va_rf (some b)), (1, va_rf (some c)), (2, va_rf (some m)), (3, .int x3)] [] hC' hM' cells' slots') : WL C 215 [(0, va_rf (some b)), (1, va_rf (some c)), (2, va_rf (some m)), (3, .int x3)] [] hC hM cells slots := by
  obtain ⟨r, hC', k, n, hM', e1, e2, hR', hk, hn⟩ := hR.2.2.1 c m hC hM t 1 (xs (x3 + 1).toNatClampNeg) (xs (x3 + 2).toNatClampNeg) (xs (x3 + 3).toNatClampNeg) (xs (x3 + 4).toNatClampNeg) (xs (x3 + 5).toNatClampNeg) h0 ht (by decide)
  have w1 := hR.2.1 c m hC hM t h0
  have w2 := hR.2.1 c m hC' hM' (t + 1) hR'
  refine l_aload_n (p' := 216) 1 hL (dAt dd_law_1 5 rfl) rfl rfl rfl ?_
  refine l_aload_n (p' := 217) 0 hL (dAt dd_law_1 6 rfl) rfl rfl rfl ?_
  refine l_iload_n (p' := 218) 3 hL (dAt dd_law_1 7 rfl) rfl rfl rfl ?_
  refine l_iconst (v := 1) (p' := 219) hL (dAt dd_law_1 8 rfl) rfl (by decide) ?_
  refine l_iadd (p' := 220) hL (dAt dd_law_1 9 rfl) rfl ?_
  refine l_sld (p' := 221) hL q1 (dAt dd_law_1 10 rfl) rfl ?_
  refine l_aload_n (p' := 222) 0 hL (dAt dd_law_1 11 rfl) rfl rfl rfl ?_
  refine l_iload_n (p' := 223) 3 hL (dAt dd_law_1 12 rfl) rfl rfl rfl ?_
  refine l_iconst (v := 2) (p' := 224) hL (dAt dd_law_1 13 rfl) rfl (by decide) ?_
  refine l_iadd (p' := 225) hL (dAt dd_law_1 14 rfl) rfl ?_
  refine l_sld (p' := 226) hL q2 (dAt dd_law_1 15 rfl) rfl ?_
  refine l_aload_n (p' := 227) 0 hL (dAt dd_law_1 16 rfl) rfl rfl rfl ?_
  refine l_iload_n (p' := 228) 3 hL (dAt dd_law_1 17 rfl) rfl rfl rfl ?_
  refine l_iconst (v := 3) (p' := 229) hL (dAt dd_law_1 18 rfl) rfl (by decide) ?_
  refine l_iadd (p' := 230) hL (dAt dd_law_1 19 rfl) rfl ?_
  refine l_sld (p' := 231) hL q3 (dAt dd_law_1 20 rfl) rfl ?_
  refine l_callC (n2 := 3) (As := [.int (xs (x3 + 1).toNatClampNeg), .int (xs (x3 + 2).toNatClampNeg), .int (xs (x3 + 3).toNatClampNeg)]) (p' := 234) hL (c_X10_set _ _ _ hC c (xs (x3 + 1).toNatClampNeg) (xs (x3 + 2).toNatClampNeg) (xs (x3 + 3).toNatClampNeg)) e1 k_286 k_287 k_288 k_1 k_289 (by decide +kernel) ⟨by decide, by decide⟩ (ci := 9) rfl rfl (by decide) w1.1 rfl (Nat.le_of_ble_eq_true rfl) rfl ⟨by omega, by omega⟩ (dAt dd_law_1 21 rfl) rfl ?_
  refine l_aload_n (p' := 235) 2 hL (dAt dd_law_1 22 rfl) rfl rfl rfl ?_
  refine l_aload_n (p' := 236) 0 hL (dAt dd_law_1 23 rfl) rfl rfl rfl ?_
  refine l_iload_n (p' := 237) 3 hL (dAt dd_law_1 24 rfl) rfl rfl rfl ?_
  refine l_iconst (v := 1) (p' := 238) hL (dAt dd_law_1 25 rfl) rfl (by decide) ?_
  refine l_iadd (p' := 239) hL (dAt dd_law_1 26 rfl) rfl ?_
  refine l_sld (p' := 240) hL q1 (dAt dd_law_1 27 rfl) rfl ?_
  refine l_aload_n (p' := 241) 0 hL (dAt dd_law_1 28 rfl) rfl rfl rfl ?_
  refine l_iload_n (p' := 242) 3 hL (dAt dd_law_1 29 rfl) rfl rfl rfl ?_
  refine l_iconst (v := 2) (p' := 243) hL (dAt dd_law_1 30 rfl) rfl (by decide) ?_
  refine l_iadd (p' := 244) hL (dAt dd_law_1 31 rfl) rfl ?_
  refine l_sld (p' := 245) hL q2 (dAt dd_law_1 32 rfl) rfl ?_
  refine l_aload_n (p' := 246) 0 hL (dAt dd_law_1 33 rfl) rfl rfl rfl ?_
  refine l_iload_n (p' := 247) 3 hL (dAt dd_law_1 34 rfl) rfl rfl rfl ?_
  refine l_iconst (v := 3) (p' := 248) hL (dAt dd_law_1 35 rfl) rfl (by decide) ?_
  refine l_iadd (p' := 249) hL (dAt dd_law_1 36 rfl) rfl ?_
  refine l_sld (p' := 250) hL q3 (dAt dd_law_1 37 rfl) rfl ?_
  refine l_callM (n2 := 3) (As := [.int (xs (x3 + 1).toNatClampNeg), .int (xs (x3 + 2).toNatClampNeg), .int (xs (x3 + 3).toNatClampNeg)]) (p' := 253) hL (c_X11_set _ _ _ (a_to (a_nx hC') hM) m (xs (x3 + 1).toNatClampNeg) (xs (x3 + 2).toNatClampNeg) (xs (x3 + 3).toNatClampNeg)) e2 k_924 k_925 k_926 k_9 k_927 (by decide +kernel) ⟨by decide, by decide⟩ (ci := 10) rfl rfl (by decide) w1.2.1 rfl (Nat.le_of_ble_eq_true rfl) rfl ⟨by omega, by omega⟩ (dAt dd_law_1 38 rfl) rfl ?_
  refine l_icmp_eq (tgt := 1209) hL (dAt dd_law_1 39 rfl) (by decide) rfl ?_
  have e9 : a_to (a_nx hM') hC' = hC' := by rw [← w2.2.2]; rfl
  rw [e9]
  exact kk _ _ _ _ hR' (by omega) (by omega)
set_option maxHeartbeats 4000000 in
set_option maxRecDepth 100000 in
theorem law_case_2 {C : CT} {b L : Nat} {xs : Nat → Int32} {R : Nat → Nat → AH → AH → Nat → Prop} (hR : MainR R) (hL : OKL C b L xs) {c m t : Nat} {hC hM : AH} {x3 : Int32} {cells slots : Nat} (h0 : R c m hC hM t) (ht : t < 512) (hc : cells ≤ 10000 + 100 * t) (hs : slots ≤ 800000 + 5000 * t) (q1 : vp_in (x3 + 1) L) (q2 : vp_in (x3 + 2) L) (q3 : vp_in (x3 + 3) L) (q4 : vp_in (x3 + 4) L) (q5 : vp_in (x3 + 5) L) (kk : ∀ hC' hM' cells' slots', R c m hC' hM' (t + 1) → cells' ≤ 10000 + 100 * (t + 1) → slots' ≤ 800000 + 5000 * (t + 1) → WL C 1209 [(0, va_rf (some b)), (1, va_rf (some c)), (2, va_rf (some m)), (3, .int x3)] [] hC' hM' cells' slots') : WL C 258 [(0, va_rf (some b)), (1, va_rf (some c)), (2, va_rf (some m)), (3, .int x3)] [] hC hM cells slots := by
  obtain ⟨r, hC', k, n, hM', e1, e2, hR', hk, hn⟩ := hR.2.2.1 c m hC hM t 2 (xs (x3 + 1).toNatClampNeg) (xs (x3 + 2).toNatClampNeg) (xs (x3 + 3).toNatClampNeg) (xs (x3 + 4).toNatClampNeg) (xs (x3 + 5).toNatClampNeg) h0 ht (by decide)
  have w1 := hR.2.1 c m hC hM t h0
  have w2 := hR.2.1 c m hC' hM' (t + 1) hR'
  refine l_aload_n (p' := 259) 1 hL (dAt dd_law_1 42 rfl) rfl rfl rfl ?_
  refine l_aload_n (p' := 260) 0 hL (dAt dd_law_1 43 rfl) rfl rfl rfl ?_
  refine l_iload_n (p' := 261) 3 hL (dAt dd_law_1 44 rfl) rfl rfl rfl ?_
  refine l_iconst (v := 1) (p' := 262) hL (dAt dd_law_1 45 rfl) rfl (by decide) ?_
  refine l_iadd (p' := 263) hL (dAt dd_law_1 46 rfl) rfl ?_
  refine l_sld (p' := 264) hL q1 (dAt dd_law_1 47 rfl) rfl ?_
  refine l_aload_n (p' := 265) 0 hL (dAt dd_law_1 48 rfl) rfl rfl rfl ?_
  refine l_iload_n (p' := 266) 3 hL (dAt dd_law_1 49 rfl) rfl rfl rfl ?_
  refine l_iconst (v := 2) (p' := 267) hL (dAt dd_law_1 50 rfl) rfl (by decide) ?_
  refine l_iadd (p' := 268) hL (dAt dd_law_1 51 rfl) rfl ?_
  refine l_sld (p' := 269) hL q2 (dAt dd_law_1 52 rfl) rfl ?_
  refine l_aload_n (p' := 270) 0 hL (dAt dd_law_1 53 rfl) rfl rfl rfl ?_
  refine l_iload_n (p' := 271) 3 hL (dAt dd_law_1 54 rfl) rfl rfl rfl ?_
  refine l_iconst (v := 3) (p' := 272) hL (dAt dd_law_1 55 rfl) rfl (by decide) ?_
  refine l_iadd (p' := 273) hL (dAt dd_law_1 56 rfl) rfl ?_
  refine l_sld (p' := 274) hL q3 (dAt dd_law_1 57 rfl) rfl ?_
  refine l_aload_n (p' := 275) 0 hL (dAt dd_law_1 58 rfl) rfl rfl rfl ?_
  refine l_iload_n (p' := 276) 3 hL (dAt dd_law_1 59 rfl) rfl rfl rfl ?_
  refine l_iconst (v := 4) (p' := 277) hL (dAt dd_law_2 0 rfl) rfl (by decide) ?_
  refine l_iadd (p' := 278) hL (dAt dd_law_2 1 rfl) rfl ?_
  refine l_sld (p' := 279) hL q4 (dAt dd_law_2 2 rfl) rfl ?_
  refine l_aload_n (p' := 280) 0 hL (dAt dd_law_2 3 rfl) rfl rfl rfl ?_
  refine l_iload_n (p' := 281) 3 hL (dAt dd_law_2 4 rfl) rfl rfl rfl ?_
  refine l_iconst (v := 5) (p' := 282) hL (dAt dd_law_2 5 rfl) rfl (by decide) ?_
  refine l_iadd (p' := 283) hL (dAt dd_law_2 6 rfl) rfl ?_
  refine l_sld (p' := 284) hL q5 (dAt dd_law_2 7 rfl) rfl ?_
  refine l_callC (n2 := 5) (As := [.int (xs (x3 + 1).toNatClampNeg), .int (xs (x3 + 2).toNatClampNeg), .int (xs (x3 + 3).toNatClampNeg), .int (xs (x3 + 4).toNatClampNeg), .int (xs (x3 + 5).toNatClampNeg)]) (p' := 287) hL (c_X10_copy _ _ _ hC c (xs (x3 + 1).toNatClampNeg) (xs (x3 + 2).toNatClampNeg) (xs (x3 + 3).toNatClampNeg) (xs (x3 + 4).toNatClampNeg) (xs (x3 + 5).toNatClampNeg)) e1 k_294 k_295 k_296 k_1 k_297 (by decide +kernel) ⟨by decide, by decide⟩ (ci := 9) rfl rfl (by decide) w1.1 rfl (Nat.le_of_ble_eq_true rfl) rfl ⟨by omega, by omega⟩ (dAt dd_law_2 8 rfl) rfl ?_
  refine l_aload_n (p' := 288) 2 hL (dAt dd_law_2 9 rfl) rfl rfl rfl ?_
  refine l_aload_n (p' := 289) 0 hL (dAt dd_law_2 10 rfl) rfl rfl rfl ?_
  refine l_iload_n (p' := 290) 3 hL (dAt dd_law_2 11 rfl) rfl rfl rfl ?_
  refine l_iconst (v := 1) (p' := 291) hL (dAt dd_law_2 12 rfl) rfl (by decide) ?_
  refine l_iadd (p' := 292) hL (dAt dd_law_2 13 rfl) rfl ?_
  refine l_sld (p' := 293) hL q1 (dAt dd_law_2 14 rfl) rfl ?_
  refine l_aload_n (p' := 294) 0 hL (dAt dd_law_2 15 rfl) rfl rfl rfl ?_
  refine l_iload_n (p' := 295) 3 hL (dAt dd_law_2 16 rfl) rfl rfl rfl ?_
  refine l_iconst (v := 2) (p' := 296) hL (dAt dd_law_2 17 rfl) rfl (by decide) ?_
  refine l_iadd (p' := 297) hL (dAt dd_law_2 18 rfl) rfl ?_
  refine l_sld (p' := 298) hL q2 (dAt dd_law_2 19 rfl) rfl ?_
  refine l_aload_n (p' := 299) 0 hL (dAt dd_law_2 20 rfl) rfl rfl rfl ?_
  refine l_iload_n (p' := 300) 3 hL (dAt dd_law_2 21 rfl) rfl rfl rfl ?_
  refine l_iconst (v := 3) (p' := 301) hL (dAt dd_law_2 22 rfl) rfl (by decide) ?_
  refine l_iadd (p' := 302) hL (dAt dd_law_2 23 rfl) rfl ?_
  refine l_sld (p' := 303) hL q3 (dAt dd_law_2 24 rfl) rfl ?_
  refine l_aload_n (p' := 304) 0 hL (dAt dd_law_2 25 rfl) rfl rfl rfl ?_
  refine l_iload_n (p' := 305) 3 hL (dAt dd_law_2 26 rfl) rfl rfl rfl ?_
  refine l_iconst (v := 4) (p' := 306) hL (dAt dd_law_2 27 rfl) rfl (by decide) ?_
  refine l_iadd (p' := 307) hL (dAt dd_law_2 28 rfl) rfl ?_
  refine l_sld (p' := 308) hL q4 (dAt dd_law_2 29 rfl) rfl ?_
  refine l_aload_n (p' := 309) 0 hL (dAt dd_law_2 30 rfl) rfl rfl rfl ?_
  refine l_iload_n (p' := 310) 3 hL (dAt dd_law_2 31 rfl) rfl rfl rfl ?_
  refine l_iconst (v := 5) (p' := 311) hL (dAt dd_law_2 32 rfl) rfl (by decide) ?_
  refine l_iadd (p' := 312) hL (dAt dd_law_2 33 rfl) rfl ?_
  refine l_sld (p' := 313) hL q5 (dAt dd_law_2 34 rfl) rfl ?_
  refine l_callM (n2 := 5) (As := [.int (xs (x3 + 1).toNatClampNeg), .int (xs (x3 + 2).toNatClampNeg), .int (xs (x3 + 3).toNatClampNeg), .int (xs (x3 + 4).toNatClampNeg), .int (xs (x3 + 5).toNatClampNeg)]) (p' := 316) hL (c_X11_copy _ _ _ (a_to (a_nx hC') hM) m (xs (x3 + 1).toNatClampNeg) (xs (x3 + 2).toNatClampNeg) (xs (x3 + 3).toNatClampNeg) (xs (x3 + 4).toNatClampNeg) (xs (x3 + 5).toNatClampNeg)) e2 k_928 k_929 k_930 k_9 k_931 (by decide +kernel) ⟨by decide, by decide⟩ (ci := 10) rfl rfl (by decide) w1.2.1 rfl (Nat.le_of_ble_eq_true rfl) rfl ⟨by omega, by omega⟩ (dAt dd_law_2 35 rfl) rfl ?_
  refine l_icmp_eq (tgt := 1209) hL (dAt dd_law_2 36 rfl) (by decide) rfl ?_
  have e9 : a_to (a_nx hM') hC' = hC' := by rw [← w2.2.2]; rfl
  rw [e9]
  exact kk _ _ _ _ hR' (by omega) (by omega)
set_option maxHeartbeats 4000000 in
set_option maxRecDepth 100000 in
theorem law_case_3 {C : CT} {b L : Nat} {xs : Nat → Int32} {R : Nat → Nat → AH → AH → Nat → Prop} (hR : MainR R) (hL : OKL C b L xs) {c m t : Nat} {hC hM : AH} {x3 : Int32} {cells slots : Nat} (h0 : R c m hC hM t) (ht : t < 512) (hc : cells ≤ 10000 + 100 * t) (hs : slots ≤ 800000 + 5000 * t) (q1 : vp_in (x3 + 1) L) (q2 : vp_in (x3 + 2) L) (q3 : vp_in (x3 + 3) L) (q4 : vp_in (x3 + 4) L) (q5 : vp_in (x3 + 5) L) (kk : ∀ hC' hM' cells' slots', R c m hC' hM' (t + 1) → cells' ≤ 10000 + 100 * (t + 1) → slots' ≤ 800000 + 5000 * (t + 1) → WL C 1209 [(0, va_rf (some b)), (1, va_rf (some c)), (2, va_rf (some m)), (3, .int x3)] [] hC' hM' cells' slots') : WL C 321 [(0, va_rf (some b)), (1, va_rf (some c)), (2, va_rf (some m)), (3, .int x3)] [] hC hM cells slots := by
  obtain ⟨r, hC', k, n, hM', e1, e2, hR', hk, hn⟩ := hR.2.2.1 c m hC hM t 3 (xs (x3 + 1).toNatClampNeg) (xs (x3 + 2).toNatClampNeg) (xs (x3 + 3).toNatClampNeg) (xs (x3 + 4).toNatClampNeg) (xs (x3 + 5).toNatClampNeg) h0 ht (by decide)
  have w1 := hR.2.1 c m hC hM t h0
  have w2 := hR.2.1 c m hC' hM' (t + 1) hR'
  refine l_aload_n (p' := 322) 1 hL (dAt dd_law_2 39 rfl) rfl rfl rfl ?_
  refine l_aload_n (p' := 323) 0 hL (dAt dd_law_2 40 rfl) rfl rfl rfl ?_
  refine l_iload_n (p' := 324) 3 hL (dAt dd_law_2 41 rfl) rfl rfl rfl ?_
  refine l_iconst (v := 1) (p' := 325) hL (dAt dd_law_2 42 rfl) rfl (by decide) ?_
  refine l_iadd (p' := 326) hL (dAt dd_law_2 43 rfl) rfl ?_
  refine l_sld (p' := 327) hL q1 (dAt dd_law_2 44 rfl) rfl ?_
  refine l_callC (n2 := 1) (As := [.int (xs (x3 + 1).toNatClampNeg)]) (p' := 330) hL (c_X10_drop _ _ _ hC c (xs (x3 + 1).toNatClampNeg)) e1 k_305 k_306 k_307 k_1 k_308 (by decide +kernel) ⟨by decide, by decide⟩ (ci := 9) rfl rfl (by decide) w1.1 rfl (Nat.le_of_ble_eq_true rfl) rfl ⟨by omega, by omega⟩ (dAt dd_law_2 45 rfl) rfl ?_
  refine l_aload_n (p' := 331) 2 hL (dAt dd_law_2 46 rfl) rfl rfl rfl ?_
  refine l_aload_n (p' := 332) 0 hL (dAt dd_law_2 47 rfl) rfl rfl rfl ?_
  refine l_iload_n (p' := 333) 3 hL (dAt dd_law_2 48 rfl) rfl rfl rfl ?_
  refine l_iconst (v := 1) (p' := 334) hL (dAt dd_law_2 49 rfl) rfl (by decide) ?_
  refine l_iadd (p' := 335) hL (dAt dd_law_2 50 rfl) rfl ?_
  refine l_sld (p' := 336) hL q1 (dAt dd_law_2 51 rfl) rfl ?_
  refine l_callM (n2 := 1) (As := [.int (xs (x3 + 1).toNatClampNeg)]) (p' := 339) hL (c_X11_drop _ _ _ (a_to (a_nx hC') hM) m (xs (x3 + 1).toNatClampNeg)) e2 k_932 k_933 k_934 k_9 k_935 (by decide +kernel) ⟨by decide, by decide⟩ (ci := 10) rfl rfl (by decide) w1.2.1 rfl (Nat.le_of_ble_eq_true rfl) rfl ⟨by omega, by omega⟩ (dAt dd_law_2 52 rfl) rfl ?_
  refine l_icmp_eq (tgt := 1209) hL (dAt dd_law_2 53 rfl) (by decide) rfl ?_
  have e9 : a_to (a_nx hM') hC' = hC' := by rw [← w2.2.2]; rfl
  rw [e9]
  exact kk _ _ _ _ hR' (by omega) (by omega)
set_option maxHeartbeats 4000000 in
set_option maxRecDepth 100000 in
theorem law_case_4 {C : CT} {b L : Nat} {xs : Nat → Int32} {R : Nat → Nat → AH → AH → Nat → Prop} (hR : MainR R) (hL : OKL C b L xs) {c m t : Nat} {hC hM : AH} {x3 : Int32} {cells slots : Nat} (h0 : R c m hC hM t) (ht : t < 512) (hc : cells ≤ 10000 + 100 * t) (hs : slots ≤ 800000 + 5000 * t) (q1 : vp_in (x3 + 1) L) (q2 : vp_in (x3 + 2) L) (q3 : vp_in (x3 + 3) L) (q4 : vp_in (x3 + 4) L) (q5 : vp_in (x3 + 5) L) (kk : ∀ hC' hM' cells' slots', R c m hC' hM' (t + 1) → cells' ≤ 10000 + 100 * (t + 1) → slots' ≤ 800000 + 5000 * (t + 1) → WL C 1209 [(0, va_rf (some b)), (1, va_rf (some c)), (2, va_rf (some m)), (3, .int x3)] [] hC' hM' cells' slots') : WL C 344 [(0, va_rf (some b)), (1, va_rf (some c)), (2, va_rf (some m)), (3, .int x3)] [] hC hM cells slots := by
  obtain ⟨r, hC', k, n, hM', e1, e2, hR', hk, hn⟩ := hR.2.2.1 c m hC hM t 4 (xs (x3 + 1).toNatClampNeg) (xs (x3 + 2).toNatClampNeg) (xs (x3 + 3).toNatClampNeg) (xs (x3 + 4).toNatClampNeg) (xs (x3 + 5).toNatClampNeg) h0 ht (by decide)
  have w1 := hR.2.1 c m hC hM t h0
  have w2 := hR.2.1 c m hC' hM' (t + 1) hR'
  refine l_aload_n (p' := 345) 1 hL (dAt dd_law_2 56 rfl) rfl rfl rfl ?_
  refine l_aload_n (p' := 346) 0 hL (dAt dd_law_2 57 rfl) rfl rfl rfl ?_
  refine l_iload_n (p' := 347) 3 hL (dAt dd_law_2 58 rfl) rfl rfl rfl ?_
  refine l_iconst (v := 1) (p' := 348) hL (dAt dd_law_2 59 rfl) rfl (by decide) ?_
  refine l_iadd (p' := 349) hL (dAt dd_law_3 0 rfl) rfl ?_
  refine l_sld (p' := 350) hL q1 (dAt dd_law_3 1 rfl) rfl ?_
  refine l_aload_n (p' := 351) 0 hL (dAt dd_law_3 2 rfl) rfl rfl rfl ?_
  refine l_iload_n (p' := 352) 3 hL (dAt dd_law_3 3 rfl) rfl rfl rfl ?_
  refine l_iconst (v := 2) (p' := 353) hL (dAt dd_law_3 4 rfl) rfl (by decide) ?_
  refine l_iadd (p' := 354) hL (dAt dd_law_3 5 rfl) rfl ?_
  refine l_sld (p' := 355) hL q2 (dAt dd_law_3 6 rfl) rfl ?_
  refine l_callC (n2 := 2) (As := [.int (xs (x3 + 1).toNatClampNeg), .int (xs (x3 + 2).toNatClampNeg)]) (p' := 358) hL (c_X10_fold _ _ _ hC c (xs (x3 + 1).toNatClampNeg) (xs (x3 + 2).toNatClampNeg)) e1 k_309 k_310 k_311 k_1 k_312 (by decide +kernel) ⟨by decide, by decide⟩ (ci := 9) rfl rfl (by decide) w1.1 rfl (Nat.le_of_ble_eq_true rfl) rfl ⟨by omega, by omega⟩ (dAt dd_law_3 7 rfl) rfl ?_
  refine l_aload_n (p' := 359) 2 hL (dAt dd_law_3 8 rfl) rfl rfl rfl ?_
  refine l_aload_n (p' := 360) 0 hL (dAt dd_law_3 9 rfl) rfl rfl rfl ?_
  refine l_iload_n (p' := 361) 3 hL (dAt dd_law_3 10 rfl) rfl rfl rfl ?_
  refine l_iconst (v := 1) (p' := 362) hL (dAt dd_law_3 11 rfl) rfl (by decide) ?_
  refine l_iadd (p' := 363) hL (dAt dd_law_3 12 rfl) rfl ?_
  refine l_sld (p' := 364) hL q1 (dAt dd_law_3 13 rfl) rfl ?_
  refine l_aload_n (p' := 365) 0 hL (dAt dd_law_3 14 rfl) rfl rfl rfl ?_
  refine l_iload_n (p' := 366) 3 hL (dAt dd_law_3 15 rfl) rfl rfl rfl ?_
  refine l_iconst (v := 2) (p' := 367) hL (dAt dd_law_3 16 rfl) rfl (by decide) ?_
  refine l_iadd (p' := 368) hL (dAt dd_law_3 17 rfl) rfl ?_
  refine l_sld (p' := 369) hL q2 (dAt dd_law_3 18 rfl) rfl ?_
  refine l_callM (n2 := 2) (As := [.int (xs (x3 + 1).toNatClampNeg), .int (xs (x3 + 2).toNatClampNeg)]) (p' := 372) hL (c_X11_fold _ _ _ (a_to (a_nx hC') hM) m (xs (x3 + 1).toNatClampNeg) (xs (x3 + 2).toNatClampNeg)) e2 k_936 k_937 k_938 k_9 k_939 (by decide +kernel) ⟨by decide, by decide⟩ (ci := 10) rfl rfl (by decide) w1.2.1 rfl (Nat.le_of_ble_eq_true rfl) rfl ⟨by omega, by omega⟩ (dAt dd_law_3 19 rfl) rfl ?_
  refine l_icmp_eq (tgt := 1209) hL (dAt dd_law_3 20 rfl) (by decide) rfl ?_
  have e9 : a_to (a_nx hM') hC' = hC' := by rw [← w2.2.2]; rfl
  rw [e9]
  exact kk _ _ _ _ hR' (by omega) (by omega)
set_option maxHeartbeats 4000000 in
set_option maxRecDepth 100000 in
theorem law_case_5 {C : CT} {b L : Nat} {xs : Nat → Int32} {R : Nat → Nat → AH → AH → Nat → Prop} (hR : MainR R) (hL : OKL C b L xs) {c m t : Nat} {hC hM : AH} {x3 : Int32} {cells slots : Nat} (h0 : R c m hC hM t) (ht : t < 512) (hc : cells ≤ 10000 + 100 * t) (hs : slots ≤ 800000 + 5000 * t) (q1 : vp_in (x3 + 1) L) (q2 : vp_in (x3 + 2) L) (q3 : vp_in (x3 + 3) L) (q4 : vp_in (x3 + 4) L) (q5 : vp_in (x3 + 5) L) (kk : ∀ hC' hM' cells' slots', R c m hC' hM' (t + 1) → cells' ≤ 10000 + 100 * (t + 1) → slots' ≤ 800000 + 5000 * (t + 1) → WL C 1209 [(0, va_rf (some b)), (1, va_rf (some c)), (2, va_rf (some m)), (3, .int x3)] [] hC' hM' cells' slots') : WL C 377 [(0, va_rf (some b)), (1, va_rf (some c)), (2, va_rf (some m)), (3, .int x3)] [] hC hM cells slots := by
  obtain ⟨r, hC', k, n, hM', e1, e2, hR', hk, hn⟩ := hR.2.2.1 c m hC hM t 5 (xs (x3 + 1).toNatClampNeg) (xs (x3 + 2).toNatClampNeg) (xs (x3 + 3).toNatClampNeg) (xs (x3 + 4).toNatClampNeg) (xs (x3 + 5).toNatClampNeg) h0 ht (by decide)
  have w1 := hR.2.1 c m hC hM t h0
  have w2 := hR.2.1 c m hC' hM' (t + 1) hR'
  refine l_aload_n (p' := 378) 1 hL (dAt dd_law_3 23 rfl) rfl rfl rfl ?_
  refine l_aload_n (p' := 379) 0 hL (dAt dd_law_3 24 rfl) rfl rfl rfl ?_
  refine l_iload_n (p' := 380) 3 hL (dAt dd_law_3 25 rfl) rfl rfl rfl ?_
  refine l_iconst (v := 1) (p' := 381) hL (dAt dd_law_3 26 rfl) rfl (by decide) ?_
  refine l_iadd (p' := 382) hL (dAt dd_law_3 27 rfl) rfl ?_
  refine l_sld (p' := 383) hL q1 (dAt dd_law_3 28 rfl) rfl ?_
  refine l_aload_n (p' := 384) 0 hL (dAt dd_law_3 29 rfl) rfl rfl rfl ?_
  refine l_iload_n (p' := 385) 3 hL (dAt dd_law_3 30 rfl) rfl rfl rfl ?_
  refine l_iconst (v := 2) (p' := 386) hL (dAt dd_law_3 31 rfl) rfl (by decide) ?_
  refine l_iadd (p' := 387) hL (dAt dd_law_3 32 rfl) rfl ?_
  refine l_sld (p' := 388) hL q2 (dAt dd_law_3 33 rfl) rfl ?_
  refine l_aload_n (p' := 389) 0 hL (dAt dd_law_3 34 rfl) rfl rfl rfl ?_
  refine l_iload_n (p' := 390) 3 hL (dAt dd_law_3 35 rfl) rfl rfl rfl ?_
  refine l_iconst (v := 3) (p' := 391) hL (dAt dd_law_3 36 rfl) rfl (by decide) ?_
  refine l_iadd (p' := 392) hL (dAt dd_law_3 37 rfl) rfl ?_
  refine l_sld (p' := 393) hL q3 (dAt dd_law_3 38 rfl) rfl ?_
  refine l_callC (n2 := 3) (As := [.int (xs (x3 + 1).toNatClampNeg), .int (xs (x3 + 2).toNatClampNeg), .int (xs (x3 + 3).toNatClampNeg)]) (p' := 396) hL (c_X10_keep _ _ _ hC c (xs (x3 + 1).toNatClampNeg) (xs (x3 + 2).toNatClampNeg) (xs (x3 + 3).toNatClampNeg)) e1 k_363 k_364 k_365 k_1 k_366 (by decide +kernel) ⟨by decide, by decide⟩ (ci := 9) rfl rfl (by decide) w1.1 rfl (Nat.le_of_ble_eq_true rfl) rfl ⟨by omega, by omega⟩ (dAt dd_law_3 39 rfl) rfl ?_
  refine l_aload_n (p' := 397) 2 hL (dAt dd_law_3 40 rfl) rfl rfl rfl ?_
  refine l_aload_n (p' := 398) 0 hL (dAt dd_law_3 41 rfl) rfl rfl rfl ?_
  refine l_iload_n (p' := 399) 3 hL (dAt dd_law_3 42 rfl) rfl rfl rfl ?_
  refine l_iconst (v := 1) (p' := 400) hL (dAt dd_law_3 43 rfl) rfl (by decide) ?_
  refine l_iadd (p' := 401) hL (dAt dd_law_3 44 rfl) rfl ?_
  refine l_sld (p' := 402) hL q1 (dAt dd_law_3 45 rfl) rfl ?_
  refine l_aload_n (p' := 403) 0 hL (dAt dd_law_3 46 rfl) rfl rfl rfl ?_
  refine l_iload_n (p' := 404) 3 hL (dAt dd_law_3 47 rfl) rfl rfl rfl ?_
  refine l_iconst (v := 2) (p' := 405) hL (dAt dd_law_3 48 rfl) rfl (by decide) ?_
  refine l_iadd (p' := 406) hL (dAt dd_law_3 49 rfl) rfl ?_
  refine l_sld (p' := 407) hL q2 (dAt dd_law_3 50 rfl) rfl ?_
  refine l_aload_n (p' := 408) 0 hL (dAt dd_law_3 51 rfl) rfl rfl rfl ?_
  refine l_iload_n (p' := 409) 3 hL (dAt dd_law_3 52 rfl) rfl rfl rfl ?_
  refine l_iconst (v := 3) (p' := 410) hL (dAt dd_law_3 53 rfl) rfl (by decide) ?_
  refine l_iadd (p' := 411) hL (dAt dd_law_3 54 rfl) rfl ?_
  refine l_sld (p' := 412) hL q3 (dAt dd_law_3 55 rfl) rfl ?_
  refine l_callM (n2 := 3) (As := [.int (xs (x3 + 1).toNatClampNeg), .int (xs (x3 + 2).toNatClampNeg), .int (xs (x3 + 3).toNatClampNeg)]) (p' := 415) hL (c_X11_keep _ _ _ (a_to (a_nx hC') hM) m (xs (x3 + 1).toNatClampNeg) (xs (x3 + 2).toNatClampNeg) (xs (x3 + 3).toNatClampNeg)) e2 k_962 k_963 k_964 k_9 k_965 (by decide +kernel) ⟨by decide, by decide⟩ (ci := 10) rfl rfl (by decide) w1.2.1 rfl (Nat.le_of_ble_eq_true rfl) rfl ⟨by omega, by omega⟩ (dAt dd_law_3 56 rfl) rfl ?_
  refine l_icmp_eq (tgt := 1209) hL (dAt dd_law_3 57 rfl) (by decide) rfl ?_
  have e9 : a_to (a_nx hM') hC' = hC' := by rw [← w2.2.2]; rfl
  rw [e9]
  exact kk _ _ _ _ hR' (by omega) (by omega)
set_option maxHeartbeats 4000000 in
set_option maxRecDepth 100000 in
theorem law_case_6 {C : CT} {b L : Nat} {xs : Nat → Int32} {R : Nat → Nat → AH → AH → Nat → Prop} (hR : MainR R) (hL : OKL C b L xs) {c m t : Nat} {hC hM : AH} {x3 : Int32} {cells slots : Nat} (h0 : R c m hC hM t) (ht : t < 512) (hc : cells ≤ 10000 + 100 * t) (hs : slots ≤ 800000 + 5000 * t) (q1 : vp_in (x3 + 1) L) (q2 : vp_in (x3 + 2) L) (q3 : vp_in (x3 + 3) L) (q4 : vp_in (x3 + 4) L) (q5 : vp_in (x3 + 5) L) (kk : ∀ hC' hM' cells' slots', R c m hC' hM' (t + 1) → cells' ≤ 10000 + 100 * (t + 1) → slots' ≤ 800000 + 5000 * (t + 1) → WL C 1209 [(0, va_rf (some b)), (1, va_rf (some c)), (2, va_rf (some m)), (3, .int x3)] [] hC' hM' cells' slots') : WL C 420 [(0, va_rf (some b)), (1, va_rf (some c)), (2, va_rf (some m)), (3, .int x3)] [] hC hM cells slots := by
  obtain ⟨r, hC', k, n, hM', e1, e2, hR', hk, hn⟩ := hR.2.2.1 c m hC hM t 6 (xs (x3 + 1).toNatClampNeg) (xs (x3 + 2).toNatClampNeg) (xs (x3 + 3).toNatClampNeg) (xs (x3 + 4).toNatClampNeg) (xs (x3 + 5).toNatClampNeg) h0 ht (by decide)
  have w1 := hR.2.1 c m hC hM t h0
  have w2 := hR.2.1 c m hC' hM' (t + 1) hR'
  refine l_aload_n (p' := 421) 1 hL (dAt dd_law_4 0 rfl) rfl rfl rfl ?_
  refine l_aload_n (p' := 422) 0 hL (dAt dd_law_4 1 rfl) rfl rfl rfl ?_
  refine l_iload_n (p' := 423) 3 hL (dAt dd_law_4 2 rfl) rfl rfl rfl ?_
  refine l_iconst (v := 1) (p' := 424) hL (dAt dd_law_4 3 rfl) rfl (by decide) ?_
  refine l_iadd (p' := 425) hL (dAt dd_law_4 4 rfl) rfl ?_
  refine l_sld (p' := 426) hL q1 (dAt dd_law_4 5 rfl) rfl ?_
  refine l_aload_n (p' := 427) 0 hL (dAt dd_law_4 6 rfl) rfl rfl rfl ?_
  refine l_iload_n (p' := 428) 3 hL (dAt dd_law_4 7 rfl) rfl rfl rfl ?_
  refine l_iconst (v := 2) (p' := 429) hL (dAt dd_law_4 8 rfl) rfl (by decide) ?_
  refine l_iadd (p' := 430) hL (dAt dd_law_4 9 rfl) rfl ?_
  refine l_sld (p' := 431) hL q2 (dAt dd_law_4 10 rfl) rfl ?_
  refine l_aload_n (p' := 432) 0 hL (dAt dd_law_4 11 rfl) rfl rfl rfl ?_
  refine l_iload_n (p' := 433) 3 hL (dAt dd_law_4 12 rfl) rfl rfl rfl ?_
  refine l_iconst (v := 3) (p' := 434) hL (dAt dd_law_4 13 rfl) rfl (by decide) ?_
  refine l_iadd (p' := 435) hL (dAt dd_law_4 14 rfl) rfl ?_
  refine l_sld (p' := 436) hL q3 (dAt dd_law_4 15 rfl) rfl ?_
  refine l_callC (n2 := 3) (As := [.int (xs (x3 + 1).toNatClampNeg), .int (xs (x3 + 2).toNatClampNeg), .int (xs (x3 + 3).toNatClampNeg)]) (p' := 439) hL (c_X10_give _ _ _ hC c (xs (x3 + 1).toNatClampNeg) (xs (x3 + 2).toNatClampNeg) (xs (x3 + 3).toNatClampNeg)) e1 k_408 k_409 k_410 k_1 k_411 (by decide +kernel) ⟨by decide, by decide⟩ (ci := 9) rfl rfl (by decide) w1.1 rfl (Nat.le_of_ble_eq_true rfl) rfl ⟨by omega, by omega⟩ (dAt dd_law_4 16 rfl) rfl ?_
  refine l_aload_n (p' := 440) 2 hL (dAt dd_law_4 17 rfl) rfl rfl rfl ?_
  refine l_aload_n (p' := 441) 0 hL (dAt dd_law_4 18 rfl) rfl rfl rfl ?_
  refine l_iload_n (p' := 442) 3 hL (dAt dd_law_4 19 rfl) rfl rfl rfl ?_
  refine l_iconst (v := 1) (p' := 443) hL (dAt dd_law_4 20 rfl) rfl (by decide) ?_
  refine l_iadd (p' := 444) hL (dAt dd_law_4 21 rfl) rfl ?_
  refine l_sld (p' := 445) hL q1 (dAt dd_law_4 22 rfl) rfl ?_
  refine l_aload_n (p' := 446) 0 hL (dAt dd_law_4 23 rfl) rfl rfl rfl ?_
  refine l_iload_n (p' := 447) 3 hL (dAt dd_law_4 24 rfl) rfl rfl rfl ?_
  refine l_iconst (v := 2) (p' := 448) hL (dAt dd_law_4 25 rfl) rfl (by decide) ?_
  refine l_iadd (p' := 449) hL (dAt dd_law_4 26 rfl) rfl ?_
  refine l_sld (p' := 450) hL q2 (dAt dd_law_4 27 rfl) rfl ?_
  refine l_aload_n (p' := 451) 0 hL (dAt dd_law_4 28 rfl) rfl rfl rfl ?_
  refine l_iload_n (p' := 452) 3 hL (dAt dd_law_4 29 rfl) rfl rfl rfl ?_
  refine l_iconst (v := 3) (p' := 453) hL (dAt dd_law_4 30 rfl) rfl (by decide) ?_
  refine l_iadd (p' := 454) hL (dAt dd_law_4 31 rfl) rfl ?_
  refine l_sld (p' := 455) hL q3 (dAt dd_law_4 32 rfl) rfl ?_
  refine l_callM (n2 := 3) (As := [.int (xs (x3 + 1).toNatClampNeg), .int (xs (x3 + 2).toNatClampNeg), .int (xs (x3 + 3).toNatClampNeg)]) (p' := 458) hL (c_X11_give _ _ _ (a_to (a_nx hC') hM) m (xs (x3 + 1).toNatClampNeg) (xs (x3 + 2).toNatClampNeg) (xs (x3 + 3).toNatClampNeg)) e2 k_978 k_979 k_980 k_9 k_981 (by decide +kernel) ⟨by decide, by decide⟩ (ci := 10) rfl rfl (by decide) w1.2.1 rfl (Nat.le_of_ble_eq_true rfl) rfl ⟨by omega, by omega⟩ (dAt dd_law_4 33 rfl) rfl ?_
  refine l_icmp_eq (tgt := 1209) hL (dAt dd_law_4 34 rfl) (by decide) rfl ?_
  have e9 : a_to (a_nx hM') hC' = hC' := by rw [← w2.2.2]; rfl
  rw [e9]
  exact kk _ _ _ _ hR' (by omega) (by omega)
set_option maxHeartbeats 4000000 in
set_option maxRecDepth 100000 in
theorem law_case_7 {C : CT} {b L : Nat} {xs : Nat → Int32} {R : Nat → Nat → AH → AH → Nat → Prop} (hR : MainR R) (hL : OKL C b L xs) {c m t : Nat} {hC hM : AH} {x3 : Int32} {cells slots : Nat} (h0 : R c m hC hM t) (ht : t < 512) (hc : cells ≤ 10000 + 100 * t) (hs : slots ≤ 800000 + 5000 * t) (q1 : vp_in (x3 + 1) L) (q2 : vp_in (x3 + 2) L) (q3 : vp_in (x3 + 3) L) (q4 : vp_in (x3 + 4) L) (q5 : vp_in (x3 + 5) L) (kk : ∀ hC' hM' cells' slots', R c m hC' hM' (t + 1) → cells' ≤ 10000 + 100 * (t + 1) → slots' ≤ 800000 + 5000 * (t + 1) → WL C 1209 [(0, va_rf (some b)), (1, va_rf (some c)), (2, va_rf (some m)), (3, .int x3)] [] hC' hM' cells' slots') : WL C 463 [(0, va_rf (some b)), (1, va_rf (some c)), (2, va_rf (some m)), (3, .int x3)] [] hC hM cells slots := by
  obtain ⟨r, hC', k, n, hM', e1, e2, hR', hk, hn⟩ := hR.2.2.1 c m hC hM t 7 (xs (x3 + 1).toNatClampNeg) (xs (x3 + 2).toNatClampNeg) (xs (x3 + 3).toNatClampNeg) (xs (x3 + 4).toNatClampNeg) (xs (x3 + 5).toNatClampNeg) h0 ht (by decide)
  have w1 := hR.2.1 c m hC hM t h0
  have w2 := hR.2.1 c m hC' hM' (t + 1) hR'
  refine l_aload_n (p' := 464) 1 hL (dAt dd_law_4 37 rfl) rfl rfl rfl ?_
  refine l_callC (n2 := 0) (As := []) (p' := 467) hL (c_X10_begin _ _ _ hC c ) e1 k_426 k_427 k_428 k_1 k_429 (by decide +kernel) ⟨by decide, by decide⟩ (ci := 9) rfl rfl (by decide) w1.1 rfl (Nat.le_of_ble_eq_true rfl) rfl ⟨by omega, by omega⟩ (dAt dd_law_4 38 rfl) rfl ?_
  refine l_aload_n (p' := 468) 2 hL (dAt dd_law_4 39 rfl) rfl rfl rfl ?_
  refine l_callM (n2 := 0) (As := []) (p' := 471) hL (c_X11_begin _ _ _ (a_to (a_nx hC') hM) m ) e2 k_994 k_995 k_996 k_9 k_997 (by decide +kernel) ⟨by decide, by decide⟩ (ci := 10) rfl rfl (by decide) w1.2.1 rfl (Nat.le_of_ble_eq_true rfl) rfl ⟨by omega, by omega⟩ (dAt dd_law_4 40 rfl) rfl ?_
  refine l_icmp_eq (tgt := 1209) hL (dAt dd_law_4 41 rfl) (by decide) rfl ?_
  have e9 : a_to (a_nx hM') hC' = hC' := by rw [← w2.2.2]; rfl
  rw [e9]
  exact kk _ _ _ _ hR' (by omega) (by omega)
set_option maxHeartbeats 4000000 in
set_option maxRecDepth 100000 in
theorem law_case_8 {C : CT} {b L : Nat} {xs : Nat → Int32} {R : Nat → Nat → AH → AH → Nat → Prop} (hR : MainR R) (hL : OKL C b L xs) {c m t : Nat} {hC hM : AH} {x3 : Int32} {cells slots : Nat} (h0 : R c m hC hM t) (ht : t < 512) (hc : cells ≤ 10000 + 100 * t) (hs : slots ≤ 800000 + 5000 * t) (q1 : vp_in (x3 + 1) L) (q2 : vp_in (x3 + 2) L) (q3 : vp_in (x3 + 3) L) (q4 : vp_in (x3 + 4) L) (q5 : vp_in (x3 + 5) L) (kk : ∀ hC' hM' cells' slots', R c m hC' hM' (t + 1) → cells' ≤ 10000 + 100 * (t + 1) → slots' ≤ 800000 + 5000 * (t + 1) → WL C 1209 [(0, va_rf (some b)), (1, va_rf (some c)), (2, va_rf (some m)), (3, .int x3)] [] hC' hM' cells' slots') : WL C 476 [(0, va_rf (some b)), (1, va_rf (some c)), (2, va_rf (some m)), (3, .int x3)] [] hC hM cells slots := by
  obtain ⟨r, hC', k, n, hM', e1, e2, hR', hk, hn⟩ := hR.2.2.1 c m hC hM t 8 (xs (x3 + 1).toNatClampNeg) (xs (x3 + 2).toNatClampNeg) (xs (x3 + 3).toNatClampNeg) (xs (x3 + 4).toNatClampNeg) (xs (x3 + 5).toNatClampNeg) h0 ht (by decide)
  have w1 := hR.2.1 c m hC hM t h0
  have w2 := hR.2.1 c m hC' hM' (t + 1) hR'
  refine l_aload_n (p' := 477) 1 hL (dAt dd_law_4 44 rfl) rfl rfl rfl ?_
  refine l_aload_n (p' := 478) 0 hL (dAt dd_law_4 45 rfl) rfl rfl rfl ?_
  refine l_iload_n (p' := 479) 3 hL (dAt dd_law_4 46 rfl) rfl rfl rfl ?_
  refine l_iconst (v := 1) (p' := 480) hL (dAt dd_law_4 47 rfl) rfl (by decide) ?_
  refine l_iadd (p' := 481) hL (dAt dd_law_4 48 rfl) rfl ?_
  refine l_sld (p' := 482) hL q1 (dAt dd_law_4 49 rfl) rfl ?_
  refine l_aload_n (p' := 483) 0 hL (dAt dd_law_4 50 rfl) rfl rfl rfl ?_
  refine l_iload_n (p' := 484) 3 hL (dAt dd_law_4 51 rfl) rfl rfl rfl ?_
  refine l_iconst (v := 2) (p' := 485) hL (dAt dd_law_4 52 rfl) rfl (by decide) ?_
  refine l_iadd (p' := 486) hL (dAt dd_law_4 53 rfl) rfl ?_
  refine l_sld (p' := 487) hL q2 (dAt dd_law_4 54 rfl) rfl ?_
  refine l_callC (n2 := 2) (As := [.int (xs (x3 + 1).toNatClampNeg), .int (xs (x3 + 2).toNatClampNeg)]) (p' := 490) hL (c_X10_forget _ _ _ hC c (xs (x3 + 1).toNatClampNeg) (xs (x3 + 2).toNatClampNeg)) e1 k_430 k_431 k_432 k_1 k_433 (by decide +kernel) ⟨by decide, by decide⟩ (ci := 9) rfl rfl (by decide) w1.1 rfl (Nat.le_of_ble_eq_true rfl) rfl ⟨by omega, by omega⟩ (dAt dd_law_4 55 rfl) rfl ?_
  refine l_aload_n (p' := 491) 2 hL (dAt dd_law_4 56 rfl) rfl rfl rfl ?_
  refine l_aload_n (p' := 492) 0 hL (dAt dd_law_4 57 rfl) rfl rfl rfl ?_
  refine l_iload_n (p' := 493) 3 hL (dAt dd_law_4 58 rfl) rfl rfl rfl ?_
  refine l_iconst (v := 1) (p' := 494) hL (dAt dd_law_4 59 rfl) rfl (by decide) ?_
  refine l_iadd (p' := 495) hL (dAt dd_law_5 0 rfl) rfl ?_
  refine l_sld (p' := 496) hL q1 (dAt dd_law_5 1 rfl) rfl ?_
  refine l_aload_n (p' := 497) 0 hL (dAt dd_law_5 2 rfl) rfl rfl rfl ?_
  refine l_iload_n (p' := 498) 3 hL (dAt dd_law_5 3 rfl) rfl rfl rfl ?_
  refine l_iconst (v := 2) (p' := 499) hL (dAt dd_law_5 4 rfl) rfl (by decide) ?_
  refine l_iadd (p' := 500) hL (dAt dd_law_5 5 rfl) rfl ?_
  refine l_sld (p' := 501) hL q2 (dAt dd_law_5 6 rfl) rfl ?_
  refine l_callM (n2 := 2) (As := [.int (xs (x3 + 1).toNatClampNeg), .int (xs (x3 + 2).toNatClampNeg)]) (p' := 504) hL (c_X11_forget _ _ _ (a_to (a_nx hC') hM) m (xs (x3 + 1).toNatClampNeg) (xs (x3 + 2).toNatClampNeg)) e2 k_998 k_999 k_1000 k_9 k_1001 (by decide +kernel) ⟨by decide, by decide⟩ (ci := 10) rfl rfl (by decide) w1.2.1 rfl (Nat.le_of_ble_eq_true rfl) rfl ⟨by omega, by omega⟩ (dAt dd_law_5 7 rfl) rfl ?_
  refine l_icmp_eq (tgt := 1209) hL (dAt dd_law_5 8 rfl) (by decide) rfl ?_
  have e9 : a_to (a_nx hM') hC' = hC' := by rw [← w2.2.2]; rfl
  rw [e9]
  exact kk _ _ _ _ hR' (by omega) (by omega)
set_option maxHeartbeats 4000000 in
set_option maxRecDepth 100000 in
theorem law_case_9 {C : CT} {b L : Nat} {xs : Nat → Int32} {R : Nat → Nat → AH → AH → Nat → Prop} (hR : MainR R) (hL : OKL C b L xs) {c m t : Nat} {hC hM : AH} {x3 : Int32} {cells slots : Nat} (h0 : R c m hC hM t) (ht : t < 512) (hc : cells ≤ 10000 + 100 * t) (hs : slots ≤ 800000 + 5000 * t) (q1 : vp_in (x3 + 1) L) (q2 : vp_in (x3 + 2) L) (q3 : vp_in (x3 + 3) L) (q4 : vp_in (x3 + 4) L) (q5 : vp_in (x3 + 5) L) (kk : ∀ hC' hM' cells' slots', R c m hC' hM' (t + 1) → cells' ≤ 10000 + 100 * (t + 1) → slots' ≤ 800000 + 5000 * (t + 1) → WL C 1209 [(0, va_rf (some b)), (1, va_rf (some c)), (2, va_rf (some m)), (3, .int x3)] [] hC' hM' cells' slots') : WL C 509 [(0, va_rf (some b)), (1, va_rf (some c)), (2, va_rf (some m)), (3, .int x3)] [] hC hM cells slots := by
  obtain ⟨r, hC', k, n, hM', e1, e2, hR', hk, hn⟩ := hR.2.2.1 c m hC hM t 9 (xs (x3 + 1).toNatClampNeg) (xs (x3 + 2).toNatClampNeg) (xs (x3 + 3).toNatClampNeg) (xs (x3 + 4).toNatClampNeg) (xs (x3 + 5).toNatClampNeg) h0 ht (by decide)
  have w1 := hR.2.1 c m hC hM t h0
  have w2 := hR.2.1 c m hC' hM' (t + 1) hR'
  refine l_aload_n (p' := 510) 1 hL (dAt dd_law_5 11 rfl) rfl rfl rfl ?_
  refine l_aload_n (p' := 511) 0 hL (dAt dd_law_5 12 rfl) rfl rfl rfl ?_
  refine l_iload_n (p' := 512) 3 hL (dAt dd_law_5 13 rfl) rfl rfl rfl ?_
  refine l_iconst (v := 1) (p' := 513) hL (dAt dd_law_5 14 rfl) rfl (by decide) ?_
  refine l_iadd (p' := 514) hL (dAt dd_law_5 15 rfl) rfl ?_
  refine l_sld (p' := 515) hL q1 (dAt dd_law_5 16 rfl) rfl ?_
  refine l_aload_n (p' := 516) 0 hL (dAt dd_law_5 17 rfl) rfl rfl rfl ?_
  refine l_iload_n (p' := 517) 3 hL (dAt dd_law_5 18 rfl) rfl rfl rfl ?_
  refine l_iconst (v := 2) (p' := 518) hL (dAt dd_law_5 19 rfl) rfl (by decide) ?_
  refine l_iadd (p' := 519) hL (dAt dd_law_5 20 rfl) rfl ?_
  refine l_sld (p' := 520) hL q2 (dAt dd_law_5 21 rfl) rfl ?_
  refine l_callC (n2 := 2) (As := [.int (xs (x3 + 1).toNatClampNeg), .int (xs (x3 + 2).toNatClampNeg)]) (p' := 523) hL (c_X10_state _ _ _ hC c (xs (x3 + 1).toNatClampNeg) (xs (x3 + 2).toNatClampNeg)) e1 k_434 k_435 k_436 k_1 k_437 (by decide +kernel) ⟨by decide, by decide⟩ (ci := 9) rfl rfl (by decide) w1.1 rfl (Nat.le_of_ble_eq_true rfl) rfl ⟨by omega, by omega⟩ (dAt dd_law_5 22 rfl) rfl ?_
  refine l_aload_n (p' := 524) 2 hL (dAt dd_law_5 23 rfl) rfl rfl rfl ?_
  refine l_aload_n (p' := 525) 0 hL (dAt dd_law_5 24 rfl) rfl rfl rfl ?_
  refine l_iload_n (p' := 526) 3 hL (dAt dd_law_5 25 rfl) rfl rfl rfl ?_
  refine l_iconst (v := 1) (p' := 527) hL (dAt dd_law_5 26 rfl) rfl (by decide) ?_
  refine l_iadd (p' := 528) hL (dAt dd_law_5 27 rfl) rfl ?_
  refine l_sld (p' := 529) hL q1 (dAt dd_law_5 28 rfl) rfl ?_
  refine l_aload_n (p' := 530) 0 hL (dAt dd_law_5 29 rfl) rfl rfl rfl ?_
  refine l_iload_n (p' := 531) 3 hL (dAt dd_law_5 30 rfl) rfl rfl rfl ?_
  refine l_iconst (v := 2) (p' := 532) hL (dAt dd_law_5 31 rfl) rfl (by decide) ?_
  refine l_iadd (p' := 533) hL (dAt dd_law_5 32 rfl) rfl ?_
  refine l_sld (p' := 534) hL q2 (dAt dd_law_5 33 rfl) rfl ?_
  refine l_callM (n2 := 2) (As := [.int (xs (x3 + 1).toNatClampNeg), .int (xs (x3 + 2).toNatClampNeg)]) (p' := 537) hL (c_X11_state _ _ _ (a_to (a_nx hC') hM) m (xs (x3 + 1).toNatClampNeg) (xs (x3 + 2).toNatClampNeg)) e2 k_1002 k_1003 k_1004 k_9 k_1005 (by decide +kernel) ⟨by decide, by decide⟩ (ci := 10) rfl rfl (by decide) w1.2.1 rfl (Nat.le_of_ble_eq_true rfl) rfl ⟨by omega, by omega⟩ (dAt dd_law_5 34 rfl) rfl ?_
  refine l_icmp_eq (tgt := 1209) hL (dAt dd_law_5 35 rfl) (by decide) rfl ?_
  have e9 : a_to (a_nx hM') hC' = hC' := by rw [← w2.2.2]; rfl
  rw [e9]
  exact kk _ _ _ _ hR' (by omega) (by omega)
set_option maxHeartbeats 4000000 in
set_option maxRecDepth 100000 in
theorem law_case_10 {C : CT} {b L : Nat} {xs : Nat → Int32} {R : Nat → Nat → AH → AH → Nat → Prop} (hR : MainR R) (hL : OKL C b L xs) {c m t : Nat} {hC hM : AH} {x3 : Int32} {cells slots : Nat} (h0 : R c m hC hM t) (ht : t < 512) (hc : cells ≤ 10000 + 100 * t) (hs : slots ≤ 800000 + 5000 * t) (q1 : vp_in (x3 + 1) L) (q2 : vp_in (x3 + 2) L) (q3 : vp_in (x3 + 3) L) (q4 : vp_in (x3 + 4) L) (q5 : vp_in (x3 + 5) L) (kk : ∀ hC' hM' cells' slots', R c m hC' hM' (t + 1) → cells' ≤ 10000 + 100 * (t + 1) → slots' ≤ 800000 + 5000 * (t + 1) → WL C 1209 [(0, va_rf (some b)), (1, va_rf (some c)), (2, va_rf (some m)), (3, .int x3)] [] hC' hM' cells' slots') : WL C 542 [(0, va_rf (some b)), (1, va_rf (some c)), (2, va_rf (some m)), (3, .int x3)] [] hC hM cells slots := by
  obtain ⟨r, hC', k, n, hM', e1, e2, hR', hk, hn⟩ := hR.2.2.1 c m hC hM t 10 (xs (x3 + 1).toNatClampNeg) (xs (x3 + 2).toNatClampNeg) (xs (x3 + 3).toNatClampNeg) (xs (x3 + 4).toNatClampNeg) (xs (x3 + 5).toNatClampNeg) h0 ht (by decide)
  have w1 := hR.2.1 c m hC hM t h0
  have w2 := hR.2.1 c m hC' hM' (t + 1) hR'
  refine l_aload_n (p' := 543) 1 hL (dAt dd_law_5 38 rfl) rfl rfl rfl ?_
  refine l_aload_n (p' := 544) 0 hL (dAt dd_law_5 39 rfl) rfl rfl rfl ?_
  refine l_iload_n (p' := 545) 3 hL (dAt dd_law_5 40 rfl) rfl rfl rfl ?_
  refine l_iconst (v := 1) (p' := 546) hL (dAt dd_law_5 41 rfl) rfl (by decide) ?_
  refine l_iadd (p' := 547) hL (dAt dd_law_5 42 rfl) rfl ?_
  refine l_sld (p' := 548) hL q1 (dAt dd_law_5 43 rfl) rfl ?_
  refine l_callC (n2 := 1) (As := [.int (xs (x3 + 1).toNatClampNeg)]) (p' := 551) hL (c_X10_states _ _ _ hC c (xs (x3 + 1).toNatClampNeg)) e1 k_438 k_439 k_440 k_1 k_441 (by decide +kernel) ⟨by decide, by decide⟩ (ci := 9) rfl rfl (by decide) w1.1 rfl (Nat.le_of_ble_eq_true rfl) rfl ⟨by omega, by omega⟩ (dAt dd_law_5 44 rfl) rfl ?_
  refine l_aload_n (p' := 552) 2 hL (dAt dd_law_5 45 rfl) rfl rfl rfl ?_
  refine l_aload_n (p' := 553) 0 hL (dAt dd_law_5 46 rfl) rfl rfl rfl ?_
  refine l_iload_n (p' := 554) 3 hL (dAt dd_law_5 47 rfl) rfl rfl rfl ?_
  refine l_iconst (v := 1) (p' := 555) hL (dAt dd_law_5 48 rfl) rfl (by decide) ?_
  refine l_iadd (p' := 556) hL (dAt dd_law_5 49 rfl) rfl ?_
  refine l_sld (p' := 557) hL q1 (dAt dd_law_5 50 rfl) rfl ?_
  refine l_callM (n2 := 1) (As := [.int (xs (x3 + 1).toNatClampNeg)]) (p' := 560) hL (c_X11_states _ _ _ (a_to (a_nx hC') hM) m (xs (x3 + 1).toNatClampNeg)) e2 k_1006 k_1007 k_1008 k_9 k_1009 (by decide +kernel) ⟨by decide, by decide⟩ (ci := 10) rfl rfl (by decide) w1.2.1 rfl (Nat.le_of_ble_eq_true rfl) rfl ⟨by omega, by omega⟩ (dAt dd_law_5 51 rfl) rfl ?_
  refine l_icmp_eq (tgt := 1209) hL (dAt dd_law_5 52 rfl) (by decide) rfl ?_
  have e9 : a_to (a_nx hM') hC' = hC' := by rw [← w2.2.2]; rfl
  rw [e9]
  exact kk _ _ _ _ hR' (by omega) (by omega)
set_option maxHeartbeats 4000000 in
set_option maxRecDepth 100000 in
theorem law_case_11 {C : CT} {b L : Nat} {xs : Nat → Int32} {R : Nat → Nat → AH → AH → Nat → Prop} (hR : MainR R) (hL : OKL C b L xs) {c m t : Nat} {hC hM : AH} {x3 : Int32} {cells slots : Nat} (h0 : R c m hC hM t) (ht : t < 512) (hc : cells ≤ 10000 + 100 * t) (hs : slots ≤ 800000 + 5000 * t) (q1 : vp_in (x3 + 1) L) (q2 : vp_in (x3 + 2) L) (q3 : vp_in (x3 + 3) L) (q4 : vp_in (x3 + 4) L) (q5 : vp_in (x3 + 5) L) (kk : ∀ hC' hM' cells' slots', R c m hC' hM' (t + 1) → cells' ≤ 10000 + 100 * (t + 1) → slots' ≤ 800000 + 5000 * (t + 1) → WL C 1209 [(0, va_rf (some b)), (1, va_rf (some c)), (2, va_rf (some m)), (3, .int x3)] [] hC' hM' cells' slots') : WL C 565 [(0, va_rf (some b)), (1, va_rf (some c)), (2, va_rf (some m)), (3, .int x3)] [] hC hM cells slots := by
  obtain ⟨r, hC', k, n, hM', e1, e2, hR', hk, hn⟩ := hR.2.2.1 c m hC hM t 11 (xs (x3 + 1).toNatClampNeg) (xs (x3 + 2).toNatClampNeg) (xs (x3 + 3).toNatClampNeg) (xs (x3 + 4).toNatClampNeg) (xs (x3 + 5).toNatClampNeg) h0 ht (by decide)
  have w1 := hR.2.1 c m hC hM t h0
  have w2 := hR.2.1 c m hC' hM' (t + 1) hR'
  refine l_aload_n (p' := 566) 1 hL (dAt dd_law_5 55 rfl) rfl rfl rfl ?_
  refine l_aload_n (p' := 567) 0 hL (dAt dd_law_5 56 rfl) rfl rfl rfl ?_
  refine l_iload_n (p' := 568) 3 hL (dAt dd_law_5 57 rfl) rfl rfl rfl ?_
  refine l_iconst (v := 1) (p' := 569) hL (dAt dd_law_5 58 rfl) rfl (by decide) ?_
  refine l_iadd (p' := 570) hL (dAt dd_law_5 59 rfl) rfl ?_
  refine l_sld (p' := 571) hL q1 (dAt dd_law_6 0 rfl) rfl ?_
  refine l_aload_n (p' := 572) 0 hL (dAt dd_law_6 1 rfl) rfl rfl rfl ?_
  refine l_iload_n (p' := 573) 3 hL (dAt dd_law_6 2 rfl) rfl rfl rfl ?_
  refine l_iconst (v := 2) (p' := 574) hL (dAt dd_law_6 3 rfl) rfl (by decide) ?_
  refine l_iadd (p' := 575) hL (dAt dd_law_6 4 rfl) rfl ?_
  refine l_sld (p' := 576) hL q2 (dAt dd_law_6 5 rfl) rfl ?_
  refine l_aload_n (p' := 577) 0 hL (dAt dd_law_6 6 rfl) rfl rfl rfl ?_
  refine l_iload_n (p' := 578) 3 hL (dAt dd_law_6 7 rfl) rfl rfl rfl ?_
  refine l_iconst (v := 3) (p' := 579) hL (dAt dd_law_6 8 rfl) rfl (by decide) ?_
  refine l_iadd (p' := 580) hL (dAt dd_law_6 9 rfl) rfl ?_
  refine l_sld (p' := 581) hL q3 (dAt dd_law_6 10 rfl) rfl ?_
  refine l_aload_n (p' := 582) 0 hL (dAt dd_law_6 11 rfl) rfl rfl rfl ?_
  refine l_iload_n (p' := 583) 3 hL (dAt dd_law_6 12 rfl) rfl rfl rfl ?_
  refine l_iconst (v := 4) (p' := 584) hL (dAt dd_law_6 13 rfl) rfl (by decide) ?_
  refine l_iadd (p' := 585) hL (dAt dd_law_6 14 rfl) rfl ?_
  refine l_sld (p' := 586) hL q4 (dAt dd_law_6 15 rfl) rfl ?_
  refine l_callC (n2 := 4) (As := [.int (xs (x3 + 1).toNatClampNeg), .int (xs (x3 + 2).toNatClampNeg), .int (xs (x3 + 3).toNatClampNeg), .int (xs (x3 + 4).toNatClampNeg)]) (p' := 589) hL (c_X10_token _ _ _ hC c (xs (x3 + 1).toNatClampNeg) (xs (x3 + 2).toNatClampNeg) (xs (x3 + 3).toNatClampNeg) (xs (x3 + 4).toNatClampNeg)) e1 k_442 k_443 k_444 k_1 k_445 (by decide +kernel) ⟨by decide, by decide⟩ (ci := 9) rfl rfl (by decide) w1.1 rfl (Nat.le_of_ble_eq_true rfl) rfl ⟨by omega, by omega⟩ (dAt dd_law_6 16 rfl) rfl ?_
  refine l_aload_n (p' := 590) 2 hL (dAt dd_law_6 17 rfl) rfl rfl rfl ?_
  refine l_aload_n (p' := 591) 0 hL (dAt dd_law_6 18 rfl) rfl rfl rfl ?_
  refine l_iload_n (p' := 592) 3 hL (dAt dd_law_6 19 rfl) rfl rfl rfl ?_
  refine l_iconst (v := 1) (p' := 593) hL (dAt dd_law_6 20 rfl) rfl (by decide) ?_
  refine l_iadd (p' := 594) hL (dAt dd_law_6 21 rfl) rfl ?_
  refine l_sld (p' := 595) hL q1 (dAt dd_law_6 22 rfl) rfl ?_
  refine l_aload_n (p' := 596) 0 hL (dAt dd_law_6 23 rfl) rfl rfl rfl ?_
  refine l_iload_n (p' := 597) 3 hL (dAt dd_law_6 24 rfl) rfl rfl rfl ?_
  refine l_iconst (v := 2) (p' := 598) hL (dAt dd_law_6 25 rfl) rfl (by decide) ?_
  refine l_iadd (p' := 599) hL (dAt dd_law_6 26 rfl) rfl ?_
  refine l_sld (p' := 600) hL q2 (dAt dd_law_6 27 rfl) rfl ?_
  refine l_aload_n (p' := 601) 0 hL (dAt dd_law_6 28 rfl) rfl rfl rfl ?_
  refine l_iload_n (p' := 602) 3 hL (dAt dd_law_6 29 rfl) rfl rfl rfl ?_
  refine l_iconst (v := 3) (p' := 603) hL (dAt dd_law_6 30 rfl) rfl (by decide) ?_
  refine l_iadd (p' := 604) hL (dAt dd_law_6 31 rfl) rfl ?_
  refine l_sld (p' := 605) hL q3 (dAt dd_law_6 32 rfl) rfl ?_
  refine l_aload_n (p' := 606) 0 hL (dAt dd_law_6 33 rfl) rfl rfl rfl ?_
  refine l_iload_n (p' := 607) 3 hL (dAt dd_law_6 34 rfl) rfl rfl rfl ?_
  refine l_iconst (v := 4) (p' := 608) hL (dAt dd_law_6 35 rfl) rfl (by decide) ?_
  refine l_iadd (p' := 609) hL (dAt dd_law_6 36 rfl) rfl ?_
  refine l_sld (p' := 610) hL q4 (dAt dd_law_6 37 rfl) rfl ?_
  refine l_callM (n2 := 4) (As := [.int (xs (x3 + 1).toNatClampNeg), .int (xs (x3 + 2).toNatClampNeg), .int (xs (x3 + 3).toNatClampNeg), .int (xs (x3 + 4).toNatClampNeg)]) (p' := 613) hL (c_X11_token _ _ _ (a_to (a_nx hC') hM) m (xs (x3 + 1).toNatClampNeg) (xs (x3 + 2).toNatClampNeg) (xs (x3 + 3).toNatClampNeg) (xs (x3 + 4).toNatClampNeg)) e2 k_1011 k_1012 k_1013 k_9 k_1014 (by decide +kernel) ⟨by decide, by decide⟩ (ci := 10) rfl rfl (by decide) w1.2.1 rfl (Nat.le_of_ble_eq_true rfl) rfl ⟨by omega, by omega⟩ (dAt dd_law_6 38 rfl) rfl ?_
  refine l_icmp_eq (tgt := 1209) hL (dAt dd_law_6 39 rfl) (by decide) rfl ?_
  have e9 : a_to (a_nx hM') hC' = hC' := by rw [← w2.2.2]; rfl
  rw [e9]
  exact kk _ _ _ _ hR' (by omega) (by omega)
set_option maxHeartbeats 4000000 in
set_option maxRecDepth 100000 in
theorem law_case_12 {C : CT} {b L : Nat} {xs : Nat → Int32} {R : Nat → Nat → AH → AH → Nat → Prop} (hR : MainR R) (hL : OKL C b L xs) {c m t : Nat} {hC hM : AH} {x3 : Int32} {cells slots : Nat} (h0 : R c m hC hM t) (ht : t < 512) (hc : cells ≤ 10000 + 100 * t) (hs : slots ≤ 800000 + 5000 * t) (q1 : vp_in (x3 + 1) L) (q2 : vp_in (x3 + 2) L) (q3 : vp_in (x3 + 3) L) (q4 : vp_in (x3 + 4) L) (q5 : vp_in (x3 + 5) L) (kk : ∀ hC' hM' cells' slots', R c m hC' hM' (t + 1) → cells' ≤ 10000 + 100 * (t + 1) → slots' ≤ 800000 + 5000 * (t + 1) → WL C 1209 [(0, va_rf (some b)), (1, va_rf (some c)), (2, va_rf (some m)), (3, .int x3)] [] hC' hM' cells' slots') : WL C 618 [(0, va_rf (some b)), (1, va_rf (some c)), (2, va_rf (some m)), (3, .int x3)] [] hC hM cells slots := by
  obtain ⟨r, hC', k, n, hM', e1, e2, hR', hk, hn⟩ := hR.2.2.1 c m hC hM t 12 (xs (x3 + 1).toNatClampNeg) (xs (x3 + 2).toNatClampNeg) (xs (x3 + 3).toNatClampNeg) (xs (x3 + 4).toNatClampNeg) (xs (x3 + 5).toNatClampNeg) h0 ht (by decide)
  have w1 := hR.2.1 c m hC hM t h0
  have w2 := hR.2.1 c m hC' hM' (t + 1) hR'
  refine l_aload_n (p' := 619) 1 hL (dAt dd_law_6 42 rfl) rfl rfl rfl ?_
  refine l_aload_n (p' := 620) 0 hL (dAt dd_law_6 43 rfl) rfl rfl rfl ?_
  refine l_iload_n (p' := 621) 3 hL (dAt dd_law_6 44 rfl) rfl rfl rfl ?_
  refine l_iconst (v := 1) (p' := 622) hL (dAt dd_law_6 45 rfl) rfl (by decide) ?_
  refine l_iadd (p' := 623) hL (dAt dd_law_6 46 rfl) rfl ?_
  refine l_sld (p' := 624) hL q1 (dAt dd_law_6 47 rfl) rfl ?_
  refine l_aload_n (p' := 625) 0 hL (dAt dd_law_6 48 rfl) rfl rfl rfl ?_
  refine l_iload_n (p' := 626) 3 hL (dAt dd_law_6 49 rfl) rfl rfl rfl ?_
  refine l_iconst (v := 2) (p' := 627) hL (dAt dd_law_6 50 rfl) rfl (by decide) ?_
  refine l_iadd (p' := 628) hL (dAt dd_law_6 51 rfl) rfl ?_
  refine l_sld (p' := 629) hL q2 (dAt dd_law_6 52 rfl) rfl ?_
  refine l_callC (n2 := 2) (As := [.int (xs (x3 + 1).toNatClampNeg), .int (xs (x3 + 2).toNatClampNeg)]) (p' := 632) hL (c_X10_cost _ _ _ hC c (xs (x3 + 1).toNatClampNeg) (xs (x3 + 2).toNatClampNeg)) e1 k_446 k_447 k_448 k_1 k_449 (by decide +kernel) ⟨by decide, by decide⟩ (ci := 9) rfl rfl (by decide) w1.1 rfl (Nat.le_of_ble_eq_true rfl) rfl ⟨by omega, by omega⟩ (dAt dd_law_6 53 rfl) rfl ?_
  refine l_aload_n (p' := 633) 2 hL (dAt dd_law_6 54 rfl) rfl rfl rfl ?_
  refine l_aload_n (p' := 634) 0 hL (dAt dd_law_6 55 rfl) rfl rfl rfl ?_
  refine l_iload_n (p' := 635) 3 hL (dAt dd_law_6 56 rfl) rfl rfl rfl ?_
  refine l_iconst (v := 1) (p' := 636) hL (dAt dd_law_6 57 rfl) rfl (by decide) ?_
  refine l_iadd (p' := 637) hL (dAt dd_law_6 58 rfl) rfl ?_
  refine l_sld (p' := 638) hL q1 (dAt dd_law_6 59 rfl) rfl ?_
  refine l_aload_n (p' := 639) 0 hL (dAt dd_law_7 0 rfl) rfl rfl rfl ?_
  refine l_iload_n (p' := 640) 3 hL (dAt dd_law_7 1 rfl) rfl rfl rfl ?_
  refine l_iconst (v := 2) (p' := 641) hL (dAt dd_law_7 2 rfl) rfl (by decide) ?_
  refine l_iadd (p' := 642) hL (dAt dd_law_7 3 rfl) rfl ?_
  refine l_sld (p' := 643) hL q2 (dAt dd_law_7 4 rfl) rfl ?_
  refine l_callM (n2 := 2) (As := [.int (xs (x3 + 1).toNatClampNeg), .int (xs (x3 + 2).toNatClampNeg)]) (p' := 646) hL (c_X11_cost _ _ _ (a_to (a_nx hC') hM) m (xs (x3 + 1).toNatClampNeg) (xs (x3 + 2).toNatClampNeg)) e2 k_1016 k_1017 k_1018 k_9 k_1019 (by decide +kernel) ⟨by decide, by decide⟩ (ci := 10) rfl rfl (by decide) w1.2.1 rfl (Nat.le_of_ble_eq_true rfl) rfl ⟨by omega, by omega⟩ (dAt dd_law_7 5 rfl) rfl ?_
  refine l_icmp_eq (tgt := 1209) hL (dAt dd_law_7 6 rfl) (by decide) rfl ?_
  have e9 : a_to (a_nx hM') hC' = hC' := by rw [← w2.2.2]; rfl
  rw [e9]
  exact kk _ _ _ _ hR' (by omega) (by omega)
set_option maxHeartbeats 4000000 in
set_option maxRecDepth 100000 in
theorem law_case_13 {C : CT} {b L : Nat} {xs : Nat → Int32} {R : Nat → Nat → AH → AH → Nat → Prop} (hR : MainR R) (hL : OKL C b L xs) {c m t : Nat} {hC hM : AH} {x3 : Int32} {cells slots : Nat} (h0 : R c m hC hM t) (ht : t < 512) (hc : cells ≤ 10000 + 100 * t) (hs : slots ≤ 800000 + 5000 * t) (q1 : vp_in (x3 + 1) L) (q2 : vp_in (x3 + 2) L) (q3 : vp_in (x3 + 3) L) (q4 : vp_in (x3 + 4) L) (q5 : vp_in (x3 + 5) L) (kk : ∀ hC' hM' cells' slots', R c m hC' hM' (t + 1) → cells' ≤ 10000 + 100 * (t + 1) → slots' ≤ 800000 + 5000 * (t + 1) → WL C 1209 [(0, va_rf (some b)), (1, va_rf (some c)), (2, va_rf (some m)), (3, .int x3)] [] hC' hM' cells' slots') : WL C 651 [(0, va_rf (some b)), (1, va_rf (some c)), (2, va_rf (some m)), (3, .int x3)] [] hC hM cells slots := by
  obtain ⟨r, hC', k, n, hM', e1, e2, hR', hk, hn⟩ := hR.2.2.1 c m hC hM t 13 (xs (x3 + 1).toNatClampNeg) (xs (x3 + 2).toNatClampNeg) (xs (x3 + 3).toNatClampNeg) (xs (x3 + 4).toNatClampNeg) (xs (x3 + 5).toNatClampNeg) h0 ht (by decide)
  have w1 := hR.2.1 c m hC hM t h0
  have w2 := hR.2.1 c m hC' hM' (t + 1) hR'
  refine l_aload_n (p' := 652) 1 hL (dAt dd_law_7 9 rfl) rfl rfl rfl ?_
  refine l_aload_n (p' := 653) 0 hL (dAt dd_law_7 10 rfl) rfl rfl rfl ?_
  refine l_iload_n (p' := 654) 3 hL (dAt dd_law_7 11 rfl) rfl rfl rfl ?_
  refine l_iconst (v := 1) (p' := 655) hL (dAt dd_law_7 12 rfl) rfl (by decide) ?_
  refine l_iadd (p' := 656) hL (dAt dd_law_7 13 rfl) rfl ?_
  refine l_sld (p' := 657) hL q1 (dAt dd_law_7 14 rfl) rfl ?_
  refine l_aload_n (p' := 658) 0 hL (dAt dd_law_7 15 rfl) rfl rfl rfl ?_
  refine l_iload_n (p' := 659) 3 hL (dAt dd_law_7 16 rfl) rfl rfl rfl ?_
  refine l_iconst (v := 2) (p' := 660) hL (dAt dd_law_7 17 rfl) rfl (by decide) ?_
  refine l_iadd (p' := 661) hL (dAt dd_law_7 18 rfl) rfl ?_
  refine l_sld (p' := 662) hL q2 (dAt dd_law_7 19 rfl) rfl ?_
  refine l_aload_n (p' := 663) 0 hL (dAt dd_law_7 20 rfl) rfl rfl rfl ?_
  refine l_iload_n (p' := 664) 3 hL (dAt dd_law_7 21 rfl) rfl rfl rfl ?_
  refine l_iconst (v := 3) (p' := 665) hL (dAt dd_law_7 22 rfl) rfl (by decide) ?_
  refine l_iadd (p' := 666) hL (dAt dd_law_7 23 rfl) rfl ?_
  refine l_sld (p' := 667) hL q3 (dAt dd_law_7 24 rfl) rfl ?_
  refine l_aload_n (p' := 668) 0 hL (dAt dd_law_7 25 rfl) rfl rfl rfl ?_
  refine l_iload_n (p' := 669) 3 hL (dAt dd_law_7 26 rfl) rfl rfl rfl ?_
  refine l_iconst (v := 4) (p' := 670) hL (dAt dd_law_7 27 rfl) rfl (by decide) ?_
  refine l_iadd (p' := 671) hL (dAt dd_law_7 28 rfl) rfl ?_
  refine l_sld (p' := 672) hL q4 (dAt dd_law_7 29 rfl) rfl ?_
  refine l_callC (n2 := 4) (As := [.int (xs (x3 + 1).toNatClampNeg), .int (xs (x3 + 2).toNatClampNeg), .int (xs (x3 + 3).toNatClampNeg), .int (xs (x3 + 4).toNatClampNeg)]) (p' := 675) hL (c_X10_change _ _ _ hC c (xs (x3 + 1).toNatClampNeg) (xs (x3 + 2).toNatClampNeg) (xs (x3 + 3).toNatClampNeg) (xs (x3 + 4).toNatClampNeg)) e1 k_475 k_476 k_477 k_1 k_478 (by decide +kernel) ⟨by decide, by decide⟩ (ci := 9) rfl rfl (by decide) w1.1 rfl (Nat.le_of_ble_eq_true rfl) rfl ⟨by omega, by omega⟩ (dAt dd_law_7 30 rfl) rfl ?_
  refine l_aload_n (p' := 676) 2 hL (dAt dd_law_7 31 rfl) rfl rfl rfl ?_
  refine l_aload_n (p' := 677) 0 hL (dAt dd_law_7 32 rfl) rfl rfl rfl ?_
  refine l_iload_n (p' := 678) 3 hL (dAt dd_law_7 33 rfl) rfl rfl rfl ?_
  refine l_iconst (v := 1) (p' := 679) hL (dAt dd_law_7 34 rfl) rfl (by decide) ?_
  refine l_iadd (p' := 680) hL (dAt dd_law_7 35 rfl) rfl ?_
  refine l_sld (p' := 681) hL q1 (dAt dd_law_7 36 rfl) rfl ?_
  refine l_aload_n (p' := 682) 0 hL (dAt dd_law_7 37 rfl) rfl rfl rfl ?_
  refine l_iload_n (p' := 683) 3 hL (dAt dd_law_7 38 rfl) rfl rfl rfl ?_
  refine l_iconst (v := 2) (p' := 684) hL (dAt dd_law_7 39 rfl) rfl (by decide) ?_
  refine l_iadd (p' := 685) hL (dAt dd_law_7 40 rfl) rfl ?_
  refine l_sld (p' := 686) hL q2 (dAt dd_law_7 41 rfl) rfl ?_
  refine l_aload_n (p' := 687) 0 hL (dAt dd_law_7 42 rfl) rfl rfl rfl ?_
  refine l_iload_n (p' := 688) 3 hL (dAt dd_law_7 43 rfl) rfl rfl rfl ?_
  refine l_iconst (v := 3) (p' := 689) hL (dAt dd_law_7 44 rfl) rfl (by decide) ?_
  refine l_iadd (p' := 690) hL (dAt dd_law_7 45 rfl) rfl ?_
  refine l_sld (p' := 691) hL q3 (dAt dd_law_7 46 rfl) rfl ?_
  refine l_aload_n (p' := 692) 0 hL (dAt dd_law_7 47 rfl) rfl rfl rfl ?_
  refine l_iload_n (p' := 693) 3 hL (dAt dd_law_7 48 rfl) rfl rfl rfl ?_
  refine l_iconst (v := 4) (p' := 694) hL (dAt dd_law_7 49 rfl) rfl (by decide) ?_
  refine l_iadd (p' := 695) hL (dAt dd_law_7 50 rfl) rfl ?_
  refine l_sld (p' := 696) hL q4 (dAt dd_law_7 51 rfl) rfl ?_
  refine l_callM (n2 := 4) (As := [.int (xs (x3 + 1).toNatClampNeg), .int (xs (x3 + 2).toNatClampNeg), .int (xs (x3 + 3).toNatClampNeg), .int (xs (x3 + 4).toNatClampNeg)]) (p' := 699) hL (c_X11_change _ _ _ (a_to (a_nx hC') hM) m (xs (x3 + 1).toNatClampNeg) (xs (x3 + 2).toNatClampNeg) (xs (x3 + 3).toNatClampNeg) (xs (x3 + 4).toNatClampNeg)) e2 k_1028 k_1029 k_1030 k_9 k_1031 (by decide +kernel) ⟨by decide, by decide⟩ (ci := 10) rfl rfl (by decide) w1.2.1 rfl (Nat.le_of_ble_eq_true rfl) rfl ⟨by omega, by omega⟩ (dAt dd_law_7 52 rfl) rfl ?_
  refine l_icmp_eq (tgt := 1209) hL (dAt dd_law_7 53 rfl) (by decide) rfl ?_
  have e9 : a_to (a_nx hM') hC' = hC' := by rw [← w2.2.2]; rfl
  rw [e9]
  exact kk _ _ _ _ hR' (by omega) (by omega)
set_option maxHeartbeats 4000000 in
set_option maxRecDepth 100000 in
theorem law_case_14 {C : CT} {b L : Nat} {xs : Nat → Int32} {R : Nat → Nat → AH → AH → Nat → Prop} (hR : MainR R) (hL : OKL C b L xs) {c m t : Nat} {hC hM : AH} {x3 : Int32} {cells slots : Nat} (h0 : R c m hC hM t) (ht : t < 512) (hc : cells ≤ 10000 + 100 * t) (hs : slots ≤ 800000 + 5000 * t) (q1 : vp_in (x3 + 1) L) (q2 : vp_in (x3 + 2) L) (q3 : vp_in (x3 + 3) L) (q4 : vp_in (x3 + 4) L) (q5 : vp_in (x3 + 5) L) (kk : ∀ hC' hM' cells' slots', R c m hC' hM' (t + 1) → cells' ≤ 10000 + 100 * (t + 1) → slots' ≤ 800000 + 5000 * (t + 1) → WL C 1209 [(0, va_rf (some b)), (1, va_rf (some c)), (2, va_rf (some m)), (3, .int x3)] [] hC' hM' cells' slots') : WL C 704 [(0, va_rf (some b)), (1, va_rf (some c)), (2, va_rf (some m)), (3, .int x3)] [] hC hM cells slots := by
  obtain ⟨r, hC', k, n, hM', e1, e2, hR', hk, hn⟩ := hR.2.2.1 c m hC hM t 14 (xs (x3 + 1).toNatClampNeg) (xs (x3 + 2).toNatClampNeg) (xs (x3 + 3).toNatClampNeg) (xs (x3 + 4).toNatClampNeg) (xs (x3 + 5).toNatClampNeg) h0 ht (by decide)
  have w1 := hR.2.1 c m hC hM t h0
  have w2 := hR.2.1 c m hC' hM' (t + 1) hR'
  refine l_aload_n (p' := 705) 1 hL (dAt dd_law_7 56 rfl) rfl rfl rfl ?_
  refine l_aload_n (p' := 706) 0 hL (dAt dd_law_7 57 rfl) rfl rfl rfl ?_
  refine l_iload_n (p' := 707) 3 hL (dAt dd_law_7 58 rfl) rfl rfl rfl ?_
  refine l_iconst (v := 1) (p' := 708) hL (dAt dd_law_7 59 rfl) rfl (by decide) ?_
  refine l_iadd (p' := 709) hL (dAt dd_law_8 0 rfl) rfl ?_
  refine l_sld (p' := 710) hL q1 (dAt dd_law_8 1 rfl) rfl ?_
  refine l_aload_n (p' := 711) 0 hL (dAt dd_law_8 2 rfl) rfl rfl rfl ?_
  refine l_iload_n (p' := 712) 3 hL (dAt dd_law_8 3 rfl) rfl rfl rfl ?_
  refine l_iconst (v := 2) (p' := 713) hL (dAt dd_law_8 4 rfl) rfl (by decide) ?_
  refine l_iadd (p' := 714) hL (dAt dd_law_8 5 rfl) rfl ?_
  refine l_sld (p' := 715) hL q2 (dAt dd_law_8 6 rfl) rfl ?_
  refine l_callC (n2 := 2) (As := [.int (xs (x3 + 1).toNatClampNeg), .int (xs (x3 + 2).toNatClampNeg)]) (p' := 718) hL (c_X10_nearest _ _ _ hC c (xs (x3 + 1).toNatClampNeg) (xs (x3 + 2).toNatClampNeg)) e1 k_491 k_492 k_493 k_1 k_494 (by decide +kernel) ⟨by decide, by decide⟩ (ci := 9) rfl rfl (by decide) w1.1 rfl (Nat.le_of_ble_eq_true rfl) rfl ⟨by omega, by omega⟩ (dAt dd_law_8 7 rfl) rfl ?_
  refine l_aload_n (p' := 719) 2 hL (dAt dd_law_8 8 rfl) rfl rfl rfl ?_
  refine l_aload_n (p' := 720) 0 hL (dAt dd_law_8 9 rfl) rfl rfl rfl ?_
  refine l_iload_n (p' := 721) 3 hL (dAt dd_law_8 10 rfl) rfl rfl rfl ?_
  refine l_iconst (v := 1) (p' := 722) hL (dAt dd_law_8 11 rfl) rfl (by decide) ?_
  refine l_iadd (p' := 723) hL (dAt dd_law_8 12 rfl) rfl ?_
  refine l_sld (p' := 724) hL q1 (dAt dd_law_8 13 rfl) rfl ?_
  refine l_aload_n (p' := 725) 0 hL (dAt dd_law_8 14 rfl) rfl rfl rfl ?_
  refine l_iload_n (p' := 726) 3 hL (dAt dd_law_8 15 rfl) rfl rfl rfl ?_
  refine l_iconst (v := 2) (p' := 727) hL (dAt dd_law_8 16 rfl) rfl (by decide) ?_
  refine l_iadd (p' := 728) hL (dAt dd_law_8 17 rfl) rfl ?_
  refine l_sld (p' := 729) hL q2 (dAt dd_law_8 18 rfl) rfl ?_
  refine l_callM (n2 := 2) (As := [.int (xs (x3 + 1).toNatClampNeg), .int (xs (x3 + 2).toNatClampNeg)]) (p' := 732) hL (c_X11_nearest _ _ _ (a_to (a_nx hC') hM) m (xs (x3 + 1).toNatClampNeg) (xs (x3 + 2).toNatClampNeg)) e2 k_1024 k_1025 k_1026 k_9 k_1027 (by decide +kernel) ⟨by decide, by decide⟩ (ci := 10) rfl rfl (by decide) w1.2.1 rfl (Nat.le_of_ble_eq_true rfl) rfl ⟨by omega, by omega⟩ (dAt dd_law_8 19 rfl) rfl ?_
  refine l_icmp_eq (tgt := 1209) hL (dAt dd_law_8 20 rfl) (by decide) rfl ?_
  have e9 : a_to (a_nx hM') hC' = hC' := by rw [← w2.2.2]; rfl
  rw [e9]
  exact kk _ _ _ _ hR' (by omega) (by omega)
set_option maxHeartbeats 4000000 in
set_option maxRecDepth 100000 in
theorem law_case_15 {C : CT} {b L : Nat} {xs : Nat → Int32} {R : Nat → Nat → AH → AH → Nat → Prop} (hR : MainR R) (hL : OKL C b L xs) {c m t : Nat} {hC hM : AH} {x3 : Int32} {cells slots : Nat} (h0 : R c m hC hM t) (ht : t < 512) (hc : cells ≤ 10000 + 100 * t) (hs : slots ≤ 800000 + 5000 * t) (q1 : vp_in (x3 + 1) L) (q2 : vp_in (x3 + 2) L) (q3 : vp_in (x3 + 3) L) (q4 : vp_in (x3 + 4) L) (q5 : vp_in (x3 + 5) L) (kk : ∀ hC' hM' cells' slots', R c m hC' hM' (t + 1) → cells' ≤ 10000 + 100 * (t + 1) → slots' ≤ 800000 + 5000 * (t + 1) → WL C 1209 [(0, va_rf (some b)), (1, va_rf (some c)), (2, va_rf (some m)), (3, .int x3)] [] hC' hM' cells' slots') : WL C 737 [(0, va_rf (some b)), (1, va_rf (some c)), (2, va_rf (some m)), (3, .int x3)] [] hC hM cells slots := by
  obtain ⟨r, hC', k, n, hM', e1, e2, hR', hk, hn⟩ := hR.2.2.1 c m hC hM t 15 (xs (x3 + 1).toNatClampNeg) (xs (x3 + 2).toNatClampNeg) (xs (x3 + 3).toNatClampNeg) (xs (x3 + 4).toNatClampNeg) (xs (x3 + 5).toNatClampNeg) h0 ht (by decide)
  have w1 := hR.2.1 c m hC hM t h0
  have w2 := hR.2.1 c m hC' hM' (t + 1) hR'
  refine l_aload_n (p' := 738) 1 hL (dAt dd_law_8 23 rfl) rfl rfl rfl ?_
  refine l_callC (n2 := 0) (As := []) (p' := 741) hL (c_X10_groups _ _ _ hC c ) e1 k_496 k_497 k_498 k_1 k_499 (by decide +kernel) ⟨by decide, by decide⟩ (ci := 9) rfl rfl (by decide) w1.1 rfl (Nat.le_of_ble_eq_true rfl) rfl ⟨by omega, by omega⟩ (dAt dd_law_8 24 rfl) rfl ?_
  refine l_aload_n (p' := 742) 2 hL (dAt dd_law_8 25 rfl) rfl rfl rfl ?_
  refine l_callM (n2 := 0) (As := []) (p' := 745) hL (c_X11_groups _ _ _ (a_to (a_nx hC') hM) m ) e2 k_1044 k_1045 k_1046 k_9 k_1047 (by decide +kernel) ⟨by decide, by decide⟩ (ci := 10) rfl rfl (by decide) w1.2.1 rfl (Nat.le_of_ble_eq_true rfl) rfl ⟨by omega, by omega⟩ (dAt dd_law_8 26 rfl) rfl ?_
  refine l_icmp_eq (tgt := 1209) hL (dAt dd_law_8 27 rfl) (by decide) rfl ?_
  have e9 : a_to (a_nx hM') hC' = hC' := by rw [← w2.2.2]; rfl
  rw [e9]
  exact kk _ _ _ _ hR' (by omega) (by omega)
set_option maxHeartbeats 4000000 in
set_option maxRecDepth 100000 in
theorem law_case_16 {C : CT} {b L : Nat} {xs : Nat → Int32} {R : Nat → Nat → AH → AH → Nat → Prop} (hR : MainR R) (hL : OKL C b L xs) {c m t : Nat} {hC hM : AH} {x3 : Int32} {cells slots : Nat} (h0 : R c m hC hM t) (ht : t < 512) (hc : cells ≤ 10000 + 100 * t) (hs : slots ≤ 800000 + 5000 * t) (q1 : vp_in (x3 + 1) L) (q2 : vp_in (x3 + 2) L) (q3 : vp_in (x3 + 3) L) (q4 : vp_in (x3 + 4) L) (q5 : vp_in (x3 + 5) L) (kk : ∀ hC' hM' cells' slots', R c m hC' hM' (t + 1) → cells' ≤ 10000 + 100 * (t + 1) → slots' ≤ 800000 + 5000 * (t + 1) → WL C 1209 [(0, va_rf (some b)), (1, va_rf (some c)), (2, va_rf (some m)), (3, .int x3)] [] hC' hM' cells' slots') : WL C 750 [(0, va_rf (some b)), (1, va_rf (some c)), (2, va_rf (some m)), (3, .int x3)] [] hC hM cells slots := by
  obtain ⟨r, hC', k, n, hM', e1, e2, hR', hk, hn⟩ := hR.2.2.1 c m hC hM t 16 (xs (x3 + 1).toNatClampNeg) (xs (x3 + 2).toNatClampNeg) (xs (x3 + 3).toNatClampNeg) (xs (x3 + 4).toNatClampNeg) (xs (x3 + 5).toNatClampNeg) h0 ht (by decide)
  have w1 := hR.2.1 c m hC hM t h0
  have w2 := hR.2.1 c m hC' hM' (t + 1) hR'
  refine l_aload_n (p' := 751) 1 hL (dAt dd_law_8 30 rfl) rfl rfl rfl ?_
  refine l_aload_n (p' := 752) 0 hL (dAt dd_law_8 31 rfl) rfl rfl rfl ?_
  refine l_iload_n (p' := 753) 3 hL (dAt dd_law_8 32 rfl) rfl rfl rfl ?_
  refine l_iconst (v := 1) (p' := 754) hL (dAt dd_law_8 33 rfl) rfl (by decide) ?_
  refine l_iadd (p' := 755) hL (dAt dd_law_8 34 rfl) rfl ?_
  refine l_sld (p' := 756) hL q1 (dAt dd_law_8 35 rfl) rfl ?_
  refine l_aload_n (p' := 757) 0 hL (dAt dd_law_8 36 rfl) rfl rfl rfl ?_
  refine l_iload_n (p' := 758) 3 hL (dAt dd_law_8 37 rfl) rfl rfl rfl ?_
  refine l_iconst (v := 2) (p' := 759) hL (dAt dd_law_8 38 rfl) rfl (by decide) ?_
  refine l_iadd (p' := 760) hL (dAt dd_law_8 39 rfl) rfl ?_
  refine l_sld (p' := 761) hL q2 (dAt dd_law_8 40 rfl) rfl ?_
  refine l_callC (n2 := 2) (As := [.int (xs (x3 + 1).toNatClampNeg), .int (xs (x3 + 2).toNatClampNeg)]) (p' := 764) hL (c_X10_group _ _ _ hC c (xs (x3 + 1).toNatClampNeg) (xs (x3 + 2).toNatClampNeg)) e1 k_500 k_501 k_502 k_1 k_503 (by decide +kernel) ⟨by decide, by decide⟩ (ci := 9) rfl rfl (by decide) w1.1 rfl (Nat.le_of_ble_eq_true rfl) rfl ⟨by omega, by omega⟩ (dAt dd_law_8 41 rfl) rfl ?_
  refine l_aload_n (p' := 765) 2 hL (dAt dd_law_8 42 rfl) rfl rfl rfl ?_
  refine l_aload_n (p' := 766) 0 hL (dAt dd_law_8 43 rfl) rfl rfl rfl ?_
  refine l_iload_n (p' := 767) 3 hL (dAt dd_law_8 44 rfl) rfl rfl rfl ?_
  refine l_iconst (v := 1) (p' := 768) hL (dAt dd_law_8 45 rfl) rfl (by decide) ?_
  refine l_iadd (p' := 769) hL (dAt dd_law_8 46 rfl) rfl ?_
  refine l_sld (p' := 770) hL q1 (dAt dd_law_8 47 rfl) rfl ?_
  refine l_aload_n (p' := 771) 0 hL (dAt dd_law_8 48 rfl) rfl rfl rfl ?_
  refine l_iload_n (p' := 772) 3 hL (dAt dd_law_8 49 rfl) rfl rfl rfl ?_
  refine l_iconst (v := 2) (p' := 773) hL (dAt dd_law_8 50 rfl) rfl (by decide) ?_
  refine l_iadd (p' := 774) hL (dAt dd_law_8 51 rfl) rfl ?_
  refine l_sld (p' := 775) hL q2 (dAt dd_law_8 52 rfl) rfl ?_
  refine l_callM (n2 := 2) (As := [.int (xs (x3 + 1).toNatClampNeg), .int (xs (x3 + 2).toNatClampNeg)]) (p' := 778) hL (c_X11_group _ _ _ (a_to (a_nx hC') hM) m (xs (x3 + 1).toNatClampNeg) (xs (x3 + 2).toNatClampNeg)) e2 k_1048 k_1049 k_1050 k_9 k_1051 (by decide +kernel) ⟨by decide, by decide⟩ (ci := 10) rfl rfl (by decide) w1.2.1 rfl (Nat.le_of_ble_eq_true rfl) rfl ⟨by omega, by omega⟩ (dAt dd_law_8 53 rfl) rfl ?_
  refine l_icmp_eq (tgt := 1209) hL (dAt dd_law_8 54 rfl) (by decide) rfl ?_
  have e9 : a_to (a_nx hM') hC' = hC' := by rw [← w2.2.2]; rfl
  rw [e9]
  exact kk _ _ _ _ hR' (by omega) (by omega)
set_option maxHeartbeats 4000000 in
set_option maxRecDepth 100000 in
theorem law_case_17 {C : CT} {b L : Nat} {xs : Nat → Int32} {R : Nat → Nat → AH → AH → Nat → Prop} (hR : MainR R) (hL : OKL C b L xs) {c m t : Nat} {hC hM : AH} {x3 : Int32} {cells slots : Nat} (h0 : R c m hC hM t) (ht : t < 512) (hc : cells ≤ 10000 + 100 * t) (hs : slots ≤ 800000 + 5000 * t) (q1 : vp_in (x3 + 1) L) (q2 : vp_in (x3 + 2) L) (q3 : vp_in (x3 + 3) L) (q4 : vp_in (x3 + 4) L) (q5 : vp_in (x3 + 5) L) (kk : ∀ hC' hM' cells' slots', R c m hC' hM' (t + 1) → cells' ≤ 10000 + 100 * (t + 1) → slots' ≤ 800000 + 5000 * (t + 1) → WL C 1209 [(0, va_rf (some b)), (1, va_rf (some c)), (2, va_rf (some m)), (3, .int x3)] [] hC' hM' cells' slots') : WL C 783 [(0, va_rf (some b)), (1, va_rf (some c)), (2, va_rf (some m)), (3, .int x3)] [] hC hM cells slots := by
  obtain ⟨r, hC', k, n, hM', e1, e2, hR', hk, hn⟩ := hR.2.2.1 c m hC hM t 17 (xs (x3 + 1).toNatClampNeg) (xs (x3 + 2).toNatClampNeg) (xs (x3 + 3).toNatClampNeg) (xs (x3 + 4).toNatClampNeg) (xs (x3 + 5).toNatClampNeg) h0 ht (by decide)
  have w1 := hR.2.1 c m hC hM t h0
  have w2 := hR.2.1 c m hC' hM' (t + 1) hR'
  refine l_aload_n (p' := 784) 1 hL (dAt dd_law_8 57 rfl) rfl rfl rfl ?_
  refine l_aload_n (p' := 785) 0 hL (dAt dd_law_8 58 rfl) rfl rfl rfl ?_
  refine l_iload_n (p' := 786) 3 hL (dAt dd_law_8 59 rfl) rfl rfl rfl ?_
  refine l_iconst (v := 1) (p' := 787) hL (dAt dd_law_9 0 rfl) rfl (by decide) ?_
  refine l_iadd (p' := 788) hL (dAt dd_law_9 1 rfl) rfl ?_
  refine l_sld (p' := 789) hL q1 (dAt dd_law_9 2 rfl) rfl ?_
  refine l_aload_n (p' := 790) 0 hL (dAt dd_law_9 3 rfl) rfl rfl rfl ?_
  refine l_iload_n (p' := 791) 3 hL (dAt dd_law_9 4 rfl) rfl rfl rfl ?_
  refine l_iconst (v := 2) (p' := 792) hL (dAt dd_law_9 5 rfl) rfl (by decide) ?_
  refine l_iadd (p' := 793) hL (dAt dd_law_9 6 rfl) rfl ?_
  refine l_sld (p' := 794) hL q2 (dAt dd_law_9 7 rfl) rfl ?_
  refine l_aload_n (p' := 795) 0 hL (dAt dd_law_9 8 rfl) rfl rfl rfl ?_
  refine l_iload_n (p' := 796) 3 hL (dAt dd_law_9 9 rfl) rfl rfl rfl ?_
  refine l_iconst (v := 3) (p' := 797) hL (dAt dd_law_9 10 rfl) rfl (by decide) ?_
  refine l_iadd (p' := 798) hL (dAt dd_law_9 11 rfl) rfl ?_
  refine l_sld (p' := 799) hL q3 (dAt dd_law_9 12 rfl) rfl ?_
  refine l_callC (n2 := 3) (As := [.int (xs (x3 + 1).toNatClampNeg), .int (xs (x3 + 2).toNatClampNeg), .int (xs (x3 + 3).toNatClampNeg)]) (p' := 802) hL (c_X10_shape _ _ _ hC c (xs (x3 + 1).toNatClampNeg) (xs (x3 + 2).toNatClampNeg) (xs (x3 + 3).toNatClampNeg)) e1 k_504 k_505 k_506 k_1 k_507 (by decide +kernel) ⟨by decide, by decide⟩ (ci := 9) rfl rfl (by decide) w1.1 rfl (Nat.le_of_ble_eq_true rfl) rfl ⟨by omega, by omega⟩ (dAt dd_law_9 13 rfl) rfl ?_
  refine l_aload_n (p' := 803) 2 hL (dAt dd_law_9 14 rfl) rfl rfl rfl ?_
  refine l_aload_n (p' := 804) 0 hL (dAt dd_law_9 15 rfl) rfl rfl rfl ?_
  refine l_iload_n (p' := 805) 3 hL (dAt dd_law_9 16 rfl) rfl rfl rfl ?_
  refine l_iconst (v := 1) (p' := 806) hL (dAt dd_law_9 17 rfl) rfl (by decide) ?_
  refine l_iadd (p' := 807) hL (dAt dd_law_9 18 rfl) rfl ?_
  refine l_sld (p' := 808) hL q1 (dAt dd_law_9 19 rfl) rfl ?_
  refine l_aload_n (p' := 809) 0 hL (dAt dd_law_9 20 rfl) rfl rfl rfl ?_
  refine l_iload_n (p' := 810) 3 hL (dAt dd_law_9 21 rfl) rfl rfl rfl ?_
  refine l_iconst (v := 2) (p' := 811) hL (dAt dd_law_9 22 rfl) rfl (by decide) ?_
  refine l_iadd (p' := 812) hL (dAt dd_law_9 23 rfl) rfl ?_
  refine l_sld (p' := 813) hL q2 (dAt dd_law_9 24 rfl) rfl ?_
  refine l_aload_n (p' := 814) 0 hL (dAt dd_law_9 25 rfl) rfl rfl rfl ?_
  refine l_iload_n (p' := 815) 3 hL (dAt dd_law_9 26 rfl) rfl rfl rfl ?_
  refine l_iconst (v := 3) (p' := 816) hL (dAt dd_law_9 27 rfl) rfl (by decide) ?_
  refine l_iadd (p' := 817) hL (dAt dd_law_9 28 rfl) rfl ?_
  refine l_sld (p' := 818) hL q3 (dAt dd_law_9 29 rfl) rfl ?_
  refine l_callM (n2 := 3) (As := [.int (xs (x3 + 1).toNatClampNeg), .int (xs (x3 + 2).toNatClampNeg), .int (xs (x3 + 3).toNatClampNeg)]) (p' := 821) hL (c_X11_shape _ _ _ (a_to (a_nx hC') hM) m (xs (x3 + 1).toNatClampNeg) (xs (x3 + 2).toNatClampNeg) (xs (x3 + 3).toNatClampNeg)) e2 k_1053 k_1054 k_1055 k_9 k_1056 (by decide +kernel) ⟨by decide, by decide⟩ (ci := 10) rfl rfl (by decide) w1.2.1 rfl (Nat.le_of_ble_eq_true rfl) rfl ⟨by omega, by omega⟩ (dAt dd_law_9 30 rfl) rfl ?_
  refine l_icmp_eq (tgt := 1209) hL (dAt dd_law_9 31 rfl) (by decide) rfl ?_
  have e9 : a_to (a_nx hM') hC' = hC' := by rw [← w2.2.2]; rfl
  rw [e9]
  exact kk _ _ _ _ hR' (by omega) (by omega)
set_option maxHeartbeats 4000000 in
set_option maxRecDepth 100000 in
theorem law_case_18 {C : CT} {b L : Nat} {xs : Nat → Int32} {R : Nat → Nat → AH → AH → Nat → Prop} (hR : MainR R) (hL : OKL C b L xs) {c m t : Nat} {hC hM : AH} {x3 : Int32} {cells slots : Nat} (h0 : R c m hC hM t) (ht : t < 512) (hc : cells ≤ 10000 + 100 * t) (hs : slots ≤ 800000 + 5000 * t) (q1 : vp_in (x3 + 1) L) (q2 : vp_in (x3 + 2) L) (q3 : vp_in (x3 + 3) L) (q4 : vp_in (x3 + 4) L) (q5 : vp_in (x3 + 5) L) (kk : ∀ hC' hM' cells' slots', R c m hC' hM' (t + 1) → cells' ≤ 10000 + 100 * (t + 1) → slots' ≤ 800000 + 5000 * (t + 1) → WL C 1209 [(0, va_rf (some b)), (1, va_rf (some c)), (2, va_rf (some m)), (3, .int x3)] [] hC' hM' cells' slots') : WL C 826 [(0, va_rf (some b)), (1, va_rf (some c)), (2, va_rf (some m)), (3, .int x3)] [] hC hM cells slots := by
  obtain ⟨r, hC', k, n, hM', e1, e2, hR', hk, hn⟩ := hR.2.2.1 c m hC hM t 18 (xs (x3 + 1).toNatClampNeg) (xs (x3 + 2).toNatClampNeg) (xs (x3 + 3).toNatClampNeg) (xs (x3 + 4).toNatClampNeg) (xs (x3 + 5).toNatClampNeg) h0 ht (by decide)
  have w1 := hR.2.1 c m hC hM t h0
  have w2 := hR.2.1 c m hC' hM' (t + 1) hR'
  refine l_aload_n (p' := 827) 1 hL (dAt dd_law_9 34 rfl) rfl rfl rfl ?_
  refine l_aload_n (p' := 828) 0 hL (dAt dd_law_9 35 rfl) rfl rfl rfl ?_
  refine l_iload_n (p' := 829) 3 hL (dAt dd_law_9 36 rfl) rfl rfl rfl ?_
  refine l_iconst (v := 1) (p' := 830) hL (dAt dd_law_9 37 rfl) rfl (by decide) ?_
  refine l_iadd (p' := 831) hL (dAt dd_law_9 38 rfl) rfl ?_
  refine l_sld (p' := 832) hL q1 (dAt dd_law_9 39 rfl) rfl ?_
  refine l_aload_n (p' := 833) 0 hL (dAt dd_law_9 40 rfl) rfl rfl rfl ?_
  refine l_iload_n (p' := 834) 3 hL (dAt dd_law_9 41 rfl) rfl rfl rfl ?_
  refine l_iconst (v := 2) (p' := 835) hL (dAt dd_law_9 42 rfl) rfl (by decide) ?_
  refine l_iadd (p' := 836) hL (dAt dd_law_9 43 rfl) rfl ?_
  refine l_sld (p' := 837) hL q2 (dAt dd_law_9 44 rfl) rfl ?_
  refine l_aload_n (p' := 838) 0 hL (dAt dd_law_9 45 rfl) rfl rfl rfl ?_
  refine l_iload_n (p' := 839) 3 hL (dAt dd_law_9 46 rfl) rfl rfl rfl ?_
  refine l_iconst (v := 3) (p' := 840) hL (dAt dd_law_9 47 rfl) rfl (by decide) ?_
  refine l_iadd (p' := 841) hL (dAt dd_law_9 48 rfl) rfl ?_
  refine l_sld (p' := 842) hL q3 (dAt dd_law_9 49 rfl) rfl ?_
  refine l_aload_n (p' := 843) 0 hL (dAt dd_law_9 50 rfl) rfl rfl rfl ?_
  refine l_iload_n (p' := 844) 3 hL (dAt dd_law_9 51 rfl) rfl rfl rfl ?_
  refine l_iconst (v := 4) (p' := 845) hL (dAt dd_law_9 52 rfl) rfl (by decide) ?_
  refine l_iadd (p' := 846) hL (dAt dd_law_9 53 rfl) rfl ?_
  refine l_sld (p' := 847) hL q4 (dAt dd_law_9 54 rfl) rfl ?_
  refine l_callC (n2 := 4) (As := [.int (xs (x3 + 1).toNatClampNeg), .int (xs (x3 + 2).toNatClampNeg), .int (xs (x3 + 3).toNatClampNeg), .int (xs (x3 + 4).toNatClampNeg)]) (p' := 850) hL (c_X10_look _ _ _ hC c (xs (x3 + 1).toNatClampNeg) (xs (x3 + 2).toNatClampNeg) (xs (x3 + 3).toNatClampNeg) (xs (x3 + 4).toNatClampNeg)) e1 k_508 k_509 k_510 k_1 k_511 (by decide +kernel) ⟨by decide, by decide⟩ (ci := 9) rfl rfl (by decide) w1.1 rfl (Nat.le_of_ble_eq_true rfl) rfl ⟨by omega, by omega⟩ (dAt dd_law_9 55 rfl) rfl ?_
  refine l_aload_n (p' := 851) 2 hL (dAt dd_law_9 56 rfl) rfl rfl rfl ?_
  refine l_aload_n (p' := 852) 0 hL (dAt dd_law_9 57 rfl) rfl rfl rfl ?_
  refine l_iload_n (p' := 853) 3 hL (dAt dd_law_9 58 rfl) rfl rfl rfl ?_
  refine l_iconst (v := 1) (p' := 854) hL (dAt dd_law_9 59 rfl) rfl (by decide) ?_
  refine l_iadd (p' := 855) hL (dAt dd_law_10 0 rfl) rfl ?_
  refine l_sld (p' := 856) hL q1 (dAt dd_law_10 1 rfl) rfl ?_
  refine l_aload_n (p' := 857) 0 hL (dAt dd_law_10 2 rfl) rfl rfl rfl ?_
  refine l_iload_n (p' := 858) 3 hL (dAt dd_law_10 3 rfl) rfl rfl rfl ?_
  refine l_iconst (v := 2) (p' := 859) hL (dAt dd_law_10 4 rfl) rfl (by decide) ?_
  refine l_iadd (p' := 860) hL (dAt dd_law_10 5 rfl) rfl ?_
  refine l_sld (p' := 861) hL q2 (dAt dd_law_10 6 rfl) rfl ?_
  refine l_aload_n (p' := 862) 0 hL (dAt dd_law_10 7 rfl) rfl rfl rfl ?_
  refine l_iload_n (p' := 863) 3 hL (dAt dd_law_10 8 rfl) rfl rfl rfl ?_
  refine l_iconst (v := 3) (p' := 864) hL (dAt dd_law_10 9 rfl) rfl (by decide) ?_
  refine l_iadd (p' := 865) hL (dAt dd_law_10 10 rfl) rfl ?_
  refine l_sld (p' := 866) hL q3 (dAt dd_law_10 11 rfl) rfl ?_
  refine l_aload_n (p' := 867) 0 hL (dAt dd_law_10 12 rfl) rfl rfl rfl ?_
  refine l_iload_n (p' := 868) 3 hL (dAt dd_law_10 13 rfl) rfl rfl rfl ?_
  refine l_iconst (v := 4) (p' := 869) hL (dAt dd_law_10 14 rfl) rfl (by decide) ?_
  refine l_iadd (p' := 870) hL (dAt dd_law_10 15 rfl) rfl ?_
  refine l_sld (p' := 871) hL q4 (dAt dd_law_10 16 rfl) rfl ?_
  refine l_callM (n2 := 4) (As := [.int (xs (x3 + 1).toNatClampNeg), .int (xs (x3 + 2).toNatClampNeg), .int (xs (x3 + 3).toNatClampNeg), .int (xs (x3 + 4).toNatClampNeg)]) (p' := 874) hL (c_X11_look _ _ _ (a_to (a_nx hC') hM) m (xs (x3 + 1).toNatClampNeg) (xs (x3 + 2).toNatClampNeg) (xs (x3 + 3).toNatClampNeg) (xs (x3 + 4).toNatClampNeg)) e2 k_1057 k_1058 k_1059 k_9 k_1060 (by decide +kernel) ⟨by decide, by decide⟩ (ci := 10) rfl rfl (by decide) w1.2.1 rfl (Nat.le_of_ble_eq_true rfl) rfl ⟨by omega, by omega⟩ (dAt dd_law_10 17 rfl) rfl ?_
  refine l_icmp_eq (tgt := 1209) hL (dAt dd_law_10 18 rfl) (by decide) rfl ?_
  have e9 : a_to (a_nx hM') hC' = hC' := by rw [← w2.2.2]; rfl
  rw [e9]
  exact kk _ _ _ _ hR' (by omega) (by omega)
set_option maxHeartbeats 4000000 in
set_option maxRecDepth 100000 in
theorem law_case_19 {C : CT} {b L : Nat} {xs : Nat → Int32} {R : Nat → Nat → AH → AH → Nat → Prop} (hR : MainR R) (hL : OKL C b L xs) {c m t : Nat} {hC hM : AH} {x3 : Int32} {cells slots : Nat} (h0 : R c m hC hM t) (ht : t < 512) (hc : cells ≤ 10000 + 100 * t) (hs : slots ≤ 800000 + 5000 * t) (q1 : vp_in (x3 + 1) L) (q2 : vp_in (x3 + 2) L) (q3 : vp_in (x3 + 3) L) (q4 : vp_in (x3 + 4) L) (q5 : vp_in (x3 + 5) L) (kk : ∀ hC' hM' cells' slots', R c m hC' hM' (t + 1) → cells' ≤ 10000 + 100 * (t + 1) → slots' ≤ 800000 + 5000 * (t + 1) → WL C 1209 [(0, va_rf (some b)), (1, va_rf (some c)), (2, va_rf (some m)), (3, .int x3)] [] hC' hM' cells' slots') : WL C 879 [(0, va_rf (some b)), (1, va_rf (some c)), (2, va_rf (some m)), (3, .int x3)] [] hC hM cells slots := by
  obtain ⟨r, hC', k, n, hM', e1, e2, hR', hk, hn⟩ := hR.2.2.1 c m hC hM t 19 (xs (x3 + 1).toNatClampNeg) (xs (x3 + 2).toNatClampNeg) (xs (x3 + 3).toNatClampNeg) (xs (x3 + 4).toNatClampNeg) (xs (x3 + 5).toNatClampNeg) h0 ht (by decide)
  have w1 := hR.2.1 c m hC hM t h0
  have w2 := hR.2.1 c m hC' hM' (t + 1) hR'
  refine l_aload_n (p' := 880) 1 hL (dAt dd_law_10 21 rfl) rfl rfl rfl ?_
  refine l_aload_n (p' := 881) 0 hL (dAt dd_law_10 22 rfl) rfl rfl rfl ?_
  refine l_iload_n (p' := 882) 3 hL (dAt dd_law_10 23 rfl) rfl rfl rfl ?_
  refine l_iconst (v := 1) (p' := 883) hL (dAt dd_law_10 24 rfl) rfl (by decide) ?_
  refine l_iadd (p' := 884) hL (dAt dd_law_10 25 rfl) rfl ?_
  refine l_sld (p' := 885) hL q1 (dAt dd_law_10 26 rfl) rfl ?_
  refine l_aload_n (p' := 886) 0 hL (dAt dd_law_10 27 rfl) rfl rfl rfl ?_
  refine l_iload_n (p' := 887) 3 hL (dAt dd_law_10 28 rfl) rfl rfl rfl ?_
  refine l_iconst (v := 2) (p' := 888) hL (dAt dd_law_10 29 rfl) rfl (by decide) ?_
  refine l_iadd (p' := 889) hL (dAt dd_law_10 30 rfl) rfl ?_
  refine l_sld (p' := 890) hL q2 (dAt dd_law_10 31 rfl) rfl ?_
  refine l_aload_n (p' := 891) 0 hL (dAt dd_law_10 32 rfl) rfl rfl rfl ?_
  refine l_iload_n (p' := 892) 3 hL (dAt dd_law_10 33 rfl) rfl rfl rfl ?_
  refine l_iconst (v := 3) (p' := 893) hL (dAt dd_law_10 34 rfl) rfl (by decide) ?_
  refine l_iadd (p' := 894) hL (dAt dd_law_10 35 rfl) rfl ?_
  refine l_sld (p' := 895) hL q3 (dAt dd_law_10 36 rfl) rfl ?_
  refine l_aload_n (p' := 896) 0 hL (dAt dd_law_10 37 rfl) rfl rfl rfl ?_
  refine l_iload_n (p' := 897) 3 hL (dAt dd_law_10 38 rfl) rfl rfl rfl ?_
  refine l_iconst (v := 4) (p' := 898) hL (dAt dd_law_10 39 rfl) rfl (by decide) ?_
  refine l_iadd (p' := 899) hL (dAt dd_law_10 40 rfl) rfl ?_
  refine l_sld (p' := 900) hL q4 (dAt dd_law_10 41 rfl) rfl ?_
  refine l_aload_n (p' := 901) 0 hL (dAt dd_law_10 42 rfl) rfl rfl rfl ?_
  refine l_iload_n (p' := 902) 3 hL (dAt dd_law_10 43 rfl) rfl rfl rfl ?_
  refine l_iconst (v := 5) (p' := 903) hL (dAt dd_law_10 44 rfl) rfl (by decide) ?_
  refine l_iadd (p' := 904) hL (dAt dd_law_10 45 rfl) rfl ?_
  refine l_sld (p' := 905) hL q5 (dAt dd_law_10 46 rfl) rfl ?_
  refine l_callC (n2 := 5) (As := [.int (xs (x3 + 1).toNatClampNeg), .int (xs (x3 + 2).toNatClampNeg), .int (xs (x3 + 3).toNatClampNeg), .int (xs (x3 + 4).toNatClampNeg), .int (xs (x3 + 5).toNatClampNeg)]) (p' := 908) hL (c_X10_approve _ _ _ hC c (xs (x3 + 1).toNatClampNeg) (xs (x3 + 2).toNatClampNeg) (xs (x3 + 3).toNatClampNeg) (xs (x3 + 4).toNatClampNeg) (xs (x3 + 5).toNatClampNeg)) e1 k_529 k_530 k_531 k_1 k_532 (by decide +kernel) ⟨by decide, by decide⟩ (ci := 9) rfl rfl (by decide) w1.1 rfl (Nat.le_of_ble_eq_true rfl) rfl ⟨by omega, by omega⟩ (dAt dd_law_10 47 rfl) rfl ?_
  refine l_aload_n (p' := 909) 2 hL (dAt dd_law_10 48 rfl) rfl rfl rfl ?_
  refine l_aload_n (p' := 910) 0 hL (dAt dd_law_10 49 rfl) rfl rfl rfl ?_
  refine l_iload_n (p' := 911) 3 hL (dAt dd_law_10 50 rfl) rfl rfl rfl ?_
  refine l_iconst (v := 1) (p' := 912) hL (dAt dd_law_10 51 rfl) rfl (by decide) ?_
  refine l_iadd (p' := 913) hL (dAt dd_law_10 52 rfl) rfl ?_
  refine l_sld (p' := 914) hL q1 (dAt dd_law_10 53 rfl) rfl ?_
  refine l_aload_n (p' := 915) 0 hL (dAt dd_law_10 54 rfl) rfl rfl rfl ?_
  refine l_iload_n (p' := 916) 3 hL (dAt dd_law_10 55 rfl) rfl rfl rfl ?_
  refine l_iconst (v := 2) (p' := 917) hL (dAt dd_law_10 56 rfl) rfl (by decide) ?_
  refine l_iadd (p' := 918) hL (dAt dd_law_10 57 rfl) rfl ?_
  refine l_sld (p' := 919) hL q2 (dAt dd_law_10 58 rfl) rfl ?_
  refine l_aload_n (p' := 920) 0 hL (dAt dd_law_10 59 rfl) rfl rfl rfl ?_
  refine l_iload_n (p' := 921) 3 hL (dAt dd_law_11 0 rfl) rfl rfl rfl ?_
  refine l_iconst (v := 3) (p' := 922) hL (dAt dd_law_11 1 rfl) rfl (by decide) ?_
  refine l_iadd (p' := 923) hL (dAt dd_law_11 2 rfl) rfl ?_
  refine l_sld (p' := 924) hL q3 (dAt dd_law_11 3 rfl) rfl ?_
  refine l_aload_n (p' := 925) 0 hL (dAt dd_law_11 4 rfl) rfl rfl rfl ?_
  refine l_iload_n (p' := 926) 3 hL (dAt dd_law_11 5 rfl) rfl rfl rfl ?_
  refine l_iconst (v := 4) (p' := 927) hL (dAt dd_law_11 6 rfl) rfl (by decide) ?_
  refine l_iadd (p' := 928) hL (dAt dd_law_11 7 rfl) rfl ?_
  refine l_sld (p' := 929) hL q4 (dAt dd_law_11 8 rfl) rfl ?_
  refine l_aload_n (p' := 930) 0 hL (dAt dd_law_11 9 rfl) rfl rfl rfl ?_
  refine l_iload_n (p' := 931) 3 hL (dAt dd_law_11 10 rfl) rfl rfl rfl ?_
  refine l_iconst (v := 5) (p' := 932) hL (dAt dd_law_11 11 rfl) rfl (by decide) ?_
  refine l_iadd (p' := 933) hL (dAt dd_law_11 12 rfl) rfl ?_
  refine l_sld (p' := 934) hL q5 (dAt dd_law_11 13 rfl) rfl ?_
  refine l_callM (n2 := 5) (As := [.int (xs (x3 + 1).toNatClampNeg), .int (xs (x3 + 2).toNatClampNeg), .int (xs (x3 + 3).toNatClampNeg), .int (xs (x3 + 4).toNatClampNeg), .int (xs (x3 + 5).toNatClampNeg)]) (p' := 937) hL (c_X11_approve _ _ _ (a_to (a_nx hC') hM) m (xs (x3 + 1).toNatClampNeg) (xs (x3 + 2).toNatClampNeg) (xs (x3 + 3).toNatClampNeg) (xs (x3 + 4).toNatClampNeg) (xs (x3 + 5).toNatClampNeg)) e2 k_1069 k_1070 k_1071 k_9 k_1072 (by decide +kernel) ⟨by decide, by decide⟩ (ci := 10) rfl rfl (by decide) w1.2.1 rfl (Nat.le_of_ble_eq_true rfl) rfl ⟨by omega, by omega⟩ (dAt dd_law_11 14 rfl) rfl ?_
  refine l_icmp_eq (tgt := 1209) hL (dAt dd_law_11 15 rfl) (by decide) rfl ?_
  have e9 : a_to (a_nx hM') hC' = hC' := by rw [← w2.2.2]; rfl
  rw [e9]
  exact kk _ _ _ _ hR' (by omega) (by omega)
set_option maxHeartbeats 4000000 in
set_option maxRecDepth 100000 in
theorem law_case_20 {C : CT} {b L : Nat} {xs : Nat → Int32} {R : Nat → Nat → AH → AH → Nat → Prop} (hR : MainR R) (hL : OKL C b L xs) {c m t : Nat} {hC hM : AH} {x3 : Int32} {cells slots : Nat} (h0 : R c m hC hM t) (ht : t < 512) (hc : cells ≤ 10000 + 100 * t) (hs : slots ≤ 800000 + 5000 * t) (q1 : vp_in (x3 + 1) L) (q2 : vp_in (x3 + 2) L) (q3 : vp_in (x3 + 3) L) (q4 : vp_in (x3 + 4) L) (q5 : vp_in (x3 + 5) L) (kk : ∀ hC' hM' cells' slots', R c m hC' hM' (t + 1) → cells' ≤ 10000 + 100 * (t + 1) → slots' ≤ 800000 + 5000 * (t + 1) → WL C 1209 [(0, va_rf (some b)), (1, va_rf (some c)), (2, va_rf (some m)), (3, .int x3)] [] hC' hM' cells' slots') : WL C 942 [(0, va_rf (some b)), (1, va_rf (some c)), (2, va_rf (some m)), (3, .int x3)] [] hC hM cells slots := by
  obtain ⟨r, hC', k, n, hM', e1, e2, hR', hk, hn⟩ := hR.2.2.1 c m hC hM t 20 (xs (x3 + 1).toNatClampNeg) (xs (x3 + 2).toNatClampNeg) (xs (x3 + 3).toNatClampNeg) (xs (x3 + 4).toNatClampNeg) (xs (x3 + 5).toNatClampNeg) h0 ht (by decide)
  have w1 := hR.2.1 c m hC hM t h0
  have w2 := hR.2.1 c m hC' hM' (t + 1) hR'
  refine l_aload_n (p' := 943) 1 hL (dAt dd_law_11 18 rfl) rfl rfl rfl ?_
  refine l_aload_n (p' := 944) 0 hL (dAt dd_law_11 19 rfl) rfl rfl rfl ?_
  refine l_iload_n (p' := 945) 3 hL (dAt dd_law_11 20 rfl) rfl rfl rfl ?_
  refine l_iconst (v := 1) (p' := 946) hL (dAt dd_law_11 21 rfl) rfl (by decide) ?_
  refine l_iadd (p' := 947) hL (dAt dd_law_11 22 rfl) rfl ?_
  refine l_sld (p' := 948) hL q1 (dAt dd_law_11 23 rfl) rfl ?_
  refine l_aload_n (p' := 949) 0 hL (dAt dd_law_11 24 rfl) rfl rfl rfl ?_
  refine l_iload_n (p' := 950) 3 hL (dAt dd_law_11 25 rfl) rfl rfl rfl ?_
  refine l_iconst (v := 2) (p' := 951) hL (dAt dd_law_11 26 rfl) rfl (by decide) ?_
  refine l_iadd (p' := 952) hL (dAt dd_law_11 27 rfl) rfl ?_
  refine l_sld (p' := 953) hL q2 (dAt dd_law_11 28 rfl) rfl ?_
  refine l_aload_n (p' := 954) 0 hL (dAt dd_law_11 29 rfl) rfl rfl rfl ?_
  refine l_iload_n (p' := 955) 3 hL (dAt dd_law_11 30 rfl) rfl rfl rfl ?_
  refine l_iconst (v := 3) (p' := 956) hL (dAt dd_law_11 31 rfl) rfl (by decide) ?_
  refine l_iadd (p' := 957) hL (dAt dd_law_11 32 rfl) rfl ?_
  refine l_sld (p' := 958) hL q3 (dAt dd_law_11 33 rfl) rfl ?_
  refine l_callC (n2 := 3) (As := [.int (xs (x3 + 1).toNatClampNeg), .int (xs (x3 + 2).toNatClampNeg), .int (xs (x3 + 3).toNatClampNeg)]) (p' := 961) hL (c_X10_approveAll _ _ _ hC c (xs (x3 + 1).toNatClampNeg) (xs (x3 + 2).toNatClampNeg) (xs (x3 + 3).toNatClampNeg)) e1 k_624 k_625 k_626 k_1 k_627 (by decide +kernel) ⟨by decide, by decide⟩ (ci := 9) rfl rfl (by decide) w1.1 rfl (Nat.le_of_ble_eq_true rfl) rfl ⟨by omega, by omega⟩ (dAt dd_law_11 34 rfl) rfl ?_
  refine l_aload_n (p' := 962) 2 hL (dAt dd_law_11 35 rfl) rfl rfl rfl ?_
  refine l_aload_n (p' := 963) 0 hL (dAt dd_law_11 36 rfl) rfl rfl rfl ?_
  refine l_iload_n (p' := 964) 3 hL (dAt dd_law_11 37 rfl) rfl rfl rfl ?_
  refine l_iconst (v := 1) (p' := 965) hL (dAt dd_law_11 38 rfl) rfl (by decide) ?_
  refine l_iadd (p' := 966) hL (dAt dd_law_11 39 rfl) rfl ?_
  refine l_sld (p' := 967) hL q1 (dAt dd_law_11 40 rfl) rfl ?_
  refine l_aload_n (p' := 968) 0 hL (dAt dd_law_11 41 rfl) rfl rfl rfl ?_
  refine l_iload_n (p' := 969) 3 hL (dAt dd_law_11 42 rfl) rfl rfl rfl ?_
  refine l_iconst (v := 2) (p' := 970) hL (dAt dd_law_11 43 rfl) rfl (by decide) ?_
  refine l_iadd (p' := 971) hL (dAt dd_law_11 44 rfl) rfl ?_
  refine l_sld (p' := 972) hL q2 (dAt dd_law_11 45 rfl) rfl ?_
  refine l_aload_n (p' := 973) 0 hL (dAt dd_law_11 46 rfl) rfl rfl rfl ?_
  refine l_iload_n (p' := 974) 3 hL (dAt dd_law_11 47 rfl) rfl rfl rfl ?_
  refine l_iconst (v := 3) (p' := 975) hL (dAt dd_law_11 48 rfl) rfl (by decide) ?_
  refine l_iadd (p' := 976) hL (dAt dd_law_11 49 rfl) rfl ?_
  refine l_sld (p' := 977) hL q3 (dAt dd_law_11 50 rfl) rfl ?_
  refine l_callM (n2 := 3) (As := [.int (xs (x3 + 1).toNatClampNeg), .int (xs (x3 + 2).toNatClampNeg), .int (xs (x3 + 3).toNatClampNeg)]) (p' := 980) hL (c_X11_approveAll _ _ _ (a_to (a_nx hC') hM) m (xs (x3 + 1).toNatClampNeg) (xs (x3 + 2).toNatClampNeg) (xs (x3 + 3).toNatClampNeg)) e2 k_1086 k_1087 k_1088 k_9 k_1089 (by decide +kernel) ⟨by decide, by decide⟩ (ci := 10) rfl rfl (by decide) w1.2.1 rfl (Nat.le_of_ble_eq_true rfl) rfl ⟨by omega, by omega⟩ (dAt dd_law_11 51 rfl) rfl ?_
  refine l_icmp_eq (tgt := 1209) hL (dAt dd_law_11 52 rfl) (by decide) rfl ?_
  have e9 : a_to (a_nx hM') hC' = hC' := by rw [← w2.2.2]; rfl
  rw [e9]
  exact kk _ _ _ _ hR' (by omega) (by omega)
set_option maxHeartbeats 4000000 in
set_option maxRecDepth 100000 in
theorem law_case_21 {C : CT} {b L : Nat} {xs : Nat → Int32} {R : Nat → Nat → AH → AH → Nat → Prop} (hR : MainR R) (hL : OKL C b L xs) {c m t : Nat} {hC hM : AH} {x3 : Int32} {cells slots : Nat} (h0 : R c m hC hM t) (ht : t < 512) (hc : cells ≤ 10000 + 100 * t) (hs : slots ≤ 800000 + 5000 * t) (q1 : vp_in (x3 + 1) L) (q2 : vp_in (x3 + 2) L) (q3 : vp_in (x3 + 3) L) (q4 : vp_in (x3 + 4) L) (q5 : vp_in (x3 + 5) L) (kk : ∀ hC' hM' cells' slots', R c m hC' hM' (t + 1) → cells' ≤ 10000 + 100 * (t + 1) → slots' ≤ 800000 + 5000 * (t + 1) → WL C 1209 [(0, va_rf (some b)), (1, va_rf (some c)), (2, va_rf (some m)), (3, .int x3)] [] hC' hM' cells' slots') : WL C 985 [(0, va_rf (some b)), (1, va_rf (some c)), (2, va_rf (some m)), (3, .int x3)] [] hC hM cells slots := by
  obtain ⟨r, hC', k, n, hM', e1, e2, hR', hk, hn⟩ := hR.2.2.1 c m hC hM t 21 (xs (x3 + 1).toNatClampNeg) (xs (x3 + 2).toNatClampNeg) (xs (x3 + 3).toNatClampNeg) (xs (x3 + 4).toNatClampNeg) (xs (x3 + 5).toNatClampNeg) h0 ht (by decide)
  have w1 := hR.2.1 c m hC hM t h0
  have w2 := hR.2.1 c m hC' hM' (t + 1) hR'
  refine l_aload_n (p' := 986) 1 hL (dAt dd_law_11 55 rfl) rfl rfl rfl ?_
  refine l_callC (n2 := 0) (As := []) (p' := 989) hL (c_X10_undo _ _ _ hC c ) e1 k_628 k_629 k_630 k_1 k_631 (by decide +kernel) ⟨by decide, by decide⟩ (ci := 9) rfl rfl (by decide) w1.1 rfl (Nat.le_of_ble_eq_true rfl) rfl ⟨by omega, by omega⟩ (dAt dd_law_11 56 rfl) rfl ?_
  refine l_aload_n (p' := 990) 2 hL (dAt dd_law_11 57 rfl) rfl rfl rfl ?_
  refine l_callM (n2 := 0) (As := []) (p' := 993) hL (c_X11_undo _ _ _ (a_to (a_nx hC') hM) m ) e2 k_1094 k_1095 k_1096 k_9 k_1097 (by decide +kernel) ⟨by decide, by decide⟩ (ci := 10) rfl rfl (by decide) w1.2.1 rfl (Nat.le_of_ble_eq_true rfl) rfl ⟨by omega, by omega⟩ (dAt dd_law_11 58 rfl) rfl ?_
  refine l_icmp_eq (tgt := 1209) hL (dAt dd_law_11 59 rfl) (by decide) rfl ?_
  have e9 : a_to (a_nx hM') hC' = hC' := by rw [← w2.2.2]; rfl
  rw [e9]
  exact kk _ _ _ _ hR' (by omega) (by omega)
set_option maxHeartbeats 4000000 in
set_option maxRecDepth 100000 in
theorem law_case_22 {C : CT} {b L : Nat} {xs : Nat → Int32} {R : Nat → Nat → AH → AH → Nat → Prop} (hR : MainR R) (hL : OKL C b L xs) {c m t : Nat} {hC hM : AH} {x3 : Int32} {cells slots : Nat} (h0 : R c m hC hM t) (ht : t < 512) (hc : cells ≤ 10000 + 100 * t) (hs : slots ≤ 800000 + 5000 * t) (q1 : vp_in (x3 + 1) L) (q2 : vp_in (x3 + 2) L) (q3 : vp_in (x3 + 3) L) (q4 : vp_in (x3 + 4) L) (q5 : vp_in (x3 + 5) L) (kk : ∀ hC' hM' cells' slots', R c m hC' hM' (t + 1) → cells' ≤ 10000 + 100 * (t + 1) → slots' ≤ 800000 + 5000 * (t + 1) → WL C 1209 [(0, va_rf (some b)), (1, va_rf (some c)), (2, va_rf (some m)), (3, .int x3)] [] hC' hM' cells' slots') : WL C 998 [(0, va_rf (some b)), (1, va_rf (some c)), (2, va_rf (some m)), (3, .int x3)] [] hC hM cells slots := by
  obtain ⟨r, hC', k, n, hM', e1, e2, hR', hk, hn⟩ := hR.2.2.1 c m hC hM t 22 (xs (x3 + 1).toNatClampNeg) (xs (x3 + 2).toNatClampNeg) (xs (x3 + 3).toNatClampNeg) (xs (x3 + 4).toNatClampNeg) (xs (x3 + 5).toNatClampNeg) h0 ht (by decide)
  have w1 := hR.2.1 c m hC hM t h0
  have w2 := hR.2.1 c m hC' hM' (t + 1) hR'
  refine l_aload_n (p' := 999) 1 hL (dAt dd_law_12 2 rfl) rfl rfl rfl ?_
  refine l_aload_n (p' := 1000) 0 hL (dAt dd_law_12 3 rfl) rfl rfl rfl ?_
  refine l_iload_n (p' := 1001) 3 hL (dAt dd_law_12 4 rfl) rfl rfl rfl ?_
  refine l_iconst (v := 1) (p' := 1002) hL (dAt dd_law_12 5 rfl) rfl (by decide) ?_
  refine l_iadd (p' := 1003) hL (dAt dd_law_12 6 rfl) rfl ?_
  refine l_sld (p' := 1004) hL q1 (dAt dd_law_12 7 rfl) rfl ?_
  refine l_aload_n (p' := 1005) 0 hL (dAt dd_law_12 8 rfl) rfl rfl rfl ?_
  refine l_iload_n (p' := 1006) 3 hL (dAt dd_law_12 9 rfl) rfl rfl rfl ?_
  refine l_iconst (v := 2) (p' := 1007) hL (dAt dd_law_12 10 rfl) rfl (by decide) ?_
  refine l_iadd (p' := 1008) hL (dAt dd_law_12 11 rfl) rfl ?_
  refine l_sld (p' := 1009) hL q2 (dAt dd_law_12 12 rfl) rfl ?_
  refine l_callC (n2 := 2) (As := [.int (xs (x3 + 1).toNatClampNeg), .int (xs (x3 + 2).toNatClampNeg)]) (p' := 1012) hL (c_X10_entry _ _ _ hC c (xs (x3 + 1).toNatClampNeg) (xs (x3 + 2).toNatClampNeg)) e1 k_632 k_633 k_634 k_1 k_635 (by decide +kernel) ⟨by decide, by decide⟩ (ci := 9) rfl rfl (by decide) w1.1 rfl (Nat.le_of_ble_eq_true rfl) rfl ⟨by omega, by omega⟩ (dAt dd_law_12 13 rfl) rfl ?_
  refine l_aload_n (p' := 1013) 2 hL (dAt dd_law_12 14 rfl) rfl rfl rfl ?_
  refine l_aload_n (p' := 1014) 0 hL (dAt dd_law_12 15 rfl) rfl rfl rfl ?_
  refine l_iload_n (p' := 1015) 3 hL (dAt dd_law_12 16 rfl) rfl rfl rfl ?_
  refine l_iconst (v := 1) (p' := 1016) hL (dAt dd_law_12 17 rfl) rfl (by decide) ?_
  refine l_iadd (p' := 1017) hL (dAt dd_law_12 18 rfl) rfl ?_
  refine l_sld (p' := 1018) hL q1 (dAt dd_law_12 19 rfl) rfl ?_
  refine l_aload_n (p' := 1019) 0 hL (dAt dd_law_12 20 rfl) rfl rfl rfl ?_
  refine l_iload_n (p' := 1020) 3 hL (dAt dd_law_12 21 rfl) rfl rfl rfl ?_
  refine l_iconst (v := 2) (p' := 1021) hL (dAt dd_law_12 22 rfl) rfl (by decide) ?_
  refine l_iadd (p' := 1022) hL (dAt dd_law_12 23 rfl) rfl ?_
  refine l_sld (p' := 1023) hL q2 (dAt dd_law_12 24 rfl) rfl ?_
  refine l_callM (n2 := 2) (As := [.int (xs (x3 + 1).toNatClampNeg), .int (xs (x3 + 2).toNatClampNeg)]) (p' := 1026) hL (c_X11_entry _ _ _ (a_to (a_nx hC') hM) m (xs (x3 + 1).toNatClampNeg) (xs (x3 + 2).toNatClampNeg)) e2 k_1098 k_1099 k_1100 k_9 k_1101 (by decide +kernel) ⟨by decide, by decide⟩ (ci := 10) rfl rfl (by decide) w1.2.1 rfl (Nat.le_of_ble_eq_true rfl) rfl ⟨by omega, by omega⟩ (dAt dd_law_12 25 rfl) rfl ?_
  refine l_icmp_eq (tgt := 1209) hL (dAt dd_law_12 26 rfl) (by decide) rfl ?_
  have e9 : a_to (a_nx hM') hC' = hC' := by rw [← w2.2.2]; rfl
  rw [e9]
  exact kk _ _ _ _ hR' (by omega) (by omega)
set_option maxHeartbeats 4000000 in
set_option maxRecDepth 100000 in
theorem law_case_23 {C : CT} {b L : Nat} {xs : Nat → Int32} {R : Nat → Nat → AH → AH → Nat → Prop} (hR : MainR R) (hL : OKL C b L xs) {c m t : Nat} {hC hM : AH} {x3 : Int32} {cells slots : Nat} (h0 : R c m hC hM t) (ht : t < 512) (hc : cells ≤ 10000 + 100 * t) (hs : slots ≤ 800000 + 5000 * t) (q1 : vp_in (x3 + 1) L) (q2 : vp_in (x3 + 2) L) (q3 : vp_in (x3 + 3) L) (q4 : vp_in (x3 + 4) L) (q5 : vp_in (x3 + 5) L) (kk : ∀ hC' hM' cells' slots', R c m hC' hM' (t + 1) → cells' ≤ 10000 + 100 * (t + 1) → slots' ≤ 800000 + 5000 * (t + 1) → WL C 1209 [(0, va_rf (some b)), (1, va_rf (some c)), (2, va_rf (some m)), (3, .int x3)] [] hC' hM' cells' slots') : WL C 1031 [(0, va_rf (some b)), (1, va_rf (some c)), (2, va_rf (some m)), (3, .int x3)] [] hC hM cells slots := by
  obtain ⟨r, hC', k, n, hM', e1, e2, hR', hk, hn⟩ := hR.2.2.1 c m hC hM t 23 (xs (x3 + 1).toNatClampNeg) (xs (x3 + 2).toNatClampNeg) (xs (x3 + 3).toNatClampNeg) (xs (x3 + 4).toNatClampNeg) (xs (x3 + 5).toNatClampNeg) h0 ht (by decide)
  have w1 := hR.2.1 c m hC hM t h0
  have w2 := hR.2.1 c m hC' hM' (t + 1) hR'
  refine l_aload_n (p' := 1032) 1 hL (dAt dd_law_12 29 rfl) rfl rfl rfl ?_
  refine l_aload_n (p' := 1033) 0 hL (dAt dd_law_12 30 rfl) rfl rfl rfl ?_
  refine l_iload_n (p' := 1034) 3 hL (dAt dd_law_12 31 rfl) rfl rfl rfl ?_
  refine l_iconst (v := 1) (p' := 1035) hL (dAt dd_law_12 32 rfl) rfl (by decide) ?_
  refine l_iadd (p' := 1036) hL (dAt dd_law_12 33 rfl) rfl ?_
  refine l_sld (p' := 1037) hL q1 (dAt dd_law_12 34 rfl) rfl ?_
  refine l_aload_n (p' := 1038) 0 hL (dAt dd_law_12 35 rfl) rfl rfl rfl ?_
  refine l_iload_n (p' := 1039) 3 hL (dAt dd_law_12 36 rfl) rfl rfl rfl ?_
  refine l_iconst (v := 2) (p' := 1040) hL (dAt dd_law_12 37 rfl) rfl (by decide) ?_
  refine l_iadd (p' := 1041) hL (dAt dd_law_12 38 rfl) rfl ?_
  refine l_sld (p' := 1042) hL q2 (dAt dd_law_12 39 rfl) rfl ?_
  refine l_callC (n2 := 2) (As := [.int (xs (x3 + 1).toNatClampNeg), .int (xs (x3 + 2).toNatClampNeg)]) (p' := 1045) hL (c_X10_kind _ _ _ hC c (xs (x3 + 1).toNatClampNeg) (xs (x3 + 2).toNatClampNeg)) e1 k_636 k_637 k_638 k_1 k_639 (by decide +kernel) ⟨by decide, by decide⟩ (ci := 9) rfl rfl (by decide) w1.1 rfl (Nat.le_of_ble_eq_true rfl) rfl ⟨by omega, by omega⟩ (dAt dd_law_12 40 rfl) rfl ?_
  refine l_aload_n (p' := 1046) 2 hL (dAt dd_law_12 41 rfl) rfl rfl rfl ?_
  refine l_aload_n (p' := 1047) 0 hL (dAt dd_law_12 42 rfl) rfl rfl rfl ?_
  refine l_iload_n (p' := 1048) 3 hL (dAt dd_law_12 43 rfl) rfl rfl rfl ?_
  refine l_iconst (v := 1) (p' := 1049) hL (dAt dd_law_12 44 rfl) rfl (by decide) ?_
  refine l_iadd (p' := 1050) hL (dAt dd_law_12 45 rfl) rfl ?_
  refine l_sld (p' := 1051) hL q1 (dAt dd_law_12 46 rfl) rfl ?_
  refine l_aload_n (p' := 1052) 0 hL (dAt dd_law_12 47 rfl) rfl rfl rfl ?_
  refine l_iload_n (p' := 1053) 3 hL (dAt dd_law_12 48 rfl) rfl rfl rfl ?_
  refine l_iconst (v := 2) (p' := 1054) hL (dAt dd_law_12 49 rfl) rfl (by decide) ?_
  refine l_iadd (p' := 1055) hL (dAt dd_law_12 50 rfl) rfl ?_
  refine l_sld (p' := 1056) hL q2 (dAt dd_law_12 51 rfl) rfl ?_
  refine l_callM (n2 := 2) (As := [.int (xs (x3 + 1).toNatClampNeg), .int (xs (x3 + 2).toNatClampNeg)]) (p' := 1059) hL (c_X11_kind _ _ _ (a_to (a_nx hC') hM) m (xs (x3 + 1).toNatClampNeg) (xs (x3 + 2).toNatClampNeg)) e2 k_1102 k_1103 k_1104 k_9 k_1105 (by decide +kernel) ⟨by decide, by decide⟩ (ci := 10) rfl rfl (by decide) w1.2.1 rfl (Nat.le_of_ble_eq_true rfl) rfl ⟨by omega, by omega⟩ (dAt dd_law_12 52 rfl) rfl ?_
  refine l_icmp_eq (tgt := 1209) hL (dAt dd_law_12 53 rfl) (by decide) rfl ?_
  have e9 : a_to (a_nx hM') hC' = hC' := by rw [← w2.2.2]; rfl
  rw [e9]
  exact kk _ _ _ _ hR' (by omega) (by omega)
set_option maxHeartbeats 4000000 in
set_option maxRecDepth 100000 in
theorem law_case_24 {C : CT} {b L : Nat} {xs : Nat → Int32} {R : Nat → Nat → AH → AH → Nat → Prop} (hR : MainR R) (hL : OKL C b L xs) {c m t : Nat} {hC hM : AH} {x3 : Int32} {cells slots : Nat} (h0 : R c m hC hM t) (ht : t < 512) (hc : cells ≤ 10000 + 100 * t) (hs : slots ≤ 800000 + 5000 * t) (q1 : vp_in (x3 + 1) L) (q2 : vp_in (x3 + 2) L) (q3 : vp_in (x3 + 3) L) (q4 : vp_in (x3 + 4) L) (q5 : vp_in (x3 + 5) L) (kk : ∀ hC' hM' cells' slots', R c m hC' hM' (t + 1) → cells' ≤ 10000 + 100 * (t + 1) → slots' ≤ 800000 + 5000 * (t + 1) → WL C 1209 [(0, va_rf (some b)), (1, va_rf (some c)), (2, va_rf (some m)), (3, .int x3)] [] hC' hM' cells' slots') : WL C 1064 [(0, va_rf (some b)), (1, va_rf (some c)), (2, va_rf (some m)), (3, .int x3)] [] hC hM cells slots := by
  obtain ⟨r, hC', k, n, hM', e1, e2, hR', hk, hn⟩ := hR.2.2.1 c m hC hM t 24 (xs (x3 + 1).toNatClampNeg) (xs (x3 + 2).toNatClampNeg) (xs (x3 + 3).toNatClampNeg) (xs (x3 + 4).toNatClampNeg) (xs (x3 + 5).toNatClampNeg) h0 ht (by decide)
  have w1 := hR.2.1 c m hC hM t h0
  have w2 := hR.2.1 c m hC' hM' (t + 1) hR'
  refine l_aload_n (p' := 1065) 1 hL (dAt dd_law_12 56 rfl) rfl rfl rfl ?_
  refine l_aload_n (p' := 1066) 0 hL (dAt dd_law_12 57 rfl) rfl rfl rfl ?_
  refine l_iload_n (p' := 1067) 3 hL (dAt dd_law_12 58 rfl) rfl rfl rfl ?_
  refine l_iconst (v := 1) (p' := 1068) hL (dAt dd_law_12 59 rfl) rfl (by decide) ?_
  refine l_iadd (p' := 1069) hL (dAt dd_law_13 0 rfl) rfl ?_
  refine l_sld (p' := 1070) hL q1 (dAt dd_law_13 1 rfl) rfl ?_
  refine l_aload_n (p' := 1071) 0 hL (dAt dd_law_13 2 rfl) rfl rfl rfl ?_
  refine l_iload_n (p' := 1072) 3 hL (dAt dd_law_13 3 rfl) rfl rfl rfl ?_
  refine l_iconst (v := 2) (p' := 1073) hL (dAt dd_law_13 4 rfl) rfl (by decide) ?_
  refine l_iadd (p' := 1074) hL (dAt dd_law_13 5 rfl) rfl ?_
  refine l_sld (p' := 1075) hL q2 (dAt dd_law_13 6 rfl) rfl ?_
  refine l_aload_n (p' := 1076) 0 hL (dAt dd_law_13 7 rfl) rfl rfl rfl ?_
  refine l_iload_n (p' := 1077) 3 hL (dAt dd_law_13 8 rfl) rfl rfl rfl ?_
  refine l_iconst (v := 3) (p' := 1078) hL (dAt dd_law_13 9 rfl) rfl (by decide) ?_
  refine l_iadd (p' := 1079) hL (dAt dd_law_13 10 rfl) rfl ?_
  refine l_sld (p' := 1080) hL q3 (dAt dd_law_13 11 rfl) rfl ?_
  refine l_callC (n2 := 3) (As := [.int (xs (x3 + 1).toNatClampNeg), .int (xs (x3 + 2).toNatClampNeg), .int (xs (x3 + 3).toNatClampNeg)]) (p' := 1083) hL (c_X10_as _ _ _ hC c (xs (x3 + 1).toNatClampNeg) (xs (x3 + 2).toNatClampNeg) (xs (x3 + 3).toNatClampNeg)) e1 k_657 k_658 k_659 k_1 k_660 (by decide +kernel) ⟨by decide, by decide⟩ (ci := 9) rfl rfl (by decide) w1.1 rfl (Nat.le_of_ble_eq_true rfl) rfl ⟨by omega, by omega⟩ (dAt dd_law_13 12 rfl) rfl ?_
  refine l_aload_n (p' := 1084) 2 hL (dAt dd_law_13 13 rfl) rfl rfl rfl ?_
  refine l_aload_n (p' := 1085) 0 hL (dAt dd_law_13 14 rfl) rfl rfl rfl ?_
  refine l_iload_n (p' := 1086) 3 hL (dAt dd_law_13 15 rfl) rfl rfl rfl ?_
  refine l_iconst (v := 1) (p' := 1087) hL (dAt dd_law_13 16 rfl) rfl (by decide) ?_
  refine l_iadd (p' := 1088) hL (dAt dd_law_13 17 rfl) rfl ?_
  refine l_sld (p' := 1089) hL q1 (dAt dd_law_13 18 rfl) rfl ?_
  refine l_aload_n (p' := 1090) 0 hL (dAt dd_law_13 19 rfl) rfl rfl rfl ?_
  refine l_iload_n (p' := 1091) 3 hL (dAt dd_law_13 20 rfl) rfl rfl rfl ?_
  refine l_iconst (v := 2) (p' := 1092) hL (dAt dd_law_13 21 rfl) rfl (by decide) ?_
  refine l_iadd (p' := 1093) hL (dAt dd_law_13 22 rfl) rfl ?_
  refine l_sld (p' := 1094) hL q2 (dAt dd_law_13 23 rfl) rfl ?_
  refine l_aload_n (p' := 1095) 0 hL (dAt dd_law_13 24 rfl) rfl rfl rfl ?_
  refine l_iload_n (p' := 1096) 3 hL (dAt dd_law_13 25 rfl) rfl rfl rfl ?_
  refine l_iconst (v := 3) (p' := 1097) hL (dAt dd_law_13 26 rfl) rfl (by decide) ?_
  refine l_iadd (p' := 1098) hL (dAt dd_law_13 27 rfl) rfl ?_
  refine l_sld (p' := 1099) hL q3 (dAt dd_law_13 28 rfl) rfl ?_
  refine l_callM (n2 := 3) (As := [.int (xs (x3 + 1).toNatClampNeg), .int (xs (x3 + 2).toNatClampNeg), .int (xs (x3 + 3).toNatClampNeg)]) (p' := 1102) hL (c_X11_as _ _ _ (a_to (a_nx hC') hM) m (xs (x3 + 1).toNatClampNeg) (xs (x3 + 2).toNatClampNeg) (xs (x3 + 3).toNatClampNeg)) e2 k_1118 k_1119 k_1120 k_9 k_1121 (by decide +kernel) ⟨by decide, by decide⟩ (ci := 10) rfl rfl (by decide) w1.2.1 rfl (Nat.le_of_ble_eq_true rfl) rfl ⟨by omega, by omega⟩ (dAt dd_law_13 29 rfl) rfl ?_
  refine l_icmp_eq (tgt := 1209) hL (dAt dd_law_13 30 rfl) (by decide) rfl ?_
  have e9 : a_to (a_nx hM') hC' = hC' := by rw [← w2.2.2]; rfl
  rw [e9]
  exact kk _ _ _ _ hR' (by omega) (by omega)
set_option maxHeartbeats 4000000 in
set_option maxRecDepth 100000 in
theorem law_case_25 {C : CT} {b L : Nat} {xs : Nat → Int32} {R : Nat → Nat → AH → AH → Nat → Prop} (hR : MainR R) (hL : OKL C b L xs) {c m t : Nat} {hC hM : AH} {x3 : Int32} {cells slots : Nat} (h0 : R c m hC hM t) (ht : t < 512) (hc : cells ≤ 10000 + 100 * t) (hs : slots ≤ 800000 + 5000 * t) (q1 : vp_in (x3 + 1) L) (q2 : vp_in (x3 + 2) L) (q3 : vp_in (x3 + 3) L) (q4 : vp_in (x3 + 4) L) (q5 : vp_in (x3 + 5) L) (kk : ∀ hC' hM' cells' slots', R c m hC' hM' (t + 1) → cells' ≤ 10000 + 100 * (t + 1) → slots' ≤ 800000 + 5000 * (t + 1) → WL C 1209 [(0, va_rf (some b)), (1, va_rf (some c)), (2, va_rf (some m)), (3, .int x3)] [] hC' hM' cells' slots') : WL C 1107 [(0, va_rf (some b)), (1, va_rf (some c)), (2, va_rf (some m)), (3, .int x3)] [] hC hM cells slots := by
  obtain ⟨r, hC', k, n, hM', e1, e2, hR', hk, hn⟩ := hR.2.2.1 c m hC hM t 25 (xs (x3 + 1).toNatClampNeg) (xs (x3 + 2).toNatClampNeg) (xs (x3 + 3).toNatClampNeg) (xs (x3 + 4).toNatClampNeg) (xs (x3 + 5).toNatClampNeg) h0 ht (by decide)
  have w1 := hR.2.1 c m hC hM t h0
  have w2 := hR.2.1 c m hC' hM' (t + 1) hR'
  refine l_aload_n (p' := 1108) 1 hL (dAt dd_law_13 33 rfl) rfl rfl rfl ?_
  refine l_aload_n (p' := 1109) 0 hL (dAt dd_law_13 34 rfl) rfl rfl rfl ?_
  refine l_iload_n (p' := 1110) 3 hL (dAt dd_law_13 35 rfl) rfl rfl rfl ?_
  refine l_iconst (v := 1) (p' := 1111) hL (dAt dd_law_13 36 rfl) rfl (by decide) ?_
  refine l_iadd (p' := 1112) hL (dAt dd_law_13 37 rfl) rfl ?_
  refine l_sld (p' := 1113) hL q1 (dAt dd_law_13 38 rfl) rfl ?_
  refine l_aload_n (p' := 1114) 0 hL (dAt dd_law_13 39 rfl) rfl rfl rfl ?_
  refine l_iload_n (p' := 1115) 3 hL (dAt dd_law_13 40 rfl) rfl rfl rfl ?_
  refine l_iconst (v := 2) (p' := 1116) hL (dAt dd_law_13 41 rfl) rfl (by decide) ?_
  refine l_iadd (p' := 1117) hL (dAt dd_law_13 42 rfl) rfl ?_
  refine l_sld (p' := 1118) hL q2 (dAt dd_law_13 43 rfl) rfl ?_
  refine l_aload_n (p' := 1119) 0 hL (dAt dd_law_13 44 rfl) rfl rfl rfl ?_
  refine l_iload_n (p' := 1120) 3 hL (dAt dd_law_13 45 rfl) rfl rfl rfl ?_
  refine l_iconst (v := 3) (p' := 1121) hL (dAt dd_law_13 46 rfl) rfl (by decide) ?_
  refine l_iadd (p' := 1122) hL (dAt dd_law_13 47 rfl) rfl ?_
  refine l_sld (p' := 1123) hL q3 (dAt dd_law_13 48 rfl) rfl ?_
  refine l_callC (n2 := 3) (As := [.int (xs (x3 + 1).toNatClampNeg), .int (xs (x3 + 2).toNatClampNeg), .int (xs (x3 + 3).toNatClampNeg)]) (p' := 1126) hL (c_X10_ask _ _ _ hC c (xs (x3 + 1).toNatClampNeg) (xs (x3 + 2).toNatClampNeg) (xs (x3 + 3).toNatClampNeg)) e1 k_664 k_665 k_666 k_1 k_667 (by decide +kernel) ⟨by decide, by decide⟩ (ci := 9) rfl rfl (by decide) w1.1 rfl (Nat.le_of_ble_eq_true rfl) rfl ⟨by omega, by omega⟩ (dAt dd_law_13 49 rfl) rfl ?_
  refine l_aload_n (p' := 1127) 2 hL (dAt dd_law_13 50 rfl) rfl rfl rfl ?_
  refine l_aload_n (p' := 1128) 0 hL (dAt dd_law_13 51 rfl) rfl rfl rfl ?_
  refine l_iload_n (p' := 1129) 3 hL (dAt dd_law_13 52 rfl) rfl rfl rfl ?_
  refine l_iconst (v := 1) (p' := 1130) hL (dAt dd_law_13 53 rfl) rfl (by decide) ?_
  refine l_iadd (p' := 1131) hL (dAt dd_law_13 54 rfl) rfl ?_
  refine l_sld (p' := 1132) hL q1 (dAt dd_law_13 55 rfl) rfl ?_
  refine l_aload_n (p' := 1133) 0 hL (dAt dd_law_13 56 rfl) rfl rfl rfl ?_
  refine l_iload_n (p' := 1134) 3 hL (dAt dd_law_13 57 rfl) rfl rfl rfl ?_
  refine l_iconst (v := 2) (p' := 1135) hL (dAt dd_law_13 58 rfl) rfl (by decide) ?_
  refine l_iadd (p' := 1136) hL (dAt dd_law_13 59 rfl) rfl ?_
  refine l_sld (p' := 1137) hL q2 (dAt dd_law_14 0 rfl) rfl ?_
  refine l_aload_n (p' := 1138) 0 hL (dAt dd_law_14 1 rfl) rfl rfl rfl ?_
  refine l_iload_n (p' := 1139) 3 hL (dAt dd_law_14 2 rfl) rfl rfl rfl ?_
  refine l_iconst (v := 3) (p' := 1140) hL (dAt dd_law_14 3 rfl) rfl (by decide) ?_
  refine l_iadd (p' := 1141) hL (dAt dd_law_14 4 rfl) rfl ?_
  refine l_sld (p' := 1142) hL q3 (dAt dd_law_14 5 rfl) rfl ?_
  refine l_callM (n2 := 3) (As := [.int (xs (x3 + 1).toNatClampNeg), .int (xs (x3 + 2).toNatClampNeg), .int (xs (x3 + 3).toNatClampNeg)]) (p' := 1145) hL (c_X11_ask _ _ _ (a_to (a_nx hC') hM) m (xs (x3 + 1).toNatClampNeg) (xs (x3 + 2).toNatClampNeg) (xs (x3 + 3).toNatClampNeg)) e2 k_1122 k_1123 k_1124 k_9 k_1125 (by decide +kernel) ⟨by decide, by decide⟩ (ci := 10) rfl rfl (by decide) w1.2.1 rfl (Nat.le_of_ble_eq_true rfl) rfl ⟨by omega, by omega⟩ (dAt dd_law_14 6 rfl) rfl ?_
  refine l_icmp_eq (tgt := 1209) hL (dAt dd_law_14 7 rfl) (by decide) rfl ?_
  have e9 : a_to (a_nx hM') hC' = hC' := by rw [← w2.2.2]; rfl
  rw [e9]
  exact kk _ _ _ _ hR' (by omega) (by omega)
set_option maxHeartbeats 4000000 in
set_option maxRecDepth 100000 in
theorem law_case_26 {C : CT} {b L : Nat} {xs : Nat → Int32} {R : Nat → Nat → AH → AH → Nat → Prop} (hR : MainR R) (hL : OKL C b L xs) {c m t : Nat} {hC hM : AH} {x3 : Int32} {cells slots : Nat} (h0 : R c m hC hM t) (ht : t < 512) (hc : cells ≤ 10000 + 100 * t) (hs : slots ≤ 800000 + 5000 * t) (q1 : vp_in (x3 + 1) L) (q2 : vp_in (x3 + 2) L) (q3 : vp_in (x3 + 3) L) (q4 : vp_in (x3 + 4) L) (q5 : vp_in (x3 + 5) L) (kk : ∀ hC' hM' cells' slots', R c m hC' hM' (t + 1) → cells' ≤ 10000 + 100 * (t + 1) → slots' ≤ 800000 + 5000 * (t + 1) → WL C 1209 [(0, va_rf (some b)), (1, va_rf (some c)), (2, va_rf (some m)), (3, .int x3)] [] hC' hM' cells' slots') : WL C 1150 [(0, va_rf (some b)), (1, va_rf (some c)), (2, va_rf (some m)), (3, .int x3)] [] hC hM cells slots := by
  obtain ⟨r, hC', k, n, hM', e1, e2, hR', hk, hn⟩ := hR.2.2.1 c m hC hM t 26 (xs (x3 + 1).toNatClampNeg) (xs (x3 + 2).toNatClampNeg) (xs (x3 + 3).toNatClampNeg) (xs (x3 + 4).toNatClampNeg) (xs (x3 + 5).toNatClampNeg) h0 ht (by decide)
  have w1 := hR.2.1 c m hC hM t h0
  have w2 := hR.2.1 c m hC' hM' (t + 1) hR'
  refine l_aload_n (p' := 1151) 1 hL (dAt dd_law_14 10 rfl) rfl rfl rfl ?_
  refine l_aload_n (p' := 1152) 0 hL (dAt dd_law_14 11 rfl) rfl rfl rfl ?_
  refine l_iload_n (p' := 1153) 3 hL (dAt dd_law_14 12 rfl) rfl rfl rfl ?_
  refine l_iconst (v := 1) (p' := 1154) hL (dAt dd_law_14 13 rfl) rfl (by decide) ?_
  refine l_iadd (p' := 1155) hL (dAt dd_law_14 14 rfl) rfl ?_
  refine l_sld (p' := 1156) hL q1 (dAt dd_law_14 15 rfl) rfl ?_
  refine l_callC (n2 := 1) (As := [.int (xs (x3 + 1).toNatClampNeg)]) (p' := 1159) hL (c_X10_trace _ _ _ hC c (xs (x3 + 1).toNatClampNeg)) e1 k_708 k_709 k_710 k_1 k_711 (by decide +kernel) ⟨by decide, by decide⟩ (ci := 9) rfl rfl (by decide) w1.1 rfl (Nat.le_of_ble_eq_true rfl) rfl ⟨by omega, by omega⟩ (dAt dd_law_14 16 rfl) rfl ?_
  refine l_aload_n (p' := 1160) 2 hL (dAt dd_law_14 17 rfl) rfl rfl rfl ?_
  refine l_aload_n (p' := 1161) 0 hL (dAt dd_law_14 18 rfl) rfl rfl rfl ?_
  refine l_iload_n (p' := 1162) 3 hL (dAt dd_law_14 19 rfl) rfl rfl rfl ?_
  refine l_iconst (v := 1) (p' := 1163) hL (dAt dd_law_14 20 rfl) rfl (by decide) ?_
  refine l_iadd (p' := 1164) hL (dAt dd_law_14 21 rfl) rfl ?_
  refine l_sld (p' := 1165) hL q1 (dAt dd_law_14 22 rfl) rfl ?_
  refine l_callM (n2 := 1) (As := [.int (xs (x3 + 1).toNatClampNeg)]) (p' := 1168) hL (c_X11_trace _ _ _ (a_to (a_nx hC') hM) m (xs (x3 + 1).toNatClampNeg)) e2 k_1138 k_1139 k_1140 k_9 k_1141 (by decide +kernel) ⟨by decide, by decide⟩ (ci := 10) rfl rfl (by decide) w1.2.1 rfl (Nat.le_of_ble_eq_true rfl) rfl ⟨by omega, by omega⟩ (dAt dd_law_14 23 rfl) rfl ?_
  refine l_icmp_eq (tgt := 1209) hL (dAt dd_law_14 24 rfl) (by decide) rfl ?_
  have e9 : a_to (a_nx hM') hC' = hC' := by rw [← w2.2.2]; rfl
  rw [e9]
  exact kk _ _ _ _ hR' (by omega) (by omega)
set_option maxHeartbeats 4000000 in
set_option maxRecDepth 100000 in
theorem law_case_27 {C : CT} {b L : Nat} {xs : Nat → Int32} {R : Nat → Nat → AH → AH → Nat → Prop} (hR : MainR R) (hL : OKL C b L xs) {c m t : Nat} {hC hM : AH} {x3 : Int32} {cells slots : Nat} (h0 : R c m hC hM t) (ht : t < 512) (hc : cells ≤ 10000 + 100 * t) (hs : slots ≤ 800000 + 5000 * t) (q1 : vp_in (x3 + 1) L) (q2 : vp_in (x3 + 2) L) (q3 : vp_in (x3 + 3) L) (q4 : vp_in (x3 + 4) L) (q5 : vp_in (x3 + 5) L) (kk : ∀ hC' hM' cells' slots', R c m hC' hM' (t + 1) → cells' ≤ 10000 + 100 * (t + 1) → slots' ≤ 800000 + 5000 * (t + 1) → WL C 1209 [(0, va_rf (some b)), (1, va_rf (some c)), (2, va_rf (some m)), (3, .int x3)] [] hC' hM' cells' slots') : WL C 1173 [(0, va_rf (some b)), (1, va_rf (some c)), (2, va_rf (some m)), (3, .int x3)] [] hC hM cells slots := by
  obtain ⟨r, hC', k, n, hM', e1, e2, hR', hk, hn⟩ := hR.2.2.1 c m hC hM t 27 (xs (x3 + 1).toNatClampNeg) (xs (x3 + 2).toNatClampNeg) (xs (x3 + 3).toNatClampNeg) (xs (x3 + 4).toNatClampNeg) (xs (x3 + 5).toNatClampNeg) h0 ht (by decide)
  have w1 := hR.2.1 c m hC hM t h0
  have w2 := hR.2.1 c m hC' hM' (t + 1) hR'
  refine l_aload_n (p' := 1174) 1 hL (dAt dd_law_14 27 rfl) rfl rfl rfl ?_
  refine l_aload_n (p' := 1175) 0 hL (dAt dd_law_14 28 rfl) rfl rfl rfl ?_
  refine l_iload_n (p' := 1176) 3 hL (dAt dd_law_14 29 rfl) rfl rfl rfl ?_
  refine l_iconst (v := 1) (p' := 1177) hL (dAt dd_law_14 30 rfl) rfl (by decide) ?_
  refine l_iadd (p' := 1178) hL (dAt dd_law_14 31 rfl) rfl ?_
  refine l_sld (p' := 1179) hL q1 (dAt dd_law_14 32 rfl) rfl ?_
  refine l_callC (n2 := 1) (As := [.int (xs (x3 + 1).toNatClampNeg)]) (p' := 1182) hL (c_X10_count _ _ _ hC c (xs (x3 + 1).toNatClampNeg)) e1 k_712 k_713 k_714 k_1 k_715 (by decide +kernel) ⟨by decide, by decide⟩ (ci := 9) rfl rfl (by decide) w1.1 rfl (Nat.le_of_ble_eq_true rfl) rfl ⟨by omega, by omega⟩ (dAt dd_law_14 33 rfl) rfl ?_
  refine l_aload_n (p' := 1183) 2 hL (dAt dd_law_14 34 rfl) rfl rfl rfl ?_
  refine l_aload_n (p' := 1184) 0 hL (dAt dd_law_14 35 rfl) rfl rfl rfl ?_
  refine l_iload_n (p' := 1185) 3 hL (dAt dd_law_14 36 rfl) rfl rfl rfl ?_
  refine l_iconst (v := 1) (p' := 1186) hL (dAt dd_law_14 37 rfl) rfl (by decide) ?_
  refine l_iadd (p' := 1187) hL (dAt dd_law_14 38 rfl) rfl ?_
  refine l_sld (p' := 1188) hL q1 (dAt dd_law_14 39 rfl) rfl ?_
  refine l_callM (n2 := 1) (As := [.int (xs (x3 + 1).toNatClampNeg)]) (p' := 1191) hL (c_X11_count _ _ _ (a_to (a_nx hC') hM) m (xs (x3 + 1).toNatClampNeg)) e2 k_1142 k_1143 k_1144 k_9 k_1145 (by decide +kernel) ⟨by decide, by decide⟩ (ci := 10) rfl rfl (by decide) w1.2.1 rfl (Nat.le_of_ble_eq_true rfl) rfl ⟨by omega, by omega⟩ (dAt dd_law_14 40 rfl) rfl ?_
  refine l_icmp_eq (tgt := 1209) hL (dAt dd_law_14 41 rfl) (by decide) rfl ?_
  have e9 : a_to (a_nx hM') hC' = hC' := by rw [← w2.2.2]; rfl
  rw [e9]
  exact kk _ _ _ _ hR' (by omega) (by omega)
set_option maxHeartbeats 4000000 in
set_option maxRecDepth 100000 in
theorem law_case_28 {C : CT} {b L : Nat} {xs : Nat → Int32} {R : Nat → Nat → AH → AH → Nat → Prop} (hR : MainR R) (hL : OKL C b L xs) {c m t : Nat} {hC hM : AH} {x3 : Int32} {cells slots : Nat} (h0 : R c m hC hM t) (ht : t < 512) (hc : cells ≤ 10000 + 100 * t) (hs : slots ≤ 800000 + 5000 * t) (q1 : vp_in (x3 + 1) L) (q2 : vp_in (x3 + 2) L) (q3 : vp_in (x3 + 3) L) (q4 : vp_in (x3 + 4) L) (q5 : vp_in (x3 + 5) L) (kk : ∀ hC' hM' cells' slots', R c m hC' hM' (t + 1) → cells' ≤ 10000 + 100 * (t + 1) → slots' ≤ 800000 + 5000 * (t + 1) → WL C 1209 [(0, va_rf (some b)), (1, va_rf (some c)), (2, va_rf (some m)), (3, .int x3)] [] hC' hM' cells' slots') : WL C 1196 [(0, va_rf (some b)), (1, va_rf (some c)), (2, va_rf (some m)), (3, .int x3)] [] hC hM cells slots := by
  obtain ⟨r, hC', k, n, hM', e1, e2, hR', hk, hn⟩ := hR.2.2.1 c m hC hM t 28 (xs (x3 + 1).toNatClampNeg) (xs (x3 + 2).toNatClampNeg) (xs (x3 + 3).toNatClampNeg) (xs (x3 + 4).toNatClampNeg) (xs (x3 + 5).toNatClampNeg) h0 ht (by decide)
  have w1 := hR.2.1 c m hC hM t h0
  have w2 := hR.2.1 c m hC' hM' (t + 1) hR'
  refine l_aload_n (p' := 1197) 1 hL (dAt dd_law_14 44 rfl) rfl rfl rfl ?_
  refine l_callC (n2 := 0) (As := []) (p' := 1200) hL (c_X10_status _ _ _ hC c ) e1 k_736 k_737 k_738 k_1 k_739 (by decide +kernel) ⟨by decide, by decide⟩ (ci := 9) rfl rfl (by decide) w1.1 rfl (Nat.le_of_ble_eq_true rfl) rfl ⟨by omega, by omega⟩ (dAt dd_law_14 45 rfl) rfl ?_
  refine l_aload_n (p' := 1201) 2 hL (dAt dd_law_14 46 rfl) rfl rfl rfl ?_
  refine l_callM (n2 := 0) (As := []) (p' := 1204) hL (c_X11_status _ _ _ (a_to (a_nx hC') hM) m ) e2 k_1146 k_1147 k_1148 k_9 k_1149 (by decide +kernel) ⟨by decide, by decide⟩ (ci := 10) rfl rfl (by decide) w1.2.1 rfl (Nat.le_of_ble_eq_true rfl) rfl ⟨by omega, by omega⟩ (dAt dd_law_14 47 rfl) rfl ?_
  refine l_icmp_eq (tgt := 1209) hL (dAt dd_law_14 48 rfl) (by decide) rfl ?_
  have e9 : a_to (a_nx hM') hC' = hC' := by rw [← w2.2.2]; rfl
  rw [e9]
  exact kk _ _ _ _ hR' (by omega) (by omega)
set_option maxHeartbeats 4000000 in
set_option maxRecDepth 100000 in
theorem law_loop {C : CT} {b L : Nat} {xs : Nat → Int32} {R : Nat → Nat → AH → AH → Nat → Prop} (hR : MainR R) (hL : OKL C b L xs) (hL3 : L ≤ 3073) : ∀ (n t c m : Nat) (hC hM : AH) (cells slots : Nat) (x3 : Int32), R c m hC hM t → x3 = nI (1 + 6 * t) → t ≤ 512 → 513 ≤ t + n → cells ≤ 10000 + 100 * t → slots ≤ 800000 + 5000 * t → WL C 28 [(0, va_rf (some b)), (1, va_rf (some c)), (2, va_rf (some m)), (3, .int x3)] [] hC hM cells slots := by
  intro n
  induction n with
  | zero => intro t c m hC hM cells slots x3 _ _ h1 h2; omega
  | succ n ih =>
    intro t c m hC hM cells slots x3 h0 e3 ht hn hc hs
    refine l_iload_n (p' := 29) 3 hL (dAt dd_law_0 16 rfl) rfl rfl rfl ?_
    refine l_aload_n (p' := 30) 0 hL (dAt dd_law_0 17 rfl) rfl rfl rfl ?_
    refine l_slen (p' := 31) hL (dAt dd_law_0 18 rfl) rfl ?_
    refine l_bipush (v := 6) (p' := 33) hL (dAt dd_law_0 19 rfl) rfl (by decide) ?_
    refine l_isub (p' := 34) hL (dAt dd_law_0 20 rfl) rfl ?_
    have kexit : WL C 1215 [(0, va_rf (some b)), (1, va_rf (some c)), (2, va_rf (some m)), (3, .int x3)] [] hC hM cells slots := by
      refine l_iconst (v := 1) (p' := 1216) hL (dAt dd_law_14 53 rfl) rfl (by decide) ?_
      exact l_ret hL ⟨by omega, by omega⟩ (dAt dd_law_14 54 rfl)
    refine l_icmp_gt (tgt := 1215) (p' := 37) hL (dAt dd_law_0 21 rfl) (by decide) rfl (fun _ => kexit) (fun hq => ?_)
    by_cases hlt : 1 + 6 * t + 6 ≤ L
    · have hb6 : L < 2 ^ 31 := by omega
      have q0 : vp_in x3 L := by rw [e3]; exact vp_in_nI (by omega) hb6
      have hqk : ∀ k : Nat, k < 6 → vp_in (x3 + nI k) L := fun k hk => by rw [e3, nI_add]; exact vp_in_nI (by omega) hb6
      have q1 : vp_in (x3 + 1) L := hqk 1 (by omega)
      have q2 : vp_in (x3 + 2) L := hqk 2 (by omega)
      have q3 : vp_in (x3 + 3) L := hqk 3 (by omega)
      have q4 : vp_in (x3 + 4) L := hqk 4 (by omega)
      have q5 : vp_in (x3 + 5) L := hqk 5 (by omega)
      refine l_aload_n (p' := 38) 0 hL (dAt dd_law_0 22 rfl) rfl rfl rfl ?_
      refine l_iload_n (p' := 39) 3 hL (dAt dd_law_0 23 rfl) rfl rfl rfl ?_
      refine l_sld (p' := 40) hL q0 (dAt dd_law_0 24 rfl) rfl ?_
      refine l_bipush (v := 31) (p' := 42) hL (dAt dd_law_0 25 rfl) rfl (by decide) ?_
      refine l_iand (p' := 43) hL (dAt dd_law_0 26 rfl) rfl ?_
      have kk : ∀ t', t' = t ∨ t' = t + 1 → ∀ hC' hM' cells' slots', R c m hC' hM' t' → cells' ≤ 10000 + 100 * (t + 1) → slots' ≤ 800000 + 5000 * (t + 1) → True := fun _ _ _ _ _ _ _ _ _ => trivial
      have k1209 : ∀ hC' hM' cells' slots', R c m hC' hM' (t + 1) → cells' ≤ 10000 + 100 * (t + 1) → slots' ≤ 800000 + 5000 * (t + 1) → WL C 1209 [(0, va_rf (some b)), (1, va_rf (some c)), (2, va_rf (some m)), (3, .int x3)] [] hC' hM' cells' slots' := by
        intro hC' hM' cells' slots' g0 g1 g2
        refine l_iinc (w := x3 + 6) (lv' := [(3, .int (x3 + 6)), (0, va_rf (some b)), (1, va_rf (some c)), (2, va_rf (some m))]) (p' := 1212) 3 hL (dAt dd_law_14 51 rfl) rfl rfl rfl (by decide) rfl ?_
        refine l_goto (tgt := 28) hL (dAt dd_law_14 52 rfl) (by decide) ?_
        intro ls hl
        exact ih (t + 1) c m hC' hM' cells' slots' (x3 + 6) g0 (by rw [e3, show (6 : Int32) = nI 6 from rfl, nI_add]; congr 1) (by omega) (by omega) g1 g2 ls (lv_sub hl [1, 2, 3, 0] rfl)
      obtain ⟨j, hj, ej⟩ := pk_andE (xs x3.toNatClampNeg) (m := 31) 5 (by decide)
      rw [ej]

      by_cases z0 : j = 0
      · subst z0
        refine l_switch_in (tgt := 172) hL (dAt dd_law_0 27 rfl) (by decide) (by decide) rfl (by decide) ?_
        exact law_case_0 hR hL h0 (by omega) hc hs q1 q2 q3 q4 q5 k1209
      by_cases z1 : j = 1
      · subst z1
        refine l_switch_in (tgt := 215) hL (dAt dd_law_0 27 rfl) (by decide) (by decide) rfl (by decide) ?_
        exact law_case_1 hR hL h0 (by omega) hc hs q1 q2 q3 q4 q5 k1209
      by_cases z2 : j = 2
      · subst z2
        refine l_switch_in (tgt := 258) hL (dAt dd_law_0 27 rfl) (by decide) (by decide) rfl (by decide) ?_
        exact law_case_2 hR hL h0 (by omega) hc hs q1 q2 q3 q4 q5 k1209
      by_cases z3 : j = 3
      · subst z3
        refine l_switch_in (tgt := 321) hL (dAt dd_law_0 27 rfl) (by decide) (by decide) rfl (by decide) ?_
        exact law_case_3 hR hL h0 (by omega) hc hs q1 q2 q3 q4 q5 k1209
      by_cases z4 : j = 4
      · subst z4
        refine l_switch_in (tgt := 344) hL (dAt dd_law_0 27 rfl) (by decide) (by decide) rfl (by decide) ?_
        exact law_case_4 hR hL h0 (by omega) hc hs q1 q2 q3 q4 q5 k1209
      by_cases z5 : j = 5
      · subst z5
        refine l_switch_in (tgt := 377) hL (dAt dd_law_0 27 rfl) (by decide) (by decide) rfl (by decide) ?_
        exact law_case_5 hR hL h0 (by omega) hc hs q1 q2 q3 q4 q5 k1209
      by_cases z6 : j = 6
      · subst z6
        refine l_switch_in (tgt := 420) hL (dAt dd_law_0 27 rfl) (by decide) (by decide) rfl (by decide) ?_
        exact law_case_6 hR hL h0 (by omega) hc hs q1 q2 q3 q4 q5 k1209
      by_cases z7 : j = 7
      · subst z7
        refine l_switch_in (tgt := 463) hL (dAt dd_law_0 27 rfl) (by decide) (by decide) rfl (by decide) ?_
        exact law_case_7 hR hL h0 (by omega) hc hs q1 q2 q3 q4 q5 k1209
      by_cases z8 : j = 8
      · subst z8
        refine l_switch_in (tgt := 476) hL (dAt dd_law_0 27 rfl) (by decide) (by decide) rfl (by decide) ?_
        exact law_case_8 hR hL h0 (by omega) hc hs q1 q2 q3 q4 q5 k1209
      by_cases z9 : j = 9
      · subst z9
        refine l_switch_in (tgt := 509) hL (dAt dd_law_0 27 rfl) (by decide) (by decide) rfl (by decide) ?_
        exact law_case_9 hR hL h0 (by omega) hc hs q1 q2 q3 q4 q5 k1209
      by_cases z10 : j = 10
      · subst z10
        refine l_switch_in (tgt := 542) hL (dAt dd_law_0 27 rfl) (by decide) (by decide) rfl (by decide) ?_
        exact law_case_10 hR hL h0 (by omega) hc hs q1 q2 q3 q4 q5 k1209
      by_cases z11 : j = 11
      · subst z11
        refine l_switch_in (tgt := 565) hL (dAt dd_law_0 27 rfl) (by decide) (by decide) rfl (by decide) ?_
        exact law_case_11 hR hL h0 (by omega) hc hs q1 q2 q3 q4 q5 k1209
      by_cases z12 : j = 12
      · subst z12
        refine l_switch_in (tgt := 618) hL (dAt dd_law_0 27 rfl) (by decide) (by decide) rfl (by decide) ?_
        exact law_case_12 hR hL h0 (by omega) hc hs q1 q2 q3 q4 q5 k1209
      by_cases z13 : j = 13
      · subst z13
        refine l_switch_in (tgt := 651) hL (dAt dd_law_0 27 rfl) (by decide) (by decide) rfl (by decide) ?_
        exact law_case_13 hR hL h0 (by omega) hc hs q1 q2 q3 q4 q5 k1209
      by_cases z14 : j = 14
      · subst z14
        refine l_switch_in (tgt := 704) hL (dAt dd_law_0 27 rfl) (by decide) (by decide) rfl (by decide) ?_
        exact law_case_14 hR hL h0 (by omega) hc hs q1 q2 q3 q4 q5 k1209
      by_cases z15 : j = 15
      · subst z15
        refine l_switch_in (tgt := 737) hL (dAt dd_law_0 27 rfl) (by decide) (by decide) rfl (by decide) ?_
        exact law_case_15 hR hL h0 (by omega) hc hs q1 q2 q3 q4 q5 k1209
      by_cases z16 : j = 16
      · subst z16
        refine l_switch_in (tgt := 750) hL (dAt dd_law_0 27 rfl) (by decide) (by decide) rfl (by decide) ?_
        exact law_case_16 hR hL h0 (by omega) hc hs q1 q2 q3 q4 q5 k1209
      by_cases z17 : j = 17
      · subst z17
        refine l_switch_in (tgt := 783) hL (dAt dd_law_0 27 rfl) (by decide) (by decide) rfl (by decide) ?_
        exact law_case_17 hR hL h0 (by omega) hc hs q1 q2 q3 q4 q5 k1209
      by_cases z18 : j = 18
      · subst z18
        refine l_switch_in (tgt := 826) hL (dAt dd_law_0 27 rfl) (by decide) (by decide) rfl (by decide) ?_
        exact law_case_18 hR hL h0 (by omega) hc hs q1 q2 q3 q4 q5 k1209
      by_cases z19 : j = 19
      · subst z19
        refine l_switch_in (tgt := 879) hL (dAt dd_law_0 27 rfl) (by decide) (by decide) rfl (by decide) ?_
        exact law_case_19 hR hL h0 (by omega) hc hs q1 q2 q3 q4 q5 k1209
      by_cases z20 : j = 20
      · subst z20
        refine l_switch_in (tgt := 942) hL (dAt dd_law_0 27 rfl) (by decide) (by decide) rfl (by decide) ?_
        exact law_case_20 hR hL h0 (by omega) hc hs q1 q2 q3 q4 q5 k1209
      by_cases z21 : j = 21
      · subst z21
        refine l_switch_in (tgt := 985) hL (dAt dd_law_0 27 rfl) (by decide) (by decide) rfl (by decide) ?_
        exact law_case_21 hR hL h0 (by omega) hc hs q1 q2 q3 q4 q5 k1209
      by_cases z22 : j = 22
      · subst z22
        refine l_switch_in (tgt := 998) hL (dAt dd_law_0 27 rfl) (by decide) (by decide) rfl (by decide) ?_
        exact law_case_22 hR hL h0 (by omega) hc hs q1 q2 q3 q4 q5 k1209
      by_cases z23 : j = 23
      · subst z23
        refine l_switch_in (tgt := 1031) hL (dAt dd_law_0 27 rfl) (by decide) (by decide) rfl (by decide) ?_
        exact law_case_23 hR hL h0 (by omega) hc hs q1 q2 q3 q4 q5 k1209
      by_cases z24 : j = 24
      · subst z24
        refine l_switch_in (tgt := 1064) hL (dAt dd_law_0 27 rfl) (by decide) (by decide) rfl (by decide) ?_
        exact law_case_24 hR hL h0 (by omega) hc hs q1 q2 q3 q4 q5 k1209
      by_cases z25 : j = 25
      · subst z25
        refine l_switch_in (tgt := 1107) hL (dAt dd_law_0 27 rfl) (by decide) (by decide) rfl (by decide) ?_
        exact law_case_25 hR hL h0 (by omega) hc hs q1 q2 q3 q4 q5 k1209
      by_cases z26 : j = 26
      · subst z26
        refine l_switch_in (tgt := 1150) hL (dAt dd_law_0 27 rfl) (by decide) (by decide) rfl (by decide) ?_
        exact law_case_26 hR hL h0 (by omega) hc hs q1 q2 q3 q4 q5 k1209
      by_cases z27 : j = 27
      · subst z27
        refine l_switch_in (tgt := 1173) hL (dAt dd_law_0 27 rfl) (by decide) (by decide) rfl (by decide) ?_
        exact law_case_27 hR hL h0 (by omega) hc hs q1 q2 q3 q4 q5 k1209
      by_cases z28 : j = 28
      · subst z28
        refine l_switch_in (tgt := 1196) hL (dAt dd_law_0 27 rfl) (by decide) (by decide) rfl (by decide) ?_
        exact law_case_28 hR hL h0 (by omega) hc hs q1 q2 q3 q4 q5 k1209
      refine l_switch_out (tgt := 1209) hL (dAt dd_law_0 27 rfl) (Or.inr (by rw [nI_toInt (by omega)]; omega)) (by decide) ?_
      -- no call of the class: the next six ints
      refine l_iinc (w := x3 + 6) (lv' := [(3, .int (x3 + 6)), (0, va_rf (some b)), (1, va_rf (some c)), (2, va_rf (some m))]) (p' := 1212) 3 hL (dAt dd_law_14 51 rfl) rfl rfl rfl (by decide) rfl ?_
      refine l_goto (tgt := 28) hL (dAt dd_law_14 52 rfl) (by decide) ?_
      intro ls hl
      exact ih (t + 1) c m hC hM cells slots (x3 + 6) (hR.2.2.2 c m hC hM t h0) (by rw [e3, show (6 : Int32) = nI 6 from rfl, nI_add]; congr 1) (by omega) (by omega) (by omega) (by omega) ls (lv_sub hl [1, 2, 3, 0] rfl)
    · exfalso
      apply hq
      rw [e3]
      show nI L - nI 6 < nI (1 + 6 * t)
      rw [Int32.lt_iff_toInt_lt, nI_toInt (by omega), pk_sub_toInt (by omega) (by omega)]
      omega
theorem arr_start {A : Array Value} {s : State} {ty : FieldType} (h : (Cond.arrayClass ty).before A s = true) (hp : ∀ C, ty ≠ .object C) : ∃ cA : ClassId, ArrOfT s cA ty ∧ va_RA s cA ty := by
  obtain ⟨c, k, comp, h1, h2, h3⟩ := Cond.arrayClass_spec h
  exact ⟨c, fun n z => ⟨fun k h => (by cases h), k, h2, comp, h3⟩, by cases ty <;> first | exact h1 | exact absurd rfl (hp _)⟩
theorem arr_startO {A : Array Value} {s : State} {Cn : String} (h : (Cond.arrayOver (.object Cn)).before A s = true) : ∃ cA : ClassId, ArrOfT s cA (.object Cn) ∧ va_RA s cA (.object Cn) := by
  obtain ⟨comp, c, k, h1, h2, h3, h4, h5⟩ := Cond.arrayOver_spec h
  exact ⟨c, fun n z => ⟨fun k h => (by cases h), k, h3, comp, h4⟩, k, comp, h3, h4, h1, h5⟩
theorem arr_startA {A : Array Value} {s : State} {ty : FieldType} (h : (Cond.arrayOver (.array ty)).before A s = true) : ∃ cA : ClassId, ArrOfT s cA (.array ty) ∧ va_RA s cA (.array ty) := by
  obtain ⟨comp, c, k, h1, h2, h3, h4, h5⟩ := Jvm.Stand.arrayOver_specB h
  exact ⟨c, fun n z => ⟨fun k h => (by cases h), k, h3, comp, h4⟩, h5⟩
theorem gx_start {b : Addr} {s : State} (hts : ∀ w ∈ lw_tbl, w.before #[Value.ref b] s = true) : ∃ D cy, GX D cy s := by
  have ht : ∀ w ∈ tables_1, w.before #[Value.ref b] s = true := fun w hw => hts w (List.mem_append_right _ hw)
  have hLw : ∀ w ∈ LW, w.before #[Value.ref b] s = true := fun w hw => hts w (List.mem_filter.mp hw).1
  obtain ⟨c0, iS0, hK0⟩ := u_known (C := RX0) (T := TX0) (N := 2) (n := 2) hLw in_RX0 (hLw _ k_375)
  obtain ⟨c1, iS1, hK1⟩ := u_known (C := RX1) (T := TX1) (N := 7) (n := 7) hLw in_RX1 (hLw _ k_138)
  obtain ⟨c2, iS2, hK2⟩ := u_known (C := RX2) (T := TX2) (N := 1) (n := 1) hLw in_RX2 (hLw _ k_30)
  obtain ⟨c3, iS3, hK3⟩ := u_known (C := RX3) (T := TX3) (N := 2) (n := 2) hLw in_RX3 (hLw _ k_43)
  obtain ⟨c4, iS4, hK4⟩ := u_known (C := RX4) (T := TX4) (N := 8) (n := 8) hLw in_RX4 (hLw _ k_552)
  obtain ⟨c5, iS5, hK5⟩ := u_known (C := RX5) (T := TX5) (N := 7) (n := 7) hLw in_RX5 (hLw _ k_81)
  obtain ⟨c6, iS6, hK6⟩ := u_known (C := RX6) (T := TX6) (N := 4) (n := 4) hLw in_RX6 (hLw _ k_56)
  obtain ⟨c7, iS7, hK7⟩ := u_known (C := RX7) (T := TX7) (N := 4) (n := 4) hLw in_RX7 (hLw _ k_110)
  obtain ⟨c8, iS8, hK8⟩ := u_known (C := RX8) (T := TX8) (N := 8) (n := 8) hLw in_RX8 (hLw _ k_132)
  obtain ⟨c9, iS9, hK9⟩ := u_known (C := RX10) (T := TX10) (N := 12) (n := 12) hLw in_RX10 (hLw _ k_18)
  obtain ⟨c10, iS10, hK10⟩ := u_known (C := RX11) (T := TX11) (N := 51) (n := 51) hLw in_RX11 (hLw _ k_744)
  obtain ⟨y12, hy12⟩ : ∃ cA : ClassId, ArrOfT s cA (.int) ∧ va_RA s cA (.int) := arr_start (hLw _ k_41) (fun _ z => by cases z)
  obtain ⟨y13, hy13⟩ : ∃ cA : ClassId, ArrOfT s cA (.boolean) ∧ va_RA s cA (.boolean) := arr_start (hLw _ k_905) (fun _ z => by cases z)
  obtain ⟨y14, hy14⟩ : ∃ cA : ClassId, ArrOfT s cA (.object "GoldenKeeper$Answer") ∧ va_RA s cA (.object "GoldenKeeper$Answer") := arr_startO (ht _ (List.mem_of_getElem? (i := 561) (by decide +kernel)))
  obtain ⟨y15, hy15⟩ : ∃ cA : ClassId, ArrOfT s cA (.object "GoldenKeeper$Entry") ∧ va_RA s cA (.object "GoldenKeeper$Entry") := arr_startO (ht _ (List.mem_of_getElem? (i := 79) (by decide +kernel)))
  obtain ⟨y16, hy16⟩ : ∃ cA : ClassId, ArrOfT s cA (.object "GoldenKeeper$Row") ∧ va_RA s cA (.object "GoldenKeeper$Row") := arr_startO (ht _ (List.mem_of_getElem? (i := 26) (by decide +kernel)))
  obtain ⟨y17, hy17⟩ : ∃ cA : ClassId, ArrOfT s cA (.object "GoldenKeeper$Slot") ∧ va_RA s cA (.object "GoldenKeeper$Slot") := arr_startO (ht _ (List.mem_of_getElem? (i := 28) (by decide +kernel)))
  obtain ⟨y18, hy18⟩ : ∃ cA : ClassId, ArrOfT s cA (.array .int) ∧ va_RA s cA (.array .int) := arr_startA (ht _ (List.mem_of_getElem? (i := 36) (by decide +kernel)))
  refine ⟨(fun k => if k = 0 then c0 else if k = 1 then c1 else if k = 2 then c2 else if k = 3 then c3 else if k = 4 then c4 else if k = 5 then c5 else if k = 6 then c6 else if k = 7 then c7 else if k = 8 then c8 else if k = 9 then c9 else c10, fun k => if k = 0 then iS0 else if k = 1 then iS1 else if k = 2 then iS2 else if k = 3 then iS3 else if k = 4 then iS4 else if k = 5 then iS5 else if k = 6 then iS6 else if k = 7 then iS7 else if k = 8 then iS8 else if k = 9 then iS9 else iS10), fun k => if k = 12 then y12 else if k = 13 then y13 else if k = 14 then y14 else if k = 15 then y15 else if k = 16 then y16 else if k = 17 then y17 else y18, ⟨?_, ?_⟩, ?_⟩
  · intro k q hq
    match k, hq with
    | 0, hq => cases hq; exact hK0
    | 1, hq => cases hq; exact hK1
    | 2, hq => cases hq; exact hK2
    | 3, hq => cases hq; exact hK3
    | 4, hq => cases hq; exact hK4
    | 5, hq => cases hq; exact hK5
    | 6, hq => cases hq; exact hK6
    | 7, hq => cases hq; exact hK7
    | 8, hq => cases hq; exact hK8
    | 9, hq => cases hq; exact hK9
    | 10, hq => cases hq; exact hK10
    | k + 11, hq => simp [vwCl] at hq
  · intro k q hq
    match k, hq with
    | 0, hq => cases hq; exact hy12
    | 1, hq => cases hq; exact hy13
    | 2, hq => cases hq; exact hy14
    | 3, hq => cases hq; exact hy15
    | 4, hq => cases hq; exact hy16
    | 5, hq => cases hq; exact hy17
    | 6, hq => cases hq; exact hy18
    | k + 7, hq => simp [tysX] at hq
  · exact ⟨va_Nw.of rfl (ht _ (List.mem_of_getElem? (i := 31) (by decide +kernel))), va_Nw.of rfl (ht _ (List.mem_of_getElem? (i := 44) (by decide +kernel))), va_Nw.of rfl (ht _ (List.mem_of_getElem? (i := 57) (by decide +kernel))), va_Nw.of rfl (ht _ (List.mem_of_getElem? (i := 111) (by decide +kernel))), va_Nw.of rfl (ht _ (List.mem_of_getElem? (i := 139) (by decide +kernel))), va_Nw.of rfl (ht _ (List.mem_of_getElem? (i := 384) (by decide +kernel))), va_AO.of (ht _ (List.mem_of_getElem? (i := 561) (by decide +kernel))), va_AO.of (ht _ (List.mem_of_getElem? (i := 79) (by decide +kernel))), va_AO.of (ht _ (List.mem_of_getElem? (i := 26) (by decide +kernel))), va_AO.of (ht _ (List.mem_of_getElem? (i := 28) (by decide +kernel))), (show AOI s from ht (Cond.arrayOver (.array .int)) (List.mem_of_getElem? (i := 36) (by decide +kernel)))⟩
set_option maxHeartbeats 4000000 in
set_option maxRecDepth 100000 in
/-- the law from its entry, given what the pure side must give -/
theorem whole_open {p : Program} {e : Env} {s : State} {m : MethodId} {below : List Frame} {meth : Method} {c : Code} (l : Launch) {b L : Nat} {xs : Nat → Int32} {R : Nat → Nat → AH → AH → Nat → Prop} (hR : MainR R) (hL3 : L ≤ 3073) (C0 : lw_At p s m meth c b L xs) : W p l e room_1 s m #[Value.ref b] below meth c s.heap [] 0 0 (lw_Z below #[Value.ref b] s) (entryFrame m ([Value.ref b] : List Value).toArray 4) := by
  obtain ⟨hx, hb, hr, hml, hown, hts, hX, hbl, hlocks, hgv⟩ := id C0
  obtain ⟨D, cy, hG⟩ : ∃ D cy, GX D cy s := gx_start hts
  have hl := lv_entry ([.ref b]) (n := 4) (Nat.le_of_ble_eq_true rfl)
  rw [lg_entry_eq]
  generalize (lg_sl ([.ref b]) ++ List.replicate (4 - (lg_sl ([.ref b])).length) Slot.unset).toArray = ls at hl ⊢
  have hl : lv_has ls 4 [(0, va_rf (some b))] := hl
  have hLw : ∀ w ∈ LW, w.before #[Value.ref b] s = true := fun w hw => hts w (List.mem_filter.mp hw).1
  have hL : OKL (p, l, e, room_1, s, m, #[Value.ref b], below, meth, c, D, cy, fun _ : Nat => True) b L xs := ⟨hx, hb, hml, hown, hLw, hG, hlocks, hr, rfl, hX, hbl, rfl⟩
  have hS : va_S (fun q : Nat => s.heap.size ≤ q) s.heap s.heap [] := va_S.rf
  suffices hW : WL (p, l, e, room_1, s, m, #[Value.ref b], below, meth, c, D, cy, fun _ : Nat => True) 0 [(0, va_rf (some b))] [] (e_AH s.heap.size) (e_AH s.heap.size) 0 0 from
    hW ls (by show lv_has ls c.maxLocals _; rw [hml]; exact hl) s.heap [] ⟨⟨rfl, fun a ha => absurd rfl ha⟩, ⟨rfl, fun a ha => absurd rfl ha⟩, fun q hq => absurd rfl hq, fun q hq => by rcases hq with z | z <;> exact absurd rfl z, hS⟩
  generalize hCt : ((p, l, e, room_1, s, m, #[Value.ref b], below, meth, c, D, cy, fun _ : Nat => True) : CT) = C at hL ⊢
  obtain ⟨hC, k, n, hM, k2, n2, e1, e2, hR0, hk, hn⟩ := hR.1 s.heap.size (if 0 < L then xs 0 else 0)
  refine l_newC (ci := 9) (p' := 3) hL in_RX10 rfl rfl (by decide) tk_RX10 df_RX10 k_17 k_18 k_1 ⟨by decide, by decide⟩ (dAt dd_law_0 0 rfl) rfl ?_
  refine l_dup (p' := 4) hL (dAt dd_law_0 1 rfl) rfl ?_
  refine l_aload_n (p' := 5) 0 hL (dAt dd_law_0 2 rfl) rfl rfl rfl ?_
  refine l_iconst (v := 0) (p' := 6) hL (dAt dd_law_0 3 rfl) rfl (by decide) ?_
  refine l_cell (p' := 9) hL3 hL (Nat.le_of_ble_eq_true rfl) ⟨by omega, by omega⟩ (dAt dd_law_0 4 rfl) rfl ?_
  refine l_initC (n2 := 1) (As := [.int (if 0 < L then xs 0 else 0)]) (a := s.heap.size) (p' := 12) hL (c_X10_init _ _ _ _ _ _) e1 k_21 k_1 k_19 k_20 rfl (by decide +kernel) ⟨by decide, by decide⟩ rfl (Nat.le_of_ble_eq_true rfl) rfl ⟨by omega, by omega⟩ (dAt dd_law_0 5 rfl) rfl ?_
  refine l_astore_n (j := 1) (lv' := [(1, va_rf (some s.heap.size)), (0, va_rf (some b))]) (p' := 13) hL (dAt dd_law_0 6 rfl) rfl rfl (by decide) rfl ?_
  refine l_newM (ci := 10) (p' := 16) hL in_RX11 rfl rfl (by decide) tk_RX11 df_RX11 k_743 k_744 k_9 ⟨by omega, by omega⟩ (dAt dd_law_0 7 rfl) rfl ?_
  refine l_dup (p' := 17) hL (dAt dd_law_0 8 rfl) rfl ?_
  refine l_aload_n (p' := 18) 1 hL (dAt dd_law_0 9 rfl) rfl rfl rfl ?_
  refine l_iconst (v := 0) (p' := 19) hL (dAt dd_law_0 10 rfl) rfl (by decide) ?_
  refine l_cell (p' := 22) hL3 hL (Nat.le_of_ble_eq_true rfl) ⟨by omega, by omega⟩ (dAt dd_law_0 11 rfl) rfl ?_
  refine l_initM (n2 := 1) (As := [.int (if 0 < L then xs 0 else 0)]) (a := a_nx hC) (p' := 25) hL (c_X11_init _ _ _ _ _ _) e2 k_747 k_9 k_745 k_746 rfl (by decide +kernel) ⟨by decide, by decide⟩ rfl (Nat.le_of_ble_eq_true rfl) rfl ⟨by omega, by omega⟩ (dAt dd_law_0 12 rfl) rfl ?_
  refine l_astore_n (j := 2) (lv' := [(2, va_rf (some (a_nx hC))), (1, va_rf (some s.heap.size)), (0, va_rf (some b))]) (p' := 26) hL (dAt dd_law_0 13 rfl) rfl rfl (by decide) rfl ?_
  refine l_iconst (v := 1) (p' := 27) hL (dAt dd_law_0 14 rfl) rfl (by decide) ?_
  refine l_istore_n (j := 3) (lv' := [(3, .int 1), (2, va_rf (some (a_nx hC))), (1, va_rf (some s.heap.size)), (0, va_rf (some b))]) (p' := 28) hL (dAt dd_law_0 15 rfl) rfl rfl (by decide) rfl ?_
  intro ls hl
  exact law_loop hR hL hL3 513 0 s.heap.size (a_nx hC) (a_to (a_nx hM) hC) hM _ _ 1 hR0 rfl (by omega) (by omega) (by omega) (by omega) ls (lv_sub hl [3, 2, 1, 0] rfl)
