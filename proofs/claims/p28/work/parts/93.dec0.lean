theorem dkL_law_0 : dkq cL_law [(0, .new 7, 3), (3, .dup, 1), (4, .invokespecial 9, 3), (7, .astore_n 1, 1), (8, .new 10, 3), (11, .dup, 1), (12, .invokespecial 12, 3), (15, .astore_n 2, 1), (16, .iconst 0, 1), (17, .istore_n 3, 1), (18, .iload_n 3, 1), (19, .aload_n 0, 1), (20, .arraylength, 1), (21, .bipush 6, 2), (23, .isub, 1), (24, .if_icmp .gt 1255, 3)] = true := by decide +kernel
theorem dkL_law_1 : dkq cL_law [(27, .aload_n 0, 1), (28, .iload_n 3, 1), (29, .iaload, 1), (30, .bipush 63, 2), (32, .iand, 1), (33, .tableswitch 1240 0 36 #[163, 226, 249, 262, 285, 308, 351, 384, 417, 450, 483, 516, 549, 592, 635, 668, 711, 734, 747, 780, 813, 836, 879, 892, 925, 958, 981, 1004, 1027, 1076, 1099, 1122, 1135, 1168, 1181, 1204, 1217], 163), (196, .aload_n 1, 1), (197, .aload_n 0, 1), (198, .iload_n 3, 1), (199, .iconst 1, 1), (200, .iadd, 1), (201, .iaload, 1), (202, .aload_n 0, 1), (203, .iload_n 3, 1), (204, .iconst 2, 1), (205, .iadd, 1)] = true := by decide +kernel
theorem dkL_law_2 : dkq cL_law [(206, .iaload, 1), (207, .aload_n 0, 1), (208, .iload_n 3, 1), (209, .iconst 3, 1), (210, .iadd, 1), (211, .iaload, 1), (212, .aload_n 0, 1), (213, .iload_n 3, 1), (214, .iconst 4, 1), (215, .iadd, 1), (216, .iaload, 1), (217, .aload_n 0, 1), (218, .iload_n 3, 1), (219, .iconst 5, 1), (220, .iadd, 1), (221, .iaload, 1)] = true := by decide +kernel
theorem dkL_law_3 : dkq cL_law [(222, .invokevirtual 13, 3), (225, .pop, 1), (226, .aload_n 2, 1), (227, .aload_n 0, 1), (228, .iload_n 3, 1), (229, .iconst 1, 1), (230, .iadd, 1), (231, .iaload, 1), (232, .aload_n 0, 1), (233, .iload_n 3, 1), (234, .iconst 2, 1), (235, .iadd, 1), (236, .iaload, 1), (237, .aload_n 0, 1), (238, .iload_n 3, 1), (239, .iconst 3, 1)] = true := by decide +kernel
theorem dkL_law_4 : dkq cL_law [(240, .iadd, 1), (241, .iaload, 1), (242, .aload_n 0, 1), (243, .iload_n 3, 1), (244, .iconst 4, 1), (245, .iadd, 1), (246, .iaload, 1), (247, .aload_n 0, 1), (248, .iload_n 3, 1), (249, .iconst 5, 1), (250, .iadd, 1), (251, .iaload, 1), (252, .invokevirtual 17, 3), (255, .pop, 1), (256, .goto 1017, 3), (259, .aload_n 1, 1)] = true := by decide +kernel
theorem dkL_law_5 : dkq cL_law [(260, .aload_n 0, 1), (261, .iload_n 3, 1), (262, .iconst 1, 1), (263, .iadd, 1), (264, .iaload, 1), (265, .invokevirtual 18, 3), (268, .pop, 1), (269, .aload_n 2, 1), (270, .aload_n 0, 1), (271, .iload_n 3, 1), (272, .iconst 1, 1), (273, .iadd, 1), (274, .iaload, 1), (275, .invokevirtual 22, 3), (278, .pop, 1), (279, .goto 994, 3)] = true := by decide +kernel
theorem dkL_law_6 : dkq cL_law [(282, .aload_n 1, 1), (283, .invokevirtual 23, 3), (286, .pop, 1), (287, .aload_n 2, 1), (288, .invokevirtual 27, 3), (291, .pop, 1), (292, .goto 981, 3), (295, .aload_n 1, 1), (296, .aload_n 0, 1), (297, .iload_n 3, 1), (298, .iconst 1, 1), (299, .iadd, 1), (300, .iaload, 1), (301, .invokevirtual 28, 3), (304, .pop, 1), (305, .aload_n 2, 1)] = true := by decide +kernel
theorem dkL_law_7 : dkq cL_law [(306, .aload_n 0, 1), (307, .iload_n 3, 1), (308, .iconst 1, 1), (309, .iadd, 1), (310, .iaload, 1), (311, .invokevirtual 32, 3), (314, .pop, 1), (315, .goto 958, 3), (318, .aload_n 1, 1), (319, .aload_n 0, 1), (320, .iload_n 3, 1), (321, .iconst 1, 1), (322, .iadd, 1), (323, .iaload, 1), (324, .invokevirtual 33, 3), (327, .pop, 1)] = true := by decide +kernel
theorem dkL_law_8 : dkq cL_law [(328, .aload_n 2, 1), (329, .aload_n 0, 1), (330, .iload_n 3, 1), (331, .iconst 1, 1), (332, .iadd, 1), (333, .iaload, 1), (334, .invokevirtual 36, 3), (337, .pop, 1), (338, .goto 935, 3), (341, .aload_n 1, 1), (342, .aload_n 0, 1), (343, .iload_n 3, 1), (344, .iconst 1, 1), (345, .iadd, 1), (346, .iaload, 1), (347, .aload_n 0, 1)] = true := by decide +kernel
theorem dkL_law_9 : dkq cL_law [(348, .iload_n 3, 1), (349, .iconst 2, 1), (350, .iadd, 1), (351, .iaload, 1), (352, .aload_n 0, 1), (353, .iload_n 3, 1), (354, .iconst 3, 1), (355, .iadd, 1), (356, .iaload, 1), (357, .invokevirtual 37, 3), (360, .pop, 1), (361, .aload_n 2, 1), (362, .aload_n 0, 1), (363, .iload_n 3, 1), (364, .iconst 1, 1), (365, .iadd, 1)] = true := by decide +kernel
theorem dkL_law_10 : dkq cL_law [(366, .iaload, 1), (367, .aload_n 0, 1), (368, .iload_n 3, 1), (369, .iconst 2, 1), (370, .iadd, 1), (371, .iaload, 1), (372, .aload_n 0, 1), (373, .iload_n 3, 1), (374, .iconst 3, 1), (375, .iadd, 1), (376, .iaload, 1), (377, .invokevirtual 41, 3), (380, .pop, 1), (381, .goto 892, 3), (384, .aload_n 1, 1), (385, .aload_n 0, 1)] = true := by decide +kernel
theorem dkL_law_11 : dkq cL_law [(386, .iload_n 3, 1), (387, .iconst 1, 1), (388, .iadd, 1), (389, .iaload, 1), (390, .aload_n 0, 1), (391, .iload_n 3, 1), (392, .iconst 2, 1), (393, .iadd, 1), (394, .iaload, 1), (395, .invokevirtual 42, 3), (398, .pop, 1), (399, .aload_n 2, 1), (400, .aload_n 0, 1), (401, .iload_n 3, 1), (402, .iconst 1, 1), (403, .iadd, 1)] = true := by decide +kernel
theorem dkL_law_12 : dkq cL_law [(404, .iaload, 1), (405, .aload_n 0, 1), (406, .iload_n 3, 1), (407, .iconst 2, 1), (408, .iadd, 1), (409, .iaload, 1), (410, .invokevirtual 46, 3), (413, .pop, 1), (414, .goto 859, 3), (417, .aload_n 1, 1), (418, .aload_n 0, 1), (419, .iload_n 3, 1), (420, .iconst 1, 1), (421, .iadd, 1), (422, .iaload, 1), (423, .aload_n 0, 1)] = true := by decide +kernel
theorem dkL_law_13 : dkq cL_law [(424, .iload_n 3, 1), (425, .iconst 2, 1), (426, .iadd, 1), (427, .iaload, 1), (428, .invokevirtual 47, 3), (431, .pop, 1), (432, .aload_n 2, 1), (433, .aload_n 0, 1), (434, .iload_n 3, 1), (435, .iconst 1, 1), (436, .iadd, 1), (437, .iaload, 1), (438, .aload_n 0, 1), (439, .iload_n 3, 1), (440, .iconst 2, 1), (441, .iadd, 1)] = true := by decide +kernel
theorem dkL_law_14 : dkq cL_law [(442, .iaload, 1), (443, .invokevirtual 50, 3), (446, .pop, 1), (447, .goto 826, 3), (450, .aload_n 1, 1), (451, .aload_n 0, 1), (452, .iload_n 3, 1), (453, .iconst 1, 1), (454, .iadd, 1), (455, .iaload, 1), (456, .aload_n 0, 1), (457, .iload_n 3, 1), (458, .iconst 2, 1), (459, .iadd, 1), (460, .iaload, 1), (461, .invokevirtual 51, 3)] = true := by decide +kernel
theorem dkL_law_15 : dkq cL_law [(464, .pop, 1), (465, .aload_n 2, 1), (466, .aload_n 0, 1), (467, .iload_n 3, 1), (468, .iconst 1, 1), (469, .iadd, 1), (470, .iaload, 1), (471, .aload_n 0, 1), (472, .iload_n 3, 1), (473, .iconst 2, 1), (474, .iadd, 1), (475, .iaload, 1), (476, .invokevirtual 54, 3), (479, .pop, 1), (480, .goto 793, 3), (483, .aload_n 1, 1)] = true := by decide +kernel
theorem dkL_law_16 : dkq cL_law [(484, .aload_n 0, 1), (485, .iload_n 3, 1), (486, .iconst 1, 1), (487, .iadd, 1), (488, .iaload, 1), (489, .aload_n 0, 1), (490, .iload_n 3, 1), (491, .iconst 2, 1), (492, .iadd, 1), (493, .iaload, 1), (494, .invokevirtual 55, 3), (497, .pop, 1), (498, .aload_n 2, 1), (499, .aload_n 0, 1), (500, .iload_n 3, 1), (501, .iconst 1, 1)] = true := by decide +kernel
theorem dkL_law_17 : dkq cL_law [(502, .iadd, 1), (503, .iaload, 1), (504, .aload_n 0, 1), (505, .iload_n 3, 1), (506, .iconst 2, 1), (507, .iadd, 1), (508, .iaload, 1), (509, .invokevirtual 58, 3), (512, .pop, 1), (513, .goto 760, 3), (516, .aload_n 1, 1), (517, .aload_n 0, 1), (518, .iload_n 3, 1), (519, .iconst 1, 1), (520, .iadd, 1), (521, .iaload, 1)] = true := by decide +kernel
theorem dkL_law_18 : dkq cL_law [(522, .aload_n 0, 1), (523, .iload_n 3, 1), (524, .iconst 2, 1), (525, .iadd, 1), (526, .iaload, 1), (527, .invokevirtual 59, 3), (530, .pop, 1), (531, .aload_n 2, 1), (532, .aload_n 0, 1), (533, .iload_n 3, 1), (534, .iconst 1, 1), (535, .iadd, 1)] = true := by decide +kernel
theorem dkL_law_19 : dkq cL_law [(536, .iaload, 1), (537, .aload_n 0, 1), (538, .iload_n 3, 1), (539, .iconst 2, 1), (540, .iadd, 1), (541, .iaload, 1), (542, .invokevirtual 62, 3), (545, .pop, 1), (546, .goto 727, 3), (549, .aload_n 1, 1), (550, .aload_n 0, 1), (551, .iload_n 3, 1), (552, .iconst 1, 1), (553, .iadd, 1), (554, .iaload, 1), (555, .aload_n 0, 1)] = true := by decide +kernel
theorem dkL_law_20 : dkq cL_law [(556, .iload_n 3, 1), (557, .iconst 2, 1), (558, .iadd, 1), (559, .iaload, 1), (560, .invokevirtual 63, 3), (563, .pop, 1), (564, .aload_n 2, 1), (565, .aload_n 0, 1), (566, .iload_n 3, 1), (567, .iconst 1, 1), (568, .iadd, 1), (569, .iaload, 1), (570, .aload_n 0, 1), (571, .iload_n 3, 1), (572, .iconst 2, 1), (573, .iadd, 1)] = true := by decide +kernel
theorem dkL_law_21 : dkq cL_law [(574, .iaload, 1), (575, .invokevirtual 66, 3), (578, .pop, 1), (579, .goto 694, 3), (582, .aload_n 1, 1), (583, .aload_n 0, 1), (584, .iload_n 3, 1), (585, .iconst 1, 1), (586, .iadd, 1), (587, .iaload, 1), (588, .aload_n 0, 1), (589, .iload_n 3, 1), (590, .iconst 2, 1), (591, .iadd, 1), (592, .iaload, 1), (593, .aload_n 0, 1)] = true := by decide +kernel
theorem dkL_law_22 : dkq cL_law [(594, .iload_n 3, 1), (595, .iconst 3, 1), (596, .iadd, 1), (597, .iaload, 1), (598, .invokevirtual 67, 3), (601, .pop, 1), (602, .aload_n 2, 1), (603, .aload_n 0, 1), (604, .iload_n 3, 1), (605, .iconst 1, 1), (606, .iadd, 1), (607, .iaload, 1), (608, .aload_n 0, 1), (609, .iload_n 3, 1), (610, .iconst 2, 1), (611, .iadd, 1)] = true := by decide +kernel
theorem dkL_law_23 : dkq cL_law [(612, .iaload, 1), (613, .aload_n 0, 1), (614, .iload_n 3, 1), (615, .iconst 3, 1), (616, .iadd, 1), (617, .iaload, 1), (618, .invokevirtual 70, 3), (621, .pop, 1), (622, .goto 651, 3), (625, .aload_n 1, 1), (626, .aload_n 0, 1), (627, .iload_n 3, 1), (628, .iconst 1, 1), (629, .iadd, 1), (630, .iaload, 1), (631, .aload_n 0, 1)] = true := by decide +kernel
theorem dkL_law_24 : dkq cL_law [(632, .iload_n 3, 1), (633, .iconst 2, 1), (634, .iadd, 1), (635, .iaload, 1), (636, .aload_n 0, 1), (637, .iload_n 3, 1), (638, .iconst 3, 1), (639, .iadd, 1), (640, .iaload, 1), (641, .invokevirtual 71, 3), (644, .pop, 1), (645, .aload_n 2, 1), (646, .aload_n 0, 1), (647, .iload_n 3, 1), (648, .iconst 1, 1), (649, .iadd, 1)] = true := by decide +kernel
theorem dkL_law_25 : dkq cL_law [(650, .iaload, 1), (651, .aload_n 0, 1), (652, .iload_n 3, 1), (653, .iconst 2, 1), (654, .iadd, 1), (655, .iaload, 1), (656, .aload_n 0, 1), (657, .iload_n 3, 1), (658, .iconst 3, 1), (659, .iadd, 1), (660, .iaload, 1), (661, .invokevirtual 75, 3), (664, .pop, 1), (665, .goto 608, 3), (668, .aload_n 1, 1), (669, .aload_n 0, 1)] = true := by decide +kernel
theorem dkL_law_26 : dkq cL_law [(670, .iload_n 3, 1), (671, .iconst 1, 1), (672, .iadd, 1), (673, .iaload, 1), (674, .aload_n 0, 1), (675, .iload_n 3, 1), (676, .iconst 2, 1), (677, .iadd, 1), (678, .iaload, 1), (679, .invokevirtual 76, 3), (682, .pop, 1), (683, .aload_n 2, 1), (684, .aload_n 0, 1), (685, .iload_n 3, 1), (686, .iconst 1, 1), (687, .iadd, 1)] = true := by decide +kernel
theorem dkL_law_27 : dkq cL_law [(688, .iaload, 1), (689, .aload_n 0, 1), (690, .iload_n 3, 1), (691, .iconst 2, 1), (692, .iadd, 1), (693, .iaload, 1), (694, .invokevirtual 80, 3), (697, .pop, 1), (698, .goto 575, 3), (701, .aload_n 1, 1), (702, .aload_n 0, 1), (703, .iload_n 3, 1), (704, .iconst 1, 1), (705, .iadd, 1), (706, .iaload, 1), (707, .aload_n 0, 1)] = true := by decide +kernel
theorem dkL_law_28 : dkq cL_law [(708, .iload_n 3, 1), (709, .iconst 2, 1), (710, .iadd, 1), (711, .iaload, 1), (712, .aload_n 0, 1), (713, .iload_n 3, 1), (714, .iconst 3, 1), (715, .iadd, 1), (716, .iaload, 1), (717, .invokevirtual 81, 3), (720, .pop, 1), (721, .aload_n 2, 1), (722, .aload_n 0, 1), (723, .iload_n 3, 1), (724, .iconst 1, 1), (725, .iadd, 1)] = true := by decide +kernel
theorem dkL_law_29 : dkq cL_law [(726, .iaload, 1), (727, .aload_n 0, 1), (728, .iload_n 3, 1), (729, .iconst 2, 1), (730, .iadd, 1), (731, .iaload, 1), (732, .aload_n 0, 1), (733, .iload_n 3, 1), (734, .iconst 3, 1), (735, .iadd, 1), (736, .iaload, 1), (737, .invokevirtual 84, 3), (740, .pop, 1), (741, .goto 532, 3), (744, .aload_n 1, 1), (745, .aload_n 0, 1)] = true := by decide +kernel
theorem dkL_law_30 : dkq cL_law [(746, .iload_n 3, 1), (747, .iconst 1, 1), (748, .iadd, 1), (749, .iaload, 1), (750, .invokevirtual 85, 3), (753, .pop, 1), (754, .aload_n 2, 1), (755, .aload_n 0, 1), (756, .iload_n 3, 1), (757, .iconst 1, 1), (758, .iadd, 1), (759, .iaload, 1), (760, .invokevirtual 88, 3), (763, .pop, 1), (764, .goto 509, 3), (767, .aload_n 1, 1)] = true := by decide +kernel
theorem dkL_law_31 : dkq cL_law [(768, .invokevirtual 89, 3), (771, .pop, 1), (772, .aload_n 2, 1), (773, .invokevirtual 92, 3), (776, .pop, 1), (777, .goto 496, 3), (780, .aload_n 1, 1), (781, .aload_n 0, 1), (782, .iload_n 3, 1), (783, .iconst 1, 1), (784, .iadd, 1), (785, .iaload, 1), (786, .aload_n 0, 1), (787, .iload_n 3, 1), (788, .iconst 2, 1), (789, .iadd, 1)] = true := by decide +kernel
theorem dkL_law_32 : dkq cL_law [(790, .iaload, 1), (791, .invokevirtual 93, 3), (794, .pop, 1), (795, .aload_n 2, 1), (796, .aload_n 0, 1), (797, .iload_n 3, 1), (798, .iconst 1, 1), (799, .iadd, 1), (800, .iaload, 1), (801, .aload_n 0, 1), (802, .iload_n 3, 1), (803, .iconst 2, 1), (804, .iadd, 1), (805, .iaload, 1), (806, .invokevirtual 96, 3), (809, .pop, 1)] = true := by decide +kernel
theorem dkL_law_33 : dkq cL_law [(810, .goto 463, 3), (813, .aload_n 1, 1), (814, .aload_n 0, 1), (815, .iload_n 3, 1), (816, .iconst 1, 1), (817, .iadd, 1), (818, .iaload, 1), (819, .aload_n 0, 1), (820, .iload_n 3, 1), (821, .iconst 2, 1), (822, .iadd, 1), (823, .iaload, 1), (824, .invokevirtual 97, 3), (827, .pop, 1), (828, .aload_n 2, 1), (829, .aload_n 0, 1)] = true := by decide +kernel
theorem dkL_law_34 : dkq cL_law [(830, .iload_n 3, 1), (831, .iconst 1, 1), (832, .iadd, 1), (833, .iaload, 1), (834, .aload_n 0, 1), (835, .iload_n 3, 1), (836, .iconst 2, 1), (837, .iadd, 1), (838, .iaload, 1), (839, .invokevirtual 100, 3), (842, .pop, 1), (843, .goto 430, 3), (846, .aload_n 1, 1), (847, .aload_n 0, 1), (848, .iload_n 3, 1), (849, .iconst 1, 1)] = true := by decide +kernel
theorem dkL_law_35 : dkq cL_law [(850, .iadd, 1), (851, .iaload, 1), (852, .invokevirtual 101, 3), (855, .pop, 1), (856, .aload_n 2, 1), (857, .aload_n 0, 1), (858, .iload_n 3, 1), (859, .iconst 1, 1), (860, .iadd, 1), (861, .iaload, 1), (862, .invokevirtual 104, 3), (865, .pop, 1), (866, .goto 407, 3), (869, .aload_n 1, 1), (870, .aload_n 0, 1), (871, .iload_n 3, 1)] = true := by decide +kernel
theorem dkL_law_36 : dkq cL_law [(872, .iconst 1, 1), (873, .iadd, 1), (874, .iaload, 1), (875, .aload_n 0, 1), (876, .iload_n 3, 1), (877, .iconst 2, 1), (878, .iadd, 1), (879, .iaload, 1), (880, .aload_n 0, 1), (881, .iload_n 3, 1), (882, .iconst 3, 1), (883, .iadd, 1), (884, .iaload, 1), (885, .invokevirtual 105, 3), (888, .pop, 1), (889, .aload_n 2, 1)] = true := by decide +kernel
theorem dkL_law_37 : dkq cL_law [(890, .aload_n 0, 1), (891, .iload_n 3, 1), (892, .iconst 1, 1), (893, .iadd, 1), (894, .iaload, 1), (895, .aload_n 0, 1), (896, .iload_n 3, 1), (897, .iconst 2, 1), (898, .iadd, 1), (899, .iaload, 1), (900, .aload_n 0, 1), (901, .iload_n 3, 1)] = true := by decide +kernel
theorem dkL_law_38 : dkq cL_law [(902, .iconst 3, 1), (903, .iadd, 1), (904, .iaload, 1), (905, .invokevirtual 108, 3), (908, .pop, 1), (909, .goto 364, 3), (912, .aload_n 1, 1), (913, .invokevirtual 109, 3), (916, .pop, 1), (917, .aload_n 2, 1), (918, .invokevirtual 112, 3), (921, .pop, 1), (922, .goto 351, 3), (925, .aload_n 1, 1), (926, .aload_n 0, 1), (927, .iload_n 3, 1)] = true := by decide +kernel
theorem dkL_law_39 : dkq cL_law [(928, .iconst 1, 1), (929, .iadd, 1), (930, .iaload, 1), (931, .aload_n 0, 1), (932, .iload_n 3, 1), (933, .iconst 2, 1), (934, .iadd, 1), (935, .iaload, 1), (936, .invokevirtual 113, 3), (939, .pop, 1), (940, .aload_n 2, 1), (941, .aload_n 0, 1), (942, .iload_n 3, 1), (943, .iconst 1, 1), (944, .iadd, 1), (945, .iaload, 1)] = true := by decide +kernel
theorem dkL_law_40 : dkq cL_law [(946, .aload_n 0, 1), (947, .iload_n 3, 1), (948, .iconst 2, 1), (949, .iadd, 1), (950, .iaload, 1), (951, .invokevirtual 116, 3), (954, .pop, 1), (955, .goto 318, 3), (958, .aload_n 1, 1), (959, .aload_n 0, 1), (960, .iload_n 3, 1), (961, .iconst 1, 1), (962, .iadd, 1), (963, .iaload, 1), (964, .aload_n 0, 1), (965, .iload_n 3, 1)] = true := by decide +kernel
theorem dkL_law_41 : dkq cL_law [(966, .iconst 2, 1), (967, .iadd, 1), (968, .iaload, 1), (969, .invokevirtual 117, 3), (972, .pop, 1), (973, .aload_n 2, 1), (974, .aload_n 0, 1), (975, .iload_n 3, 1), (976, .iconst 1, 1), (977, .iadd, 1), (978, .iaload, 1), (979, .aload_n 0, 1), (980, .iload_n 3, 1), (981, .iconst 2, 1), (982, .iadd, 1), (983, .iaload, 1)] = true := by decide +kernel
theorem dkL_law_42 : dkq cL_law [(984, .invokevirtual 120, 3), (987, .pop, 1), (988, .goto 285, 3), (991, .aload_n 1, 1), (992, .aload_n 0, 1), (993, .iload_n 3, 1), (994, .iconst 1, 1), (995, .iadd, 1), (996, .iaload, 1), (997, .invokevirtual 121, 3), (1000, .pop, 1), (1001, .aload_n 2, 1), (1002, .aload_n 0, 1), (1003, .iload_n 3, 1), (1004, .iconst 1, 1), (1005, .iadd, 1)] = true := by decide +kernel
theorem dkL_law_43 : dkq cL_law [(1006, .iaload, 1), (1007, .invokevirtual 124, 3), (1010, .pop, 1), (1011, .goto 262, 3), (1014, .aload_n 1, 1), (1015, .aload_n 0, 1), (1016, .iload_n 3, 1), (1017, .iconst 1, 1), (1018, .iadd, 1), (1019, .iaload, 1), (1020, .invokevirtual 125, 3), (1023, .aload_n 2, 1), (1024, .aload_n 0, 1), (1025, .iload_n 3, 1), (1026, .iconst 1, 1), (1027, .iadd, 1)] = true := by decide +kernel
theorem dkL_law_44 : dkq cL_law [(1028, .iaload, 1), (1029, .invokevirtual 128, 3), (1032, .if_icmp .eq 241, 3), (1037, .aload_n 1, 1), (1038, .aload_n 0, 1), (1039, .iload_n 3, 1), (1040, .iconst 1, 1), (1041, .iadd, 1), (1042, .iaload, 1), (1043, .invokevirtual 129, 3), (1046, .pop, 1), (1047, .aload_n 2, 1), (1048, .aload_n 0, 1), (1049, .iload_n 3, 1), (1050, .iconst 1, 1), (1051, .iadd, 1)] = true := by decide +kernel
theorem dkL_law_45 : dkq cL_law [(1052, .iaload, 1), (1053, .invokevirtual 132, 3), (1056, .pop, 1), (1057, .goto 216, 3), (1060, .aload_n 1, 1), (1061, .aload_n 0, 1), (1062, .iload_n 3, 1), (1063, .iconst 1, 1), (1064, .iadd, 1), (1065, .iaload, 1), (1066, .aload_n 0, 1), (1067, .iload_n 3, 1), (1068, .iconst 2, 1), (1069, .iadd, 1), (1070, .iaload, 1), (1071, .ifCond .eq 7, 3)] = true := by decide +kernel
theorem dkL_law_46 : dkq cL_law [(1074, .iconst 1, 1), (1075, .goto 4, 3), (1078, .iconst 0, 1), (1079, .invokevirtual 133, 3), (1082, .pop, 1), (1083, .aload_n 2, 1), (1084, .aload_n 0, 1), (1085, .iload_n 3, 1), (1086, .iconst 1, 1), (1087, .iadd, 1), (1088, .iaload, 1), (1089, .aload_n 0, 1), (1090, .iload_n 3, 1), (1091, .iconst 2, 1), (1092, .iadd, 1), (1093, .iaload, 1)] = true := by decide +kernel
theorem dkL_law_47 : dkq cL_law [(1094, .ifCond .eq 7, 3), (1097, .iconst 1, 1), (1098, .goto 4, 3), (1101, .iconst 0, 1), (1102, .invokevirtual 137, 3), (1105, .pop, 1), (1106, .goto 167, 3), (1109, .aload_n 1, 1), (1110, .aload_n 0, 1), (1111, .iload_n 3, 1), (1112, .iconst 1, 1), (1113, .iadd, 1), (1114, .iaload, 1), (1115, .invokevirtual 138, 3), (1118, .pop, 1), (1119, .aload_n 2, 1)] = true := by decide +kernel
theorem dkL_law_48 : dkq cL_law [(1120, .aload_n 0, 1), (1121, .iload_n 3, 1), (1122, .iconst 1, 1), (1123, .iadd, 1), (1124, .iaload, 1), (1125, .invokevirtual 141, 3), (1128, .pop, 1), (1129, .goto 144, 3), (1132, .aload_n 1, 1), (1133, .aload_n 0, 1), (1134, .iload_n 3, 1), (1135, .iconst 1, 1), (1136, .iadd, 1), (1137, .iaload, 1), (1138, .invokevirtual 142, 3), (1141, .pop, 1)] = true := by decide +kernel
theorem dkL_law_49 : dkq cL_law [(1142, .aload_n 2, 1), (1143, .aload_n 0, 1), (1144, .iload_n 3, 1), (1145, .iconst 1, 1), (1146, .iadd, 1), (1147, .iaload, 1), (1148, .invokevirtual 145, 3), (1151, .pop, 1), (1152, .goto 121, 3), (1155, .aload_n 1, 1), (1156, .invokevirtual 146, 3), (1159, .pop, 1), (1160, .aload_n 2, 1), (1161, .invokevirtual 149, 3), (1164, .pop, 1), (1165, .goto 108, 3)] = true := by decide +kernel
theorem dkL_law_50 : dkq cL_law [(1168, .aload_n 1, 1), (1169, .aload_n 0, 1), (1170, .iload_n 3, 1), (1171, .iconst 1, 1), (1172, .iadd, 1), (1173, .iaload, 1), (1174, .aload_n 0, 1), (1175, .iload_n 3, 1), (1176, .iconst 2, 1), (1177, .iadd, 1), (1178, .iaload, 1), (1179, .invokevirtual 150, 3), (1182, .pop, 1), (1183, .aload_n 2, 1), (1184, .aload_n 0, 1), (1185, .iload_n 3, 1)] = true := by decide +kernel
theorem dkL_law_51 : dkq cL_law [(1186, .iconst 1, 1), (1187, .iadd, 1), (1188, .iaload, 1), (1189, .aload_n 0, 1), (1190, .iload_n 3, 1), (1191, .iconst 2, 1), (1192, .iadd, 1), (1193, .iaload, 1), (1194, .invokevirtual 153, 3), (1197, .pop, 1), (1198, .goto 75, 3), (1201, .aload_n 1, 1), (1202, .invokevirtual 154, 3), (1205, .pop, 1), (1206, .aload_n 2, 1), (1207, .invokevirtual 157, 3)] = true := by decide +kernel
theorem dkL_law_52 : dkq cL_law [(1210, .pop, 1), (1211, .goto 62, 3), (1214, .aload_n 1, 1), (1215, .aload_n 0, 1), (1216, .iload_n 3, 1), (1217, .iconst 1, 1), (1218, .iadd, 1), (1219, .iaload, 1), (1220, .invokevirtual 158, 3), (1223, .pop, 1), (1224, .aload_n 2, 1), (1225, .aload_n 0, 1), (1226, .iload_n 3, 1), (1227, .iconst 1, 1), (1228, .iadd, 1), (1229, .iaload, 1)] = true := by decide +kernel
theorem dkL_law_53 : dkq cL_law [(1230, .invokevirtual 161, 3), (1233, .pop, 1), (1234, .goto 39, 3), (1237, .aload_n 1, 1), (1238, .invokevirtual 162, 3), (1241, .pop, 1), (1242, .aload_n 2, 1), (1243, .invokevirtual 166, 3), (1246, .pop, 1), (1247, .goto 26, 3), (1250, .aload_n 1, 1), (1251, .aload_n 0, 1), (1252, .iload_n 3, 1), (1253, .iconst 1, 1), (1254, .iadd, 1), (1255, .iaload, 1)] = true := by decide +kernel
theorem dkL_law_54 : dkq cL_law [(1256, .invokevirtual 167, 3), (1259, .pop, 1), (1260, .aload_n 2, 1), (1261, .aload_n 0, 1), (1262, .iload_n 3, 1), (1263, .iconst 1, 1), (1264, .iadd, 1), (1265, .iaload, 1), (1266, .invokevirtual 170, 3), (1269, .pop, 1), (1270, .goto 3, 3), (1273, .iinc 3 6, 3), (1276, .goto (-1258), 3), (1279, .iconst 1, 1), (1280, .ireturn, 1)] = true := by decide +kernel
def LJ (B A : St) : Prop := IK B ∧ IM A ∧ CI A ∧ WI A ∧ B 1 1 = A 0 1 ∧ TB B A ∧ OW B ∧ PSs B A ∧ TRn B A
def LF (dC : Nat → ClassId) (dI : Nat → Nat → Nat) (cB cI cJ cZ cQ : ClassId) (aL aS : Nat) (q r : Nat → Nat) (s : State) : Prop := va_K (dC, dI) vwCl (tyA cB cI cJ cZ cQ) s ∧ (∀ B, va_D (fun b : Nat => s.heap.size ≤ b) (WK cB cI cJ cZ cQ q B)) ∧ (∀ A, va_D (fun b : Nat => s.heap.size ≤ b) (WM cI cJ cZ r A)) ∧ (∀ B A, wapart (WK cB cI cJ cZ cQ q B) (WM cI cJ cZ r A)) ∧ exK aL aS (fun b : Nat => s.heap.size ≤ b) s
def LW (dC : Nat → ClassId) (dI : Nat → Nat → Nat) (cB cI cJ cZ cQ : ClassId) (q r : Nat → Nat) (s : State) (B A : St) (H : Heap) (locs : List Loc) : Prop := va_P (dC, dI) vwCl (WK cB cI cJ cZ cQ q B) H ∧ va_P (dC, dI) vwCl (WM cI cJ cZ r A) H ∧ va_S (fun b : Nat => s.heap.size ≤ b) s.heap H locs
set_option maxRecDepth 100000 in
theorem gl_0_0 : GoodIn lw_tbl (wsV RL 13 RX11 yX11_feed ws_kc_X11_feed) := goodVL lt_WY wy_good (t_in_2 _ (List.mem_of_getElem? (i := 231) rfl)) (t_in_2 _ (List.mem_of_getElem? (i := 232) rfl)) (t_in_2 _ (List.mem_of_getElem? (i := 233) rfl)) (t_in_1 _ (List.mem_of_getElem? (i := 1) rfl)) (t_in_2 _ (List.mem_of_getElem? (i := 234) rfl)) (by decide +kernel)
set_option maxRecDepth 100000 in
theorem gl_0_1 : GoodIn lw_tbl (wsV RL 17 RX12 yX12_feed ws_mc_X12_feed) := goodVL lt_WX wx_good (t_in_7 _ (List.mem_of_getElem? (i := 32) rfl)) (t_in_7 _ (List.mem_of_getElem? (i := 33) rfl)) (t_in_7 _ (List.mem_of_getElem? (i := 34) rfl)) (t_in_1 _ (List.mem_of_getElem? (i := 17) rfl)) (t_in_7 _ (List.mem_of_getElem? (i := 35) rfl)) (by decide +kernel)
set_option maxHeartbeats 4000000 in
set_option maxRecDepth 100000 in
theorem law_case_0 {p : Program} {e : Env} {s : State} {m : MethodId} {below : List Frame} {meth : Method} {c : Code} (l : Launch) {b L : Nat} {xs : Nat → Int32} (C0 : lw_At p s m meth c b L xs) (hL : L ≤ 3072) (dC : Nat → ClassId) (dI : Nat → Nat → Nat) (cB cI cJ cZ cQ : ClassId) (aL aS : Nat) (q r : Nat → Nat) (F : LF dC dI cB cI cJ cZ cQ aL aS q r s) {B A : St} {i : Int} (hi : 0 ≤ i ∧ i + 6 ≤ L) (hJ : LJ B A) {H : Heap} {locs : List Loc} {cells slots : Nat} {ls : Array Slot} (hcs : cells ≤ room_1.cells ∧ slots ≤ room_1.slots) (hW : LW dC dI cB cI cJ cZ cQ q r s B A H locs) (hl : lv_has ls 4 [(0, .ref b), (1, .ref (q 0)), (2, .ref (r 0)), (3, .int (iI i))]) (k : ∀ (B A : St) (H : Heap) (locs : List Loc) (ls : Array Slot), LJ B A → LW dC dI cB cI cJ cZ cQ q r s B A H locs → lv_has ls 4 [(0, .ref b), (1, .ref (q 0)), (2, .ref (r 0)), (3, .int (iI i))] → W p l e room_1 s m #[Value.ref b] below meth c H locs cells slots (lw_Z below #[Value.ref b] s) (F0 m 1273 ls [])) : W p l e room_1 s m #[Value.ref b] below meth c H locs cells slots (lw_Z below #[Value.ref b] s) (F0 m 196 ls []) := by
  obtain ⟨hx, hb, hr, hml, hown, hts, hX, hbl, hlocks, hgv⟩ := id C0
  obtain ⟨hK, hDK, hDM, hap, hE⟩ := F
  obtain ⟨hPK, hPM, hS⟩ := hW
  obtain ⟨hIK, hIM, hcCI, hcWI, hJ, hTB, hOW, hPS, hTR⟩ := hJ
  have hIK0 := hIK
  have hIM0 := hIM
  have r01 : (0 : Int) ≤ A 0 1 := (hIM 0 1).1
  have hbA : ¬ (fun b : Nat => s.heap.size ≤ b) b := Nat.not_le.mpr hbl
  have hA0 : ∀ b : Nat, s.heap.size ≤ b → (fun b : Nat => s.heap.size ≤ b) b := fun _ h => h
  refine lv_aload_n hx hb (dk_at dkL_law_1 6 rfl) rfl (lv_at hl 1 rfl) ?_
  refine lv_aload_n hx hb (dk_at dkL_law_1 7 rfl) rfl (lv_at hl 0 rfl) ?_
  refine lv_iload_n hx hb (dk_at dkL_law_1 8 rfl) rfl (lv_at hl 3 rfl) ?_
  refine lv_iconst (v := iI 1) hx hb (dk_at dkL_law_1 9 rfl) (by decide +kernel) ?_
  refine x_addv (v := i + 1) hx hb (dk_at dkL_law_1 10 rfl) rfl ?_
  refine x_sld (i := i + 1) hx hb hX hbl hbA hS hL (by omega) (dk_at dkL_law_1 11 rfl) ?_
  refine lv_aload_n hx hb (dk_at dkL_law_1 12 rfl) rfl (lv_at hl 0 rfl) ?_
  refine lv_iload_n hx hb (dk_at dkL_law_1 13 rfl) rfl (lv_at hl 3 rfl) ?_
  refine lv_iconst (v := iI 2) hx hb (dk_at dkL_law_1 14 rfl) (by decide +kernel) ?_
  refine x_addv (v := i + 2) hx hb (dk_at dkL_law_1 15 rfl) rfl ?_
  refine x_sld (i := i + 2) hx hb hX hbl hbA hS hL (by omega) (dk_at dkL_law_2 0 rfl) ?_
  refine lv_aload_n hx hb (dk_at dkL_law_2 1 rfl) rfl (lv_at hl 0 rfl) ?_
  refine lv_iload_n hx hb (dk_at dkL_law_2 2 rfl) rfl (lv_at hl 3 rfl) ?_
  refine lv_iconst (v := iI 3) hx hb (dk_at dkL_law_2 3 rfl) (by decide +kernel) ?_
  refine x_addv (v := i + 3) hx hb (dk_at dkL_law_2 4 rfl) rfl ?_
  refine x_sld (i := i + 3) hx hb hX hbl hbA hS hL (by omega) (dk_at dkL_law_2 5 rfl) ?_
  refine lv_aload_n hx hb (dk_at dkL_law_2 6 rfl) rfl (lv_at hl 0 rfl) ?_
  refine lv_iload_n hx hb (dk_at dkL_law_2 7 rfl) rfl (lv_at hl 3 rfl) ?_
  refine lv_iconst (v := iI 4) hx hb (dk_at dkL_law_2 8 rfl) (by decide +kernel) ?_
  refine x_addv (v := i + 4) hx hb (dk_at dkL_law_2 9 rfl) rfl ?_
  refine x_sld (i := i + 4) hx hb hX hbl hbA hS hL (by omega) (dk_at dkL_law_2 10 rfl) ?_
  refine lv_aload_n hx hb (dk_at dkL_law_2 11 rfl) rfl (lv_at hl 0 rfl) ?_
  refine lv_iload_n hx hb (dk_at dkL_law_2 12 rfl) rfl (lv_at hl 3 rfl) ?_
  refine lv_iconst (v := iI 5) hx hb (dk_at dkL_law_2 13 rfl) (by decide +kernel) ?_
  refine x_addv (v := i + 5) hx hb (dk_at dkL_law_2 14 rfl) rfl ?_
  refine x_sld (i := i + 5) hx hb hX hbl hbA hS hL (by omega) (dk_at dkL_law_2 15 rfl) ?_
  refine l_callK (As := [.int (iI (sx xs (i + 1))), .int (iI (sx xs (i + 2))), .int (iI (sx xs (i + 3))), .int (iI (sx xs (i + 4))), .int (iI (sx xs (i + 5)))]) (rest := []) (Wo := WM cI cJ cZ r A) ⟨hx, hb, hml, hown, hts⟩ hE (kc_X11_feed l dC dI cB cI cJ cZ cQ aL aS q B (sx xs (i + 1)) (sx xs (i + 2)) (sx xs (i + 3)) (sx xs (i + 4)) (sx xs (i + 5)) hIK (sx_r xs _) (sx_r xs _) (sx_r xs _) (sx_r xs _) (sx_r xs _)) (cwV 5 hts gl_0_0 rfl rfl rfl (by decide +kernel) ⟨Nat.le_of_ble_eq_true rfl, Nat.le_of_ble_eq_true rfl⟩) hK hDK hA0 hPK hPM (hap B A) hS 0 11 wkK rfl rfl hl.1 (Nat.le_of_ble_eq_true rfl) hcs (dk_at dkL_law_3 0 rfl) (fun z1 B2 H locs hw1 hPK hPM hS => ?_)
  obtain ⟨hr1, hIK, hf1, hw1⟩ := hw1
  refine lv_pop hx hb (dk_at dkL_law_3 1 rfl) rfl ?_
  refine lv_aload_n hx hb (dk_at dkL_law_3 2 rfl) rfl (lv_at hl 2 rfl) ?_
  refine lv_aload_n hx hb (dk_at dkL_law_3 3 rfl) rfl (lv_at hl 0 rfl) ?_
  refine lv_iload_n hx hb (dk_at dkL_law_3 4 rfl) rfl (lv_at hl 3 rfl) ?_
  refine lv_iconst (v := iI 1) hx hb (dk_at dkL_law_3 5 rfl) (by decide +kernel) ?_
  refine x_addv (v := i + 1) hx hb (dk_at dkL_law_3 6 rfl) rfl ?_
  refine x_sld (i := i + 1) hx hb hX hbl hbA hS hL (by omega) (dk_at dkL_law_3 7 rfl) ?_
  refine lv_aload_n hx hb (dk_at dkL_law_3 8 rfl) rfl (lv_at hl 0 rfl) ?_
  refine lv_iload_n hx hb (dk_at dkL_law_3 9 rfl) rfl (lv_at hl 3 rfl) ?_
  refine lv_iconst (v := iI 2) hx hb (dk_at dkL_law_3 10 rfl) (by decide +kernel) ?_
  refine x_addv (v := i + 2) hx hb (dk_at dkL_law_3 11 rfl) rfl ?_
  refine x_sld (i := i + 2) hx hb hX hbl hbA hS hL (by omega) (dk_at dkL_law_3 12 rfl) ?_
  refine lv_aload_n hx hb (dk_at dkL_law_3 13 rfl) rfl (lv_at hl 0 rfl) ?_
  refine lv_iload_n hx hb (dk_at dkL_law_3 14 rfl) rfl (lv_at hl 3 rfl) ?_
  refine lv_iconst (v := iI 3) hx hb (dk_at dkL_law_3 15 rfl) (by decide +kernel) ?_
  refine x_addv (v := i + 3) hx hb (dk_at dkL_law_4 0 rfl) rfl ?_
  refine x_sld (i := i + 3) hx hb hX hbl hbA hS hL (by omega) (dk_at dkL_law_4 1 rfl) ?_
  refine lv_aload_n hx hb (dk_at dkL_law_4 2 rfl) rfl (lv_at hl 0 rfl) ?_
  refine lv_iload_n hx hb (dk_at dkL_law_4 3 rfl) rfl (lv_at hl 3 rfl) ?_
  refine lv_iconst (v := iI 4) hx hb (dk_at dkL_law_4 4 rfl) (by decide +kernel) ?_
  refine x_addv (v := i + 4) hx hb (dk_at dkL_law_4 5 rfl) rfl ?_
  refine x_sld (i := i + 4) hx hb hX hbl hbA hS hL (by omega) (dk_at dkL_law_4 6 rfl) ?_
  refine lv_aload_n hx hb (dk_at dkL_law_4 7 rfl) rfl (lv_at hl 0 rfl) ?_
  refine lv_iload_n hx hb (dk_at dkL_law_4 8 rfl) rfl (lv_at hl 3 rfl) ?_
  refine lv_iconst (v := iI 5) hx hb (dk_at dkL_law_4 9 rfl) (by decide +kernel) ?_
  refine x_addv (v := i + 5) hx hb (dk_at dkL_law_4 10 rfl) rfl ?_
  refine x_sld (i := i + 5) hx hb hX hbl hbA hS hL (by omega) (dk_at dkL_law_4 11 rfl) ?_
  refine l_callX (As := [.int (iI (sx xs (i + 1))), .int (iI (sx xs (i + 2))), .int (iI (sx xs (i + 3))), .int (iI (sx xs (i + 4))), .int (iI (sx xs (i + 5)))]) (rest := []) (Wo := WK cB cI cJ cZ cQ q B2) ⟨hx, hb, hml, hown, hts⟩ (mc_X12_feed l dC dI cB cI cJ cZ cQ r A (sx xs (i + 1)) (sx xs (i + 2)) (sx xs (i + 3)) (sx xs (i + 4)) (sx xs (i + 5)) hIM (sx_r xs _) (sx_r xs _) (sx_r xs _) (sx_r xs _) (sx_r xs _)) (cwV 5 hts gl_0_1 rfl rfl rfl (by decide +kernel) ⟨Nat.le_of_ble_eq_true rfl, Nat.le_of_ble_eq_true rfl⟩) hK hDM hA0 hPM hPK (hap B2 A).sym hS 0 12 wm0 rfl rfl hl.1 (Nat.le_of_ble_eq_true rfl) hcs (dk_at dkL_law_4 12 rfl) (fun z2 A2 H locs hw2 hPM hPK hS => ?_)
  have hq2 := hw2
  obtain ⟨hr2, hIM, hf2, hw2⟩ := hw2
  have hcCI : CI A2 := CI.fr hcCI hf2 rfl rfl
  have hcWI : WI A2 := WI.fr hcWI hf2 rfl rfl
  refine lv_pop hx hb (dk_at dkL_law_4 13 rfl) rfl ?_
  refine lv_goto (tgt := 1273) hx hb (dk_at dkL_law_4 14 rfl) (by decide) ?_
  exact k _ _ _ _ _ ⟨hIK, hIM, hcCI, hcWI, by omega, feed_tb hTB hJ hr1 hr2, (fun k hk => (hf1 4 k rfl rfl).trans (hOW k hk)), PSs.fr hIK0 hPS hf1 rfl rfl hf2 rfl rfl, ((hf1 22 4 rfl rfl).trans (hTR.trans (hf2.2 75 rfl).symm))⟩ ⟨hPK, hPM, hS⟩ hl
set_option maxRecDepth 100000 in
theorem gl_1_0 : GoodIn lw_tbl (wsV RL 18 RX11 yX11_end ws_kc_X11_end) := goodVL lt_WY wy_good (t_in_3 _ (List.mem_of_getElem? (i := 7) rfl)) (t_in_3 _ (List.mem_of_getElem? (i := 8) rfl)) (t_in_3 _ (List.mem_of_getElem? (i := 9) rfl)) (t_in_1 _ (List.mem_of_getElem? (i := 1) rfl)) (t_in_3 _ (List.mem_of_getElem? (i := 10) rfl)) (by decide +kernel)
set_option maxRecDepth 100000 in
theorem gl_1_1 : GoodIn lw_tbl (wsV RL 22 RX12 yX12_end ws_mc_X12_end) := goodVL lt_WX wx_good (t_in_7 _ (List.mem_of_getElem? (i := 44) rfl)) (t_in_7 _ (List.mem_of_getElem? (i := 45) rfl)) (t_in_7 _ (List.mem_of_getElem? (i := 46) rfl)) (t_in_1 _ (List.mem_of_getElem? (i := 17) rfl)) (t_in_7 _ (List.mem_of_getElem? (i := 47) rfl)) (by decide +kernel)
set_option maxHeartbeats 4000000 in
set_option maxRecDepth 100000 in
theorem law_case_1 {p : Program} {e : Env} {s : State} {m : MethodId} {below : List Frame} {meth : Method} {c : Code} (l : Launch) {b L : Nat} {xs : Nat → Int32} (C0 : lw_At p s m meth c b L xs) (hL : L ≤ 3072) (dC : Nat → ClassId) (dI : Nat → Nat → Nat) (cB cI cJ cZ cQ : ClassId) (aL aS : Nat) (q r : Nat → Nat) (F : LF dC dI cB cI cJ cZ cQ aL aS q r s) {B A : St} {i : Int} (hi : 0 ≤ i ∧ i + 6 ≤ L) (hJ : LJ B A) {H : Heap} {locs : List Loc} {cells slots : Nat} {ls : Array Slot} (hcs : cells ≤ room_1.cells ∧ slots ≤ room_1.slots) (hW : LW dC dI cB cI cJ cZ cQ q r s B A H locs) (hl : lv_has ls 4 [(0, .ref b), (1, .ref (q 0)), (2, .ref (r 0)), (3, .int (iI i))]) (k : ∀ (B A : St) (H : Heap) (locs : List Loc) (ls : Array Slot), LJ B A → LW dC dI cB cI cJ cZ cQ q r s B A H locs → lv_has ls 4 [(0, .ref b), (1, .ref (q 0)), (2, .ref (r 0)), (3, .int (iI i))] → W p l e room_1 s m #[Value.ref b] below meth c H locs cells slots (lw_Z below #[Value.ref b] s) (F0 m 1273 ls [])) : W p l e room_1 s m #[Value.ref b] below meth c H locs cells slots (lw_Z below #[Value.ref b] s) (F0 m 259 ls []) := by
  obtain ⟨hx, hb, hr, hml, hown, hts, hX, hbl, hlocks, hgv⟩ := id C0
  obtain ⟨hK, hDK, hDM, hap, hE⟩ := F
  obtain ⟨hPK, hPM, hS⟩ := hW
  obtain ⟨hIK, hIM, hcCI, hcWI, hJ, hTB, hOW, hPS, hTR⟩ := hJ
  have hIK0 := hIK
  have hIM0 := hIM
  have r01 : (0 : Int) ≤ A 0 1 := (hIM 0 1).1
  have hbA : ¬ (fun b : Nat => s.heap.size ≤ b) b := Nat.not_le.mpr hbl
  have hA0 : ∀ b : Nat, s.heap.size ≤ b → (fun b : Nat => s.heap.size ≤ b) b := fun _ h => h
  refine lv_aload_n hx hb (dk_at dkL_law_4 15 rfl) rfl (lv_at hl 1 rfl) ?_
  refine lv_aload_n hx hb (dk_at dkL_law_5 0 rfl) rfl (lv_at hl 0 rfl) ?_
  refine lv_iload_n hx hb (dk_at dkL_law_5 1 rfl) rfl (lv_at hl 3 rfl) ?_
  refine lv_iconst (v := iI 1) hx hb (dk_at dkL_law_5 2 rfl) (by decide +kernel) ?_
  refine x_addv (v := i + 1) hx hb (dk_at dkL_law_5 3 rfl) rfl ?_
  refine x_sld (i := i + 1) hx hb hX hbl hbA hS hL (by omega) (dk_at dkL_law_5 4 rfl) ?_
  refine l_callK (As := [.int (iI (sx xs (i + 1)))]) (rest := []) (Wo := WM cI cJ cZ r A) ⟨hx, hb, hml, hown, hts⟩ hE (kc_X11_end l dC dI cB cI cJ cZ cQ aL aS q B (sx xs (i + 1)) hIK (sx_r xs _)) (cwV 1 hts gl_1_0 rfl rfl rfl (by decide +kernel) ⟨Nat.le_of_ble_eq_true rfl, Nat.le_of_ble_eq_true rfl⟩) hK hDK hA0 hPK hPM (hap B A) hS 0 11 wkK rfl rfl hl.1 (Nat.le_of_ble_eq_true rfl) hcs (dk_at dkL_law_5 5 rfl) (fun z1 B2 H locs hw1 hPK hPM hS => ?_)
  obtain ⟨hr1, hIK, hf1, hw1⟩ := hw1
  refine lv_pop hx hb (dk_at dkL_law_5 6 rfl) rfl ?_
  refine lv_aload_n hx hb (dk_at dkL_law_5 7 rfl) rfl (lv_at hl 2 rfl) ?_
  refine lv_aload_n hx hb (dk_at dkL_law_5 8 rfl) rfl (lv_at hl 0 rfl) ?_
  refine lv_iload_n hx hb (dk_at dkL_law_5 9 rfl) rfl (lv_at hl 3 rfl) ?_
  refine lv_iconst (v := iI 1) hx hb (dk_at dkL_law_5 10 rfl) (by decide +kernel) ?_
  refine x_addv (v := i + 1) hx hb (dk_at dkL_law_5 11 rfl) rfl ?_
  refine x_sld (i := i + 1) hx hb hX hbl hbA hS hL (by omega) (dk_at dkL_law_5 12 rfl) ?_
  refine l_callX (As := [.int (iI (sx xs (i + 1)))]) (rest := []) (Wo := WK cB cI cJ cZ cQ q B2) ⟨hx, hb, hml, hown, hts⟩ (mc_X12_end l dC dI cB cI cJ cZ cQ r A (sx xs (i + 1)) hIM (sx_r xs _)) (cwV 1 hts gl_1_1 rfl rfl rfl (by decide +kernel) ⟨Nat.le_of_ble_eq_true rfl, Nat.le_of_ble_eq_true rfl⟩) hK hDM hA0 hPM hPK (hap B2 A).sym hS 0 12 wm0 rfl rfl hl.1 (Nat.le_of_ble_eq_true rfl) hcs (dk_at dkL_law_5 13 rfl) (fun z2 A2 H locs hw2 hPM hPK hS => ?_)
  have hq2 := hw2
  obtain ⟨hr2, hIM, hf2, hw2⟩ := hw2
  have hcCI : CI A2 := CI.fr hcCI hf2 rfl rfl
  have hcWI : WI A2 := WI.fr hcWI hf2 rfl rfl
  refine lv_pop hx hb (dk_at dkL_law_5 14 rfl) rfl ?_
  refine lv_goto (tgt := 1273) hx hb (dk_at dkL_law_5 15 rfl) (by decide) ?_
  exact k _ _ _ _ _ ⟨hIK, hIM, hcCI, hcWI, by omega, hTB.fr (fun k => hf1 2 k rfl rfl) (hf2.1 1 (by decide) rfl) (by omega), (fun k hk => (hf1 4 k rfl rfl).trans (hOW k hk)), PSs.fr hIK0 hPS hf1 rfl rfl hf2 rfl rfl, ((hf1 22 4 rfl rfl).trans (hTR.trans (hf2.2 75 rfl).symm))⟩ ⟨hPK, hPM, hS⟩ hl
set_option maxRecDepth 100000 in
theorem gl_2_0 : GoodIn lw_tbl (wsV RL 23 RX11 yX11_town ws_kc_X11_town) := goodVL lt_WY wy_good (t_in_3 _ (List.mem_of_getElem? (i := 11) rfl)) (t_in_3 _ (List.mem_of_getElem? (i := 12) rfl)) (t_in_3 _ (List.mem_of_getElem? (i := 13) rfl)) (t_in_1 _ (List.mem_of_getElem? (i := 1) rfl)) (t_in_3 _ (List.mem_of_getElem? (i := 14) rfl)) (by decide +kernel)
set_option maxRecDepth 100000 in
theorem gl_2_1 : GoodIn lw_tbl (wsV RL 27 RX12 yX12_town ws_mb_X12_town) := goodVL lt_WX wx_good (t_in_7 _ (List.mem_of_getElem? (i := 48) rfl)) (t_in_7 _ (List.mem_of_getElem? (i := 49) rfl)) (t_in_7 _ (List.mem_of_getElem? (i := 50) rfl)) (t_in_1 _ (List.mem_of_getElem? (i := 17) rfl)) (t_in_7 _ (List.mem_of_getElem? (i := 51) rfl)) (by decide +kernel)
set_option maxHeartbeats 4000000 in
set_option maxRecDepth 100000 in
theorem law_case_2 {p : Program} {e : Env} {s : State} {m : MethodId} {below : List Frame} {meth : Method} {c : Code} (l : Launch) {b L : Nat} {xs : Nat → Int32} (C0 : lw_At p s m meth c b L xs) (hL : L ≤ 3072) (dC : Nat → ClassId) (dI : Nat → Nat → Nat) (cB cI cJ cZ cQ : ClassId) (aL aS : Nat) (q r : Nat → Nat) (F : LF dC dI cB cI cJ cZ cQ aL aS q r s) {B A : St} {i : Int} (hi : 0 ≤ i ∧ i + 6 ≤ L) (hJ : LJ B A) {H : Heap} {locs : List Loc} {cells slots : Nat} {ls : Array Slot} (hcs : cells ≤ room_1.cells ∧ slots ≤ room_1.slots) (hW : LW dC dI cB cI cJ cZ cQ q r s B A H locs) (hl : lv_has ls 4 [(0, .ref b), (1, .ref (q 0)), (2, .ref (r 0)), (3, .int (iI i))]) (k : ∀ (B A : St) (H : Heap) (locs : List Loc) (ls : Array Slot), LJ B A → LW dC dI cB cI cJ cZ cQ q r s B A H locs → lv_has ls 4 [(0, .ref b), (1, .ref (q 0)), (2, .ref (r 0)), (3, .int (iI i))] → W p l e room_1 s m #[Value.ref b] below meth c H locs cells slots (lw_Z below #[Value.ref b] s) (F0 m 1273 ls [])) : W p l e room_1 s m #[Value.ref b] below meth c H locs cells slots (lw_Z below #[Value.ref b] s) (F0 m 282 ls []) := by
  obtain ⟨hx, hb, hr, hml, hown, hts, hX, hbl, hlocks, hgv⟩ := id C0
  obtain ⟨hK, hDK, hDM, hap, hE⟩ := F
  obtain ⟨hPK, hPM, hS⟩ := hW
  obtain ⟨hIK, hIM, hcCI, hcWI, hJ, hTB, hOW, hPS, hTR⟩ := hJ
  have hIK0 := hIK
  have hIM0 := hIM
  have r01 : (0 : Int) ≤ A 0 1 := (hIM 0 1).1
  have hbA : ¬ (fun b : Nat => s.heap.size ≤ b) b := Nat.not_le.mpr hbl
  have hA0 : ∀ b : Nat, s.heap.size ≤ b → (fun b : Nat => s.heap.size ≤ b) b := fun _ h => h
  refine lv_aload_n hx hb (dk_at dkL_law_6 0 rfl) rfl (lv_at hl 1 rfl) ?_
  refine l_callK (As := []) (rest := []) (Wo := WM cI cJ cZ r A) ⟨hx, hb, hml, hown, hts⟩ hE (kc_X11_town l dC dI cB cI cJ cZ cQ aL aS q B  hIK) (cwV 0 hts gl_2_0 rfl rfl rfl (by decide +kernel) ⟨Nat.le_of_ble_eq_true rfl, Nat.le_of_ble_eq_true rfl⟩) hK hDK hA0 hPK hPM (hap B A) hS 0 11 wkK rfl rfl hl.1 (Nat.le_of_ble_eq_true rfl) hcs (dk_at dkL_law_6 1 rfl) (fun z1 B2 H locs hw1 hPK hPM hS => ?_)
  obtain ⟨hr1, hIK, hf1, hw1⟩ := hw1
  refine lv_pop hx hb (dk_at dkL_law_6 2 rfl) rfl ?_
  refine lv_aload_n hx hb (dk_at dkL_law_6 3 rfl) rfl (lv_at hl 2 rfl) ?_
  refine l_callX (As := []) (rest := []) (Wo := WK cB cI cJ cZ cQ q B2) ⟨hx, hb, hml, hown, hts⟩ (mb_X12_town l dC dI cB cI cJ cZ cQ r A  hIM hcCI hcWI) (cwV 0 hts gl_2_1 rfl rfl rfl (by decide +kernel) ⟨Nat.le_of_ble_eq_true rfl, Nat.le_of_ble_eq_true rfl⟩) hK hDM hA0 hPM hPK (hap B2 A).sym hS 0 12 wm0 rfl rfl hl.1 (Nat.le_of_ble_eq_true rfl) hcs (dk_at dkL_law_6 4 rfl) (fun z2 A2 H locs hw2 hPM hPK hS => ?_)
  have hq2 := hw2
  obtain ⟨hr2, hIM, hf2, hcCI2, hcWI2, hw2⟩ := hw2
  have hcCI : CI A2 := hcCI2
  have hcWI : WI A2 := hcWI2
  have hpt := town_ps hIK0 hIM0 hJ hTB hOW hPS hTR hr1 hq2
  refine lv_pop hx hb (dk_at dkL_law_6 5 rfl) rfl ?_
  refine lv_goto (tgt := 1273) hx hb (dk_at dkL_law_6 6 rfl) (by decide) ?_
  exact k _ _ _ _ _ ⟨hIK, hIM, hcCI, hcWI, by omega, hTB.fr (fun k => hf1 2 k rfl rfl) (hf2.1 1 (by decide) rfl) (by omega), (fun k hk => (hf1 4 k rfl rfl).trans (hOW k hk)), hpt.1, hpt.2⟩ ⟨hPK, hPM, hS⟩ hl
set_option maxRecDepth 100000 in
theorem gl_3_0 : GoodIn lw_tbl (wsV RL 28 RX11 yX11_fault ws_kc_X11_fault) := goodVL lt_WY wy_good (t_in_3 _ (List.mem_of_getElem? (i := 239) rfl)) (t_in_4 _ (List.mem_of_getElem? (i := 0) rfl)) (t_in_4 _ (List.mem_of_getElem? (i := 1) rfl)) (t_in_1 _ (List.mem_of_getElem? (i := 1) rfl)) (t_in_4 _ (List.mem_of_getElem? (i := 2) rfl)) (by decide +kernel)
set_option maxRecDepth 100000 in
theorem gl_3_1 : GoodIn lw_tbl (wsV RL 32 RX12 yX12_fault ws_mc_X12_fault) := goodVL lt_WX wx_good (t_in_8 _ (List.mem_of_getElem? (i := 1) rfl)) (t_in_8 _ (List.mem_of_getElem? (i := 2) rfl)) (t_in_8 _ (List.mem_of_getElem? (i := 3) rfl)) (t_in_1 _ (List.mem_of_getElem? (i := 17) rfl)) (t_in_8 _ (List.mem_of_getElem? (i := 4) rfl)) (by decide +kernel)
set_option maxHeartbeats 4000000 in
set_option maxRecDepth 100000 in
theorem law_case_3 {p : Program} {e : Env} {s : State} {m : MethodId} {below : List Frame} {meth : Method} {c : Code} (l : Launch) {b L : Nat} {xs : Nat → Int32} (C0 : lw_At p s m meth c b L xs) (hL : L ≤ 3072) (dC : Nat → ClassId) (dI : Nat → Nat → Nat) (cB cI cJ cZ cQ : ClassId) (aL aS : Nat) (q r : Nat → Nat) (F : LF dC dI cB cI cJ cZ cQ aL aS q r s) {B A : St} {i : Int} (hi : 0 ≤ i ∧ i + 6 ≤ L) (hJ : LJ B A) {H : Heap} {locs : List Loc} {cells slots : Nat} {ls : Array Slot} (hcs : cells ≤ room_1.cells ∧ slots ≤ room_1.slots) (hW : LW dC dI cB cI cJ cZ cQ q r s B A H locs) (hl : lv_has ls 4 [(0, .ref b), (1, .ref (q 0)), (2, .ref (r 0)), (3, .int (iI i))]) (k : ∀ (B A : St) (H : Heap) (locs : List Loc) (ls : Array Slot), LJ B A → LW dC dI cB cI cJ cZ cQ q r s B A H locs → lv_has ls 4 [(0, .ref b), (1, .ref (q 0)), (2, .ref (r 0)), (3, .int (iI i))] → W p l e room_1 s m #[Value.ref b] below meth c H locs cells slots (lw_Z below #[Value.ref b] s) (F0 m 1273 ls [])) : W p l e room_1 s m #[Value.ref b] below meth c H locs cells slots (lw_Z below #[Value.ref b] s) (F0 m 295 ls []) := by
  obtain ⟨hx, hb, hr, hml, hown, hts, hX, hbl, hlocks, hgv⟩ := id C0
  obtain ⟨hK, hDK, hDM, hap, hE⟩ := F
  obtain ⟨hPK, hPM, hS⟩ := hW
  obtain ⟨hIK, hIM, hcCI, hcWI, hJ, hTB, hOW, hPS, hTR⟩ := hJ
  have hIK0 := hIK
  have hIM0 := hIM
  have r01 : (0 : Int) ≤ A 0 1 := (hIM 0 1).1
  have hbA : ¬ (fun b : Nat => s.heap.size ≤ b) b := Nat.not_le.mpr hbl
  have hA0 : ∀ b : Nat, s.heap.size ≤ b → (fun b : Nat => s.heap.size ≤ b) b := fun _ h => h
  refine lv_aload_n hx hb (dk_at dkL_law_6 7 rfl) rfl (lv_at hl 1 rfl) ?_
  refine lv_aload_n hx hb (dk_at dkL_law_6 8 rfl) rfl (lv_at hl 0 rfl) ?_
  refine lv_iload_n hx hb (dk_at dkL_law_6 9 rfl) rfl (lv_at hl 3 rfl) ?_
  refine lv_iconst (v := iI 1) hx hb (dk_at dkL_law_6 10 rfl) (by decide +kernel) ?_
  refine x_addv (v := i + 1) hx hb (dk_at dkL_law_6 11 rfl) rfl ?_
  refine x_sld (i := i + 1) hx hb hX hbl hbA hS hL (by omega) (dk_at dkL_law_6 12 rfl) ?_
  refine l_callK (As := [.int (iI (sx xs (i + 1)))]) (rest := []) (Wo := WM cI cJ cZ r A) ⟨hx, hb, hml, hown, hts⟩ hE (kc_X11_fault l dC dI cB cI cJ cZ cQ aL aS q B (sx xs (i + 1)) hIK (sx_r xs _)) (cwV 1 hts gl_3_0 rfl rfl rfl (by decide +kernel) ⟨Nat.le_of_ble_eq_true rfl, Nat.le_of_ble_eq_true rfl⟩) hK hDK hA0 hPK hPM (hap B A) hS 0 11 wkK rfl rfl hl.1 (Nat.le_of_ble_eq_true rfl) hcs (dk_at dkL_law_6 13 rfl) (fun z1 B2 H locs hw1 hPK hPM hS => ?_)
  obtain ⟨rfl, hr1, hw1⟩ := hw1
  refine lv_pop hx hb (dk_at dkL_law_6 14 rfl) rfl ?_
  refine lv_aload_n hx hb (dk_at dkL_law_6 15 rfl) rfl (lv_at hl 2 rfl) ?_
  refine lv_aload_n hx hb (dk_at dkL_law_7 0 rfl) rfl (lv_at hl 0 rfl) ?_
  refine lv_iload_n hx hb (dk_at dkL_law_7 1 rfl) rfl (lv_at hl 3 rfl) ?_
  refine lv_iconst (v := iI 1) hx hb (dk_at dkL_law_7 2 rfl) (by decide +kernel) ?_
  refine x_addv (v := i + 1) hx hb (dk_at dkL_law_7 3 rfl) rfl ?_
  refine x_sld (i := i + 1) hx hb hX hbl hbA hS hL (by omega) (dk_at dkL_law_7 4 rfl) ?_
  refine l_callX (As := [.int (iI (sx xs (i + 1)))]) (rest := []) (Wo := WK cB cI cJ cZ cQ q B) ⟨hx, hb, hml, hown, hts⟩ (mc_X12_fault l dC dI cB cI cJ cZ cQ r A (sx xs (i + 1)) hIM (sx_r xs _)) (cwV 1 hts gl_3_1 rfl rfl rfl (by decide +kernel) ⟨Nat.le_of_ble_eq_true rfl, Nat.le_of_ble_eq_true rfl⟩) hK hDM hA0 hPM hPK (hap B A).sym hS 0 12 wm0 rfl rfl hl.1 (Nat.le_of_ble_eq_true rfl) hcs (dk_at dkL_law_7 5 rfl) (fun z2 A2 H locs hw2 hPM hPK hS => ?_)
  have hq2 := hw2
  obtain ⟨rfl, hr2, hw2⟩ := hw2
  refine lv_pop hx hb (dk_at dkL_law_7 6 rfl) rfl ?_
  refine lv_goto (tgt := 1273) hx hb (dk_at dkL_law_7 7 rfl) (by decide) ?_
  exact k _ _ _ _ _ ⟨hIK, hIM, hcCI, hcWI, by omega, hTB, hOW, hPS, hTR⟩ ⟨hPK, hPM, hS⟩ hl
set_option maxRecDepth 100000 in
theorem gl_4_0 : GoodIn lw_tbl (wsV RL 33 RX11 yX11_has ws_kc_X11_has) := goodVL lt_WY wy_good (t_in_4 _ (List.mem_of_getElem? (i := 3) rfl)) (t_in_4 _ (List.mem_of_getElem? (i := 4) rfl)) (t_in_4 _ (List.mem_of_getElem? (i := 5) rfl)) (t_in_1 _ (List.mem_of_getElem? (i := 1) rfl)) (t_in_4 _ (List.mem_of_getElem? (i := 6) rfl)) (by decide +kernel)
set_option maxRecDepth 100000 in
theorem gl_4_1 : GoodIn lw_tbl (wsV RL 36 RX12 yX12_has ws_mc_X12_has) := goodVL lt_WX wx_good (t_in_8 _ (List.mem_of_getElem? (i := 9) rfl)) (t_in_8 _ (List.mem_of_getElem? (i := 10) rfl)) (t_in_8 _ (List.mem_of_getElem? (i := 11) rfl)) (t_in_1 _ (List.mem_of_getElem? (i := 17) rfl)) (t_in_8 _ (List.mem_of_getElem? (i := 12) rfl)) (by decide +kernel)
set_option maxHeartbeats 4000000 in
set_option maxRecDepth 100000 in
theorem law_case_4 {p : Program} {e : Env} {s : State} {m : MethodId} {below : List Frame} {meth : Method} {c : Code} (l : Launch) {b L : Nat} {xs : Nat → Int32} (C0 : lw_At p s m meth c b L xs) (hL : L ≤ 3072) (dC : Nat → ClassId) (dI : Nat → Nat → Nat) (cB cI cJ cZ cQ : ClassId) (aL aS : Nat) (q r : Nat → Nat) (F : LF dC dI cB cI cJ cZ cQ aL aS q r s) {B A : St} {i : Int} (hi : 0 ≤ i ∧ i + 6 ≤ L) (hJ : LJ B A) {H : Heap} {locs : List Loc} {cells slots : Nat} {ls : Array Slot} (hcs : cells ≤ room_1.cells ∧ slots ≤ room_1.slots) (hW : LW dC dI cB cI cJ cZ cQ q r s B A H locs) (hl : lv_has ls 4 [(0, .ref b), (1, .ref (q 0)), (2, .ref (r 0)), (3, .int (iI i))]) (k : ∀ (B A : St) (H : Heap) (locs : List Loc) (ls : Array Slot), LJ B A → LW dC dI cB cI cJ cZ cQ q r s B A H locs → lv_has ls 4 [(0, .ref b), (1, .ref (q 0)), (2, .ref (r 0)), (3, .int (iI i))] → W p l e room_1 s m #[Value.ref b] below meth c H locs cells slots (lw_Z below #[Value.ref b] s) (F0 m 1273 ls [])) : W p l e room_1 s m #[Value.ref b] below meth c H locs cells slots (lw_Z below #[Value.ref b] s) (F0 m 318 ls []) := by
  obtain ⟨hx, hb, hr, hml, hown, hts, hX, hbl, hlocks, hgv⟩ := id C0
  obtain ⟨hK, hDK, hDM, hap, hE⟩ := F
  obtain ⟨hPK, hPM, hS⟩ := hW
  obtain ⟨hIK, hIM, hcCI, hcWI, hJ, hTB, hOW, hPS, hTR⟩ := hJ
  have hIK0 := hIK
  have hIM0 := hIM
  have r01 : (0 : Int) ≤ A 0 1 := (hIM 0 1).1
  have hbA : ¬ (fun b : Nat => s.heap.size ≤ b) b := Nat.not_le.mpr hbl
  have hA0 : ∀ b : Nat, s.heap.size ≤ b → (fun b : Nat => s.heap.size ≤ b) b := fun _ h => h
  refine lv_aload_n hx hb (dk_at dkL_law_7 8 rfl) rfl (lv_at hl 1 rfl) ?_
  refine lv_aload_n hx hb (dk_at dkL_law_7 9 rfl) rfl (lv_at hl 0 rfl) ?_
  refine lv_iload_n hx hb (dk_at dkL_law_7 10 rfl) rfl (lv_at hl 3 rfl) ?_
  refine lv_iconst (v := iI 1) hx hb (dk_at dkL_law_7 11 rfl) (by decide +kernel) ?_
  refine x_addv (v := i + 1) hx hb (dk_at dkL_law_7 12 rfl) rfl ?_
  refine x_sld (i := i + 1) hx hb hX hbl hbA hS hL (by omega) (dk_at dkL_law_7 13 rfl) ?_
  refine l_callK (As := [.int (iI (sx xs (i + 1)))]) (rest := []) (Wo := WM cI cJ cZ r A) ⟨hx, hb, hml, hown, hts⟩ hE (kc_X11_has l dC dI cB cI cJ cZ cQ aL aS q B (sx xs (i + 1)) hIK (sx_r xs _)) (cwV 1 hts gl_4_0 rfl rfl rfl (by decide +kernel) ⟨Nat.le_of_ble_eq_true rfl, Nat.le_of_ble_eq_true rfl⟩) hK hDK hA0 hPK hPM (hap B A) hS 0 11 wkK rfl rfl hl.1 (Nat.le_of_ble_eq_true rfl) hcs (dk_at dkL_law_7 14 rfl) (fun z1 B2 H locs hw1 hPK hPM hS => ?_)
  obtain ⟨rfl, hr1, hw1⟩ := hw1
  refine lv_pop hx hb (dk_at dkL_law_7 15 rfl) rfl ?_
  refine lv_aload_n hx hb (dk_at dkL_law_8 0 rfl) rfl (lv_at hl 2 rfl) ?_
  refine lv_aload_n hx hb (dk_at dkL_law_8 1 rfl) rfl (lv_at hl 0 rfl) ?_
  refine lv_iload_n hx hb (dk_at dkL_law_8 2 rfl) rfl (lv_at hl 3 rfl) ?_
  refine lv_iconst (v := iI 1) hx hb (dk_at dkL_law_8 3 rfl) (by decide +kernel) ?_
  refine x_addv (v := i + 1) hx hb (dk_at dkL_law_8 4 rfl) rfl ?_
  refine x_sld (i := i + 1) hx hb hX hbl hbA hS hL (by omega) (dk_at dkL_law_8 5 rfl) ?_
  refine l_callX (As := [.int (iI (sx xs (i + 1)))]) (rest := []) (Wo := WK cB cI cJ cZ cQ q B) ⟨hx, hb, hml, hown, hts⟩ (mc_X12_has l dC dI cB cI cJ cZ cQ r A (sx xs (i + 1)) hIM (sx_r xs _)) (cwV 1 hts gl_4_1 rfl rfl rfl (by decide +kernel) ⟨Nat.le_of_ble_eq_true rfl, Nat.le_of_ble_eq_true rfl⟩) hK hDM hA0 hPM hPK (hap B A).sym hS 0 12 wm0 rfl rfl hl.1 (Nat.le_of_ble_eq_true rfl) hcs (dk_at dkL_law_8 6 rfl) (fun z2 A2 H locs hw2 hPM hPK hS => ?_)
  have hq2 := hw2
  obtain ⟨rfl, hr2, hw2⟩ := hw2
  refine lv_pop hx hb (dk_at dkL_law_8 7 rfl) rfl ?_
  refine lv_goto (tgt := 1273) hx hb (dk_at dkL_law_8 8 rfl) (by decide) ?_
  exact k _ _ _ _ _ ⟨hIK, hIM, hcCI, hcWI, by omega, hTB, hOW, hPS, hTR⟩ ⟨hPK, hPM, hS⟩ hl
set_option maxRecDepth 100000 in
theorem gl_5_0 : GoodIn lw_tbl (wsV RL 37 RX11 yX11_letter ws_kc_X11_letter) := goodVL lt_WY wy_good (t_in_4 _ (List.mem_of_getElem? (i := 20) rfl)) (t_in_4 _ (List.mem_of_getElem? (i := 21) rfl)) (t_in_4 _ (List.mem_of_getElem? (i := 22) rfl)) (t_in_1 _ (List.mem_of_getElem? (i := 1) rfl)) (t_in_4 _ (List.mem_of_getElem? (i := 23) rfl)) (by decide +kernel)
set_option maxRecDepth 100000 in
theorem gl_5_1 : GoodIn lw_tbl (wsV RL 41 RX12 yX12_letter ws_mc_X12_letter) := goodVL lt_WX wx_good (t_in_8 _ (List.mem_of_getElem? (i := 37) rfl)) (t_in_8 _ (List.mem_of_getElem? (i := 38) rfl)) (t_in_8 _ (List.mem_of_getElem? (i := 39) rfl)) (t_in_1 _ (List.mem_of_getElem? (i := 17) rfl)) (t_in_8 _ (List.mem_of_getElem? (i := 40) rfl)) (by decide +kernel)
set_option maxHeartbeats 4000000 in
set_option maxRecDepth 100000 in
theorem law_case_5 {p : Program} {e : Env} {s : State} {m : MethodId} {below : List Frame} {meth : Method} {c : Code} (l : Launch) {b L : Nat} {xs : Nat → Int32} (C0 : lw_At p s m meth c b L xs) (hL : L ≤ 3072) (dC : Nat → ClassId) (dI : Nat → Nat → Nat) (cB cI cJ cZ cQ : ClassId) (aL aS : Nat) (q r : Nat → Nat) (F : LF dC dI cB cI cJ cZ cQ aL aS q r s) {B A : St} {i : Int} (hi : 0 ≤ i ∧ i + 6 ≤ L) (hJ : LJ B A) {H : Heap} {locs : List Loc} {cells slots : Nat} {ls : Array Slot} (hcs : cells ≤ room_1.cells ∧ slots ≤ room_1.slots) (hW : LW dC dI cB cI cJ cZ cQ q r s B A H locs) (hl : lv_has ls 4 [(0, .ref b), (1, .ref (q 0)), (2, .ref (r 0)), (3, .int (iI i))]) (k : ∀ (B A : St) (H : Heap) (locs : List Loc) (ls : Array Slot), LJ B A → LW dC dI cB cI cJ cZ cQ q r s B A H locs → lv_has ls 4 [(0, .ref b), (1, .ref (q 0)), (2, .ref (r 0)), (3, .int (iI i))] → W p l e room_1 s m #[Value.ref b] below meth c H locs cells slots (lw_Z below #[Value.ref b] s) (F0 m 1273 ls [])) : W p l e room_1 s m #[Value.ref b] below meth c H locs cells slots (lw_Z below #[Value.ref b] s) (F0 m 341 ls []) := by
  obtain ⟨hx, hb, hr, hml, hown, hts, hX, hbl, hlocks, hgv⟩ := id C0
  obtain ⟨hK, hDK, hDM, hap, hE⟩ := F
  obtain ⟨hPK, hPM, hS⟩ := hW
  obtain ⟨hIK, hIM, hcCI, hcWI, hJ, hTB, hOW, hPS, hTR⟩ := hJ
  have hIK0 := hIK
  have hIM0 := hIM
  have r01 : (0 : Int) ≤ A 0 1 := (hIM 0 1).1
  have hbA : ¬ (fun b : Nat => s.heap.size ≤ b) b := Nat.not_le.mpr hbl
  have hA0 : ∀ b : Nat, s.heap.size ≤ b → (fun b : Nat => s.heap.size ≤ b) b := fun _ h => h
  refine lv_aload_n hx hb (dk_at dkL_law_8 9 rfl) rfl (lv_at hl 1 rfl) ?_
  refine lv_aload_n hx hb (dk_at dkL_law_8 10 rfl) rfl (lv_at hl 0 rfl) ?_
  refine lv_iload_n hx hb (dk_at dkL_law_8 11 rfl) rfl (lv_at hl 3 rfl) ?_
  refine lv_iconst (v := iI 1) hx hb (dk_at dkL_law_8 12 rfl) (by decide +kernel) ?_
  refine x_addv (v := i + 1) hx hb (dk_at dkL_law_8 13 rfl) rfl ?_
  refine x_sld (i := i + 1) hx hb hX hbl hbA hS hL (by omega) (dk_at dkL_law_8 14 rfl) ?_
  refine lv_aload_n hx hb (dk_at dkL_law_8 15 rfl) rfl (lv_at hl 0 rfl) ?_
  refine lv_iload_n hx hb (dk_at dkL_law_9 0 rfl) rfl (lv_at hl 3 rfl) ?_
  refine lv_iconst (v := iI 2) hx hb (dk_at dkL_law_9 1 rfl) (by decide +kernel) ?_
  refine x_addv (v := i + 2) hx hb (dk_at dkL_law_9 2 rfl) rfl ?_
  refine x_sld (i := i + 2) hx hb hX hbl hbA hS hL (by omega) (dk_at dkL_law_9 3 rfl) ?_
  refine lv_aload_n hx hb (dk_at dkL_law_9 4 rfl) rfl (lv_at hl 0 rfl) ?_
  refine lv_iload_n hx hb (dk_at dkL_law_9 5 rfl) rfl (lv_at hl 3 rfl) ?_
  refine lv_iconst (v := iI 3) hx hb (dk_at dkL_law_9 6 rfl) (by decide +kernel) ?_
  refine x_addv (v := i + 3) hx hb (dk_at dkL_law_9 7 rfl) rfl ?_
  refine x_sld (i := i + 3) hx hb hX hbl hbA hS hL (by omega) (dk_at dkL_law_9 8 rfl) ?_
  refine l_callK (As := [.int (iI (sx xs (i + 1))), .int (iI (sx xs (i + 2))), .int (iI (sx xs (i + 3)))]) (rest := []) (Wo := WM cI cJ cZ r A) ⟨hx, hb, hml, hown, hts⟩ hE (kc_X11_letter l dC dI cB cI cJ cZ cQ aL aS q B (sx xs (i + 1)) (sx xs (i + 2)) (sx xs (i + 3)) hIK (sx_r xs _) (sx_r xs _) (sx_r xs _)) (cwV 3 hts gl_5_0 rfl rfl rfl (by decide +kernel) ⟨Nat.le_of_ble_eq_true rfl, Nat.le_of_ble_eq_true rfl⟩) hK hDK hA0 hPK hPM (hap B A) hS 0 11 wkK rfl rfl hl.1 (Nat.le_of_ble_eq_true rfl) hcs (dk_at dkL_law_9 9 rfl) (fun z1 B2 H locs hw1 hPK hPM hS => ?_)
  obtain ⟨rfl, hr1, hw1⟩ := hw1
  refine lv_pop hx hb (dk_at dkL_law_9 10 rfl) rfl ?_
  refine lv_aload_n hx hb (dk_at dkL_law_9 11 rfl) rfl (lv_at hl 2 rfl) ?_
  refine lv_aload_n hx hb (dk_at dkL_law_9 12 rfl) rfl (lv_at hl 0 rfl) ?_
  refine lv_iload_n hx hb (dk_at dkL_law_9 13 rfl) rfl (lv_at hl 3 rfl) ?_
  refine lv_iconst (v := iI 1) hx hb (dk_at dkL_law_9 14 rfl) (by decide +kernel) ?_
  refine x_addv (v := i + 1) hx hb (dk_at dkL_law_9 15 rfl) rfl ?_
  refine x_sld (i := i + 1) hx hb hX hbl hbA hS hL (by omega) (dk_at dkL_law_10 0 rfl) ?_
  refine lv_aload_n hx hb (dk_at dkL_law_10 1 rfl) rfl (lv_at hl 0 rfl) ?_
  refine lv_iload_n hx hb (dk_at dkL_law_10 2 rfl) rfl (lv_at hl 3 rfl) ?_
  refine lv_iconst (v := iI 2) hx hb (dk_at dkL_law_10 3 rfl) (by decide +kernel) ?_
  refine x_addv (v := i + 2) hx hb (dk_at dkL_law_10 4 rfl) rfl ?_
  refine x_sld (i := i + 2) hx hb hX hbl hbA hS hL (by omega) (dk_at dkL_law_10 5 rfl) ?_
  refine lv_aload_n hx hb (dk_at dkL_law_10 6 rfl) rfl (lv_at hl 0 rfl) ?_
  refine lv_iload_n hx hb (dk_at dkL_law_10 7 rfl) rfl (lv_at hl 3 rfl) ?_
  refine lv_iconst (v := iI 3) hx hb (dk_at dkL_law_10 8 rfl) (by decide +kernel) ?_
  refine x_addv (v := i + 3) hx hb (dk_at dkL_law_10 9 rfl) rfl ?_
  refine x_sld (i := i + 3) hx hb hX hbl hbA hS hL (by omega) (dk_at dkL_law_10 10 rfl) ?_
  refine l_callX (As := [.int (iI (sx xs (i + 1))), .int (iI (sx xs (i + 2))), .int (iI (sx xs (i + 3)))]) (rest := []) (Wo := WK cB cI cJ cZ cQ q B) ⟨hx, hb, hml, hown, hts⟩ (mc_X12_letter l dC dI cB cI cJ cZ cQ r A (sx xs (i + 1)) (sx xs (i + 2)) (sx xs (i + 3)) hIM (sx_r xs _) (sx_r xs _) (sx_r xs _)) (cwV 3 hts gl_5_1 rfl rfl rfl (by decide +kernel) ⟨Nat.le_of_ble_eq_true rfl, Nat.le_of_ble_eq_true rfl⟩) hK hDM hA0 hPM hPK (hap B A).sym hS 0 12 wm0 rfl rfl hl.1 (Nat.le_of_ble_eq_true rfl) hcs (dk_at dkL_law_10 11 rfl) (fun z2 A2 H locs hw2 hPM hPK hS => ?_)
  have hq2 := hw2
  obtain ⟨rfl, hr2, hw2⟩ := hw2
  refine lv_pop hx hb (dk_at dkL_law_10 12 rfl) rfl ?_
  refine lv_goto (tgt := 1273) hx hb (dk_at dkL_law_10 13 rfl) (by decide) ?_
  exact k _ _ _ _ _ ⟨hIK, hIM, hcCI, hcWI, by omega, hTB, hOW, hPS, hTR⟩ ⟨hPK, hPM, hS⟩ hl
set_option maxRecDepth 100000 in
theorem gl_6_0 : GoodIn lw_tbl (wsV RL 42 RX11 yX11_door ws_kc_X11_door) := goodVL lt_WY wy_good (t_in_4 _ (List.mem_of_getElem? (i := 28) rfl)) (t_in_4 _ (List.mem_of_getElem? (i := 29) rfl)) (t_in_4 _ (List.mem_of_getElem? (i := 30) rfl)) (t_in_1 _ (List.mem_of_getElem? (i := 1) rfl)) (t_in_4 _ (List.mem_of_getElem? (i := 31) rfl)) (by decide +kernel)
set_option maxRecDepth 100000 in
theorem gl_6_1 : GoodIn lw_tbl (wsV RL 46 RX12 yX12_door_ ws_mc_X12_door_) := goodVL lt_WX wx_good (t_in_8 _ (List.mem_of_getElem? (i := 46) rfl)) (t_in_8 _ (List.mem_of_getElem? (i := 47) rfl)) (t_in_8 _ (List.mem_of_getElem? (i := 48) rfl)) (t_in_1 _ (List.mem_of_getElem? (i := 17) rfl)) (t_in_8 _ (List.mem_of_getElem? (i := 49) rfl)) (by decide +kernel)
set_option maxHeartbeats 4000000 in
set_option maxRecDepth 100000 in
theorem law_case_6 {p : Program} {e : Env} {s : State} {m : MethodId} {below : List Frame} {meth : Method} {c : Code} (l : Launch) {b L : Nat} {xs : Nat → Int32} (C0 : lw_At p s m meth c b L xs) (hL : L ≤ 3072) (dC : Nat → ClassId) (dI : Nat → Nat → Nat) (cB cI cJ cZ cQ : ClassId) (aL aS : Nat) (q r : Nat → Nat) (F : LF dC dI cB cI cJ cZ cQ aL aS q r s) {B A : St} {i : Int} (hi : 0 ≤ i ∧ i + 6 ≤ L) (hJ : LJ B A) {H : Heap} {locs : List Loc} {cells slots : Nat} {ls : Array Slot} (hcs : cells ≤ room_1.cells ∧ slots ≤ room_1.slots) (hW : LW dC dI cB cI cJ cZ cQ q r s B A H locs) (hl : lv_has ls 4 [(0, .ref b), (1, .ref (q 0)), (2, .ref (r 0)), (3, .int (iI i))]) (k : ∀ (B A : St) (H : Heap) (locs : List Loc) (ls : Array Slot), LJ B A → LW dC dI cB cI cJ cZ cQ q r s B A H locs → lv_has ls 4 [(0, .ref b), (1, .ref (q 0)), (2, .ref (r 0)), (3, .int (iI i))] → W p l e room_1 s m #[Value.ref b] below meth c H locs cells slots (lw_Z below #[Value.ref b] s) (F0 m 1273 ls [])) : W p l e room_1 s m #[Value.ref b] below meth c H locs cells slots (lw_Z below #[Value.ref b] s) (F0 m 384 ls []) := by
  obtain ⟨hx, hb, hr, hml, hown, hts, hX, hbl, hlocks, hgv⟩ := id C0
  obtain ⟨hK, hDK, hDM, hap, hE⟩ := F
  obtain ⟨hPK, hPM, hS⟩ := hW
  obtain ⟨hIK, hIM, hcCI, hcWI, hJ, hTB, hOW, hPS, hTR⟩ := hJ
  have hIK0 := hIK
  have hIM0 := hIM
  have r01 : (0 : Int) ≤ A 0 1 := (hIM 0 1).1
  have hbA : ¬ (fun b : Nat => s.heap.size ≤ b) b := Nat.not_le.mpr hbl
  have hA0 : ∀ b : Nat, s.heap.size ≤ b → (fun b : Nat => s.heap.size ≤ b) b := fun _ h => h
  refine lv_aload_n hx hb (dk_at dkL_law_10 14 rfl) rfl (lv_at hl 1 rfl) ?_
  refine lv_aload_n hx hb (dk_at dkL_law_10 15 rfl) rfl (lv_at hl 0 rfl) ?_
  refine lv_iload_n hx hb (dk_at dkL_law_11 0 rfl) rfl (lv_at hl 3 rfl) ?_
  refine lv_iconst (v := iI 1) hx hb (dk_at dkL_law_11 1 rfl) (by decide +kernel) ?_
  refine x_addv (v := i + 1) hx hb (dk_at dkL_law_11 2 rfl) rfl ?_
  refine x_sld (i := i + 1) hx hb hX hbl hbA hS hL (by omega) (dk_at dkL_law_11 3 rfl) ?_
  refine lv_aload_n hx hb (dk_at dkL_law_11 4 rfl) rfl (lv_at hl 0 rfl) ?_
  refine lv_iload_n hx hb (dk_at dkL_law_11 5 rfl) rfl (lv_at hl 3 rfl) ?_
  refine lv_iconst (v := iI 2) hx hb (dk_at dkL_law_11 6 rfl) (by decide +kernel) ?_
  refine x_addv (v := i + 2) hx hb (dk_at dkL_law_11 7 rfl) rfl ?_
  refine x_sld (i := i + 2) hx hb hX hbl hbA hS hL (by omega) (dk_at dkL_law_11 8 rfl) ?_
  refine l_callK (As := [.int (iI (sx xs (i + 1))), .int (iI (sx xs (i + 2)))]) (rest := []) (Wo := WM cI cJ cZ r A) ⟨hx, hb, hml, hown, hts⟩ hE (kc_X11_door l dC dI cB cI cJ cZ cQ aL aS q B (sx xs (i + 1)) (sx xs (i + 2)) hIK (sx_r xs _) (sx_r xs _)) (cwV 2 hts gl_6_0 rfl rfl rfl (by decide +kernel) ⟨Nat.le_of_ble_eq_true rfl, Nat.le_of_ble_eq_true rfl⟩) hK hDK hA0 hPK hPM (hap B A) hS 0 11 wkK rfl rfl hl.1 (Nat.le_of_ble_eq_true rfl) hcs (dk_at dkL_law_11 9 rfl) (fun z1 B2 H locs hw1 hPK hPM hS => ?_)
  obtain ⟨rfl, hr1, hw1⟩ := hw1
  refine lv_pop hx hb (dk_at dkL_law_11 10 rfl) rfl ?_
  refine lv_aload_n hx hb (dk_at dkL_law_11 11 rfl) rfl (lv_at hl 2 rfl) ?_
  refine lv_aload_n hx hb (dk_at dkL_law_11 12 rfl) rfl (lv_at hl 0 rfl) ?_
  refine lv_iload_n hx hb (dk_at dkL_law_11 13 rfl) rfl (lv_at hl 3 rfl) ?_
  refine lv_iconst (v := iI 1) hx hb (dk_at dkL_law_11 14 rfl) (by decide +kernel) ?_
  refine x_addv (v := i + 1) hx hb (dk_at dkL_law_11 15 rfl) rfl ?_
  refine x_sld (i := i + 1) hx hb hX hbl hbA hS hL (by omega) (dk_at dkL_law_12 0 rfl) ?_
  refine lv_aload_n hx hb (dk_at dkL_law_12 1 rfl) rfl (lv_at hl 0 rfl) ?_
  refine lv_iload_n hx hb (dk_at dkL_law_12 2 rfl) rfl (lv_at hl 3 rfl) ?_
  refine lv_iconst (v := iI 2) hx hb (dk_at dkL_law_12 3 rfl) (by decide +kernel) ?_
  refine x_addv (v := i + 2) hx hb (dk_at dkL_law_12 4 rfl) rfl ?_
  refine x_sld (i := i + 2) hx hb hX hbl hbA hS hL (by omega) (dk_at dkL_law_12 5 rfl) ?_
  refine l_callX (As := [.int (iI (sx xs (i + 1))), .int (iI (sx xs (i + 2)))]) (rest := []) (Wo := WK cB cI cJ cZ cQ q B) ⟨hx, hb, hml, hown, hts⟩ (mc_X12_door_ l dC dI cB cI cJ cZ cQ r A (sx xs (i + 1)) (sx xs (i + 2)) hIM (sx_r xs _) (sx_r xs _)) (cwV 2 hts gl_6_1 rfl rfl rfl (by decide +kernel) ⟨Nat.le_of_ble_eq_true rfl, Nat.le_of_ble_eq_true rfl⟩) hK hDM hA0 hPM hPK (hap B A).sym hS 0 12 wm0 rfl rfl hl.1 (Nat.le_of_ble_eq_true rfl) hcs (dk_at dkL_law_12 6 rfl) (fun z2 A2 H locs hw2 hPM hPK hS => ?_)
  have hq2 := hw2
  obtain ⟨rfl, hr2, hw2⟩ := hw2
  refine lv_pop hx hb (dk_at dkL_law_12 7 rfl) rfl ?_
  refine lv_goto (tgt := 1273) hx hb (dk_at dkL_law_12 8 rfl) (by decide) ?_
  exact k _ _ _ _ _ ⟨hIK, hIM, hcCI, hcWI, by omega, hTB, hOW, hPS, hTR⟩ ⟨hPK, hPM, hS⟩ hl
set_option maxRecDepth 100000 in
theorem gl_7_0 : GoodIn lw_tbl (wsV RL 47 RX11 yX11_key ws_kc_X11_key) := goodVL lt_WY wy_good (t_in_4 _ (List.mem_of_getElem? (i := 38) rfl)) (t_in_4 _ (List.mem_of_getElem? (i := 39) rfl)) (t_in_4 _ (List.mem_of_getElem? (i := 40) rfl)) (t_in_1 _ (List.mem_of_getElem? (i := 1) rfl)) (t_in_4 _ (List.mem_of_getElem? (i := 41) rfl)) (by decide +kernel)
set_option maxRecDepth 100000 in
theorem gl_7_1 : GoodIn lw_tbl (wsV RL 50 RX12 yX12_key_ ws_mc_X12_key_) := goodVL lt_WX wx_good (t_in_8 _ (List.mem_of_getElem? (i := 54) rfl)) (t_in_8 _ (List.mem_of_getElem? (i := 55) rfl)) (t_in_8 _ (List.mem_of_getElem? (i := 56) rfl)) (t_in_1 _ (List.mem_of_getElem? (i := 17) rfl)) (t_in_8 _ (List.mem_of_getElem? (i := 57) rfl)) (by decide +kernel)
set_option maxHeartbeats 4000000 in
set_option maxRecDepth 100000 in
theorem law_case_7 {p : Program} {e : Env} {s : State} {m : MethodId} {below : List Frame} {meth : Method} {c : Code} (l : Launch) {b L : Nat} {xs : Nat → Int32} (C0 : lw_At p s m meth c b L xs) (hL : L ≤ 3072) (dC : Nat → ClassId) (dI : Nat → Nat → Nat) (cB cI cJ cZ cQ : ClassId) (aL aS : Nat) (q r : Nat → Nat) (F : LF dC dI cB cI cJ cZ cQ aL aS q r s) {B A : St} {i : Int} (hi : 0 ≤ i ∧ i + 6 ≤ L) (hJ : LJ B A) {H : Heap} {locs : List Loc} {cells slots : Nat} {ls : Array Slot} (hcs : cells ≤ room_1.cells ∧ slots ≤ room_1.slots) (hW : LW dC dI cB cI cJ cZ cQ q r s B A H locs) (hl : lv_has ls 4 [(0, .ref b), (1, .ref (q 0)), (2, .ref (r 0)), (3, .int (iI i))]) (k : ∀ (B A : St) (H : Heap) (locs : List Loc) (ls : Array Slot), LJ B A → LW dC dI cB cI cJ cZ cQ q r s B A H locs → lv_has ls 4 [(0, .ref b), (1, .ref (q 0)), (2, .ref (r 0)), (3, .int (iI i))] → W p l e room_1 s m #[Value.ref b] below meth c H locs cells slots (lw_Z below #[Value.ref b] s) (F0 m 1273 ls [])) : W p l e room_1 s m #[Value.ref b] below meth c H locs cells slots (lw_Z below #[Value.ref b] s) (F0 m 417 ls []) := by
  obtain ⟨hx, hb, hr, hml, hown, hts, hX, hbl, hlocks, hgv⟩ := id C0
  obtain ⟨hK, hDK, hDM, hap, hE⟩ := F
  obtain ⟨hPK, hPM, hS⟩ := hW
  obtain ⟨hIK, hIM, hcCI, hcWI, hJ, hTB, hOW, hPS, hTR⟩ := hJ
  have hIK0 := hIK
  have hIM0 := hIM
  have r01 : (0 : Int) ≤ A 0 1 := (hIM 0 1).1
  have hbA : ¬ (fun b : Nat => s.heap.size ≤ b) b := Nat.not_le.mpr hbl
  have hA0 : ∀ b : Nat, s.heap.size ≤ b → (fun b : Nat => s.heap.size ≤ b) b := fun _ h => h
  refine lv_aload_n hx hb (dk_at dkL_law_12 9 rfl) rfl (lv_at hl 1 rfl) ?_
  refine lv_aload_n hx hb (dk_at dkL_law_12 10 rfl) rfl (lv_at hl 0 rfl) ?_
  refine lv_iload_n hx hb (dk_at dkL_law_12 11 rfl) rfl (lv_at hl 3 rfl) ?_
  refine lv_iconst (v := iI 1) hx hb (dk_at dkL_law_12 12 rfl) (by decide +kernel) ?_
  refine x_addv (v := i + 1) hx hb (dk_at dkL_law_12 13 rfl) rfl ?_
  refine x_sld (i := i + 1) hx hb hX hbl hbA hS hL (by omega) (dk_at dkL_law_12 14 rfl) ?_
  refine lv_aload_n hx hb (dk_at dkL_law_12 15 rfl) rfl (lv_at hl 0 rfl) ?_
  refine lv_iload_n hx hb (dk_at dkL_law_13 0 rfl) rfl (lv_at hl 3 rfl) ?_
  refine lv_iconst (v := iI 2) hx hb (dk_at dkL_law_13 1 rfl) (by decide +kernel) ?_
  refine x_addv (v := i + 2) hx hb (dk_at dkL_law_13 2 rfl) rfl ?_
  refine x_sld (i := i + 2) hx hb hX hbl hbA hS hL (by omega) (dk_at dkL_law_13 3 rfl) ?_
  refine l_callK (As := [.int (iI (sx xs (i + 1))), .int (iI (sx xs (i + 2)))]) (rest := []) (Wo := WM cI cJ cZ r A) ⟨hx, hb, hml, hown, hts⟩ hE (kc_X11_key l dC dI cB cI cJ cZ cQ aL aS q B (sx xs (i + 1)) (sx xs (i + 2)) hIK (sx_r xs _) (sx_r xs _)) (cwV 2 hts gl_7_0 rfl rfl rfl (by decide +kernel) ⟨Nat.le_of_ble_eq_true rfl, Nat.le_of_ble_eq_true rfl⟩) hK hDK hA0 hPK hPM (hap B A) hS 0 11 wkK rfl rfl hl.1 (Nat.le_of_ble_eq_true rfl) hcs (dk_at dkL_law_13 4 rfl) (fun z1 B2 H locs hw1 hPK hPM hS => ?_)
  obtain ⟨rfl, hr1, hw1⟩ := hw1
  refine lv_pop hx hb (dk_at dkL_law_13 5 rfl) rfl ?_
  refine lv_aload_n hx hb (dk_at dkL_law_13 6 rfl) rfl (lv_at hl 2 rfl) ?_
  refine lv_aload_n hx hb (dk_at dkL_law_13 7 rfl) rfl (lv_at hl 0 rfl) ?_
  refine lv_iload_n hx hb (dk_at dkL_law_13 8 rfl) rfl (lv_at hl 3 rfl) ?_
  refine lv_iconst (v := iI 1) hx hb (dk_at dkL_law_13 9 rfl) (by decide +kernel) ?_
  refine x_addv (v := i + 1) hx hb (dk_at dkL_law_13 10 rfl) rfl ?_
  refine x_sld (i := i + 1) hx hb hX hbl hbA hS hL (by omega) (dk_at dkL_law_13 11 rfl) ?_
  refine lv_aload_n hx hb (dk_at dkL_law_13 12 rfl) rfl (lv_at hl 0 rfl) ?_
  refine lv_iload_n hx hb (dk_at dkL_law_13 13 rfl) rfl (lv_at hl 3 rfl) ?_
  refine lv_iconst (v := iI 2) hx hb (dk_at dkL_law_13 14 rfl) (by decide +kernel) ?_
  refine x_addv (v := i + 2) hx hb (dk_at dkL_law_13 15 rfl) rfl ?_
  refine x_sld (i := i + 2) hx hb hX hbl hbA hS hL (by omega) (dk_at dkL_law_14 0 rfl) ?_
  refine l_callX (As := [.int (iI (sx xs (i + 1))), .int (iI (sx xs (i + 2)))]) (rest := []) (Wo := WK cB cI cJ cZ cQ q B) ⟨hx, hb, hml, hown, hts⟩ (mc_X12_key_ l dC dI cB cI cJ cZ cQ r A (sx xs (i + 1)) (sx xs (i + 2)) hIM (sx_r xs _) (sx_r xs _)) (cwV 2 hts gl_7_1 rfl rfl rfl (by decide +kernel) ⟨Nat.le_of_ble_eq_true rfl, Nat.le_of_ble_eq_true rfl⟩) hK hDM hA0 hPM hPK (hap B A).sym hS 0 12 wm0 rfl rfl hl.1 (Nat.le_of_ble_eq_true rfl) hcs (dk_at dkL_law_14 1 rfl) (fun z2 A2 H locs hw2 hPM hPK hS => ?_)
  have hq2 := hw2
  obtain ⟨rfl, hr2, hw2⟩ := hw2
  refine lv_pop hx hb (dk_at dkL_law_14 2 rfl) rfl ?_
  refine lv_goto (tgt := 1273) hx hb (dk_at dkL_law_14 3 rfl) (by decide) ?_
  exact k _ _ _ _ _ ⟨hIK, hIM, hcCI, hcWI, by omega, hTB, hOW, hPS, hTR⟩ ⟨hPK, hPM, hS⟩ hl
set_option maxRecDepth 100000 in
theorem gl_8_0 : GoodIn lw_tbl (wsV RL 51 RX11 yX11_in ws_kc_X11_in) := goodVL lt_WY wy_good (t_in_4 _ (List.mem_of_getElem? (i := 46) rfl)) (t_in_4 _ (List.mem_of_getElem? (i := 47) rfl)) (t_in_4 _ (List.mem_of_getElem? (i := 48) rfl)) (t_in_1 _ (List.mem_of_getElem? (i := 1) rfl)) (t_in_4 _ (List.mem_of_getElem? (i := 49) rfl)) (by decide +kernel)
set_option maxRecDepth 100000 in
theorem gl_8_1 : GoodIn lw_tbl (wsV RL 54 RX12 yX12_in ws_mc_X12_in) := goodVL lt_WX wx_good (t_in_8 _ (List.mem_of_getElem? (i := 66) rfl)) (t_in_8 _ (List.mem_of_getElem? (i := 67) rfl)) (t_in_8 _ (List.mem_of_getElem? (i := 68) rfl)) (t_in_1 _ (List.mem_of_getElem? (i := 17) rfl)) (t_in_8 _ (List.mem_of_getElem? (i := 69) rfl)) (by decide +kernel)
set_option maxHeartbeats 4000000 in
set_option maxRecDepth 100000 in
theorem law_case_8 {p : Program} {e : Env} {s : State} {m : MethodId} {below : List Frame} {meth : Method} {c : Code} (l : Launch) {b L : Nat} {xs : Nat → Int32} (C0 : lw_At p s m meth c b L xs) (hL : L ≤ 3072) (dC : Nat → ClassId) (dI : Nat → Nat → Nat) (cB cI cJ cZ cQ : ClassId) (aL aS : Nat) (q r : Nat → Nat) (F : LF dC dI cB cI cJ cZ cQ aL aS q r s) {B A : St} {i : Int} (hi : 0 ≤ i ∧ i + 6 ≤ L) (hJ : LJ B A) {H : Heap} {locs : List Loc} {cells slots : Nat} {ls : Array Slot} (hcs : cells ≤ room_1.cells ∧ slots ≤ room_1.slots) (hW : LW dC dI cB cI cJ cZ cQ q r s B A H locs) (hl : lv_has ls 4 [(0, .ref b), (1, .ref (q 0)), (2, .ref (r 0)), (3, .int (iI i))]) (k : ∀ (B A : St) (H : Heap) (locs : List Loc) (ls : Array Slot), LJ B A → LW dC dI cB cI cJ cZ cQ q r s B A H locs → lv_has ls 4 [(0, .ref b), (1, .ref (q 0)), (2, .ref (r 0)), (3, .int (iI i))] → W p l e room_1 s m #[Value.ref b] below meth c H locs cells slots (lw_Z below #[Value.ref b] s) (F0 m 1273 ls [])) : W p l e room_1 s m #[Value.ref b] below meth c H locs cells slots (lw_Z below #[Value.ref b] s) (F0 m 450 ls []) := by
  obtain ⟨hx, hb, hr, hml, hown, hts, hX, hbl, hlocks, hgv⟩ := id C0
  obtain ⟨hK, hDK, hDM, hap, hE⟩ := F
  obtain ⟨hPK, hPM, hS⟩ := hW
  obtain ⟨hIK, hIM, hcCI, hcWI, hJ, hTB, hOW, hPS, hTR⟩ := hJ
  have hIK0 := hIK
  have hIM0 := hIM
  have r01 : (0 : Int) ≤ A 0 1 := (hIM 0 1).1
  have hbA : ¬ (fun b : Nat => s.heap.size ≤ b) b := Nat.not_le.mpr hbl
  have hA0 : ∀ b : Nat, s.heap.size ≤ b → (fun b : Nat => s.heap.size ≤ b) b := fun _ h => h
  refine lv_aload_n hx hb (dk_at dkL_law_14 4 rfl) rfl (lv_at hl 1 rfl) ?_
  refine lv_aload_n hx hb (dk_at dkL_law_14 5 rfl) rfl (lv_at hl 0 rfl) ?_
  refine lv_iload_n hx hb (dk_at dkL_law_14 6 rfl) rfl (lv_at hl 3 rfl) ?_
  refine lv_iconst (v := iI 1) hx hb (dk_at dkL_law_14 7 rfl) (by decide +kernel) ?_
  refine x_addv (v := i + 1) hx hb (dk_at dkL_law_14 8 rfl) rfl ?_
  refine x_sld (i := i + 1) hx hb hX hbl hbA hS hL (by omega) (dk_at dkL_law_14 9 rfl) ?_
  refine lv_aload_n hx hb (dk_at dkL_law_14 10 rfl) rfl (lv_at hl 0 rfl) ?_
  refine lv_iload_n hx hb (dk_at dkL_law_14 11 rfl) rfl (lv_at hl 3 rfl) ?_
  refine lv_iconst (v := iI 2) hx hb (dk_at dkL_law_14 12 rfl) (by decide +kernel) ?_
  refine x_addv (v := i + 2) hx hb (dk_at dkL_law_14 13 rfl) rfl ?_
  refine x_sld (i := i + 2) hx hb hX hbl hbA hS hL (by omega) (dk_at dkL_law_14 14 rfl) ?_
  refine l_callK (As := [.int (iI (sx xs (i + 1))), .int (iI (sx xs (i + 2)))]) (rest := []) (Wo := WM cI cJ cZ r A) ⟨hx, hb, hml, hown, hts⟩ hE (kc_X11_in l dC dI cB cI cJ cZ cQ aL aS q B (sx xs (i + 1)) (sx xs (i + 2)) hIK (sx_r xs _) (sx_r xs _)) (cwV 2 hts gl_8_0 rfl rfl rfl (by decide +kernel) ⟨Nat.le_of_ble_eq_true rfl, Nat.le_of_ble_eq_true rfl⟩) hK hDK hA0 hPK hPM (hap B A) hS 0 11 wkK rfl rfl hl.1 (Nat.le_of_ble_eq_true rfl) hcs (dk_at dkL_law_14 15 rfl) (fun z1 B2 H locs hw1 hPK hPM hS => ?_)
  obtain ⟨rfl, hr1, hw1⟩ := hw1
  refine lv_pop hx hb (dk_at dkL_law_15 0 rfl) rfl ?_
  refine lv_aload_n hx hb (dk_at dkL_law_15 1 rfl) rfl (lv_at hl 2 rfl) ?_
  refine lv_aload_n hx hb (dk_at dkL_law_15 2 rfl) rfl (lv_at hl 0 rfl) ?_
  refine lv_iload_n hx hb (dk_at dkL_law_15 3 rfl) rfl (lv_at hl 3 rfl) ?_
  refine lv_iconst (v := iI 1) hx hb (dk_at dkL_law_15 4 rfl) (by decide +kernel) ?_
  refine x_addv (v := i + 1) hx hb (dk_at dkL_law_15 5 rfl) rfl ?_
  refine x_sld (i := i + 1) hx hb hX hbl hbA hS hL (by omega) (dk_at dkL_law_15 6 rfl) ?_
  refine lv_aload_n hx hb (dk_at dkL_law_15 7 rfl) rfl (lv_at hl 0 rfl) ?_
  refine lv_iload_n hx hb (dk_at dkL_law_15 8 rfl) rfl (lv_at hl 3 rfl) ?_
  refine lv_iconst (v := iI 2) hx hb (dk_at dkL_law_15 9 rfl) (by decide +kernel) ?_
  refine x_addv (v := i + 2) hx hb (dk_at dkL_law_15 10 rfl) rfl ?_
  refine x_sld (i := i + 2) hx hb hX hbl hbA hS hL (by omega) (dk_at dkL_law_15 11 rfl) ?_
  refine l_callX (As := [.int (iI (sx xs (i + 1))), .int (iI (sx xs (i + 2)))]) (rest := []) (Wo := WK cB cI cJ cZ cQ q B) ⟨hx, hb, hml, hown, hts⟩ (mc_X12_in l dC dI cB cI cJ cZ cQ r A (sx xs (i + 1)) (sx xs (i + 2)) hIM (sx_r xs _) (sx_r xs _)) (cwV 2 hts gl_8_1 rfl rfl rfl (by decide +kernel) ⟨Nat.le_of_ble_eq_true rfl, Nat.le_of_ble_eq_true rfl⟩) hK hDM hA0 hPM hPK (hap B A).sym hS 0 12 wm0 rfl rfl hl.1 (Nat.le_of_ble_eq_true rfl) hcs (dk_at dkL_law_15 12 rfl) (fun z2 A2 H locs hw2 hPM hPK hS => ?_)
  have hq2 := hw2
  obtain ⟨rfl, hr2, hw2⟩ := hw2
  refine lv_pop hx hb (dk_at dkL_law_15 13 rfl) rfl ?_
  refine lv_goto (tgt := 1273) hx hb (dk_at dkL_law_15 14 rfl) (by decide) ?_
  exact k _ _ _ _ _ ⟨hIK, hIM, hcCI, hcWI, by omega, hTB, hOW, hPS, hTR⟩ ⟨hPK, hPM, hS⟩ hl
set_option maxRecDepth 100000 in
theorem gl_9_0 : GoodIn lw_tbl (wsV RL 55 RX11 yX11_person ws_kc_X11_person) := goodVL lt_WY wy_good (t_in_4 _ (List.mem_of_getElem? (i := 51) rfl)) (t_in_4 _ (List.mem_of_getElem? (i := 52) rfl)) (t_in_4 _ (List.mem_of_getElem? (i := 53) rfl)) (t_in_1 _ (List.mem_of_getElem? (i := 1) rfl)) (t_in_4 _ (List.mem_of_getElem? (i := 54) rfl)) (by decide +kernel)
set_option maxRecDepth 100000 in
theorem gl_9_1 : GoodIn lw_tbl (wsV RL 58 RX12 yX12_person_ ws_mb_X12_person_) := goodVL lt_WX wx_good (t_in_8 _ (List.mem_of_getElem? (i := 176) rfl)) (t_in_8 _ (List.mem_of_getElem? (i := 177) rfl)) (t_in_8 _ (List.mem_of_getElem? (i := 178) rfl)) (t_in_1 _ (List.mem_of_getElem? (i := 17) rfl)) (t_in_8 _ (List.mem_of_getElem? (i := 179) rfl)) (by decide +kernel)
set_option maxHeartbeats 4000000 in
set_option maxRecDepth 100000 in
theorem law_case_9 {p : Program} {e : Env} {s : State} {m : MethodId} {below : List Frame} {meth : Method} {c : Code} (l : Launch) {b L : Nat} {xs : Nat → Int32} (C0 : lw_At p s m meth c b L xs) (hL : L ≤ 3072) (dC : Nat → ClassId) (dI : Nat → Nat → Nat) (cB cI cJ cZ cQ : ClassId) (aL aS : Nat) (q r : Nat → Nat) (F : LF dC dI cB cI cJ cZ cQ aL aS q r s) {B A : St} {i : Int} (hi : 0 ≤ i ∧ i + 6 ≤ L) (hJ : LJ B A) {H : Heap} {locs : List Loc} {cells slots : Nat} {ls : Array Slot} (hcs : cells ≤ room_1.cells ∧ slots ≤ room_1.slots) (hW : LW dC dI cB cI cJ cZ cQ q r s B A H locs) (hl : lv_has ls 4 [(0, .ref b), (1, .ref (q 0)), (2, .ref (r 0)), (3, .int (iI i))]) (k : ∀ (B A : St) (H : Heap) (locs : List Loc) (ls : Array Slot), LJ B A → LW dC dI cB cI cJ cZ cQ q r s B A H locs → lv_has ls 4 [(0, .ref b), (1, .ref (q 0)), (2, .ref (r 0)), (3, .int (iI i))] → W p l e room_1 s m #[Value.ref b] below meth c H locs cells slots (lw_Z below #[Value.ref b] s) (F0 m 1273 ls [])) : W p l e room_1 s m #[Value.ref b] below meth c H locs cells slots (lw_Z below #[Value.ref b] s) (F0 m 483 ls []) := by
  obtain ⟨hx, hb, hr, hml, hown, hts, hX, hbl, hlocks, hgv⟩ := id C0
  obtain ⟨hK, hDK, hDM, hap, hE⟩ := F
  obtain ⟨hPK, hPM, hS⟩ := hW
  obtain ⟨hIK, hIM, hcCI, hcWI, hJ, hTB, hOW, hPS, hTR⟩ := hJ
  have hIK0 := hIK
  have hIM0 := hIM
  have r01 : (0 : Int) ≤ A 0 1 := (hIM 0 1).1
  have hbA : ¬ (fun b : Nat => s.heap.size ≤ b) b := Nat.not_le.mpr hbl
  have hA0 : ∀ b : Nat, s.heap.size ≤ b → (fun b : Nat => s.heap.size ≤ b) b := fun _ h => h
  refine lv_aload_n hx hb (dk_at dkL_law_15 15 rfl) rfl (lv_at hl 1 rfl) ?_
  refine lv_aload_n hx hb (dk_at dkL_law_16 0 rfl) rfl (lv_at hl 0 rfl) ?_
  refine lv_iload_n hx hb (dk_at dkL_law_16 1 rfl) rfl (lv_at hl 3 rfl) ?_
  refine lv_iconst (v := iI 1) hx hb (dk_at dkL_law_16 2 rfl) (by decide +kernel) ?_
  refine x_addv (v := i + 1) hx hb (dk_at dkL_law_16 3 rfl) rfl ?_
  refine x_sld (i := i + 1) hx hb hX hbl hbA hS hL (by omega) (dk_at dkL_law_16 4 rfl) ?_
  refine lv_aload_n hx hb (dk_at dkL_law_16 5 rfl) rfl (lv_at hl 0 rfl) ?_
  refine lv_iload_n hx hb (dk_at dkL_law_16 6 rfl) rfl (lv_at hl 3 rfl) ?_
  refine lv_iconst (v := iI 2) hx hb (dk_at dkL_law_16 7 rfl) (by decide +kernel) ?_
  refine x_addv (v := i + 2) hx hb (dk_at dkL_law_16 8 rfl) rfl ?_
  refine x_sld (i := i + 2) hx hb hX hbl hbA hS hL (by omega) (dk_at dkL_law_16 9 rfl) ?_
  refine l_callK (As := [.int (iI (sx xs (i + 1))), .int (iI (sx xs (i + 2)))]) (rest := []) (Wo := WM cI cJ cZ r A) ⟨hx, hb, hml, hown, hts⟩ hE (kc_X11_person l dC dI cB cI cJ cZ cQ aL aS q B (sx xs (i + 1)) (sx xs (i + 2)) hIK (sx_r xs _) (sx_r xs _)) (cwV 2 hts gl_9_0 rfl rfl rfl (by decide +kernel) ⟨Nat.le_of_ble_eq_true rfl, Nat.le_of_ble_eq_true rfl⟩) hK hDK hA0 hPK hPM (hap B A) hS 0 11 wkK rfl rfl hl.1 (Nat.le_of_ble_eq_true rfl) hcs (dk_at dkL_law_16 10 rfl) (fun z1 B2 H locs hw1 hPK hPM hS => ?_)
  obtain ⟨hr1, hIK, hf1, hw1⟩ := hw1
  have e1 : B2 1 1 = B 1 1 := hf1 1 1 rfl rfl
  refine lv_pop hx hb (dk_at dkL_law_16 11 rfl) rfl ?_
  refine lv_aload_n hx hb (dk_at dkL_law_16 12 rfl) rfl (lv_at hl 2 rfl) ?_
  refine lv_aload_n hx hb (dk_at dkL_law_16 13 rfl) rfl (lv_at hl 0 rfl) ?_
  refine lv_iload_n hx hb (dk_at dkL_law_16 14 rfl) rfl (lv_at hl 3 rfl) ?_
  refine lv_iconst (v := iI 1) hx hb (dk_at dkL_law_16 15 rfl) (by decide +kernel) ?_
  refine x_addv (v := i + 1) hx hb (dk_at dkL_law_17 0 rfl) rfl ?_
  refine x_sld (i := i + 1) hx hb hX hbl hbA hS hL (by omega) (dk_at dkL_law_17 1 rfl) ?_
  refine lv_aload_n hx hb (dk_at dkL_law_17 2 rfl) rfl (lv_at hl 0 rfl) ?_
  refine lv_iload_n hx hb (dk_at dkL_law_17 3 rfl) rfl (lv_at hl 3 rfl) ?_
  refine lv_iconst (v := iI 2) hx hb (dk_at dkL_law_17 4 rfl) (by decide +kernel) ?_
  refine x_addv (v := i + 2) hx hb (dk_at dkL_law_17 5 rfl) rfl ?_
  refine x_sld (i := i + 2) hx hb hX hbl hbA hS hL (by omega) (dk_at dkL_law_17 6 rfl) ?_
  refine l_callX (As := [.int (iI (sx xs (i + 1))), .int (iI (sx xs (i + 2)))]) (rest := []) (Wo := WK cB cI cJ cZ cQ q B2) ⟨hx, hb, hml, hown, hts⟩ (mb_X12_person_ l dC dI cB cI cJ cZ cQ r A (sx xs (i + 1)) (sx xs (i + 2)) hIM (sx_r xs _) (sx_r xs _) hcCI hcWI) (cwV 2 hts gl_9_1 rfl rfl rfl (by decide +kernel) ⟨Nat.le_of_ble_eq_true rfl, Nat.le_of_ble_eq_true rfl⟩) hK hDM hA0 hPM hPK (hap B2 A).sym hS 0 12 wm0 rfl rfl hl.1 (Nat.le_of_ble_eq_true rfl) hcs (dk_at dkL_law_17 7 rfl) (fun z2 A2 H locs hw2 hPM hPK hS => ?_)
  have hq2 := hw2
  obtain ⟨hr2, hIM, hf2, hcCI2, hcWI2, hw2⟩ := hw2
  have hcCI : CI A2 := hcCI2
  have hcWI : WI A2 := hcWI2
  have e2 : A2 0 1 = A 0 1 := hf2.2 1 rfl
  refine lv_pop hx hb (dk_at dkL_law_17 8 rfl) rfl ?_
  refine lv_goto (tgt := 1273) hx hb (dk_at dkL_law_17 9 rfl) (by decide) ?_
  exact k _ _ _ _ _ ⟨hIK, hIM, hcCI, hcWI, by omega, hTB.fr (fun k => hf1 2 k rfl rfl) (hf2.1 1 (by decide) rfl) (by omega), (fun k hk => (hf1 4 k rfl rfl).trans (hOW k hk)), PSs.fr hIK0 hPS hf1 rfl rfl hf2 rfl rfl, ((hf1 22 4 rfl rfl).trans (hTR.trans (hf2.2 75 rfl).symm))⟩ ⟨hPK, hPM, hS⟩ hl
set_option maxRecDepth 100000 in
theorem gl_10_0 : GoodIn lw_tbl (wsV RL 59 RX11 yX11_go ws_kc_X11_go) := goodVL lt_WY wy_good (t_in_4 _ (List.mem_of_getElem? (i := 173) rfl)) (t_in_4 _ (List.mem_of_getElem? (i := 174) rfl)) (t_in_4 _ (List.mem_of_getElem? (i := 175) rfl)) (t_in_1 _ (List.mem_of_getElem? (i := 1) rfl)) (t_in_4 _ (List.mem_of_getElem? (i := 176) rfl)) (by decide +kernel)
set_option maxRecDepth 100000 in
theorem gl_10_1 : GoodIn lw_tbl (wsV RL 62 RX12 yX12_go ws_mb_X12_go) := goodVL lt_WX wx_good (t_in_8 _ (List.mem_of_getElem? (i := 70) rfl)) (t_in_8 _ (List.mem_of_getElem? (i := 71) rfl)) (t_in_8 _ (List.mem_of_getElem? (i := 72) rfl)) (t_in_1 _ (List.mem_of_getElem? (i := 17) rfl)) (t_in_8 _ (List.mem_of_getElem? (i := 73) rfl)) (by decide +kernel)
set_option maxHeartbeats 4000000 in
set_option maxRecDepth 100000 in
theorem law_case_10 {p : Program} {e : Env} {s : State} {m : MethodId} {below : List Frame} {meth : Method} {c : Code} (l : Launch) {b L : Nat} {xs : Nat → Int32} (C0 : lw_At p s m meth c b L xs) (hL : L ≤ 3072) (dC : Nat → ClassId) (dI : Nat → Nat → Nat) (cB cI cJ cZ cQ : ClassId) (aL aS : Nat) (q r : Nat → Nat) (F : LF dC dI cB cI cJ cZ cQ aL aS q r s) {B A : St} {i : Int} (hi : 0 ≤ i ∧ i + 6 ≤ L) (hJ : LJ B A) {H : Heap} {locs : List Loc} {cells slots : Nat} {ls : Array Slot} (hcs : cells ≤ room_1.cells ∧ slots ≤ room_1.slots) (hW : LW dC dI cB cI cJ cZ cQ q r s B A H locs) (hl : lv_has ls 4 [(0, .ref b), (1, .ref (q 0)), (2, .ref (r 0)), (3, .int (iI i))]) (k : ∀ (B A : St) (H : Heap) (locs : List Loc) (ls : Array Slot), LJ B A → LW dC dI cB cI cJ cZ cQ q r s B A H locs → lv_has ls 4 [(0, .ref b), (1, .ref (q 0)), (2, .ref (r 0)), (3, .int (iI i))] → W p l e room_1 s m #[Value.ref b] below meth c H locs cells slots (lw_Z below #[Value.ref b] s) (F0 m 1273 ls [])) : W p l e room_1 s m #[Value.ref b] below meth c H locs cells slots (lw_Z below #[Value.ref b] s) (F0 m 516 ls []) := by
  obtain ⟨hx, hb, hr, hml, hown, hts, hX, hbl, hlocks, hgv⟩ := id C0
  obtain ⟨hK, hDK, hDM, hap, hE⟩ := F
  obtain ⟨hPK, hPM, hS⟩ := hW
  obtain ⟨hIK, hIM, hcCI, hcWI, hJ, hTB, hOW, hPS, hTR⟩ := hJ
  have hIK0 := hIK
  have hIM0 := hIM
  have r01 : (0 : Int) ≤ A 0 1 := (hIM 0 1).1
  have hbA : ¬ (fun b : Nat => s.heap.size ≤ b) b := Nat.not_le.mpr hbl
  have hA0 : ∀ b : Nat, s.heap.size ≤ b → (fun b : Nat => s.heap.size ≤ b) b := fun _ h => h
  refine lv_aload_n hx hb (dk_at dkL_law_17 10 rfl) rfl (lv_at hl 1 rfl) ?_
  refine lv_aload_n hx hb (dk_at dkL_law_17 11 rfl) rfl (lv_at hl 0 rfl) ?_
  refine lv_iload_n hx hb (dk_at dkL_law_17 12 rfl) rfl (lv_at hl 3 rfl) ?_
  refine lv_iconst (v := iI 1) hx hb (dk_at dkL_law_17 13 rfl) (by decide +kernel) ?_
  refine x_addv (v := i + 1) hx hb (dk_at dkL_law_17 14 rfl) rfl ?_
  refine x_sld (i := i + 1) hx hb hX hbl hbA hS hL (by omega) (dk_at dkL_law_17 15 rfl) ?_
  refine lv_aload_n hx hb (dk_at dkL_law_18 0 rfl) rfl (lv_at hl 0 rfl) ?_
  refine lv_iload_n hx hb (dk_at dkL_law_18 1 rfl) rfl (lv_at hl 3 rfl) ?_
  refine lv_iconst (v := iI 2) hx hb (dk_at dkL_law_18 2 rfl) (by decide +kernel) ?_
  refine x_addv (v := i + 2) hx hb (dk_at dkL_law_18 3 rfl) rfl ?_
  refine x_sld (i := i + 2) hx hb hX hbl hbA hS hL (by omega) (dk_at dkL_law_18 4 rfl) ?_
  refine l_callK (As := [.int (iI (sx xs (i + 1))), .int (iI (sx xs (i + 2)))]) (rest := []) (Wo := WM cI cJ cZ r A) ⟨hx, hb, hml, hown, hts⟩ hE (kc_X11_go l dC dI cB cI cJ cZ cQ aL aS q B (sx xs (i + 1)) (sx xs (i + 2)) hIK (sx_r xs _) (sx_r xs _)) (cwV 2 hts gl_10_0 rfl rfl rfl (by decide +kernel) ⟨Nat.le_of_ble_eq_true rfl, Nat.le_of_ble_eq_true rfl⟩) hK hDK hA0 hPK hPM (hap B A) hS 0 11 wkK rfl rfl hl.1 (Nat.le_of_ble_eq_true rfl) hcs (dk_at dkL_law_18 5 rfl) (fun z1 B2 H locs hw1 hPK hPM hS => ?_)
  obtain ⟨hr1, hIK, hf1, hw1⟩ := hw1
  have e1 : B2 1 1 = B 1 1 := hf1 1 1 rfl rfl
  refine lv_pop hx hb (dk_at dkL_law_18 6 rfl) rfl ?_
  refine lv_aload_n hx hb (dk_at dkL_law_18 7 rfl) rfl (lv_at hl 2 rfl) ?_
  refine lv_aload_n hx hb (dk_at dkL_law_18 8 rfl) rfl (lv_at hl 0 rfl) ?_
  refine lv_iload_n hx hb (dk_at dkL_law_18 9 rfl) rfl (lv_at hl 3 rfl) ?_
  refine lv_iconst (v := iI 1) hx hb (dk_at dkL_law_18 10 rfl) (by decide +kernel) ?_
  refine x_addv (v := i + 1) hx hb (dk_at dkL_law_18 11 rfl) rfl ?_
  refine x_sld (i := i + 1) hx hb hX hbl hbA hS hL (by omega) (dk_at dkL_law_19 0 rfl) ?_
  refine lv_aload_n hx hb (dk_at dkL_law_19 1 rfl) rfl (lv_at hl 0 rfl) ?_
  refine lv_iload_n hx hb (dk_at dkL_law_19 2 rfl) rfl (lv_at hl 3 rfl) ?_
  refine lv_iconst (v := iI 2) hx hb (dk_at dkL_law_19 3 rfl) (by decide +kernel) ?_
  refine x_addv (v := i + 2) hx hb (dk_at dkL_law_19 4 rfl) rfl ?_
  refine x_sld (i := i + 2) hx hb hX hbl hbA hS hL (by omega) (dk_at dkL_law_19 5 rfl) ?_
  refine l_callX (As := [.int (iI (sx xs (i + 1))), .int (iI (sx xs (i + 2)))]) (rest := []) (Wo := WK cB cI cJ cZ cQ q B2) ⟨hx, hb, hml, hown, hts⟩ (mb_X12_go l dC dI cB cI cJ cZ cQ r A (sx xs (i + 1)) (sx xs (i + 2)) hIM (sx_r xs _) (sx_r xs _) hcCI) (cwV 2 hts gl_10_1 rfl rfl rfl (by decide +kernel) ⟨Nat.le_of_ble_eq_true rfl, Nat.le_of_ble_eq_true rfl⟩) hK hDM hA0 hPM hPK (hap B2 A).sym hS 0 12 wm0 rfl rfl hl.1 (Nat.le_of_ble_eq_true rfl) hcs (dk_at dkL_law_19 6 rfl) (fun z2 A2 H locs hw2 hPM hPK hS => ?_)
  have hq2 := hw2
  obtain ⟨hr2, hIM, hf2, hcCI2, hw2⟩ := hw2
  have hcCI : CI A2 := hcCI2
  have hcWI : WI A2 := WI.fr hcWI hf2 rfl rfl
  have e2 : A2 0 1 = A 0 1 := hf2.2 1 rfl
  refine lv_pop hx hb (dk_at dkL_law_19 7 rfl) rfl ?_
  refine lv_goto (tgt := 1273) hx hb (dk_at dkL_law_19 8 rfl) (by decide) ?_
  exact k _ _ _ _ _ ⟨hIK, hIM, hcCI, hcWI, by omega, hTB.fr (fun k => hf1 2 k rfl rfl) (hf2.1 1 (by decide) rfl) (by omega), (fun k hk => (hf1 4 k rfl rfl).trans (hOW k hk)), PSs.fr hIK0 hPS hf1 rfl rfl hf2 rfl rfl, ((hf1 22 4 rfl rfl).trans (hTR.trans (hf2.2 75 rfl).symm))⟩ ⟨hPK, hPM, hS⟩ hl
set_option maxRecDepth 100000 in
theorem gl_11_0 : GoodIn lw_tbl (wsV RL 63 RX11 yX11_open ws_kc_X11_open) := goodVL lt_WY wy_good (t_in_4 _ (List.mem_of_getElem? (i := 196) rfl)) (t_in_4 _ (List.mem_of_getElem? (i := 197) rfl)) (t_in_4 _ (List.mem_of_getElem? (i := 198) rfl)) (t_in_1 _ (List.mem_of_getElem? (i := 1) rfl)) (t_in_4 _ (List.mem_of_getElem? (i := 199) rfl)) (by decide +kernel)
set_option maxRecDepth 100000 in
theorem gl_11_1 : GoodIn lw_tbl (wsV RL 66 RX12 yX12_open ws_mc_X12_open) := goodVL lt_WX wx_good (t_in_8 _ (List.mem_of_getElem? (i := 120) rfl)) (t_in_8 _ (List.mem_of_getElem? (i := 121) rfl)) (t_in_8 _ (List.mem_of_getElem? (i := 122) rfl)) (t_in_1 _ (List.mem_of_getElem? (i := 17) rfl)) (t_in_8 _ (List.mem_of_getElem? (i := 123) rfl)) (by decide +kernel)
set_option maxHeartbeats 4000000 in
set_option maxRecDepth 100000 in
theorem law_case_11 {p : Program} {e : Env} {s : State} {m : MethodId} {below : List Frame} {meth : Method} {c : Code} (l : Launch) {b L : Nat} {xs : Nat → Int32} (C0 : lw_At p s m meth c b L xs) (hL : L ≤ 3072) (dC : Nat → ClassId) (dI : Nat → Nat → Nat) (cB cI cJ cZ cQ : ClassId) (aL aS : Nat) (q r : Nat → Nat) (F : LF dC dI cB cI cJ cZ cQ aL aS q r s) {B A : St} {i : Int} (hi : 0 ≤ i ∧ i + 6 ≤ L) (hJ : LJ B A) {H : Heap} {locs : List Loc} {cells slots : Nat} {ls : Array Slot} (hcs : cells ≤ room_1.cells ∧ slots ≤ room_1.slots) (hW : LW dC dI cB cI cJ cZ cQ q r s B A H locs) (hl : lv_has ls 4 [(0, .ref b), (1, .ref (q 0)), (2, .ref (r 0)), (3, .int (iI i))]) (k : ∀ (B A : St) (H : Heap) (locs : List Loc) (ls : Array Slot), LJ B A → LW dC dI cB cI cJ cZ cQ q r s B A H locs → lv_has ls 4 [(0, .ref b), (1, .ref (q 0)), (2, .ref (r 0)), (3, .int (iI i))] → W p l e room_1 s m #[Value.ref b] below meth c H locs cells slots (lw_Z below #[Value.ref b] s) (F0 m 1273 ls [])) : W p l e room_1 s m #[Value.ref b] below meth c H locs cells slots (lw_Z below #[Value.ref b] s) (F0 m 549 ls []) := by
  obtain ⟨hx, hb, hr, hml, hown, hts, hX, hbl, hlocks, hgv⟩ := id C0
  obtain ⟨hK, hDK, hDM, hap, hE⟩ := F
  obtain ⟨hPK, hPM, hS⟩ := hW
  obtain ⟨hIK, hIM, hcCI, hcWI, hJ, hTB, hOW, hPS, hTR⟩ := hJ
  have hIK0 := hIK
  have hIM0 := hIM
  have r01 : (0 : Int) ≤ A 0 1 := (hIM 0 1).1
  have hbA : ¬ (fun b : Nat => s.heap.size ≤ b) b := Nat.not_le.mpr hbl
  have hA0 : ∀ b : Nat, s.heap.size ≤ b → (fun b : Nat => s.heap.size ≤ b) b := fun _ h => h
  refine lv_aload_n hx hb (dk_at dkL_law_19 9 rfl) rfl (lv_at hl 1 rfl) ?_
  refine lv_aload_n hx hb (dk_at dkL_law_19 10 rfl) rfl (lv_at hl 0 rfl) ?_
  refine lv_iload_n hx hb (dk_at dkL_law_19 11 rfl) rfl (lv_at hl 3 rfl) ?_
  refine lv_iconst (v := iI 1) hx hb (dk_at dkL_law_19 12 rfl) (by decide +kernel) ?_
  refine x_addv (v := i + 1) hx hb (dk_at dkL_law_19 13 rfl) rfl ?_
  refine x_sld (i := i + 1) hx hb hX hbl hbA hS hL (by omega) (dk_at dkL_law_19 14 rfl) ?_
  refine lv_aload_n hx hb (dk_at dkL_law_19 15 rfl) rfl (lv_at hl 0 rfl) ?_
  refine lv_iload_n hx hb (dk_at dkL_law_20 0 rfl) rfl (lv_at hl 3 rfl) ?_
  refine lv_iconst (v := iI 2) hx hb (dk_at dkL_law_20 1 rfl) (by decide +kernel) ?_
  refine x_addv (v := i + 2) hx hb (dk_at dkL_law_20 2 rfl) rfl ?_
  refine x_sld (i := i + 2) hx hb hX hbl hbA hS hL (by omega) (dk_at dkL_law_20 3 rfl) ?_
  refine l_callK (As := [.int (iI (sx xs (i + 1))), .int (iI (sx xs (i + 2)))]) (rest := []) (Wo := WM cI cJ cZ r A) ⟨hx, hb, hml, hown, hts⟩ hE (kc_X11_open l dC dI cB cI cJ cZ cQ aL aS q B (sx xs (i + 1)) (sx xs (i + 2)) hIK (sx_r xs _) (sx_r xs _)) (cwV 2 hts gl_11_0 rfl rfl rfl (by decide +kernel) ⟨Nat.le_of_ble_eq_true rfl, Nat.le_of_ble_eq_true rfl⟩) hK hDK hA0 hPK hPM (hap B A) hS 0 11 wkK rfl rfl hl.1 (Nat.le_of_ble_eq_true rfl) hcs (dk_at dkL_law_20 4 rfl) (fun z1 B2 H locs hw1 hPK hPM hS => ?_)
  obtain ⟨hr1, hIK, hf1, hw1⟩ := hw1
  have e1 : B2 1 1 = B 1 1 := hf1 1 1 rfl rfl
  refine lv_pop hx hb (dk_at dkL_law_20 5 rfl) rfl ?_
  refine lv_aload_n hx hb (dk_at dkL_law_20 6 rfl) rfl (lv_at hl 2 rfl) ?_
  refine lv_aload_n hx hb (dk_at dkL_law_20 7 rfl) rfl (lv_at hl 0 rfl) ?_
  refine lv_iload_n hx hb (dk_at dkL_law_20 8 rfl) rfl (lv_at hl 3 rfl) ?_
  refine lv_iconst (v := iI 1) hx hb (dk_at dkL_law_20 9 rfl) (by decide +kernel) ?_
  refine x_addv (v := i + 1) hx hb (dk_at dkL_law_20 10 rfl) rfl ?_
  refine x_sld (i := i + 1) hx hb hX hbl hbA hS hL (by omega) (dk_at dkL_law_20 11 rfl) ?_
  refine lv_aload_n hx hb (dk_at dkL_law_20 12 rfl) rfl (lv_at hl 0 rfl) ?_
  refine lv_iload_n hx hb (dk_at dkL_law_20 13 rfl) rfl (lv_at hl 3 rfl) ?_
  refine lv_iconst (v := iI 2) hx hb (dk_at dkL_law_20 14 rfl) (by decide +kernel) ?_
  refine x_addv (v := i + 2) hx hb (dk_at dkL_law_20 15 rfl) rfl ?_
  refine x_sld (i := i + 2) hx hb hX hbl hbA hS hL (by omega) (dk_at dkL_law_21 0 rfl) ?_
  refine l_callX (As := [.int (iI (sx xs (i + 1))), .int (iI (sx xs (i + 2)))]) (rest := []) (Wo := WK cB cI cJ cZ cQ q B2) ⟨hx, hb, hml, hown, hts⟩ (mc_X12_open l dC dI cB cI cJ cZ cQ r A (sx xs (i + 1)) (sx xs (i + 2)) hIM (sx_r xs _) (sx_r xs _)) (cwV 2 hts gl_11_1 rfl rfl rfl (by decide +kernel) ⟨Nat.le_of_ble_eq_true rfl, Nat.le_of_ble_eq_true rfl⟩) hK hDM hA0 hPM hPK (hap B2 A).sym hS 0 12 wm0 rfl rfl hl.1 (Nat.le_of_ble_eq_true rfl) hcs (dk_at dkL_law_21 1 rfl) (fun z2 A2 H locs hw2 hPM hPK hS => ?_)
  have hq2 := hw2
  obtain ⟨hr2, hIM, hf2, hw2⟩ := hw2
  have hcCI : CI A2 := CI.fr hcCI hf2 rfl rfl
  have hcWI : WI A2 := WI.fr hcWI hf2 rfl rfl
  have e2 : A2 0 1 = A 0 1 := hf2.2 1 rfl
  refine lv_pop hx hb (dk_at dkL_law_21 2 rfl) rfl ?_
  refine lv_goto (tgt := 1273) hx hb (dk_at dkL_law_21 3 rfl) (by decide) ?_
  exact k _ _ _ _ _ ⟨hIK, hIM, hcCI, hcWI, by omega, hTB.fr (fun k => hf1 2 k rfl rfl) (hf2.1 1 (by decide) rfl) (by omega), (fun k hk => (hf1 4 k rfl rfl).trans (hOW k hk)), PSs.fr hIK0 hPS hf1 rfl rfl hf2 rfl rfl, ((hf1 22 4 rfl rfl).trans (hTR.trans (hf2.2 75 rfl).symm))⟩ ⟨hPK, hPM, hS⟩ hl
set_option maxRecDepth 100000 in
theorem gl_12_0 : GoodIn lw_tbl (wsV RL 67 RX11 yX11_shut ws_kc_X11_shut) := goodVL lt_WY wy_good (t_in_4 _ (List.mem_of_getElem? (i := 209) rfl)) (t_in_4 _ (List.mem_of_getElem? (i := 210) rfl)) (t_in_4 _ (List.mem_of_getElem? (i := 211) rfl)) (t_in_1 _ (List.mem_of_getElem? (i := 1) rfl)) (t_in_4 _ (List.mem_of_getElem? (i := 212) rfl)) (by decide +kernel)
set_option maxRecDepth 100000 in
theorem gl_12_1 : GoodIn lw_tbl (wsV RL 70 RX12 yX12_shut ws_mc_X12_shut) := goodVL lt_WX wx_good (t_in_8 _ (List.mem_of_getElem? (i := 128) rfl)) (t_in_8 _ (List.mem_of_getElem? (i := 129) rfl)) (t_in_8 _ (List.mem_of_getElem? (i := 130) rfl)) (t_in_1 _ (List.mem_of_getElem? (i := 17) rfl)) (t_in_8 _ (List.mem_of_getElem? (i := 131) rfl)) (by decide +kernel)
set_option maxHeartbeats 4000000 in
set_option maxRecDepth 100000 in
theorem law_case_12 {p : Program} {e : Env} {s : State} {m : MethodId} {below : List Frame} {meth : Method} {c : Code} (l : Launch) {b L : Nat} {xs : Nat → Int32} (C0 : lw_At p s m meth c b L xs) (hL : L ≤ 3072) (dC : Nat → ClassId) (dI : Nat → Nat → Nat) (cB cI cJ cZ cQ : ClassId) (aL aS : Nat) (q r : Nat → Nat) (F : LF dC dI cB cI cJ cZ cQ aL aS q r s) {B A : St} {i : Int} (hi : 0 ≤ i ∧ i + 6 ≤ L) (hJ : LJ B A) {H : Heap} {locs : List Loc} {cells slots : Nat} {ls : Array Slot} (hcs : cells ≤ room_1.cells ∧ slots ≤ room_1.slots) (hW : LW dC dI cB cI cJ cZ cQ q r s B A H locs) (hl : lv_has ls 4 [(0, .ref b), (1, .ref (q 0)), (2, .ref (r 0)), (3, .int (iI i))]) (k : ∀ (B A : St) (H : Heap) (locs : List Loc) (ls : Array Slot), LJ B A → LW dC dI cB cI cJ cZ cQ q r s B A H locs → lv_has ls 4 [(0, .ref b), (1, .ref (q 0)), (2, .ref (r 0)), (3, .int (iI i))] → W p l e room_1 s m #[Value.ref b] below meth c H locs cells slots (lw_Z below #[Value.ref b] s) (F0 m 1273 ls [])) : W p l e room_1 s m #[Value.ref b] below meth c H locs cells slots (lw_Z below #[Value.ref b] s) (F0 m 582 ls []) := by
  obtain ⟨hx, hb, hr, hml, hown, hts, hX, hbl, hlocks, hgv⟩ := id C0
  obtain ⟨hK, hDK, hDM, hap, hE⟩ := F
  obtain ⟨hPK, hPM, hS⟩ := hW
  obtain ⟨hIK, hIM, hcCI, hcWI, hJ, hTB, hOW, hPS, hTR⟩ := hJ
  have hIK0 := hIK
  have hIM0 := hIM
  have r01 : (0 : Int) ≤ A 0 1 := (hIM 0 1).1
  have hbA : ¬ (fun b : Nat => s.heap.size ≤ b) b := Nat.not_le.mpr hbl
  have hA0 : ∀ b : Nat, s.heap.size ≤ b → (fun b : Nat => s.heap.size ≤ b) b := fun _ h => h
  refine lv_aload_n hx hb (dk_at dkL_law_21 4 rfl) rfl (lv_at hl 1 rfl) ?_
  refine lv_aload_n hx hb (dk_at dkL_law_21 5 rfl) rfl (lv_at hl 0 rfl) ?_
  refine lv_iload_n hx hb (dk_at dkL_law_21 6 rfl) rfl (lv_at hl 3 rfl) ?_
  refine lv_iconst (v := iI 1) hx hb (dk_at dkL_law_21 7 rfl) (by decide +kernel) ?_
  refine x_addv (v := i + 1) hx hb (dk_at dkL_law_21 8 rfl) rfl ?_
  refine x_sld (i := i + 1) hx hb hX hbl hbA hS hL (by omega) (dk_at dkL_law_21 9 rfl) ?_
  refine lv_aload_n hx hb (dk_at dkL_law_21 10 rfl) rfl (lv_at hl 0 rfl) ?_
  refine lv_iload_n hx hb (dk_at dkL_law_21 11 rfl) rfl (lv_at hl 3 rfl) ?_
  refine lv_iconst (v := iI 2) hx hb (dk_at dkL_law_21 12 rfl) (by decide +kernel) ?_
  refine x_addv (v := i + 2) hx hb (dk_at dkL_law_21 13 rfl) rfl ?_
  refine x_sld (i := i + 2) hx hb hX hbl hbA hS hL (by omega) (dk_at dkL_law_21 14 rfl) ?_
  refine lv_aload_n hx hb (dk_at dkL_law_21 15 rfl) rfl (lv_at hl 0 rfl) ?_
  refine lv_iload_n hx hb (dk_at dkL_law_22 0 rfl) rfl (lv_at hl 3 rfl) ?_
  refine lv_iconst (v := iI 3) hx hb (dk_at dkL_law_22 1 rfl) (by decide +kernel) ?_
  refine x_addv (v := i + 3) hx hb (dk_at dkL_law_22 2 rfl) rfl ?_
  refine x_sld (i := i + 3) hx hb hX hbl hbA hS hL (by omega) (dk_at dkL_law_22 3 rfl) ?_
  refine l_callK (As := [.int (iI (sx xs (i + 1))), .int (iI (sx xs (i + 2))), .int (iI (sx xs (i + 3)))]) (rest := []) (Wo := WM cI cJ cZ r A) ⟨hx, hb, hml, hown, hts⟩ hE (kc_X11_shut l dC dI cB cI cJ cZ cQ aL aS q B (sx xs (i + 1)) (sx xs (i + 2)) (sx xs (i + 3)) hIK (sx_r xs _) (sx_r xs _) (sx_r xs _)) (cwV 3 hts gl_12_0 rfl rfl rfl (by decide +kernel) ⟨Nat.le_of_ble_eq_true rfl, Nat.le_of_ble_eq_true rfl⟩) hK hDK hA0 hPK hPM (hap B A) hS 0 11 wkK rfl rfl hl.1 (Nat.le_of_ble_eq_true rfl) hcs (dk_at dkL_law_22 4 rfl) (fun z1 B2 H locs hw1 hPK hPM hS => ?_)
  obtain ⟨hr1, hIK, hf1, hw1⟩ := hw1
  have e1 : B2 1 1 = B 1 1 := hf1 1 1 rfl rfl
  refine lv_pop hx hb (dk_at dkL_law_22 5 rfl) rfl ?_
  refine lv_aload_n hx hb (dk_at dkL_law_22 6 rfl) rfl (lv_at hl 2 rfl) ?_
  refine lv_aload_n hx hb (dk_at dkL_law_22 7 rfl) rfl (lv_at hl 0 rfl) ?_
  refine lv_iload_n hx hb (dk_at dkL_law_22 8 rfl) rfl (lv_at hl 3 rfl) ?_
  refine lv_iconst (v := iI 1) hx hb (dk_at dkL_law_22 9 rfl) (by decide +kernel) ?_
  refine x_addv (v := i + 1) hx hb (dk_at dkL_law_22 10 rfl) rfl ?_
  refine x_sld (i := i + 1) hx hb hX hbl hbA hS hL (by omega) (dk_at dkL_law_22 11 rfl) ?_
  refine lv_aload_n hx hb (dk_at dkL_law_22 12 rfl) rfl (lv_at hl 0 rfl) ?_
  refine lv_iload_n hx hb (dk_at dkL_law_22 13 rfl) rfl (lv_at hl 3 rfl) ?_
  refine lv_iconst (v := iI 2) hx hb (dk_at dkL_law_22 14 rfl) (by decide +kernel) ?_
  refine x_addv (v := i + 2) hx hb (dk_at dkL_law_22 15 rfl) rfl ?_
  refine x_sld (i := i + 2) hx hb hX hbl hbA hS hL (by omega) (dk_at dkL_law_23 0 rfl) ?_
  refine lv_aload_n hx hb (dk_at dkL_law_23 1 rfl) rfl (lv_at hl 0 rfl) ?_
  refine lv_iload_n hx hb (dk_at dkL_law_23 2 rfl) rfl (lv_at hl 3 rfl) ?_
  refine lv_iconst (v := iI 3) hx hb (dk_at dkL_law_23 3 rfl) (by decide +kernel) ?_
  refine x_addv (v := i + 3) hx hb (dk_at dkL_law_23 4 rfl) rfl ?_
  refine x_sld (i := i + 3) hx hb hX hbl hbA hS hL (by omega) (dk_at dkL_law_23 5 rfl) ?_
  refine l_callX (As := [.int (iI (sx xs (i + 1))), .int (iI (sx xs (i + 2))), .int (iI (sx xs (i + 3)))]) (rest := []) (Wo := WK cB cI cJ cZ cQ q B2) ⟨hx, hb, hml, hown, hts⟩ (mc_X12_shut l dC dI cB cI cJ cZ cQ r A (sx xs (i + 1)) (sx xs (i + 2)) (sx xs (i + 3)) hIM (sx_r xs _) (sx_r xs _) (sx_r xs _)) (cwV 3 hts gl_12_1 rfl rfl rfl (by decide +kernel) ⟨Nat.le_of_ble_eq_true rfl, Nat.le_of_ble_eq_true rfl⟩) hK hDM hA0 hPM hPK (hap B2 A).sym hS 0 12 wm0 rfl rfl hl.1 (Nat.le_of_ble_eq_true rfl) hcs (dk_at dkL_law_23 6 rfl) (fun z2 A2 H locs hw2 hPM hPK hS => ?_)
  have hq2 := hw2
  obtain ⟨hr2, hIM, hf2, hw2⟩ := hw2
  have hcCI : CI A2 := CI.fr hcCI hf2 rfl rfl
  have hcWI : WI A2 := WI.fr hcWI hf2 rfl rfl
  have e2 : A2 0 1 = A 0 1 := hf2.2 1 rfl
  refine lv_pop hx hb (dk_at dkL_law_23 7 rfl) rfl ?_
  refine lv_goto (tgt := 1273) hx hb (dk_at dkL_law_23 8 rfl) (by decide) ?_
  exact k _ _ _ _ _ ⟨hIK, hIM, hcCI, hcWI, by omega, hTB.fr (fun k => hf1 2 k rfl rfl) (hf2.1 1 (by decide) rfl) (by omega), (fun k hk => (hf1 4 k rfl rfl).trans (hOW k hk)), PSs.fr hIK0 hPS hf1 rfl rfl hf2 rfl rfl, ((hf1 22 4 rfl rfl).trans (hTR.trans (hf2.2 75 rfl).symm))⟩ ⟨hPK, hPM, hS⟩ hl
set_option maxRecDepth 100000 in
theorem gl_13_0 : GoodIn lw_tbl (wsV RL 71 RX11 yX11_lend ws_kc_X11_lend) := goodVL lt_WY wy_good (t_in_4 _ (List.mem_of_getElem? (i := 218) rfl)) (t_in_4 _ (List.mem_of_getElem? (i := 219) rfl)) (t_in_4 _ (List.mem_of_getElem? (i := 220) rfl)) (t_in_1 _ (List.mem_of_getElem? (i := 1) rfl)) (t_in_4 _ (List.mem_of_getElem? (i := 221) rfl)) (by decide +kernel)
set_option maxRecDepth 100000 in
theorem gl_13_1 : GoodIn lw_tbl (wsV RL 75 RX12 yX12_lend ws_mc_X12_lend) := goodVL lt_WX wx_good (t_in_8 _ (List.mem_of_getElem? (i := 136) rfl)) (t_in_8 _ (List.mem_of_getElem? (i := 137) rfl)) (t_in_8 _ (List.mem_of_getElem? (i := 138) rfl)) (t_in_1 _ (List.mem_of_getElem? (i := 17) rfl)) (t_in_8 _ (List.mem_of_getElem? (i := 139) rfl)) (by decide +kernel)
set_option maxHeartbeats 4000000 in
set_option maxRecDepth 100000 in
theorem law_case_13 {p : Program} {e : Env} {s : State} {m : MethodId} {below : List Frame} {meth : Method} {c : Code} (l : Launch) {b L : Nat} {xs : Nat → Int32} (C0 : lw_At p s m meth c b L xs) (hL : L ≤ 3072) (dC : Nat → ClassId) (dI : Nat → Nat → Nat) (cB cI cJ cZ cQ : ClassId) (aL aS : Nat) (q r : Nat → Nat) (F : LF dC dI cB cI cJ cZ cQ aL aS q r s) {B A : St} {i : Int} (hi : 0 ≤ i ∧ i + 6 ≤ L) (hJ : LJ B A) {H : Heap} {locs : List Loc} {cells slots : Nat} {ls : Array Slot} (hcs : cells ≤ room_1.cells ∧ slots ≤ room_1.slots) (hW : LW dC dI cB cI cJ cZ cQ q r s B A H locs) (hl : lv_has ls 4 [(0, .ref b), (1, .ref (q 0)), (2, .ref (r 0)), (3, .int (iI i))]) (k : ∀ (B A : St) (H : Heap) (locs : List Loc) (ls : Array Slot), LJ B A → LW dC dI cB cI cJ cZ cQ q r s B A H locs → lv_has ls 4 [(0, .ref b), (1, .ref (q 0)), (2, .ref (r 0)), (3, .int (iI i))] → W p l e room_1 s m #[Value.ref b] below meth c H locs cells slots (lw_Z below #[Value.ref b] s) (F0 m 1273 ls [])) : W p l e room_1 s m #[Value.ref b] below meth c H locs cells slots (lw_Z below #[Value.ref b] s) (F0 m 625 ls []) := by
  obtain ⟨hx, hb, hr, hml, hown, hts, hX, hbl, hlocks, hgv⟩ := id C0
  obtain ⟨hK, hDK, hDM, hap, hE⟩ := F
  obtain ⟨hPK, hPM, hS⟩ := hW
  obtain ⟨hIK, hIM, hcCI, hcWI, hJ, hTB, hOW, hPS, hTR⟩ := hJ
  have hIK0 := hIK
  have hIM0 := hIM
  have r01 : (0 : Int) ≤ A 0 1 := (hIM 0 1).1
  have hbA : ¬ (fun b : Nat => s.heap.size ≤ b) b := Nat.not_le.mpr hbl
  have hA0 : ∀ b : Nat, s.heap.size ≤ b → (fun b : Nat => s.heap.size ≤ b) b := fun _ h => h
  refine lv_aload_n hx hb (dk_at dkL_law_23 9 rfl) rfl (lv_at hl 1 rfl) ?_
  refine lv_aload_n hx hb (dk_at dkL_law_23 10 rfl) rfl (lv_at hl 0 rfl) ?_
  refine lv_iload_n hx hb (dk_at dkL_law_23 11 rfl) rfl (lv_at hl 3 rfl) ?_
  refine lv_iconst (v := iI 1) hx hb (dk_at dkL_law_23 12 rfl) (by decide +kernel) ?_
  refine x_addv (v := i + 1) hx hb (dk_at dkL_law_23 13 rfl) rfl ?_
  refine x_sld (i := i + 1) hx hb hX hbl hbA hS hL (by omega) (dk_at dkL_law_23 14 rfl) ?_
  refine lv_aload_n hx hb (dk_at dkL_law_23 15 rfl) rfl (lv_at hl 0 rfl) ?_
  refine lv_iload_n hx hb (dk_at dkL_law_24 0 rfl) rfl (lv_at hl 3 rfl) ?_
  refine lv_iconst (v := iI 2) hx hb (dk_at dkL_law_24 1 rfl) (by decide +kernel) ?_
  refine x_addv (v := i + 2) hx hb (dk_at dkL_law_24 2 rfl) rfl ?_
  refine x_sld (i := i + 2) hx hb hX hbl hbA hS hL (by omega) (dk_at dkL_law_24 3 rfl) ?_
  refine lv_aload_n hx hb (dk_at dkL_law_24 4 rfl) rfl (lv_at hl 0 rfl) ?_
  refine lv_iload_n hx hb (dk_at dkL_law_24 5 rfl) rfl (lv_at hl 3 rfl) ?_
  refine lv_iconst (v := iI 3) hx hb (dk_at dkL_law_24 6 rfl) (by decide +kernel) ?_
  refine x_addv (v := i + 3) hx hb (dk_at dkL_law_24 7 rfl) rfl ?_
  refine x_sld (i := i + 3) hx hb hX hbl hbA hS hL (by omega) (dk_at dkL_law_24 8 rfl) ?_
  refine l_callK (As := [.int (iI (sx xs (i + 1))), .int (iI (sx xs (i + 2))), .int (iI (sx xs (i + 3)))]) (rest := []) (Wo := WM cI cJ cZ r A) ⟨hx, hb, hml, hown, hts⟩ hE (kc_X11_lend l dC dI cB cI cJ cZ cQ aL aS q B (sx xs (i + 1)) (sx xs (i + 2)) (sx xs (i + 3)) hIK (sx_r xs _) (sx_r xs _) (sx_r xs _)) (cwV 3 hts gl_13_0 rfl rfl rfl (by decide +kernel) ⟨Nat.le_of_ble_eq_true rfl, Nat.le_of_ble_eq_true rfl⟩) hK hDK hA0 hPK hPM (hap B A) hS 0 11 wkK rfl rfl hl.1 (Nat.le_of_ble_eq_true rfl) hcs (dk_at dkL_law_24 9 rfl) (fun z1 B2 H locs hw1 hPK hPM hS => ?_)
  obtain ⟨hr1, hIK, hf1, hw1⟩ := hw1
  have e1 : B2 1 1 = B 1 1 := hf1 1 1 rfl rfl
  refine lv_pop hx hb (dk_at dkL_law_24 10 rfl) rfl ?_
  refine lv_aload_n hx hb (dk_at dkL_law_24 11 rfl) rfl (lv_at hl 2 rfl) ?_
  refine lv_aload_n hx hb (dk_at dkL_law_24 12 rfl) rfl (lv_at hl 0 rfl) ?_
  refine lv_iload_n hx hb (dk_at dkL_law_24 13 rfl) rfl (lv_at hl 3 rfl) ?_
  refine lv_iconst (v := iI 1) hx hb (dk_at dkL_law_24 14 rfl) (by decide +kernel) ?_
  refine x_addv (v := i + 1) hx hb (dk_at dkL_law_24 15 rfl) rfl ?_
  refine x_sld (i := i + 1) hx hb hX hbl hbA hS hL (by omega) (dk_at dkL_law_25 0 rfl) ?_
  refine lv_aload_n hx hb (dk_at dkL_law_25 1 rfl) rfl (lv_at hl 0 rfl) ?_
  refine lv_iload_n hx hb (dk_at dkL_law_25 2 rfl) rfl (lv_at hl 3 rfl) ?_
  refine lv_iconst (v := iI 2) hx hb (dk_at dkL_law_25 3 rfl) (by decide +kernel) ?_
  refine x_addv (v := i + 2) hx hb (dk_at dkL_law_25 4 rfl) rfl ?_
  refine x_sld (i := i + 2) hx hb hX hbl hbA hS hL (by omega) (dk_at dkL_law_25 5 rfl) ?_
  refine lv_aload_n hx hb (dk_at dkL_law_25 6 rfl) rfl (lv_at hl 0 rfl) ?_
  refine lv_iload_n hx hb (dk_at dkL_law_25 7 rfl) rfl (lv_at hl 3 rfl) ?_
  refine lv_iconst (v := iI 3) hx hb (dk_at dkL_law_25 8 rfl) (by decide +kernel) ?_
  refine x_addv (v := i + 3) hx hb (dk_at dkL_law_25 9 rfl) rfl ?_
  refine x_sld (i := i + 3) hx hb hX hbl hbA hS hL (by omega) (dk_at dkL_law_25 10 rfl) ?_
  refine l_callX (As := [.int (iI (sx xs (i + 1))), .int (iI (sx xs (i + 2))), .int (iI (sx xs (i + 3)))]) (rest := []) (Wo := WK cB cI cJ cZ cQ q B2) ⟨hx, hb, hml, hown, hts⟩ (mc_X12_lend l dC dI cB cI cJ cZ cQ r A (sx xs (i + 1)) (sx xs (i + 2)) (sx xs (i + 3)) hIM (sx_r xs _) (sx_r xs _) (sx_r xs _)) (cwV 3 hts gl_13_1 rfl rfl rfl (by decide +kernel) ⟨Nat.le_of_ble_eq_true rfl, Nat.le_of_ble_eq_true rfl⟩) hK hDM hA0 hPM hPK (hap B2 A).sym hS 0 12 wm0 rfl rfl hl.1 (Nat.le_of_ble_eq_true rfl) hcs (dk_at dkL_law_25 11 rfl) (fun z2 A2 H locs hw2 hPM hPK hS => ?_)
  have hq2 := hw2
  obtain ⟨hr2, hIM, hf2, hw2⟩ := hw2
  have hcCI : CI A2 := CI.fr hcCI hf2 rfl rfl
  have hcWI : WI A2 := WI.fr hcWI hf2 rfl rfl
  have e2 : A2 0 1 = A 0 1 := hf2.2 1 rfl
  refine lv_pop hx hb (dk_at dkL_law_25 12 rfl) rfl ?_
  refine lv_goto (tgt := 1273) hx hb (dk_at dkL_law_25 13 rfl) (by decide) ?_
  exact k _ _ _ _ _ ⟨hIK, hIM, hcCI, hcWI, by omega, hTB.fr (fun k => hf1 2 k rfl rfl) (hf2.1 1 (by decide) rfl) (by omega), (fun k hk => (hf1 4 k rfl rfl).trans (hOW k hk)), PSs.fr hIK0 hPS hf1 rfl rfl hf2 rfl rfl, ((hf1 22 4 rfl rfl).trans (hTR.trans (hf2.2 75 rfl).symm))⟩ ⟨hPK, hPM, hS⟩ hl
set_option maxRecDepth 100000 in
theorem gl_14_0 : GoodIn lw_tbl (wsV RL 76 RX11 yX11_take ws_kc_X11_take) := goodVL lt_WY wy_good (t_in_4 _ (List.mem_of_getElem? (i := 230) rfl)) (t_in_4 _ (List.mem_of_getElem? (i := 231) rfl)) (t_in_4 _ (List.mem_of_getElem? (i := 232) rfl)) (t_in_1 _ (List.mem_of_getElem? (i := 1) rfl)) (t_in_4 _ (List.mem_of_getElem? (i := 233) rfl)) (by decide +kernel)
set_option maxRecDepth 100000 in
theorem gl_14_1 : GoodIn lw_tbl (wsV RL 80 RX12 yX12_take ws_mc_X12_take) := goodVL lt_WX wx_good (t_in_8 _ (List.mem_of_getElem? (i := 140) rfl)) (t_in_8 _ (List.mem_of_getElem? (i := 141) rfl)) (t_in_8 _ (List.mem_of_getElem? (i := 142) rfl)) (t_in_1 _ (List.mem_of_getElem? (i := 17) rfl)) (t_in_8 _ (List.mem_of_getElem? (i := 143) rfl)) (by decide +kernel)
set_option maxHeartbeats 4000000 in
set_option maxRecDepth 100000 in
theorem law_case_14 {p : Program} {e : Env} {s : State} {m : MethodId} {below : List Frame} {meth : Method} {c : Code} (l : Launch) {b L : Nat} {xs : Nat → Int32} (C0 : lw_At p s m meth c b L xs) (hL : L ≤ 3072) (dC : Nat → ClassId) (dI : Nat → Nat → Nat) (cB cI cJ cZ cQ : ClassId) (aL aS : Nat) (q r : Nat → Nat) (F : LF dC dI cB cI cJ cZ cQ aL aS q r s) {B A : St} {i : Int} (hi : 0 ≤ i ∧ i + 6 ≤ L) (hJ : LJ B A) {H : Heap} {locs : List Loc} {cells slots : Nat} {ls : Array Slot} (hcs : cells ≤ room_1.cells ∧ slots ≤ room_1.slots) (hW : LW dC dI cB cI cJ cZ cQ q r s B A H locs) (hl : lv_has ls 4 [(0, .ref b), (1, .ref (q 0)), (2, .ref (r 0)), (3, .int (iI i))]) (k : ∀ (B A : St) (H : Heap) (locs : List Loc) (ls : Array Slot), LJ B A → LW dC dI cB cI cJ cZ cQ q r s B A H locs → lv_has ls 4 [(0, .ref b), (1, .ref (q 0)), (2, .ref (r 0)), (3, .int (iI i))] → W p l e room_1 s m #[Value.ref b] below meth c H locs cells slots (lw_Z below #[Value.ref b] s) (F0 m 1273 ls [])) : W p l e room_1 s m #[Value.ref b] below meth c H locs cells slots (lw_Z below #[Value.ref b] s) (F0 m 668 ls []) := by
  obtain ⟨hx, hb, hr, hml, hown, hts, hX, hbl, hlocks, hgv⟩ := id C0
  obtain ⟨hK, hDK, hDM, hap, hE⟩ := F
  obtain ⟨hPK, hPM, hS⟩ := hW
  obtain ⟨hIK, hIM, hcCI, hcWI, hJ, hTB, hOW, hPS, hTR⟩ := hJ
  have hIK0 := hIK
  have hIM0 := hIM
  have r01 : (0 : Int) ≤ A 0 1 := (hIM 0 1).1
  have hbA : ¬ (fun b : Nat => s.heap.size ≤ b) b := Nat.not_le.mpr hbl
  have hA0 : ∀ b : Nat, s.heap.size ≤ b → (fun b : Nat => s.heap.size ≤ b) b := fun _ h => h
  refine lv_aload_n hx hb (dk_at dkL_law_25 14 rfl) rfl (lv_at hl 1 rfl) ?_
  refine lv_aload_n hx hb (dk_at dkL_law_25 15 rfl) rfl (lv_at hl 0 rfl) ?_
  refine lv_iload_n hx hb (dk_at dkL_law_26 0 rfl) rfl (lv_at hl 3 rfl) ?_
  refine lv_iconst (v := iI 1) hx hb (dk_at dkL_law_26 1 rfl) (by decide +kernel) ?_
  refine x_addv (v := i + 1) hx hb (dk_at dkL_law_26 2 rfl) rfl ?_
  refine x_sld (i := i + 1) hx hb hX hbl hbA hS hL (by omega) (dk_at dkL_law_26 3 rfl) ?_
  refine lv_aload_n hx hb (dk_at dkL_law_26 4 rfl) rfl (lv_at hl 0 rfl) ?_
  refine lv_iload_n hx hb (dk_at dkL_law_26 5 rfl) rfl (lv_at hl 3 rfl) ?_
  refine lv_iconst (v := iI 2) hx hb (dk_at dkL_law_26 6 rfl) (by decide +kernel) ?_
  refine x_addv (v := i + 2) hx hb (dk_at dkL_law_26 7 rfl) rfl ?_
  refine x_sld (i := i + 2) hx hb hX hbl hbA hS hL (by omega) (dk_at dkL_law_26 8 rfl) ?_
  refine l_callK (As := [.int (iI (sx xs (i + 1))), .int (iI (sx xs (i + 2)))]) (rest := []) (Wo := WM cI cJ cZ r A) ⟨hx, hb, hml, hown, hts⟩ hE (kc_X11_take l dC dI cB cI cJ cZ cQ aL aS q B (sx xs (i + 1)) (sx xs (i + 2)) hIK (sx_r xs _) (sx_r xs _)) (cwV 2 hts gl_14_0 rfl rfl rfl (by decide +kernel) ⟨Nat.le_of_ble_eq_true rfl, Nat.le_of_ble_eq_true rfl⟩) hK hDK hA0 hPK hPM (hap B A) hS 0 11 wkK rfl rfl hl.1 (Nat.le_of_ble_eq_true rfl) hcs (dk_at dkL_law_26 9 rfl) (fun z1 B2 H locs hw1 hPK hPM hS => ?_)
  obtain ⟨hr1, hIK, hf1, hw1⟩ := hw1
  have e1 : B2 1 1 = B 1 1 := hf1 1 1 rfl rfl
  refine lv_pop hx hb (dk_at dkL_law_26 10 rfl) rfl ?_
  refine lv_aload_n hx hb (dk_at dkL_law_26 11 rfl) rfl (lv_at hl 2 rfl) ?_
  refine lv_aload_n hx hb (dk_at dkL_law_26 12 rfl) rfl (lv_at hl 0 rfl) ?_
  refine lv_iload_n hx hb (dk_at dkL_law_26 13 rfl) rfl (lv_at hl 3 rfl) ?_
  refine lv_iconst (v := iI 1) hx hb (dk_at dkL_law_26 14 rfl) (by decide +kernel) ?_
  refine x_addv (v := i + 1) hx hb (dk_at dkL_law_26 15 rfl) rfl ?_
  refine x_sld (i := i + 1) hx hb hX hbl hbA hS hL (by omega) (dk_at dkL_law_27 0 rfl) ?_
  refine lv_aload_n hx hb (dk_at dkL_law_27 1 rfl) rfl (lv_at hl 0 rfl) ?_
  refine lv_iload_n hx hb (dk_at dkL_law_27 2 rfl) rfl (lv_at hl 3 rfl) ?_
  refine lv_iconst (v := iI 2) hx hb (dk_at dkL_law_27 3 rfl) (by decide +kernel) ?_
  refine x_addv (v := i + 2) hx hb (dk_at dkL_law_27 4 rfl) rfl ?_
  refine x_sld (i := i + 2) hx hb hX hbl hbA hS hL (by omega) (dk_at dkL_law_27 5 rfl) ?_
  refine l_callX (As := [.int (iI (sx xs (i + 1))), .int (iI (sx xs (i + 2)))]) (rest := []) (Wo := WK cB cI cJ cZ cQ q B2) ⟨hx, hb, hml, hown, hts⟩ (mc_X12_take l dC dI cB cI cJ cZ cQ r A (sx xs (i + 1)) (sx xs (i + 2)) hIM (sx_r xs _) (sx_r xs _)) (cwV 2 hts gl_14_1 rfl rfl rfl (by decide +kernel) ⟨Nat.le_of_ble_eq_true rfl, Nat.le_of_ble_eq_true rfl⟩) hK hDM hA0 hPM hPK (hap B2 A).sym hS 0 12 wm0 rfl rfl hl.1 (Nat.le_of_ble_eq_true rfl) hcs (dk_at dkL_law_27 6 rfl) (fun z2 A2 H locs hw2 hPM hPK hS => ?_)
  have hq2 := hw2
  obtain ⟨hr2, hIM, hf2, hw2⟩ := hw2
  have hcCI : CI A2 := CI.fr hcCI hf2 rfl rfl
  have hcWI : WI A2 := WI.fr hcWI hf2 rfl rfl
  have e2 : A2 0 1 = A 0 1 := hf2.2 1 rfl
  refine lv_pop hx hb (dk_at dkL_law_27 7 rfl) rfl ?_
  refine lv_goto (tgt := 1273) hx hb (dk_at dkL_law_27 8 rfl) (by decide) ?_
  exact k _ _ _ _ _ ⟨hIK, hIM, hcCI, hcWI, by omega, hTB.fr (fun k => hf1 2 k rfl rfl) (hf2.1 1 (by decide) rfl) (by omega), (fun k hk => (hf1 4 k rfl rfl).trans (hOW k hk)), PSs.fr hIK0 hPS hf1 rfl rfl hf2 rfl rfl, ((hf1 22 4 rfl rfl).trans (hTR.trans (hf2.2 75 rfl).symm))⟩ ⟨hPK, hPM, hS⟩ hl
set_option maxRecDepth 100000 in
theorem gl_15_0 : GoodIn lw_tbl (wsV RL 81 RX11 yX11_lay ws_kc_X11_lay) := goodVL lt_WY wy_good (t_in_5 _ (List.mem_of_getElem? (i := 6) rfl)) (t_in_5 _ (List.mem_of_getElem? (i := 7) rfl)) (t_in_5 _ (List.mem_of_getElem? (i := 8) rfl)) (t_in_1 _ (List.mem_of_getElem? (i := 1) rfl)) (t_in_5 _ (List.mem_of_getElem? (i := 9) rfl)) (by decide +kernel)
set_option maxRecDepth 100000 in
theorem gl_15_1 : GoodIn lw_tbl (wsV RL 84 RX12 yX12_lay ws_mc_X12_lay) := goodVL lt_WX wx_good (t_in_8 _ (List.mem_of_getElem? (i := 148) rfl)) (t_in_8 _ (List.mem_of_getElem? (i := 149) rfl)) (t_in_8 _ (List.mem_of_getElem? (i := 150) rfl)) (t_in_1 _ (List.mem_of_getElem? (i := 17) rfl)) (t_in_8 _ (List.mem_of_getElem? (i := 151) rfl)) (by decide +kernel)
set_option maxHeartbeats 4000000 in
set_option maxRecDepth 100000 in
theorem law_case_15 {p : Program} {e : Env} {s : State} {m : MethodId} {below : List Frame} {meth : Method} {c : Code} (l : Launch) {b L : Nat} {xs : Nat → Int32} (C0 : lw_At p s m meth c b L xs) (hL : L ≤ 3072) (dC : Nat → ClassId) (dI : Nat → Nat → Nat) (cB cI cJ cZ cQ : ClassId) (aL aS : Nat) (q r : Nat → Nat) (F : LF dC dI cB cI cJ cZ cQ aL aS q r s) {B A : St} {i : Int} (hi : 0 ≤ i ∧ i + 6 ≤ L) (hJ : LJ B A) {H : Heap} {locs : List Loc} {cells slots : Nat} {ls : Array Slot} (hcs : cells ≤ room_1.cells ∧ slots ≤ room_1.slots) (hW : LW dC dI cB cI cJ cZ cQ q r s B A H locs) (hl : lv_has ls 4 [(0, .ref b), (1, .ref (q 0)), (2, .ref (r 0)), (3, .int (iI i))]) (k : ∀ (B A : St) (H : Heap) (locs : List Loc) (ls : Array Slot), LJ B A → LW dC dI cB cI cJ cZ cQ q r s B A H locs → lv_has ls 4 [(0, .ref b), (1, .ref (q 0)), (2, .ref (r 0)), (3, .int (iI i))] → W p l e room_1 s m #[Value.ref b] below meth c H locs cells slots (lw_Z below #[Value.ref b] s) (F0 m 1273 ls [])) : W p l e room_1 s m #[Value.ref b] below meth c H locs cells slots (lw_Z below #[Value.ref b] s) (F0 m 701 ls []) := by
  obtain ⟨hx, hb, hr, hml, hown, hts, hX, hbl, hlocks, hgv⟩ := id C0
  obtain ⟨hK, hDK, hDM, hap, hE⟩ := F
  obtain ⟨hPK, hPM, hS⟩ := hW
  obtain ⟨hIK, hIM, hcCI, hcWI, hJ, hTB, hOW, hPS, hTR⟩ := hJ
  have hIK0 := hIK
  have hIM0 := hIM
  have r01 : (0 : Int) ≤ A 0 1 := (hIM 0 1).1
  have hbA : ¬ (fun b : Nat => s.heap.size ≤ b) b := Nat.not_le.mpr hbl
  have hA0 : ∀ b : Nat, s.heap.size ≤ b → (fun b : Nat => s.heap.size ≤ b) b := fun _ h => h
  refine lv_aload_n hx hb (dk_at dkL_law_27 9 rfl) rfl (lv_at hl 1 rfl) ?_
  refine lv_aload_n hx hb (dk_at dkL_law_27 10 rfl) rfl (lv_at hl 0 rfl) ?_
  refine lv_iload_n hx hb (dk_at dkL_law_27 11 rfl) rfl (lv_at hl 3 rfl) ?_
  refine lv_iconst (v := iI 1) hx hb (dk_at dkL_law_27 12 rfl) (by decide +kernel) ?_
  refine x_addv (v := i + 1) hx hb (dk_at dkL_law_27 13 rfl) rfl ?_
  refine x_sld (i := i + 1) hx hb hX hbl hbA hS hL (by omega) (dk_at dkL_law_27 14 rfl) ?_
  refine lv_aload_n hx hb (dk_at dkL_law_27 15 rfl) rfl (lv_at hl 0 rfl) ?_
  refine lv_iload_n hx hb (dk_at dkL_law_28 0 rfl) rfl (lv_at hl 3 rfl) ?_
  refine lv_iconst (v := iI 2) hx hb (dk_at dkL_law_28 1 rfl) (by decide +kernel) ?_
  refine x_addv (v := i + 2) hx hb (dk_at dkL_law_28 2 rfl) rfl ?_
  refine x_sld (i := i + 2) hx hb hX hbl hbA hS hL (by omega) (dk_at dkL_law_28 3 rfl) ?_
  refine lv_aload_n hx hb (dk_at dkL_law_28 4 rfl) rfl (lv_at hl 0 rfl) ?_
  refine lv_iload_n hx hb (dk_at dkL_law_28 5 rfl) rfl (lv_at hl 3 rfl) ?_
  refine lv_iconst (v := iI 3) hx hb (dk_at dkL_law_28 6 rfl) (by decide +kernel) ?_
  refine x_addv (v := i + 3) hx hb (dk_at dkL_law_28 7 rfl) rfl ?_
  refine x_sld (i := i + 3) hx hb hX hbl hbA hS hL (by omega) (dk_at dkL_law_28 8 rfl) ?_
  refine l_callK (As := [.int (iI (sx xs (i + 1))), .int (iI (sx xs (i + 2))), .int (iI (sx xs (i + 3)))]) (rest := []) (Wo := WM cI cJ cZ r A) ⟨hx, hb, hml, hown, hts⟩ hE (kc_X11_lay l dC dI cB cI cJ cZ cQ aL aS q B (sx xs (i + 1)) (sx xs (i + 2)) (sx xs (i + 3)) hIK (sx_r xs _) (sx_r xs _) (sx_r xs _)) (cwV 3 hts gl_15_0 rfl rfl rfl (by decide +kernel) ⟨Nat.le_of_ble_eq_true rfl, Nat.le_of_ble_eq_true rfl⟩) hK hDK hA0 hPK hPM (hap B A) hS 0 11 wkK rfl rfl hl.1 (Nat.le_of_ble_eq_true rfl) hcs (dk_at dkL_law_28 9 rfl) (fun z1 B2 H locs hw1 hPK hPM hS => ?_)
  obtain ⟨hr1, hIK, hf1, hw1⟩ := hw1
  have e1 : B2 1 1 = B 1 1 := hf1 1 1 rfl rfl
  refine lv_pop hx hb (dk_at dkL_law_28 10 rfl) rfl ?_
  refine lv_aload_n hx hb (dk_at dkL_law_28 11 rfl) rfl (lv_at hl 2 rfl) ?_
  refine lv_aload_n hx hb (dk_at dkL_law_28 12 rfl) rfl (lv_at hl 0 rfl) ?_
  refine lv_iload_n hx hb (dk_at dkL_law_28 13 rfl) rfl (lv_at hl 3 rfl) ?_
  refine lv_iconst (v := iI 1) hx hb (dk_at dkL_law_28 14 rfl) (by decide +kernel) ?_
  refine x_addv (v := i + 1) hx hb (dk_at dkL_law_28 15 rfl) rfl ?_
  refine x_sld (i := i + 1) hx hb hX hbl hbA hS hL (by omega) (dk_at dkL_law_29 0 rfl) ?_
  refine lv_aload_n hx hb (dk_at dkL_law_29 1 rfl) rfl (lv_at hl 0 rfl) ?_
  refine lv_iload_n hx hb (dk_at dkL_law_29 2 rfl) rfl (lv_at hl 3 rfl) ?_
  refine lv_iconst (v := iI 2) hx hb (dk_at dkL_law_29 3 rfl) (by decide +kernel) ?_
  refine x_addv (v := i + 2) hx hb (dk_at dkL_law_29 4 rfl) rfl ?_
  refine x_sld (i := i + 2) hx hb hX hbl hbA hS hL (by omega) (dk_at dkL_law_29 5 rfl) ?_
  refine lv_aload_n hx hb (dk_at dkL_law_29 6 rfl) rfl (lv_at hl 0 rfl) ?_
  refine lv_iload_n hx hb (dk_at dkL_law_29 7 rfl) rfl (lv_at hl 3 rfl) ?_
  refine lv_iconst (v := iI 3) hx hb (dk_at dkL_law_29 8 rfl) (by decide +kernel) ?_
  refine x_addv (v := i + 3) hx hb (dk_at dkL_law_29 9 rfl) rfl ?_
  refine x_sld (i := i + 3) hx hb hX hbl hbA hS hL (by omega) (dk_at dkL_law_29 10 rfl) ?_
  refine l_callX (As := [.int (iI (sx xs (i + 1))), .int (iI (sx xs (i + 2))), .int (iI (sx xs (i + 3)))]) (rest := []) (Wo := WK cB cI cJ cZ cQ q B2) ⟨hx, hb, hml, hown, hts⟩ (mc_X12_lay l dC dI cB cI cJ cZ cQ r A (sx xs (i + 1)) (sx xs (i + 2)) (sx xs (i + 3)) hIM (sx_r xs _) (sx_r xs _) (sx_r xs _)) (cwV 3 hts gl_15_1 rfl rfl rfl (by decide +kernel) ⟨Nat.le_of_ble_eq_true rfl, Nat.le_of_ble_eq_true rfl⟩) hK hDM hA0 hPM hPK (hap B2 A).sym hS 0 12 wm0 rfl rfl hl.1 (Nat.le_of_ble_eq_true rfl) hcs (dk_at dkL_law_29 11 rfl) (fun z2 A2 H locs hw2 hPM hPK hS => ?_)
  have hq2 := hw2
  obtain ⟨hr2, hIM, hf2, hw2⟩ := hw2
  have hcCI : CI A2 := CI.fr hcCI hf2 rfl rfl
  have hcWI : WI A2 := WI.fr hcWI hf2 rfl rfl
  have e2 : A2 0 1 = A 0 1 := hf2.2 1 rfl
  refine lv_pop hx hb (dk_at dkL_law_29 12 rfl) rfl ?_
  refine lv_goto (tgt := 1273) hx hb (dk_at dkL_law_29 13 rfl) (by decide) ?_
  exact k _ _ _ _ _ ⟨hIK, hIM, hcCI, hcWI, by omega, hTB.fr (fun k => hf1 2 k rfl rfl) (hf2.1 1 (by decide) rfl) (by omega), (fun k hk => (hf1 4 k rfl rfl).trans (hOW k hk)), PSs.fr hIK0 hPS hf1 rfl rfl hf2 rfl rfl, ((hf1 22 4 rfl rfl).trans (hTR.trans (hf2.2 75 rfl).symm))⟩ ⟨hPK, hPM, hS⟩ hl
set_option maxRecDepth 100000 in
theorem gl_16_0 : GoodIn lw_tbl (wsV RL 85 RX11 yX11_snap ws_kc_X11_snap) := goodVL lt_WY wy_good (t_in_5 _ (List.mem_of_getElem? (i := 14) rfl)) (t_in_5 _ (List.mem_of_getElem? (i := 15) rfl)) (t_in_5 _ (List.mem_of_getElem? (i := 16) rfl)) (t_in_1 _ (List.mem_of_getElem? (i := 1) rfl)) (t_in_5 _ (List.mem_of_getElem? (i := 17) rfl)) (by decide +kernel)
set_option maxRecDepth 100000 in
theorem gl_16_1 : GoodIn lw_tbl (wsV RL 88 RX12 yX12_snap ws_mc_X12_snap) := goodVL lt_WX wx_good (t_in_8 _ (List.mem_of_getElem? (i := 152) rfl)) (t_in_8 _ (List.mem_of_getElem? (i := 153) rfl)) (t_in_8 _ (List.mem_of_getElem? (i := 154) rfl)) (t_in_1 _ (List.mem_of_getElem? (i := 17) rfl)) (t_in_8 _ (List.mem_of_getElem? (i := 155) rfl)) (by decide +kernel)
set_option maxHeartbeats 4000000 in
set_option maxRecDepth 100000 in
theorem law_case_16 {p : Program} {e : Env} {s : State} {m : MethodId} {below : List Frame} {meth : Method} {c : Code} (l : Launch) {b L : Nat} {xs : Nat → Int32} (C0 : lw_At p s m meth c b L xs) (hL : L ≤ 3072) (dC : Nat → ClassId) (dI : Nat → Nat → Nat) (cB cI cJ cZ cQ : ClassId) (aL aS : Nat) (q r : Nat → Nat) (F : LF dC dI cB cI cJ cZ cQ aL aS q r s) {B A : St} {i : Int} (hi : 0 ≤ i ∧ i + 6 ≤ L) (hJ : LJ B A) {H : Heap} {locs : List Loc} {cells slots : Nat} {ls : Array Slot} (hcs : cells ≤ room_1.cells ∧ slots ≤ room_1.slots) (hW : LW dC dI cB cI cJ cZ cQ q r s B A H locs) (hl : lv_has ls 4 [(0, .ref b), (1, .ref (q 0)), (2, .ref (r 0)), (3, .int (iI i))]) (k : ∀ (B A : St) (H : Heap) (locs : List Loc) (ls : Array Slot), LJ B A → LW dC dI cB cI cJ cZ cQ q r s B A H locs → lv_has ls 4 [(0, .ref b), (1, .ref (q 0)), (2, .ref (r 0)), (3, .int (iI i))] → W p l e room_1 s m #[Value.ref b] below meth c H locs cells slots (lw_Z below #[Value.ref b] s) (F0 m 1273 ls [])) : W p l e room_1 s m #[Value.ref b] below meth c H locs cells slots (lw_Z below #[Value.ref b] s) (F0 m 744 ls []) := by
  obtain ⟨hx, hb, hr, hml, hown, hts, hX, hbl, hlocks, hgv⟩ := id C0
  obtain ⟨hK, hDK, hDM, hap, hE⟩ := F
  obtain ⟨hPK, hPM, hS⟩ := hW
  obtain ⟨hIK, hIM, hcCI, hcWI, hJ, hTB, hOW, hPS, hTR⟩ := hJ
  have hIK0 := hIK
  have hIM0 := hIM
  have r01 : (0 : Int) ≤ A 0 1 := (hIM 0 1).1
  have hbA : ¬ (fun b : Nat => s.heap.size ≤ b) b := Nat.not_le.mpr hbl
  have hA0 : ∀ b : Nat, s.heap.size ≤ b → (fun b : Nat => s.heap.size ≤ b) b := fun _ h => h
  refine lv_aload_n hx hb (dk_at dkL_law_29 14 rfl) rfl (lv_at hl 1 rfl) ?_
  refine lv_aload_n hx hb (dk_at dkL_law_29 15 rfl) rfl (lv_at hl 0 rfl) ?_
  refine lv_iload_n hx hb (dk_at dkL_law_30 0 rfl) rfl (lv_at hl 3 rfl) ?_
  refine lv_iconst (v := iI 1) hx hb (dk_at dkL_law_30 1 rfl) (by decide +kernel) ?_
  refine x_addv (v := i + 1) hx hb (dk_at dkL_law_30 2 rfl) rfl ?_
  refine x_sld (i := i + 1) hx hb hX hbl hbA hS hL (by omega) (dk_at dkL_law_30 3 rfl) ?_
  refine l_callK (As := [.int (iI (sx xs (i + 1)))]) (rest := []) (Wo := WM cI cJ cZ r A) ⟨hx, hb, hml, hown, hts⟩ hE (kc_X11_snap l dC dI cB cI cJ cZ cQ aL aS q B (sx xs (i + 1)) hIK (sx_r xs _)) (cwV 1 hts gl_16_0 rfl rfl rfl (by decide +kernel) ⟨Nat.le_of_ble_eq_true rfl, Nat.le_of_ble_eq_true rfl⟩) hK hDK hA0 hPK hPM (hap B A) hS 0 11 wkK rfl rfl hl.1 (Nat.le_of_ble_eq_true rfl) hcs (dk_at dkL_law_30 4 rfl) (fun z1 B2 H locs hw1 hPK hPM hS => ?_)
  obtain ⟨hr1, hIK, hf1, hw1⟩ := hw1
  have e1 : B2 1 1 = B 1 1 := hf1 1 1 rfl rfl
  refine lv_pop hx hb (dk_at dkL_law_30 5 rfl) rfl ?_
  refine lv_aload_n hx hb (dk_at dkL_law_30 6 rfl) rfl (lv_at hl 2 rfl) ?_
  refine lv_aload_n hx hb (dk_at dkL_law_30 7 rfl) rfl (lv_at hl 0 rfl) ?_
  refine lv_iload_n hx hb (dk_at dkL_law_30 8 rfl) rfl (lv_at hl 3 rfl) ?_
  refine lv_iconst (v := iI 1) hx hb (dk_at dkL_law_30 9 rfl) (by decide +kernel) ?_
  refine x_addv (v := i + 1) hx hb (dk_at dkL_law_30 10 rfl) rfl ?_
  refine x_sld (i := i + 1) hx hb hX hbl hbA hS hL (by omega) (dk_at dkL_law_30 11 rfl) ?_
  refine l_callX (As := [.int (iI (sx xs (i + 1)))]) (rest := []) (Wo := WK cB cI cJ cZ cQ q B2) ⟨hx, hb, hml, hown, hts⟩ (mc_X12_snap l dC dI cB cI cJ cZ cQ r A (sx xs (i + 1)) hIM (sx_r xs _)) (cwV 1 hts gl_16_1 rfl rfl rfl (by decide +kernel) ⟨Nat.le_of_ble_eq_true rfl, Nat.le_of_ble_eq_true rfl⟩) hK hDM hA0 hPM hPK (hap B2 A).sym hS 0 12 wm0 rfl rfl hl.1 (Nat.le_of_ble_eq_true rfl) hcs (dk_at dkL_law_30 12 rfl) (fun z2 A2 H locs hw2 hPM hPK hS => ?_)
  have hq2 := hw2
  obtain ⟨hr2, hIM, hf2, hw2⟩ := hw2
  have hcCI : CI A2 := CI.fr hcCI hf2 rfl rfl
  have hcWI : WI A2 := WI.fr hcWI hf2 rfl rfl
  have e2 : A2 0 1 = A 0 1 := hf2.2 1 rfl
  refine lv_pop hx hb (dk_at dkL_law_30 13 rfl) rfl ?_
  refine lv_goto (tgt := 1273) hx hb (dk_at dkL_law_30 14 rfl) (by decide) ?_
  exact k _ _ _ _ _ ⟨hIK, hIM, hcCI, hcWI, by omega, hTB.fr (fun k => hf1 2 k rfl rfl) (hf2.1 1 (by decide) rfl) (by omega), (fun k hk => (hf1 4 k rfl rfl).trans (hOW k hk)), PSs.fr hIK0 hPS hf1 rfl rfl hf2 rfl rfl, ((hf1 22 4 rfl rfl).trans (hTR.trans (hf2.2 75 rfl).symm))⟩ ⟨hPK, hPM, hS⟩ hl
set_option maxRecDepth 100000 in
theorem gl_17_0 : GoodIn lw_tbl (wsV RL 89 RX11 yX11_row ws_kc_X11_row) := goodVL lt_WY wy_good (t_in_5 _ (List.mem_of_getElem? (i := 18) rfl)) (t_in_5 _ (List.mem_of_getElem? (i := 19) rfl)) (t_in_5 _ (List.mem_of_getElem? (i := 20) rfl)) (t_in_1 _ (List.mem_of_getElem? (i := 1) rfl)) (t_in_5 _ (List.mem_of_getElem? (i := 21) rfl)) (by decide +kernel)
set_option maxRecDepth 100000 in
theorem gl_17_1 : GoodIn lw_tbl (wsV RL 92 RX12 yX12_row ws_mb_X12_row) := goodVL lt_WX wx_good (t_in_8 _ (List.mem_of_getElem? (i := 156) rfl)) (t_in_8 _ (List.mem_of_getElem? (i := 157) rfl)) (t_in_8 _ (List.mem_of_getElem? (i := 158) rfl)) (t_in_1 _ (List.mem_of_getElem? (i := 17) rfl)) (t_in_8 _ (List.mem_of_getElem? (i := 159) rfl)) (by decide +kernel)
set_option maxHeartbeats 4000000 in
set_option maxRecDepth 100000 in
theorem law_case_17 {p : Program} {e : Env} {s : State} {m : MethodId} {below : List Frame} {meth : Method} {c : Code} (l : Launch) {b L : Nat} {xs : Nat → Int32} (C0 : lw_At p s m meth c b L xs) (hL : L ≤ 3072) (dC : Nat → ClassId) (dI : Nat → Nat → Nat) (cB cI cJ cZ cQ : ClassId) (aL aS : Nat) (q r : Nat → Nat) (F : LF dC dI cB cI cJ cZ cQ aL aS q r s) {B A : St} {i : Int} (hi : 0 ≤ i ∧ i + 6 ≤ L) (hJ : LJ B A) {H : Heap} {locs : List Loc} {cells slots : Nat} {ls : Array Slot} (hcs : cells ≤ room_1.cells ∧ slots ≤ room_1.slots) (hW : LW dC dI cB cI cJ cZ cQ q r s B A H locs) (hl : lv_has ls 4 [(0, .ref b), (1, .ref (q 0)), (2, .ref (r 0)), (3, .int (iI i))]) (k : ∀ (B A : St) (H : Heap) (locs : List Loc) (ls : Array Slot), LJ B A → LW dC dI cB cI cJ cZ cQ q r s B A H locs → lv_has ls 4 [(0, .ref b), (1, .ref (q 0)), (2, .ref (r 0)), (3, .int (iI i))] → W p l e room_1 s m #[Value.ref b] below meth c H locs cells slots (lw_Z below #[Value.ref b] s) (F0 m 1273 ls [])) : W p l e room_1 s m #[Value.ref b] below meth c H locs cells slots (lw_Z below #[Value.ref b] s) (F0 m 767 ls []) := by
  obtain ⟨hx, hb, hr, hml, hown, hts, hX, hbl, hlocks, hgv⟩ := id C0
  obtain ⟨hK, hDK, hDM, hap, hE⟩ := F
  obtain ⟨hPK, hPM, hS⟩ := hW
  obtain ⟨hIK, hIM, hcCI, hcWI, hJ, hTB, hOW, hPS, hTR⟩ := hJ
  have hIK0 := hIK
  have hIM0 := hIM
  have r01 : (0 : Int) ≤ A 0 1 := (hIM 0 1).1
  have hbA : ¬ (fun b : Nat => s.heap.size ≤ b) b := Nat.not_le.mpr hbl
  have hA0 : ∀ b : Nat, s.heap.size ≤ b → (fun b : Nat => s.heap.size ≤ b) b := fun _ h => h
  refine lv_aload_n hx hb (dk_at dkL_law_30 15 rfl) rfl (lv_at hl 1 rfl) ?_
  refine l_callK (As := []) (rest := []) (Wo := WM cI cJ cZ r A) ⟨hx, hb, hml, hown, hts⟩ hE (kc_X11_row l dC dI cB cI cJ cZ cQ aL aS q B  hIK) (cwV 0 hts gl_17_0 rfl rfl rfl (by decide +kernel) ⟨Nat.le_of_ble_eq_true rfl, Nat.le_of_ble_eq_true rfl⟩) hK hDK hA0 hPK hPM (hap B A) hS 0 11 wkK rfl rfl hl.1 (Nat.le_of_ble_eq_true rfl) hcs (dk_at dkL_law_31 0 rfl) (fun z1 B2 H locs hw1 hPK hPM hS => ?_)
  obtain ⟨hr1, hIK, hf1, hw1⟩ := hw1
  refine lv_pop hx hb (dk_at dkL_law_31 1 rfl) rfl ?_
  refine lv_aload_n hx hb (dk_at dkL_law_31 2 rfl) rfl (lv_at hl 2 rfl) ?_
  refine l_callX (As := []) (rest := []) (Wo := WK cB cI cJ cZ cQ q B2) ⟨hx, hb, hml, hown, hts⟩ (mb_X12_row l dC dI cB cI cJ cZ cQ r A  hIM hcCI) (cwV 0 hts gl_17_1 rfl rfl rfl (by decide +kernel) ⟨Nat.le_of_ble_eq_true rfl, Nat.le_of_ble_eq_true rfl⟩) hK hDM hA0 hPM hPK (hap B2 A).sym hS 0 12 wm0 rfl rfl hl.1 (Nat.le_of_ble_eq_true rfl) hcs (dk_at dkL_law_31 3 rfl) (fun z2 A2 H locs hw2 hPM hPK hS => ?_)
  have hq2 := hw2
  obtain ⟨hr2, hIM, hf2, hcCI2, hw2⟩ := hw2
  have hcCI : CI A2 := hcCI2
  have hcWI : WI A2 := WI.fr hcWI hf2 rfl rfl
  refine lv_pop hx hb (dk_at dkL_law_31 4 rfl) rfl ?_
  refine lv_goto (tgt := 1273) hx hb (dk_at dkL_law_31 5 rfl) (by decide) ?_
  exact k _ _ _ _ _ ⟨hIK, hIM, hcCI, hcWI, by omega, hTB.fr (fun k => hf1 2 k rfl rfl) (hf2.1 1 (by decide) rfl) (by omega), (fun k hk => (hf1 4 k rfl rfl).trans (hOW k hk)), PSs.fr hIK0 hPS hf1 rfl rfl hf2 rfl rfl, ((hf1 22 4 rfl rfl).trans (hTR.trans (hf2.2 75 rfl).symm))⟩ ⟨hPK, hPM, hS⟩ hl
set_option maxRecDepth 100000 in
theorem gl_18_0 : GoodIn lw_tbl (wsV RL 93 RX11 yX11_reach ws_kc_X11_reach) := goodVL lt_WY wy_good (t_in_5 _ (List.mem_of_getElem? (i := 45) rfl)) (t_in_5 _ (List.mem_of_getElem? (i := 46) rfl)) (t_in_5 _ (List.mem_of_getElem? (i := 47) rfl)) (t_in_1 _ (List.mem_of_getElem? (i := 1) rfl)) (t_in_5 _ (List.mem_of_getElem? (i := 48) rfl)) (by decide +kernel)
set_option maxRecDepth 100000 in
theorem gl_18_1 : GoodIn lw_tbl (wsV RL 96 RX12 yX12_reach ws_mb_X12_reach) := goodVL lt_WX wx_good (t_in_8 _ (List.mem_of_getElem? (i := 216) rfl)) (t_in_8 _ (List.mem_of_getElem? (i := 217) rfl)) (t_in_8 _ (List.mem_of_getElem? (i := 218) rfl)) (t_in_1 _ (List.mem_of_getElem? (i := 17) rfl)) (t_in_8 _ (List.mem_of_getElem? (i := 219) rfl)) (by decide +kernel)
set_option maxHeartbeats 4000000 in
set_option maxRecDepth 100000 in
theorem law_case_18 {p : Program} {e : Env} {s : State} {m : MethodId} {below : List Frame} {meth : Method} {c : Code} (l : Launch) {b L : Nat} {xs : Nat → Int32} (C0 : lw_At p s m meth c b L xs) (hL : L ≤ 3072) (dC : Nat → ClassId) (dI : Nat → Nat → Nat) (cB cI cJ cZ cQ : ClassId) (aL aS : Nat) (q r : Nat → Nat) (F : LF dC dI cB cI cJ cZ cQ aL aS q r s) {B A : St} {i : Int} (hi : 0 ≤ i ∧ i + 6 ≤ L) (hJ : LJ B A) {H : Heap} {locs : List Loc} {cells slots : Nat} {ls : Array Slot} (hcs : cells ≤ room_1.cells ∧ slots ≤ room_1.slots) (hW : LW dC dI cB cI cJ cZ cQ q r s B A H locs) (hl : lv_has ls 4 [(0, .ref b), (1, .ref (q 0)), (2, .ref (r 0)), (3, .int (iI i))]) (k : ∀ (B A : St) (H : Heap) (locs : List Loc) (ls : Array Slot), LJ B A → LW dC dI cB cI cJ cZ cQ q r s B A H locs → lv_has ls 4 [(0, .ref b), (1, .ref (q 0)), (2, .ref (r 0)), (3, .int (iI i))] → W p l e room_1 s m #[Value.ref b] below meth c H locs cells slots (lw_Z below #[Value.ref b] s) (F0 m 1273 ls [])) : W p l e room_1 s m #[Value.ref b] below meth c H locs cells slots (lw_Z below #[Value.ref b] s) (F0 m 780 ls []) := by
  obtain ⟨hx, hb, hr, hml, hown, hts, hX, hbl, hlocks, hgv⟩ := id C0
  obtain ⟨hK, hDK, hDM, hap, hE⟩ := F
  obtain ⟨hPK, hPM, hS⟩ := hW
  obtain ⟨hIK, hIM, hcCI, hcWI, hJ, hTB, hOW, hPS, hTR⟩ := hJ
  have hIK0 := hIK
  have hIM0 := hIM
  have r01 : (0 : Int) ≤ A 0 1 := (hIM 0 1).1
  have hbA : ¬ (fun b : Nat => s.heap.size ≤ b) b := Nat.not_le.mpr hbl
  have hA0 : ∀ b : Nat, s.heap.size ≤ b → (fun b : Nat => s.heap.size ≤ b) b := fun _ h => h
  refine lv_aload_n hx hb (dk_at dkL_law_31 6 rfl) rfl (lv_at hl 1 rfl) ?_
  refine lv_aload_n hx hb (dk_at dkL_law_31 7 rfl) rfl (lv_at hl 0 rfl) ?_
  refine lv_iload_n hx hb (dk_at dkL_law_31 8 rfl) rfl (lv_at hl 3 rfl) ?_
  refine lv_iconst (v := iI 1) hx hb (dk_at dkL_law_31 9 rfl) (by decide +kernel) ?_
  refine x_addv (v := i + 1) hx hb (dk_at dkL_law_31 10 rfl) rfl ?_
  refine x_sld (i := i + 1) hx hb hX hbl hbA hS hL (by omega) (dk_at dkL_law_31 11 rfl) ?_
  refine lv_aload_n hx hb (dk_at dkL_law_31 12 rfl) rfl (lv_at hl 0 rfl) ?_
  refine lv_iload_n hx hb (dk_at dkL_law_31 13 rfl) rfl (lv_at hl 3 rfl) ?_
  refine lv_iconst (v := iI 2) hx hb (dk_at dkL_law_31 14 rfl) (by decide +kernel) ?_
  refine x_addv (v := i + 2) hx hb (dk_at dkL_law_31 15 rfl) rfl ?_
  refine x_sld (i := i + 2) hx hb hX hbl hbA hS hL (by omega) (dk_at dkL_law_32 0 rfl) ?_
  refine l_callK (As := [.int (iI (sx xs (i + 1))), .int (iI (sx xs (i + 2)))]) (rest := []) (Wo := WM cI cJ cZ r A) ⟨hx, hb, hml, hown, hts⟩ hE (kc_X11_reach l dC dI cB cI cJ cZ cQ aL aS q B (sx xs (i + 1)) (sx xs (i + 2)) hIK (sx_r xs _) (sx_r xs _)) (cwV 2 hts gl_18_0 rfl rfl rfl (by decide +kernel) ⟨Nat.le_of_ble_eq_true rfl, Nat.le_of_ble_eq_true rfl⟩) hK hDK hA0 hPK hPM (hap B A) hS 0 11 wkK rfl rfl hl.1 (Nat.le_of_ble_eq_true rfl) hcs (dk_at dkL_law_32 1 rfl) (fun z1 B2 H locs hw1 hPK hPM hS => ?_)
  obtain ⟨hr1, hIK, hf1, hw1⟩ := hw1
  have e1 : B2 1 1 = B 1 1 := hf1 1 1 rfl rfl
  refine lv_pop hx hb (dk_at dkL_law_32 2 rfl) rfl ?_
  refine lv_aload_n hx hb (dk_at dkL_law_32 3 rfl) rfl (lv_at hl 2 rfl) ?_
  refine lv_aload_n hx hb (dk_at dkL_law_32 4 rfl) rfl (lv_at hl 0 rfl) ?_
  refine lv_iload_n hx hb (dk_at dkL_law_32 5 rfl) rfl (lv_at hl 3 rfl) ?_
  refine lv_iconst (v := iI 1) hx hb (dk_at dkL_law_32 6 rfl) (by decide +kernel) ?_
  refine x_addv (v := i + 1) hx hb (dk_at dkL_law_32 7 rfl) rfl ?_
  refine x_sld (i := i + 1) hx hb hX hbl hbA hS hL (by omega) (dk_at dkL_law_32 8 rfl) ?_
  refine lv_aload_n hx hb (dk_at dkL_law_32 9 rfl) rfl (lv_at hl 0 rfl) ?_
  refine lv_iload_n hx hb (dk_at dkL_law_32 10 rfl) rfl (lv_at hl 3 rfl) ?_
  refine lv_iconst (v := iI 2) hx hb (dk_at dkL_law_32 11 rfl) (by decide +kernel) ?_
  refine x_addv (v := i + 2) hx hb (dk_at dkL_law_32 12 rfl) rfl ?_
  refine x_sld (i := i + 2) hx hb hX hbl hbA hS hL (by omega) (dk_at dkL_law_32 13 rfl) ?_
  refine l_callX (As := [.int (iI (sx xs (i + 1))), .int (iI (sx xs (i + 2)))]) (rest := []) (Wo := WK cB cI cJ cZ cQ q B2) ⟨hx, hb, hml, hown, hts⟩ (mb_X12_reach l dC dI cB cI cJ cZ cQ r A (sx xs (i + 1)) (sx xs (i + 2)) hIM (sx_r xs _) (sx_r xs _) hcCI hcWI) (cwV 2 hts gl_18_1 rfl rfl rfl (by decide +kernel) ⟨Nat.le_of_ble_eq_true rfl, Nat.le_of_ble_eq_true rfl⟩) hK hDM hA0 hPM hPK (hap B2 A).sym hS 0 12 wm0 rfl rfl hl.1 (Nat.le_of_ble_eq_true rfl) hcs (dk_at dkL_law_32 14 rfl) (fun z2 A2 H locs hw2 hPM hPK hS => ?_)
  have hq2 := hw2
  obtain ⟨hr2, hIM, hf2, hcCI2, hcWI2, hw2⟩ := hw2
  have hcCI : CI A2 := hcCI2
  have hcWI : WI A2 := hcWI2
  have e2 : A2 0 1 = A 0 1 := hf2.2 1 rfl
  refine lv_pop hx hb (dk_at dkL_law_32 15 rfl) rfl ?_
  refine lv_goto (tgt := 1273) hx hb (dk_at dkL_law_33 0 rfl) (by decide) ?_
  exact k _ _ _ _ _ ⟨hIK, hIM, hcCI, hcWI, by omega, hTB.fr (fun k => hf1 2 k rfl rfl) (hf2.1 1 (by decide) rfl) (by omega), (fun k hk => (hf1 4 k rfl rfl).trans (hOW k hk)), PSs.fr hIK0 hPS hf1 rfl rfl hf2 rfl rfl, ((hf1 22 4 rfl rfl).trans (hTR.trans (hf2.2 75 rfl).symm))⟩ ⟨hPK, hPM, hS⟩ hl
set_option maxRecDepth 100000 in
theorem gl_19_0 : GoodIn lw_tbl (wsV RL 97 RX11 yX11_opens ws_kc_X11_opens) := goodVL lt_WY wy_good (t_in_5 _ (List.mem_of_getElem? (i := 50) rfl)) (t_in_5 _ (List.mem_of_getElem? (i := 51) rfl)) (t_in_5 _ (List.mem_of_getElem? (i := 52) rfl)) (t_in_1 _ (List.mem_of_getElem? (i := 1) rfl)) (t_in_5 _ (List.mem_of_getElem? (i := 53) rfl)) (by decide +kernel)
set_option maxRecDepth 100000 in
theorem gl_19_1 : GoodIn lw_tbl (wsV RL 100 RX12 yX12_opens_ ws_mb_X12_opens_) := goodVL lt_WX wx_good (t_in_8 _ (List.mem_of_getElem? (i := 228) rfl)) (t_in_8 _ (List.mem_of_getElem? (i := 229) rfl)) (t_in_8 _ (List.mem_of_getElem? (i := 230) rfl)) (t_in_1 _ (List.mem_of_getElem? (i := 17) rfl)) (t_in_8 _ (List.mem_of_getElem? (i := 231) rfl)) (by decide +kernel)
set_option maxHeartbeats 4000000 in
set_option maxRecDepth 100000 in
theorem law_case_19 {p : Program} {e : Env} {s : State} {m : MethodId} {below : List Frame} {meth : Method} {c : Code} (l : Launch) {b L : Nat} {xs : Nat → Int32} (C0 : lw_At p s m meth c b L xs) (hL : L ≤ 3072) (dC : Nat → ClassId) (dI : Nat → Nat → Nat) (cB cI cJ cZ cQ : ClassId) (aL aS : Nat) (q r : Nat → Nat) (F : LF dC dI cB cI cJ cZ cQ aL aS q r s) {B A : St} {i : Int} (hi : 0 ≤ i ∧ i + 6 ≤ L) (hJ : LJ B A) {H : Heap} {locs : List Loc} {cells slots : Nat} {ls : Array Slot} (hcs : cells ≤ room_1.cells ∧ slots ≤ room_1.slots) (hW : LW dC dI cB cI cJ cZ cQ q r s B A H locs) (hl : lv_has ls 4 [(0, .ref b), (1, .ref (q 0)), (2, .ref (r 0)), (3, .int (iI i))]) (k : ∀ (B A : St) (H : Heap) (locs : List Loc) (ls : Array Slot), LJ B A → LW dC dI cB cI cJ cZ cQ q r s B A H locs → lv_has ls 4 [(0, .ref b), (1, .ref (q 0)), (2, .ref (r 0)), (3, .int (iI i))] → W p l e room_1 s m #[Value.ref b] below meth c H locs cells slots (lw_Z below #[Value.ref b] s) (F0 m 1273 ls [])) : W p l e room_1 s m #[Value.ref b] below meth c H locs cells slots (lw_Z below #[Value.ref b] s) (F0 m 813 ls []) := by
  obtain ⟨hx, hb, hr, hml, hown, hts, hX, hbl, hlocks, hgv⟩ := id C0
  obtain ⟨hK, hDK, hDM, hap, hE⟩ := F
  obtain ⟨hPK, hPM, hS⟩ := hW
  obtain ⟨hIK, hIM, hcCI, hcWI, hJ, hTB, hOW, hPS, hTR⟩ := hJ
  have hIK0 := hIK
  have hIM0 := hIM
  have r01 : (0 : Int) ≤ A 0 1 := (hIM 0 1).1
  have hbA : ¬ (fun b : Nat => s.heap.size ≤ b) b := Nat.not_le.mpr hbl
  have hA0 : ∀ b : Nat, s.heap.size ≤ b → (fun b : Nat => s.heap.size ≤ b) b := fun _ h => h
  refine lv_aload_n hx hb (dk_at dkL_law_33 1 rfl) rfl (lv_at hl 1 rfl) ?_
  refine lv_aload_n hx hb (dk_at dkL_law_33 2 rfl) rfl (lv_at hl 0 rfl) ?_
  refine lv_iload_n hx hb (dk_at dkL_law_33 3 rfl) rfl (lv_at hl 3 rfl) ?_
  refine lv_iconst (v := iI 1) hx hb (dk_at dkL_law_33 4 rfl) (by decide +kernel) ?_
  refine x_addv (v := i + 1) hx hb (dk_at dkL_law_33 5 rfl) rfl ?_
  refine x_sld (i := i + 1) hx hb hX hbl hbA hS hL (by omega) (dk_at dkL_law_33 6 rfl) ?_
  refine lv_aload_n hx hb (dk_at dkL_law_33 7 rfl) rfl (lv_at hl 0 rfl) ?_
  refine lv_iload_n hx hb (dk_at dkL_law_33 8 rfl) rfl (lv_at hl 3 rfl) ?_
  refine lv_iconst (v := iI 2) hx hb (dk_at dkL_law_33 9 rfl) (by decide +kernel) ?_
  refine x_addv (v := i + 2) hx hb (dk_at dkL_law_33 10 rfl) rfl ?_
  refine x_sld (i := i + 2) hx hb hX hbl hbA hS hL (by omega) (dk_at dkL_law_33 11 rfl) ?_
  refine l_callK (As := [.int (iI (sx xs (i + 1))), .int (iI (sx xs (i + 2)))]) (rest := []) (Wo := WM cI cJ cZ r A) ⟨hx, hb, hml, hown, hts⟩ hE (kc_X11_opens l dC dI cB cI cJ cZ cQ aL aS q B (sx xs (i + 1)) (sx xs (i + 2)) hIK (sx_r xs _) (sx_r xs _)) (cwV 2 hts gl_19_0 rfl rfl rfl (by decide +kernel) ⟨Nat.le_of_ble_eq_true rfl, Nat.le_of_ble_eq_true rfl⟩) hK hDK hA0 hPK hPM (hap B A) hS 0 11 wkK rfl rfl hl.1 (Nat.le_of_ble_eq_true rfl) hcs (dk_at dkL_law_33 12 rfl) (fun z1 B2 H locs hw1 hPK hPM hS => ?_)
  obtain ⟨hr1, hIK, hf1, hw1⟩ := hw1
  have e1 : B2 1 1 = B 1 1 := hf1 1 1 rfl rfl
  refine lv_pop hx hb (dk_at dkL_law_33 13 rfl) rfl ?_
  refine lv_aload_n hx hb (dk_at dkL_law_33 14 rfl) rfl (lv_at hl 2 rfl) ?_
  refine lv_aload_n hx hb (dk_at dkL_law_33 15 rfl) rfl (lv_at hl 0 rfl) ?_
  refine lv_iload_n hx hb (dk_at dkL_law_34 0 rfl) rfl (lv_at hl 3 rfl) ?_
  refine lv_iconst (v := iI 1) hx hb (dk_at dkL_law_34 1 rfl) (by decide +kernel) ?_
  refine x_addv (v := i + 1) hx hb (dk_at dkL_law_34 2 rfl) rfl ?_
  refine x_sld (i := i + 1) hx hb hX hbl hbA hS hL (by omega) (dk_at dkL_law_34 3 rfl) ?_
  refine lv_aload_n hx hb (dk_at dkL_law_34 4 rfl) rfl (lv_at hl 0 rfl) ?_
  refine lv_iload_n hx hb (dk_at dkL_law_34 5 rfl) rfl (lv_at hl 3 rfl) ?_
  refine lv_iconst (v := iI 2) hx hb (dk_at dkL_law_34 6 rfl) (by decide +kernel) ?_
  refine x_addv (v := i + 2) hx hb (dk_at dkL_law_34 7 rfl) rfl ?_
  refine x_sld (i := i + 2) hx hb hX hbl hbA hS hL (by omega) (dk_at dkL_law_34 8 rfl) ?_
  refine l_callX (As := [.int (iI (sx xs (i + 1))), .int (iI (sx xs (i + 2)))]) (rest := []) (Wo := WK cB cI cJ cZ cQ q B2) ⟨hx, hb, hml, hown, hts⟩ (mb_X12_opens_ l dC dI cB cI cJ cZ cQ r A (sx xs (i + 1)) (sx xs (i + 2)) hIM (sx_r xs _) (sx_r xs _) hcCI hcWI) (cwV 2 hts gl_19_1 rfl rfl rfl (by decide +kernel) ⟨Nat.le_of_ble_eq_true rfl, Nat.le_of_ble_eq_true rfl⟩) hK hDM hA0 hPM hPK (hap B2 A).sym hS 0 12 wm0 rfl rfl hl.1 (Nat.le_of_ble_eq_true rfl) hcs (dk_at dkL_law_34 9 rfl) (fun z2 A2 H locs hw2 hPM hPK hS => ?_)
  have hq2 := hw2
  obtain ⟨hr2, hIM, hf2, hcCI2, hcWI2, hw2⟩ := hw2
  have hcCI : CI A2 := hcCI2
  have hcWI : WI A2 := hcWI2
  have e2 : A2 0 1 = A 0 1 := hf2.2 1 rfl
  refine lv_pop hx hb (dk_at dkL_law_34 10 rfl) rfl ?_
  refine lv_goto (tgt := 1273) hx hb (dk_at dkL_law_34 11 rfl) (by decide) ?_
  exact k _ _ _ _ _ ⟨hIK, hIM, hcCI, hcWI, by omega, hTB.fr (fun k => hf1 2 k rfl rfl) (hf2.1 1 (by decide) rfl) (by omega), (fun k hk => (hf1 4 k rfl rfl).trans (hOW k hk)), PSs.fr hIK0 hPS hf1 rfl rfl hf2 rfl rfl, ((hf1 22 4 rfl rfl).trans (hTR.trans (hf2.2 75 rfl).symm))⟩ ⟨hPK, hPM, hS⟩ hl
set_option maxRecDepth 100000 in
theorem gl_20_0 : GoodIn lw_tbl (wsV RL 101 RX11 yX11_errands ws_kc_X11_errands) := goodVL lt_WY wy_good (t_in_5 _ (List.mem_of_getElem? (i := 54) rfl)) (t_in_5 _ (List.mem_of_getElem? (i := 55) rfl)) (t_in_5 _ (List.mem_of_getElem? (i := 56) rfl)) (t_in_1 _ (List.mem_of_getElem? (i := 1) rfl)) (t_in_5 _ (List.mem_of_getElem? (i := 57) rfl)) (by decide +kernel)
set_option maxRecDepth 100000 in
theorem gl_20_1 : GoodIn lw_tbl (wsV RL 104 RX12 yX12_errands ws_mb_X12_errands) := goodVL lt_WX wx_good (t_in_8 _ (List.mem_of_getElem? (i := 232) rfl)) (t_in_8 _ (List.mem_of_getElem? (i := 233) rfl)) (t_in_8 _ (List.mem_of_getElem? (i := 234) rfl)) (t_in_1 _ (List.mem_of_getElem? (i := 17) rfl)) (t_in_8 _ (List.mem_of_getElem? (i := 235) rfl)) (by decide +kernel)
set_option maxHeartbeats 4000000 in
set_option maxRecDepth 100000 in
theorem law_case_20 {p : Program} {e : Env} {s : State} {m : MethodId} {below : List Frame} {meth : Method} {c : Code} (l : Launch) {b L : Nat} {xs : Nat → Int32} (C0 : lw_At p s m meth c b L xs) (hL : L ≤ 3072) (dC : Nat → ClassId) (dI : Nat → Nat → Nat) (cB cI cJ cZ cQ : ClassId) (aL aS : Nat) (q r : Nat → Nat) (F : LF dC dI cB cI cJ cZ cQ aL aS q r s) {B A : St} {i : Int} (hi : 0 ≤ i ∧ i + 6 ≤ L) (hJ : LJ B A) {H : Heap} {locs : List Loc} {cells slots : Nat} {ls : Array Slot} (hcs : cells ≤ room_1.cells ∧ slots ≤ room_1.slots) (hW : LW dC dI cB cI cJ cZ cQ q r s B A H locs) (hl : lv_has ls 4 [(0, .ref b), (1, .ref (q 0)), (2, .ref (r 0)), (3, .int (iI i))]) (k : ∀ (B A : St) (H : Heap) (locs : List Loc) (ls : Array Slot), LJ B A → LW dC dI cB cI cJ cZ cQ q r s B A H locs → lv_has ls 4 [(0, .ref b), (1, .ref (q 0)), (2, .ref (r 0)), (3, .int (iI i))] → W p l e room_1 s m #[Value.ref b] below meth c H locs cells slots (lw_Z below #[Value.ref b] s) (F0 m 1273 ls [])) : W p l e room_1 s m #[Value.ref b] below meth c H locs cells slots (lw_Z below #[Value.ref b] s) (F0 m 846 ls []) := by
  obtain ⟨hx, hb, hr, hml, hown, hts, hX, hbl, hlocks, hgv⟩ := id C0
  obtain ⟨hK, hDK, hDM, hap, hE⟩ := F
  obtain ⟨hPK, hPM, hS⟩ := hW
  obtain ⟨hIK, hIM, hcCI, hcWI, hJ, hTB, hOW, hPS, hTR⟩ := hJ
  have hIK0 := hIK
  have hIM0 := hIM
  have r01 : (0 : Int) ≤ A 0 1 := (hIM 0 1).1
  have hbA : ¬ (fun b : Nat => s.heap.size ≤ b) b := Nat.not_le.mpr hbl
  have hA0 : ∀ b : Nat, s.heap.size ≤ b → (fun b : Nat => s.heap.size ≤ b) b := fun _ h => h
  refine lv_aload_n hx hb (dk_at dkL_law_34 12 rfl) rfl (lv_at hl 1 rfl) ?_
  refine lv_aload_n hx hb (dk_at dkL_law_34 13 rfl) rfl (lv_at hl 0 rfl) ?_
  refine lv_iload_n hx hb (dk_at dkL_law_34 14 rfl) rfl (lv_at hl 3 rfl) ?_
  refine lv_iconst (v := iI 1) hx hb (dk_at dkL_law_34 15 rfl) (by decide +kernel) ?_
  refine x_addv (v := i + 1) hx hb (dk_at dkL_law_35 0 rfl) rfl ?_
  refine x_sld (i := i + 1) hx hb hX hbl hbA hS hL (by omega) (dk_at dkL_law_35 1 rfl) ?_
  refine l_callK (As := [.int (iI (sx xs (i + 1)))]) (rest := []) (Wo := WM cI cJ cZ r A) ⟨hx, hb, hml, hown, hts⟩ hE (kc_X11_errands l dC dI cB cI cJ cZ cQ aL aS q B (sx xs (i + 1)) hIK (sx_r xs _)) (cwV 1 hts gl_20_0 rfl rfl rfl (by decide +kernel) ⟨Nat.le_of_ble_eq_true rfl, Nat.le_of_ble_eq_true rfl⟩) hK hDK hA0 hPK hPM (hap B A) hS 0 11 wkK rfl rfl hl.1 (Nat.le_of_ble_eq_true rfl) hcs (dk_at dkL_law_35 2 rfl) (fun z1 B2 H locs hw1 hPK hPM hS => ?_)
  obtain ⟨hr1, hIK, hf1, hw1⟩ := hw1
  have e1 : B2 1 1 = B 1 1 := hf1 1 1 rfl rfl
  refine lv_pop hx hb (dk_at dkL_law_35 3 rfl) rfl ?_
  refine lv_aload_n hx hb (dk_at dkL_law_35 4 rfl) rfl (lv_at hl 2 rfl) ?_
  refine lv_aload_n hx hb (dk_at dkL_law_35 5 rfl) rfl (lv_at hl 0 rfl) ?_
  refine lv_iload_n hx hb (dk_at dkL_law_35 6 rfl) rfl (lv_at hl 3 rfl) ?_
  refine lv_iconst (v := iI 1) hx hb (dk_at dkL_law_35 7 rfl) (by decide +kernel) ?_
  refine x_addv (v := i + 1) hx hb (dk_at dkL_law_35 8 rfl) rfl ?_
  refine x_sld (i := i + 1) hx hb hX hbl hbA hS hL (by omega) (dk_at dkL_law_35 9 rfl) ?_
  refine l_callX (As := [.int (iI (sx xs (i + 1)))]) (rest := []) (Wo := WK cB cI cJ cZ cQ q B2) ⟨hx, hb, hml, hown, hts⟩ (mb_X12_errands l dC dI cB cI cJ cZ cQ r A (sx xs (i + 1)) hIM (sx_r xs _) hcCI hcWI) (cwV 1 hts gl_20_1 rfl rfl rfl (by decide +kernel) ⟨Nat.le_of_ble_eq_true rfl, Nat.le_of_ble_eq_true rfl⟩) hK hDM hA0 hPM hPK (hap B2 A).sym hS 0 12 wm0 rfl rfl hl.1 (Nat.le_of_ble_eq_true rfl) hcs (dk_at dkL_law_35 10 rfl) (fun z2 A2 H locs hw2 hPM hPK hS => ?_)
  have hq2 := hw2
  obtain ⟨hr2, hIM, hf2, hcCI2, hcWI2, hw2⟩ := hw2
  have hcCI : CI A2 := hcCI2
  have hcWI : WI A2 := hcWI2
  have e2 : A2 0 1 = A 0 1 := hf2.2 1 rfl
  refine lv_pop hx hb (dk_at dkL_law_35 11 rfl) rfl ?_
  refine lv_goto (tgt := 1273) hx hb (dk_at dkL_law_35 12 rfl) (by decide) ?_
  exact k _ _ _ _ _ ⟨hIK, hIM, hcCI, hcWI, by omega, hTB.fr (fun k => hf1 2 k rfl rfl) (hf2.1 1 (by decide) rfl) (by omega), (fun k hk => (hf1 4 k rfl rfl).trans (hOW k hk)), PSs.fr hIK0 hPS hf1 rfl rfl hf2 rfl rfl, ((hf1 22 4 rfl rfl).trans (hTR.trans (hf2.2 75 rfl).symm))⟩ ⟨hPK, hPM, hS⟩ hl
set_option maxRecDepth 100000 in
theorem gl_21_0 : GoodIn lw_tbl (wsV RL 105 RX11 yX11_lent ws_kc_X11_lent) := goodVL lt_WY wy_good (t_in_5 _ (List.mem_of_getElem? (i := 58) rfl)) (t_in_5 _ (List.mem_of_getElem? (i := 59) rfl)) (t_in_5 _ (List.mem_of_getElem? (i := 60) rfl)) (t_in_1 _ (List.mem_of_getElem? (i := 1) rfl)) (t_in_5 _ (List.mem_of_getElem? (i := 61) rfl)) (by decide +kernel)
set_option maxRecDepth 100000 in
theorem gl_21_1 : GoodIn lw_tbl (wsV RL 108 RX12 yX12_lent ws_mb_X12_lent) := goodVL lt_WX wx_good (t_in_8 _ (List.mem_of_getElem? (i := 236) rfl)) (t_in_8 _ (List.mem_of_getElem? (i := 237) rfl)) (t_in_8 _ (List.mem_of_getElem? (i := 238) rfl)) (t_in_1 _ (List.mem_of_getElem? (i := 17) rfl)) (t_in_8 _ (List.mem_of_getElem? (i := 239) rfl)) (by decide +kernel)
set_option maxHeartbeats 4000000 in
set_option maxRecDepth 100000 in
theorem law_case_21 {p : Program} {e : Env} {s : State} {m : MethodId} {below : List Frame} {meth : Method} {c : Code} (l : Launch) {b L : Nat} {xs : Nat → Int32} (C0 : lw_At p s m meth c b L xs) (hL : L ≤ 3072) (dC : Nat → ClassId) (dI : Nat → Nat → Nat) (cB cI cJ cZ cQ : ClassId) (aL aS : Nat) (q r : Nat → Nat) (F : LF dC dI cB cI cJ cZ cQ aL aS q r s) {B A : St} {i : Int} (hi : 0 ≤ i ∧ i + 6 ≤ L) (hJ : LJ B A) {H : Heap} {locs : List Loc} {cells slots : Nat} {ls : Array Slot} (hcs : cells ≤ room_1.cells ∧ slots ≤ room_1.slots) (hW : LW dC dI cB cI cJ cZ cQ q r s B A H locs) (hl : lv_has ls 4 [(0, .ref b), (1, .ref (q 0)), (2, .ref (r 0)), (3, .int (iI i))]) (k : ∀ (B A : St) (H : Heap) (locs : List Loc) (ls : Array Slot), LJ B A → LW dC dI cB cI cJ cZ cQ q r s B A H locs → lv_has ls 4 [(0, .ref b), (1, .ref (q 0)), (2, .ref (r 0)), (3, .int (iI i))] → W p l e room_1 s m #[Value.ref b] below meth c H locs cells slots (lw_Z below #[Value.ref b] s) (F0 m 1273 ls [])) : W p l e room_1 s m #[Value.ref b] below meth c H locs cells slots (lw_Z below #[Value.ref b] s) (F0 m 869 ls []) := by
  obtain ⟨hx, hb, hr, hml, hown, hts, hX, hbl, hlocks, hgv⟩ := id C0
  obtain ⟨hK, hDK, hDM, hap, hE⟩ := F
  obtain ⟨hPK, hPM, hS⟩ := hW
  obtain ⟨hIK, hIM, hcCI, hcWI, hJ, hTB, hOW, hPS, hTR⟩ := hJ
  have hIK0 := hIK
  have hIM0 := hIM
  have r01 : (0 : Int) ≤ A 0 1 := (hIM 0 1).1
  have hbA : ¬ (fun b : Nat => s.heap.size ≤ b) b := Nat.not_le.mpr hbl
  have hA0 : ∀ b : Nat, s.heap.size ≤ b → (fun b : Nat => s.heap.size ≤ b) b := fun _ h => h
  refine lv_aload_n hx hb (dk_at dkL_law_35 13 rfl) rfl (lv_at hl 1 rfl) ?_
  refine lv_aload_n hx hb (dk_at dkL_law_35 14 rfl) rfl (lv_at hl 0 rfl) ?_
  refine lv_iload_n hx hb (dk_at dkL_law_35 15 rfl) rfl (lv_at hl 3 rfl) ?_
  refine lv_iconst (v := iI 1) hx hb (dk_at dkL_law_36 0 rfl) (by decide +kernel) ?_
  refine x_addv (v := i + 1) hx hb (dk_at dkL_law_36 1 rfl) rfl ?_
  refine x_sld (i := i + 1) hx hb hX hbl hbA hS hL (by omega) (dk_at dkL_law_36 2 rfl) ?_
  refine lv_aload_n hx hb (dk_at dkL_law_36 3 rfl) rfl (lv_at hl 0 rfl) ?_
  refine lv_iload_n hx hb (dk_at dkL_law_36 4 rfl) rfl (lv_at hl 3 rfl) ?_
  refine lv_iconst (v := iI 2) hx hb (dk_at dkL_law_36 5 rfl) (by decide +kernel) ?_
  refine x_addv (v := i + 2) hx hb (dk_at dkL_law_36 6 rfl) rfl ?_
  refine x_sld (i := i + 2) hx hb hX hbl hbA hS hL (by omega) (dk_at dkL_law_36 7 rfl) ?_
  refine lv_aload_n hx hb (dk_at dkL_law_36 8 rfl) rfl (lv_at hl 0 rfl) ?_
  refine lv_iload_n hx hb (dk_at dkL_law_36 9 rfl) rfl (lv_at hl 3 rfl) ?_
  refine lv_iconst (v := iI 3) hx hb (dk_at dkL_law_36 10 rfl) (by decide +kernel) ?_
  refine x_addv (v := i + 3) hx hb (dk_at dkL_law_36 11 rfl) rfl ?_
  refine x_sld (i := i + 3) hx hb hX hbl hbA hS hL (by omega) (dk_at dkL_law_36 12 rfl) ?_
  refine l_callK (As := [.int (iI (sx xs (i + 1))), .int (iI (sx xs (i + 2))), .int (iI (sx xs (i + 3)))]) (rest := []) (Wo := WM cI cJ cZ r A) ⟨hx, hb, hml, hown, hts⟩ hE (kc_X11_lent l dC dI cB cI cJ cZ cQ aL aS q B (sx xs (i + 1)) (sx xs (i + 2)) (sx xs (i + 3)) hIK (sx_r xs _) (sx_r xs _) (sx_r xs _)) (cwV 3 hts gl_21_0 rfl rfl rfl (by decide +kernel) ⟨Nat.le_of_ble_eq_true rfl, Nat.le_of_ble_eq_true rfl⟩) hK hDK hA0 hPK hPM (hap B A) hS 0 11 wkK rfl rfl hl.1 (Nat.le_of_ble_eq_true rfl) hcs (dk_at dkL_law_36 13 rfl) (fun z1 B2 H locs hw1 hPK hPM hS => ?_)
  obtain ⟨hr1, hIK, hf1, hw1⟩ := hw1
  have e1 : B2 1 1 = B 1 1 := hf1 1 1 rfl rfl
  refine lv_pop hx hb (dk_at dkL_law_36 14 rfl) rfl ?_
  refine lv_aload_n hx hb (dk_at dkL_law_36 15 rfl) rfl (lv_at hl 2 rfl) ?_
  refine lv_aload_n hx hb (dk_at dkL_law_37 0 rfl) rfl (lv_at hl 0 rfl) ?_
  refine lv_iload_n hx hb (dk_at dkL_law_37 1 rfl) rfl (lv_at hl 3 rfl) ?_
  refine lv_iconst (v := iI 1) hx hb (dk_at dkL_law_37 2 rfl) (by decide +kernel) ?_
  refine x_addv (v := i + 1) hx hb (dk_at dkL_law_37 3 rfl) rfl ?_
  refine x_sld (i := i + 1) hx hb hX hbl hbA hS hL (by omega) (dk_at dkL_law_37 4 rfl) ?_
  refine lv_aload_n hx hb (dk_at dkL_law_37 5 rfl) rfl (lv_at hl 0 rfl) ?_
  refine lv_iload_n hx hb (dk_at dkL_law_37 6 rfl) rfl (lv_at hl 3 rfl) ?_
  refine lv_iconst (v := iI 2) hx hb (dk_at dkL_law_37 7 rfl) (by decide +kernel) ?_
  refine x_addv (v := i + 2) hx hb (dk_at dkL_law_37 8 rfl) rfl ?_
  refine x_sld (i := i + 2) hx hb hX hbl hbA hS hL (by omega) (dk_at dkL_law_37 9 rfl) ?_
  refine lv_aload_n hx hb (dk_at dkL_law_37 10 rfl) rfl (lv_at hl 0 rfl) ?_
  refine lv_iload_n hx hb (dk_at dkL_law_37 11 rfl) rfl (lv_at hl 3 rfl) ?_
  refine lv_iconst (v := iI 3) hx hb (dk_at dkL_law_38 0 rfl) (by decide +kernel) ?_
  refine x_addv (v := i + 3) hx hb (dk_at dkL_law_38 1 rfl) rfl ?_
  refine x_sld (i := i + 3) hx hb hX hbl hbA hS hL (by omega) (dk_at dkL_law_38 2 rfl) ?_
  refine l_callX (As := [.int (iI (sx xs (i + 1))), .int (iI (sx xs (i + 2))), .int (iI (sx xs (i + 3)))]) (rest := []) (Wo := WK cB cI cJ cZ cQ q B2) ⟨hx, hb, hml, hown, hts⟩ (mb_X12_lent l dC dI cB cI cJ cZ cQ r A (sx xs (i + 1)) (sx xs (i + 2)) (sx xs (i + 3)) hIM (sx_r xs _) (sx_r xs _) (sx_r xs _) hcCI hcWI) (cwV 3 hts gl_21_1 rfl rfl rfl (by decide +kernel) ⟨Nat.le_of_ble_eq_true rfl, Nat.le_of_ble_eq_true rfl⟩) hK hDM hA0 hPM hPK (hap B2 A).sym hS 0 12 wm0 rfl rfl hl.1 (Nat.le_of_ble_eq_true rfl) hcs (dk_at dkL_law_38 3 rfl) (fun z2 A2 H locs hw2 hPM hPK hS => ?_)
  have hq2 := hw2
  obtain ⟨hr2, hIM, hf2, hcCI2, hcWI2, hw2⟩ := hw2
  have hcCI : CI A2 := hcCI2
  have hcWI : WI A2 := hcWI2
  have e2 : A2 0 1 = A 0 1 := hf2.2 1 rfl
  refine lv_pop hx hb (dk_at dkL_law_38 4 rfl) rfl ?_
  refine lv_goto (tgt := 1273) hx hb (dk_at dkL_law_38 5 rfl) (by decide) ?_
  exact k _ _ _ _ _ ⟨hIK, hIM, hcCI, hcWI, by omega, hTB.fr (fun k => hf1 2 k rfl rfl) (hf2.1 1 (by decide) rfl) (by omega), (fun k hk => (hf1 4 k rfl rfl).trans (hOW k hk)), PSs.fr hIK0 hPS hf1 rfl rfl hf2 rfl rfl, ((hf1 22 4 rfl rfl).trans (hTR.trans (hf2.2 75 rfl).symm))⟩ ⟨hPK, hPM, hS⟩ hl
set_option maxRecDepth 100000 in
theorem gl_22_0 : GoodIn lw_tbl (wsV RL 109 RX11 yX11_locked ws_kc_X11_locked) := goodVL lt_WY wy_good (t_in_5 _ (List.mem_of_getElem? (i := 66) rfl)) (t_in_5 _ (List.mem_of_getElem? (i := 67) rfl)) (t_in_5 _ (List.mem_of_getElem? (i := 68) rfl)) (t_in_1 _ (List.mem_of_getElem? (i := 1) rfl)) (t_in_5 _ (List.mem_of_getElem? (i := 69) rfl)) (by decide +kernel)
set_option maxRecDepth 100000 in
theorem gl_22_1 : GoodIn lw_tbl (wsV RL 112 RX12 yX12_locked ws_mb_X12_locked) := goodVL lt_WX wx_good (t_in_9 _ (List.mem_of_getElem? (i := 0) rfl)) (t_in_9 _ (List.mem_of_getElem? (i := 1) rfl)) (t_in_9 _ (List.mem_of_getElem? (i := 2) rfl)) (t_in_1 _ (List.mem_of_getElem? (i := 17) rfl)) (t_in_9 _ (List.mem_of_getElem? (i := 3) rfl)) (by decide +kernel)
set_option maxHeartbeats 4000000 in
set_option maxRecDepth 100000 in
theorem law_case_22 {p : Program} {e : Env} {s : State} {m : MethodId} {below : List Frame} {meth : Method} {c : Code} (l : Launch) {b L : Nat} {xs : Nat → Int32} (C0 : lw_At p s m meth c b L xs) (hL : L ≤ 3072) (dC : Nat → ClassId) (dI : Nat → Nat → Nat) (cB cI cJ cZ cQ : ClassId) (aL aS : Nat) (q r : Nat → Nat) (F : LF dC dI cB cI cJ cZ cQ aL aS q r s) {B A : St} {i : Int} (hi : 0 ≤ i ∧ i + 6 ≤ L) (hJ : LJ B A) {H : Heap} {locs : List Loc} {cells slots : Nat} {ls : Array Slot} (hcs : cells ≤ room_1.cells ∧ slots ≤ room_1.slots) (hW : LW dC dI cB cI cJ cZ cQ q r s B A H locs) (hl : lv_has ls 4 [(0, .ref b), (1, .ref (q 0)), (2, .ref (r 0)), (3, .int (iI i))]) (k : ∀ (B A : St) (H : Heap) (locs : List Loc) (ls : Array Slot), LJ B A → LW dC dI cB cI cJ cZ cQ q r s B A H locs → lv_has ls 4 [(0, .ref b), (1, .ref (q 0)), (2, .ref (r 0)), (3, .int (iI i))] → W p l e room_1 s m #[Value.ref b] below meth c H locs cells slots (lw_Z below #[Value.ref b] s) (F0 m 1273 ls [])) : W p l e room_1 s m #[Value.ref b] below meth c H locs cells slots (lw_Z below #[Value.ref b] s) (F0 m 912 ls []) := by
  obtain ⟨hx, hb, hr, hml, hown, hts, hX, hbl, hlocks, hgv⟩ := id C0
  obtain ⟨hK, hDK, hDM, hap, hE⟩ := F
  obtain ⟨hPK, hPM, hS⟩ := hW
  obtain ⟨hIK, hIM, hcCI, hcWI, hJ, hTB, hOW, hPS, hTR⟩ := hJ
  have hIK0 := hIK
  have hIM0 := hIM
  have r01 : (0 : Int) ≤ A 0 1 := (hIM 0 1).1
  have hbA : ¬ (fun b : Nat => s.heap.size ≤ b) b := Nat.not_le.mpr hbl
  have hA0 : ∀ b : Nat, s.heap.size ≤ b → (fun b : Nat => s.heap.size ≤ b) b := fun _ h => h
  refine lv_aload_n hx hb (dk_at dkL_law_38 6 rfl) rfl (lv_at hl 1 rfl) ?_
  refine l_callK (As := []) (rest := []) (Wo := WM cI cJ cZ r A) ⟨hx, hb, hml, hown, hts⟩ hE (kc_X11_locked l dC dI cB cI cJ cZ cQ aL aS q B  hIK) (cwV 0 hts gl_22_0 rfl rfl rfl (by decide +kernel) ⟨Nat.le_of_ble_eq_true rfl, Nat.le_of_ble_eq_true rfl⟩) hK hDK hA0 hPK hPM (hap B A) hS 0 11 wkK rfl rfl hl.1 (Nat.le_of_ble_eq_true rfl) hcs (dk_at dkL_law_38 7 rfl) (fun z1 B2 H locs hw1 hPK hPM hS => ?_)
  obtain ⟨hr1, hIK, hf1, hw1⟩ := hw1
  have e1 : B2 1 1 = B 1 1 := hf1 1 1 rfl rfl
  refine lv_pop hx hb (dk_at dkL_law_38 8 rfl) rfl ?_
  refine lv_aload_n hx hb (dk_at dkL_law_38 9 rfl) rfl (lv_at hl 2 rfl) ?_
  refine l_callX (As := []) (rest := []) (Wo := WK cB cI cJ cZ cQ q B2) ⟨hx, hb, hml, hown, hts⟩ (mb_X12_locked l dC dI cB cI cJ cZ cQ r A  hIM hcCI hcWI) (cwV 0 hts gl_22_1 rfl rfl rfl (by decide +kernel) ⟨Nat.le_of_ble_eq_true rfl, Nat.le_of_ble_eq_true rfl⟩) hK hDM hA0 hPM hPK (hap B2 A).sym hS 0 12 wm0 rfl rfl hl.1 (Nat.le_of_ble_eq_true rfl) hcs (dk_at dkL_law_38 10 rfl) (fun z2 A2 H locs hw2 hPM hPK hS => ?_)
  have hq2 := hw2
  obtain ⟨hr2, hIM, hf2, hcCI2, hcWI2, hw2⟩ := hw2
  have hcCI : CI A2 := hcCI2
  have hcWI : WI A2 := hcWI2
  have e2 : A2 0 1 = A 0 1 := hf2.2 1 rfl
  refine lv_pop hx hb (dk_at dkL_law_38 11 rfl) rfl ?_
  refine lv_goto (tgt := 1273) hx hb (dk_at dkL_law_38 12 rfl) (by decide) ?_
  exact k _ _ _ _ _ ⟨hIK, hIM, hcCI, hcWI, by omega, hTB.fr (fun k => hf1 2 k rfl rfl) (hf2.1 1 (by decide) rfl) (by omega), (fun k hk => (hf1 4 k rfl rfl).trans (hOW k hk)), PSs.fr hIK0 hPS hf1 rfl rfl hf2 rfl rfl, ((hf1 22 4 rfl rfl).trans (hTR.trans (hf2.2 75 rfl).symm))⟩ ⟨hPK, hPM, hS⟩ hl
set_option maxRecDepth 100000 in
theorem gl_23_0 : GoodIn lw_tbl (wsV RL 113 RX11 yX11_can ws_kc_X11_can) := goodVL lt_WY wy_good (t_in_5 _ (List.mem_of_getElem? (i := 74) rfl)) (t_in_5 _ (List.mem_of_getElem? (i := 75) rfl)) (t_in_5 _ (List.mem_of_getElem? (i := 76) rfl)) (t_in_1 _ (List.mem_of_getElem? (i := 1) rfl)) (t_in_5 _ (List.mem_of_getElem? (i := 77) rfl)) (by decide +kernel)
set_option maxRecDepth 100000 in
theorem gl_23_1 : GoodIn lw_tbl (wsV RL 116 RX12 yX12_can ws_mc_X12_can) := goodVL lt_WX wx_good (t_in_9 _ (List.mem_of_getElem? (i := 8) rfl)) (t_in_9 _ (List.mem_of_getElem? (i := 9) rfl)) (t_in_9 _ (List.mem_of_getElem? (i := 10) rfl)) (t_in_1 _ (List.mem_of_getElem? (i := 17) rfl)) (t_in_9 _ (List.mem_of_getElem? (i := 11) rfl)) (by decide +kernel)
set_option maxHeartbeats 4000000 in
set_option maxRecDepth 100000 in
theorem law_case_23 {p : Program} {e : Env} {s : State} {m : MethodId} {below : List Frame} {meth : Method} {c : Code} (l : Launch) {b L : Nat} {xs : Nat → Int32} (C0 : lw_At p s m meth c b L xs) (hL : L ≤ 3072) (dC : Nat → ClassId) (dI : Nat → Nat → Nat) (cB cI cJ cZ cQ : ClassId) (aL aS : Nat) (q r : Nat → Nat) (F : LF dC dI cB cI cJ cZ cQ aL aS q r s) {B A : St} {i : Int} (hi : 0 ≤ i ∧ i + 6 ≤ L) (hJ : LJ B A) {H : Heap} {locs : List Loc} {cells slots : Nat} {ls : Array Slot} (hcs : cells ≤ room_1.cells ∧ slots ≤ room_1.slots) (hW : LW dC dI cB cI cJ cZ cQ q r s B A H locs) (hl : lv_has ls 4 [(0, .ref b), (1, .ref (q 0)), (2, .ref (r 0)), (3, .int (iI i))]) (k : ∀ (B A : St) (H : Heap) (locs : List Loc) (ls : Array Slot), LJ B A → LW dC dI cB cI cJ cZ cQ q r s B A H locs → lv_has ls 4 [(0, .ref b), (1, .ref (q 0)), (2, .ref (r 0)), (3, .int (iI i))] → W p l e room_1 s m #[Value.ref b] below meth c H locs cells slots (lw_Z below #[Value.ref b] s) (F0 m 1273 ls [])) : W p l e room_1 s m #[Value.ref b] below meth c H locs cells slots (lw_Z below #[Value.ref b] s) (F0 m 925 ls []) := by
  obtain ⟨hx, hb, hr, hml, hown, hts, hX, hbl, hlocks, hgv⟩ := id C0
  obtain ⟨hK, hDK, hDM, hap, hE⟩ := F
  obtain ⟨hPK, hPM, hS⟩ := hW
  obtain ⟨hIK, hIM, hcCI, hcWI, hJ, hTB, hOW, hPS, hTR⟩ := hJ
  have hIK0 := hIK
  have hIM0 := hIM
  have r01 : (0 : Int) ≤ A 0 1 := (hIM 0 1).1
  have hbA : ¬ (fun b : Nat => s.heap.size ≤ b) b := Nat.not_le.mpr hbl
  have hA0 : ∀ b : Nat, s.heap.size ≤ b → (fun b : Nat => s.heap.size ≤ b) b := fun _ h => h
  refine lv_aload_n hx hb (dk_at dkL_law_38 13 rfl) rfl (lv_at hl 1 rfl) ?_
  refine lv_aload_n hx hb (dk_at dkL_law_38 14 rfl) rfl (lv_at hl 0 rfl) ?_
  refine lv_iload_n hx hb (dk_at dkL_law_38 15 rfl) rfl (lv_at hl 3 rfl) ?_
  refine lv_iconst (v := iI 1) hx hb (dk_at dkL_law_39 0 rfl) (by decide +kernel) ?_
  refine x_addv (v := i + 1) hx hb (dk_at dkL_law_39 1 rfl) rfl ?_
  refine x_sld (i := i + 1) hx hb hX hbl hbA hS hL (by omega) (dk_at dkL_law_39 2 rfl) ?_
  refine lv_aload_n hx hb (dk_at dkL_law_39 3 rfl) rfl (lv_at hl 0 rfl) ?_
  refine lv_iload_n hx hb (dk_at dkL_law_39 4 rfl) rfl (lv_at hl 3 rfl) ?_
  refine lv_iconst (v := iI 2) hx hb (dk_at dkL_law_39 5 rfl) (by decide +kernel) ?_
  refine x_addv (v := i + 2) hx hb (dk_at dkL_law_39 6 rfl) rfl ?_
  refine x_sld (i := i + 2) hx hb hX hbl hbA hS hL (by omega) (dk_at dkL_law_39 7 rfl) ?_
  refine l_callK (As := [.int (iI (sx xs (i + 1))), .int (iI (sx xs (i + 2)))]) (rest := []) (Wo := WM cI cJ cZ r A) ⟨hx, hb, hml, hown, hts⟩ hE (kc_X11_can l dC dI cB cI cJ cZ cQ aL aS q B (sx xs (i + 1)) (sx xs (i + 2)) hIK (sx_r xs _) (sx_r xs _)) (cwV 2 hts gl_23_0 rfl rfl rfl (by decide +kernel) ⟨Nat.le_of_ble_eq_true rfl, Nat.le_of_ble_eq_true rfl⟩) hK hDK hA0 hPK hPM (hap B A) hS 0 11 wkK rfl rfl hl.1 (Nat.le_of_ble_eq_true rfl) hcs (dk_at dkL_law_39 8 rfl) (fun z1 B2 H locs hw1 hPK hPM hS => ?_)
  obtain ⟨rfl, hr1, hw1⟩ := hw1
  refine lv_pop hx hb (dk_at dkL_law_39 9 rfl) rfl ?_
  refine lv_aload_n hx hb (dk_at dkL_law_39 10 rfl) rfl (lv_at hl 2 rfl) ?_
  refine lv_aload_n hx hb (dk_at dkL_law_39 11 rfl) rfl (lv_at hl 0 rfl) ?_
  refine lv_iload_n hx hb (dk_at dkL_law_39 12 rfl) rfl (lv_at hl 3 rfl) ?_
  refine lv_iconst (v := iI 1) hx hb (dk_at dkL_law_39 13 rfl) (by decide +kernel) ?_
  refine x_addv (v := i + 1) hx hb (dk_at dkL_law_39 14 rfl) rfl ?_
  refine x_sld (i := i + 1) hx hb hX hbl hbA hS hL (by omega) (dk_at dkL_law_39 15 rfl) ?_
  refine lv_aload_n hx hb (dk_at dkL_law_40 0 rfl) rfl (lv_at hl 0 rfl) ?_
  refine lv_iload_n hx hb (dk_at dkL_law_40 1 rfl) rfl (lv_at hl 3 rfl) ?_
  refine lv_iconst (v := iI 2) hx hb (dk_at dkL_law_40 2 rfl) (by decide +kernel) ?_
  refine x_addv (v := i + 2) hx hb (dk_at dkL_law_40 3 rfl) rfl ?_
  refine x_sld (i := i + 2) hx hb hX hbl hbA hS hL (by omega) (dk_at dkL_law_40 4 rfl) ?_
  refine l_callX (As := [.int (iI (sx xs (i + 1))), .int (iI (sx xs (i + 2)))]) (rest := []) (Wo := WK cB cI cJ cZ cQ q B) ⟨hx, hb, hml, hown, hts⟩ (mc_X12_can l dC dI cB cI cJ cZ cQ r A (sx xs (i + 1)) (sx xs (i + 2)) hIM (sx_r xs _) (sx_r xs _)) (cwV 2 hts gl_23_1 rfl rfl rfl (by decide +kernel) ⟨Nat.le_of_ble_eq_true rfl, Nat.le_of_ble_eq_true rfl⟩) hK hDM hA0 hPM hPK (hap B A).sym hS 0 12 wm0 rfl rfl hl.1 (Nat.le_of_ble_eq_true rfl) hcs (dk_at dkL_law_40 5 rfl) (fun z2 A2 H locs hw2 hPM hPK hS => ?_)
  have hq2 := hw2
  obtain ⟨rfl, hr2, hw2⟩ := hw2
  refine lv_pop hx hb (dk_at dkL_law_40 6 rfl) rfl ?_
  refine lv_goto (tgt := 1273) hx hb (dk_at dkL_law_40 7 rfl) (by decide) ?_
  exact k _ _ _ _ _ ⟨hIK, hIM, hcCI, hcWI, by omega, hTB, hOW, hPS, hTR⟩ ⟨hPK, hPM, hS⟩ hl
set_option maxRecDepth 100000 in
theorem gl_24_0 : GoodIn lw_tbl (wsV RL 117 RX11 yX11_needs ws_kc_X11_needs) := goodVL lt_WY wy_good (t_in_5 _ (List.mem_of_getElem? (i := 82) rfl)) (t_in_5 _ (List.mem_of_getElem? (i := 83) rfl)) (t_in_5 _ (List.mem_of_getElem? (i := 84) rfl)) (t_in_1 _ (List.mem_of_getElem? (i := 1) rfl)) (t_in_5 _ (List.mem_of_getElem? (i := 85) rfl)) (by decide +kernel)
set_option maxRecDepth 100000 in
theorem gl_24_1 : GoodIn lw_tbl (wsV RL 120 RX12 yX12_needs ws_mc_X12_needs) := goodVL lt_WX wx_good (t_in_9 _ (List.mem_of_getElem? (i := 16) rfl)) (t_in_9 _ (List.mem_of_getElem? (i := 17) rfl)) (t_in_9 _ (List.mem_of_getElem? (i := 18) rfl)) (t_in_1 _ (List.mem_of_getElem? (i := 17) rfl)) (t_in_9 _ (List.mem_of_getElem? (i := 19) rfl)) (by decide +kernel)
set_option maxHeartbeats 4000000 in
set_option maxRecDepth 100000 in
theorem law_case_24 {p : Program} {e : Env} {s : State} {m : MethodId} {below : List Frame} {meth : Method} {c : Code} (l : Launch) {b L : Nat} {xs : Nat → Int32} (C0 : lw_At p s m meth c b L xs) (hL : L ≤ 3072) (dC : Nat → ClassId) (dI : Nat → Nat → Nat) (cB cI cJ cZ cQ : ClassId) (aL aS : Nat) (q r : Nat → Nat) (F : LF dC dI cB cI cJ cZ cQ aL aS q r s) {B A : St} {i : Int} (hi : 0 ≤ i ∧ i + 6 ≤ L) (hJ : LJ B A) {H : Heap} {locs : List Loc} {cells slots : Nat} {ls : Array Slot} (hcs : cells ≤ room_1.cells ∧ slots ≤ room_1.slots) (hW : LW dC dI cB cI cJ cZ cQ q r s B A H locs) (hl : lv_has ls 4 [(0, .ref b), (1, .ref (q 0)), (2, .ref (r 0)), (3, .int (iI i))]) (k : ∀ (B A : St) (H : Heap) (locs : List Loc) (ls : Array Slot), LJ B A → LW dC dI cB cI cJ cZ cQ q r s B A H locs → lv_has ls 4 [(0, .ref b), (1, .ref (q 0)), (2, .ref (r 0)), (3, .int (iI i))] → W p l e room_1 s m #[Value.ref b] below meth c H locs cells slots (lw_Z below #[Value.ref b] s) (F0 m 1273 ls [])) : W p l e room_1 s m #[Value.ref b] below meth c H locs cells slots (lw_Z below #[Value.ref b] s) (F0 m 958 ls []) := by
  obtain ⟨hx, hb, hr, hml, hown, hts, hX, hbl, hlocks, hgv⟩ := id C0
  obtain ⟨hK, hDK, hDM, hap, hE⟩ := F
  obtain ⟨hPK, hPM, hS⟩ := hW
  obtain ⟨hIK, hIM, hcCI, hcWI, hJ, hTB, hOW, hPS, hTR⟩ := hJ
  have hIK0 := hIK
  have hIM0 := hIM
  have r01 : (0 : Int) ≤ A 0 1 := (hIM 0 1).1
  have hbA : ¬ (fun b : Nat => s.heap.size ≤ b) b := Nat.not_le.mpr hbl
  have hA0 : ∀ b : Nat, s.heap.size ≤ b → (fun b : Nat => s.heap.size ≤ b) b := fun _ h => h
  refine lv_aload_n hx hb (dk_at dkL_law_40 8 rfl) rfl (lv_at hl 1 rfl) ?_
  refine lv_aload_n hx hb (dk_at dkL_law_40 9 rfl) rfl (lv_at hl 0 rfl) ?_
  refine lv_iload_n hx hb (dk_at dkL_law_40 10 rfl) rfl (lv_at hl 3 rfl) ?_
  refine lv_iconst (v := iI 1) hx hb (dk_at dkL_law_40 11 rfl) (by decide +kernel) ?_
  refine x_addv (v := i + 1) hx hb (dk_at dkL_law_40 12 rfl) rfl ?_
  refine x_sld (i := i + 1) hx hb hX hbl hbA hS hL (by omega) (dk_at dkL_law_40 13 rfl) ?_
  refine lv_aload_n hx hb (dk_at dkL_law_40 14 rfl) rfl (lv_at hl 0 rfl) ?_
  refine lv_iload_n hx hb (dk_at dkL_law_40 15 rfl) rfl (lv_at hl 3 rfl) ?_
  refine lv_iconst (v := iI 2) hx hb (dk_at dkL_law_41 0 rfl) (by decide +kernel) ?_
  refine x_addv (v := i + 2) hx hb (dk_at dkL_law_41 1 rfl) rfl ?_
  refine x_sld (i := i + 2) hx hb hX hbl hbA hS hL (by omega) (dk_at dkL_law_41 2 rfl) ?_
  refine l_callK (As := [.int (iI (sx xs (i + 1))), .int (iI (sx xs (i + 2)))]) (rest := []) (Wo := WM cI cJ cZ r A) ⟨hx, hb, hml, hown, hts⟩ hE (kc_X11_needs l dC dI cB cI cJ cZ cQ aL aS q B (sx xs (i + 1)) (sx xs (i + 2)) hIK (sx_r xs _) (sx_r xs _)) (cwV 2 hts gl_24_0 rfl rfl rfl (by decide +kernel) ⟨Nat.le_of_ble_eq_true rfl, Nat.le_of_ble_eq_true rfl⟩) hK hDK hA0 hPK hPM (hap B A) hS 0 11 wkK rfl rfl hl.1 (Nat.le_of_ble_eq_true rfl) hcs (dk_at dkL_law_41 3 rfl) (fun z1 B2 H locs hw1 hPK hPM hS => ?_)
  obtain ⟨rfl, hr1, hw1⟩ := hw1
  refine lv_pop hx hb (dk_at dkL_law_41 4 rfl) rfl ?_
  refine lv_aload_n hx hb (dk_at dkL_law_41 5 rfl) rfl (lv_at hl 2 rfl) ?_
  refine lv_aload_n hx hb (dk_at dkL_law_41 6 rfl) rfl (lv_at hl 0 rfl) ?_
  refine lv_iload_n hx hb (dk_at dkL_law_41 7 rfl) rfl (lv_at hl 3 rfl) ?_
  refine lv_iconst (v := iI 1) hx hb (dk_at dkL_law_41 8 rfl) (by decide +kernel) ?_
  refine x_addv (v := i + 1) hx hb (dk_at dkL_law_41 9 rfl) rfl ?_
  refine x_sld (i := i + 1) hx hb hX hbl hbA hS hL (by omega) (dk_at dkL_law_41 10 rfl) ?_
  refine lv_aload_n hx hb (dk_at dkL_law_41 11 rfl) rfl (lv_at hl 0 rfl) ?_
  refine lv_iload_n hx hb (dk_at dkL_law_41 12 rfl) rfl (lv_at hl 3 rfl) ?_
  refine lv_iconst (v := iI 2) hx hb (dk_at dkL_law_41 13 rfl) (by decide +kernel) ?_
  refine x_addv (v := i + 2) hx hb (dk_at dkL_law_41 14 rfl) rfl ?_
  refine x_sld (i := i + 2) hx hb hX hbl hbA hS hL (by omega) (dk_at dkL_law_41 15 rfl) ?_
  refine l_callX (As := [.int (iI (sx xs (i + 1))), .int (iI (sx xs (i + 2)))]) (rest := []) (Wo := WK cB cI cJ cZ cQ q B) ⟨hx, hb, hml, hown, hts⟩ (mc_X12_needs l dC dI cB cI cJ cZ cQ r A (sx xs (i + 1)) (sx xs (i + 2)) hIM (sx_r xs _) (sx_r xs _)) (cwV 2 hts gl_24_1 rfl rfl rfl (by decide +kernel) ⟨Nat.le_of_ble_eq_true rfl, Nat.le_of_ble_eq_true rfl⟩) hK hDM hA0 hPM hPK (hap B A).sym hS 0 12 wm0 rfl rfl hl.1 (Nat.le_of_ble_eq_true rfl) hcs (dk_at dkL_law_42 0 rfl) (fun z2 A2 H locs hw2 hPM hPK hS => ?_)
  have hq2 := hw2
  obtain ⟨rfl, hr2, hw2⟩ := hw2
  refine lv_pop hx hb (dk_at dkL_law_42 1 rfl) rfl ?_
  refine lv_goto (tgt := 1273) hx hb (dk_at dkL_law_42 2 rfl) (by decide) ?_
  exact k _ _ _ _ _ ⟨hIK, hIM, hcCI, hcWI, by omega, hTB, hOW, hPS, hTR⟩ ⟨hPK, hPM, hS⟩ hl
set_option maxRecDepth 100000 in
theorem gl_25_0 : GoodIn lw_tbl (wsV RL 121 RX11 yX11_cross ws_kc_X11_cross) := goodVL lt_WY wy_good (t_in_5 _ (List.mem_of_getElem? (i := 90) rfl)) (t_in_5 _ (List.mem_of_getElem? (i := 91) rfl)) (t_in_5 _ (List.mem_of_getElem? (i := 92) rfl)) (t_in_1 _ (List.mem_of_getElem? (i := 1) rfl)) (t_in_5 _ (List.mem_of_getElem? (i := 93) rfl)) (by decide +kernel)
set_option maxRecDepth 100000 in
theorem gl_25_1 : GoodIn lw_tbl (wsV RL 124 RX12 yX12_cross ws_mc_X12_cross) := goodVL lt_WX wx_good (t_in_9 _ (List.mem_of_getElem? (i := 20) rfl)) (t_in_9 _ (List.mem_of_getElem? (i := 21) rfl)) (t_in_9 _ (List.mem_of_getElem? (i := 22) rfl)) (t_in_1 _ (List.mem_of_getElem? (i := 17) rfl)) (t_in_9 _ (List.mem_of_getElem? (i := 23) rfl)) (by decide +kernel)
set_option maxHeartbeats 4000000 in
set_option maxRecDepth 100000 in
theorem law_case_25 {p : Program} {e : Env} {s : State} {m : MethodId} {below : List Frame} {meth : Method} {c : Code} (l : Launch) {b L : Nat} {xs : Nat → Int32} (C0 : lw_At p s m meth c b L xs) (hL : L ≤ 3072) (dC : Nat → ClassId) (dI : Nat → Nat → Nat) (cB cI cJ cZ cQ : ClassId) (aL aS : Nat) (q r : Nat → Nat) (F : LF dC dI cB cI cJ cZ cQ aL aS q r s) {B A : St} {i : Int} (hi : 0 ≤ i ∧ i + 6 ≤ L) (hJ : LJ B A) {H : Heap} {locs : List Loc} {cells slots : Nat} {ls : Array Slot} (hcs : cells ≤ room_1.cells ∧ slots ≤ room_1.slots) (hW : LW dC dI cB cI cJ cZ cQ q r s B A H locs) (hl : lv_has ls 4 [(0, .ref b), (1, .ref (q 0)), (2, .ref (r 0)), (3, .int (iI i))]) (k : ∀ (B A : St) (H : Heap) (locs : List Loc) (ls : Array Slot), LJ B A → LW dC dI cB cI cJ cZ cQ q r s B A H locs → lv_has ls 4 [(0, .ref b), (1, .ref (q 0)), (2, .ref (r 0)), (3, .int (iI i))] → W p l e room_1 s m #[Value.ref b] below meth c H locs cells slots (lw_Z below #[Value.ref b] s) (F0 m 1273 ls [])) : W p l e room_1 s m #[Value.ref b] below meth c H locs cells slots (lw_Z below #[Value.ref b] s) (F0 m 991 ls []) := by
  obtain ⟨hx, hb, hr, hml, hown, hts, hX, hbl, hlocks, hgv⟩ := id C0
  obtain ⟨hK, hDK, hDM, hap, hE⟩ := F
  obtain ⟨hPK, hPM, hS⟩ := hW
  obtain ⟨hIK, hIM, hcCI, hcWI, hJ, hTB, hOW, hPS, hTR⟩ := hJ
  have hIK0 := hIK
  have hIM0 := hIM
  have r01 : (0 : Int) ≤ A 0 1 := (hIM 0 1).1
  have hbA : ¬ (fun b : Nat => s.heap.size ≤ b) b := Nat.not_le.mpr hbl
  have hA0 : ∀ b : Nat, s.heap.size ≤ b → (fun b : Nat => s.heap.size ≤ b) b := fun _ h => h
  refine lv_aload_n hx hb (dk_at dkL_law_42 3 rfl) rfl (lv_at hl 1 rfl) ?_
  refine lv_aload_n hx hb (dk_at dkL_law_42 4 rfl) rfl (lv_at hl 0 rfl) ?_
  refine lv_iload_n hx hb (dk_at dkL_law_42 5 rfl) rfl (lv_at hl 3 rfl) ?_
  refine lv_iconst (v := iI 1) hx hb (dk_at dkL_law_42 6 rfl) (by decide +kernel) ?_
  refine x_addv (v := i + 1) hx hb (dk_at dkL_law_42 7 rfl) rfl ?_
  refine x_sld (i := i + 1) hx hb hX hbl hbA hS hL (by omega) (dk_at dkL_law_42 8 rfl) ?_
  refine l_callK (As := [.int (iI (sx xs (i + 1)))]) (rest := []) (Wo := WM cI cJ cZ r A) ⟨hx, hb, hml, hown, hts⟩ hE (kc_X11_cross l dC dI cB cI cJ cZ cQ aL aS q B (sx xs (i + 1)) hIK (sx_r xs _)) (cwV 1 hts gl_25_0 rfl rfl rfl (by decide +kernel) ⟨Nat.le_of_ble_eq_true rfl, Nat.le_of_ble_eq_true rfl⟩) hK hDK hA0 hPK hPM (hap B A) hS 0 11 wkK rfl rfl hl.1 (Nat.le_of_ble_eq_true rfl) hcs (dk_at dkL_law_42 9 rfl) (fun z1 B2 H locs hw1 hPK hPM hS => ?_)
  obtain ⟨rfl, hr1, hw1⟩ := hw1
  refine lv_pop hx hb (dk_at dkL_law_42 10 rfl) rfl ?_
  refine lv_aload_n hx hb (dk_at dkL_law_42 11 rfl) rfl (lv_at hl 2 rfl) ?_
  refine lv_aload_n hx hb (dk_at dkL_law_42 12 rfl) rfl (lv_at hl 0 rfl) ?_
  refine lv_iload_n hx hb (dk_at dkL_law_42 13 rfl) rfl (lv_at hl 3 rfl) ?_
  refine lv_iconst (v := iI 1) hx hb (dk_at dkL_law_42 14 rfl) (by decide +kernel) ?_
  refine x_addv (v := i + 1) hx hb (dk_at dkL_law_42 15 rfl) rfl ?_
  refine x_sld (i := i + 1) hx hb hX hbl hbA hS hL (by omega) (dk_at dkL_law_43 0 rfl) ?_
  refine l_callX (As := [.int (iI (sx xs (i + 1)))]) (rest := []) (Wo := WK cB cI cJ cZ cQ q B) ⟨hx, hb, hml, hown, hts⟩ (mc_X12_cross l dC dI cB cI cJ cZ cQ r A (sx xs (i + 1)) hIM (sx_r xs _)) (cwV 1 hts gl_25_1 rfl rfl rfl (by decide +kernel) ⟨Nat.le_of_ble_eq_true rfl, Nat.le_of_ble_eq_true rfl⟩) hK hDM hA0 hPM hPK (hap B A).sym hS 0 12 wm0 rfl rfl hl.1 (Nat.le_of_ble_eq_true rfl) hcs (dk_at dkL_law_43 1 rfl) (fun z2 A2 H locs hw2 hPM hPK hS => ?_)
  have hq2 := hw2
  obtain ⟨rfl, hr2, hw2⟩ := hw2
  refine lv_pop hx hb (dk_at dkL_law_43 2 rfl) rfl ?_
  refine lv_goto (tgt := 1273) hx hb (dk_at dkL_law_43 3 rfl) (by decide) ?_
  exact k _ _ _ _ _ ⟨hIK, hIM, hcCI, hcWI, by omega, hTB, hOW, hPS, hTR⟩ ⟨hPK, hPM, hS⟩ hl
set_option maxRecDepth 100000 in
theorem gl_26_0 : GoodIn lw_tbl (wsV RL 125 RX11 yX11_fewest ws_kc_X11_fewest) := goodVL lt_WY wy_good (t_in_5 _ (List.mem_of_getElem? (i := 102) rfl)) (t_in_5 _ (List.mem_of_getElem? (i := 103) rfl)) (t_in_5 _ (List.mem_of_getElem? (i := 104) rfl)) (t_in_1 _ (List.mem_of_getElem? (i := 1) rfl)) (t_in_5 _ (List.mem_of_getElem? (i := 105) rfl)) (by decide +kernel)
set_option maxRecDepth 100000 in
theorem gl_26_1 : GoodIn lw_tbl (wsV RL 128 RX12 yX12_fewest ws_mb_X12_fewest) := goodVL lt_WX wx_good (t_in_9 _ (List.mem_of_getElem? (i := 28) rfl)) (t_in_9 _ (List.mem_of_getElem? (i := 29) rfl)) (t_in_9 _ (List.mem_of_getElem? (i := 30) rfl)) (t_in_1 _ (List.mem_of_getElem? (i := 17) rfl)) (t_in_9 _ (List.mem_of_getElem? (i := 31) rfl)) (by decide +kernel)
set_option maxHeartbeats 4000000 in
set_option maxRecDepth 100000 in
theorem law_case_26 {p : Program} {e : Env} {s : State} {m : MethodId} {below : List Frame} {meth : Method} {c : Code} (l : Launch) {b L : Nat} {xs : Nat → Int32} (C0 : lw_At p s m meth c b L xs) (hL : L ≤ 3072) (dC : Nat → ClassId) (dI : Nat → Nat → Nat) (cB cI cJ cZ cQ : ClassId) (aL aS : Nat) (q r : Nat → Nat) (F : LF dC dI cB cI cJ cZ cQ aL aS q r s) {B A : St} {i : Int} (hi : 0 ≤ i ∧ i + 6 ≤ L) (hJ : LJ B A) {H : Heap} {locs : List Loc} {cells slots : Nat} {ls : Array Slot} (hcs : cells ≤ room_1.cells ∧ slots ≤ room_1.slots) (hW : LW dC dI cB cI cJ cZ cQ q r s B A H locs) (hl : lv_has ls 4 [(0, .ref b), (1, .ref (q 0)), (2, .ref (r 0)), (3, .int (iI i))]) (k : ∀ (B A : St) (H : Heap) (locs : List Loc) (ls : Array Slot), LJ B A → LW dC dI cB cI cJ cZ cQ q r s B A H locs → lv_has ls 4 [(0, .ref b), (1, .ref (q 0)), (2, .ref (r 0)), (3, .int (iI i))] → W p l e room_1 s m #[Value.ref b] below meth c H locs cells slots (lw_Z below #[Value.ref b] s) (F0 m 1273 ls [])) : W p l e room_1 s m #[Value.ref b] below meth c H locs cells slots (lw_Z below #[Value.ref b] s) (F0 m 1014 ls []) := by
  obtain ⟨hx, hb, hr, hml, hown, hts, hX, hbl, hlocks, hgv⟩ := id C0
  obtain ⟨hK, hDK, hDM, hap, hE⟩ := F
  obtain ⟨hPK, hPM, hS⟩ := hW
  obtain ⟨hIK, hIM, hcCI, hcWI, hJ, hTB, hOW, hPS, hTR⟩ := hJ
  have hIK0 := hIK
  have hIM0 := hIM
  have r01 : (0 : Int) ≤ A 0 1 := (hIM 0 1).1
  have hbA : ¬ (fun b : Nat => s.heap.size ≤ b) b := Nat.not_le.mpr hbl
  have hA0 : ∀ b : Nat, s.heap.size ≤ b → (fun b : Nat => s.heap.size ≤ b) b := fun _ h => h
  refine lv_aload_n hx hb (dk_at dkL_law_43 4 rfl) rfl (lv_at hl 1 rfl) ?_
  refine lv_aload_n hx hb (dk_at dkL_law_43 5 rfl) rfl (lv_at hl 0 rfl) ?_
  refine lv_iload_n hx hb (dk_at dkL_law_43 6 rfl) rfl (lv_at hl 3 rfl) ?_
  refine lv_iconst (v := iI 1) hx hb (dk_at dkL_law_43 7 rfl) (by decide +kernel) ?_
  refine x_addv (v := i + 1) hx hb (dk_at dkL_law_43 8 rfl) rfl ?_
  refine x_sld (i := i + 1) hx hb hX hbl hbA hS hL (by omega) (dk_at dkL_law_43 9 rfl) ?_
  refine l_callK (As := [.int (iI (sx xs (i + 1)))]) (rest := []) (Wo := WM cI cJ cZ r A) ⟨hx, hb, hml, hown, hts⟩ hE (kc_X11_fewest l dC dI cB cI cJ cZ cQ aL aS q B (sx xs (i + 1)) hIK (sx_r xs _)) (cwV 1 hts gl_26_0 rfl rfl rfl (by decide +kernel) ⟨Nat.le_of_ble_eq_true rfl, Nat.le_of_ble_eq_true rfl⟩) hK hDK hA0 hPK hPM (hap B A) hS 0 11 wkK rfl rfl hl.1 (Nat.le_of_ble_eq_true rfl) hcs (dk_at dkL_law_43 10 rfl) (fun z1 B2 H locs hw1 hPK hPM hS => ?_)
  obtain ⟨hr1, hIK, hf1, hw1⟩ := hw1
  have e1 : B2 1 1 = B 1 1 := hf1 1 1 rfl rfl
  refine lv_aload_n hx hb (dk_at dkL_law_43 11 rfl) rfl (lv_at hl 2 rfl) ?_
  refine lv_aload_n hx hb (dk_at dkL_law_43 12 rfl) rfl (lv_at hl 0 rfl) ?_
  refine lv_iload_n hx hb (dk_at dkL_law_43 13 rfl) rfl (lv_at hl 3 rfl) ?_
  refine lv_iconst (v := iI 1) hx hb (dk_at dkL_law_43 14 rfl) (by decide +kernel) ?_
  refine x_addv (v := i + 1) hx hb (dk_at dkL_law_43 15 rfl) rfl ?_
  refine x_sld (i := i + 1) hx hb hX hbl hbA hS hL (by omega) (dk_at dkL_law_44 0 rfl) ?_
  refine l_callX (As := [.int (iI (sx xs (i + 1)))]) (rest := [.int (iI z1)]) (Wo := WK cB cI cJ cZ cQ q B2) ⟨hx, hb, hml, hown, hts⟩ (mb_X12_fewest l dC dI cB cI cJ cZ cQ r A (sx xs (i + 1)) hIM (sx_r xs _)) (cwV 1 hts gl_26_1 rfl rfl rfl (by decide +kernel) ⟨Nat.le_of_ble_eq_true rfl, Nat.le_of_ble_eq_true rfl⟩) hK hDM hA0 hPM hPK (hap B2 A).sym hS 0 12 wm0 rfl rfl hl.1 (Nat.le_of_ble_eq_true rfl) hcs (dk_at dkL_law_44 1 rfl) (fun z2 A2 H locs hw2 hPM hPK hS => ?_)
  have hq2 := hw2
  obtain ⟨hr2, hIM, hf2, hw2⟩ := hw2
  have hcCI : CI A2 := CI.fr hcCI hf2 rfl rfl
  have hcWI : WI A2 := WI.fr hcWI hf2 rfl rfl
  have e2 : A2 0 1 = A 0 1 := hf2.2 1 rfl
  have hzz : z1 = z2 := fewest_eq hIK0 hIM0 hPS hr1 hr2
  refine lv_icmp_eq (tgt := 1273) hx hb (dk_at dkL_law_44 2 rfl) (by decide) (fun _ => ?_) (fun c9 => absurd (congrArg iI (by omega)) c9)
  exact k _ _ _ _ _ ⟨hIK, hIM, hcCI, hcWI, by omega, hTB.fr (fun k => hf1 2 k rfl rfl) (hf2.1 1 (by decide) rfl) (by omega), (fun k hk => (hf1 4 k rfl rfl).trans (hOW k hk)), PSs.fr hIK0 hPS hf1 rfl rfl hf2 rfl rfl, ((hf1 22 4 rfl rfl).trans (hTR.trans (hf2.2 75 rfl).symm))⟩ ⟨hPK, hPM, hS⟩ hl
set_option maxRecDepth 100000 in
theorem gl_27_0 : GoodIn lw_tbl (wsV RL 129 RX11 yX11_order ws_kc_X11_order) := goodVL lt_WY wy_good (t_in_5 _ (List.mem_of_getElem? (i := 118) rfl)) (t_in_5 _ (List.mem_of_getElem? (i := 119) rfl)) (t_in_5 _ (List.mem_of_getElem? (i := 120) rfl)) (t_in_1 _ (List.mem_of_getElem? (i := 1) rfl)) (t_in_5 _ (List.mem_of_getElem? (i := 121) rfl)) (by decide +kernel)
set_option maxRecDepth 100000 in
theorem gl_27_1 : GoodIn lw_tbl (wsV RL 132 RX12 yX12_order ws_mc_X12_order) := goodVL lt_WX wx_good (t_in_9 _ (List.mem_of_getElem? (i := 40) rfl)) (t_in_9 _ (List.mem_of_getElem? (i := 41) rfl)) (t_in_9 _ (List.mem_of_getElem? (i := 42) rfl)) (t_in_1 _ (List.mem_of_getElem? (i := 17) rfl)) (t_in_9 _ (List.mem_of_getElem? (i := 43) rfl)) (by decide +kernel)
set_option maxHeartbeats 4000000 in
set_option maxRecDepth 100000 in
theorem law_case_27 {p : Program} {e : Env} {s : State} {m : MethodId} {below : List Frame} {meth : Method} {c : Code} (l : Launch) {b L : Nat} {xs : Nat → Int32} (C0 : lw_At p s m meth c b L xs) (hL : L ≤ 3072) (dC : Nat → ClassId) (dI : Nat → Nat → Nat) (cB cI cJ cZ cQ : ClassId) (aL aS : Nat) (q r : Nat → Nat) (F : LF dC dI cB cI cJ cZ cQ aL aS q r s) {B A : St} {i : Int} (hi : 0 ≤ i ∧ i + 6 ≤ L) (hJ : LJ B A) {H : Heap} {locs : List Loc} {cells slots : Nat} {ls : Array Slot} (hcs : cells ≤ room_1.cells ∧ slots ≤ room_1.slots) (hW : LW dC dI cB cI cJ cZ cQ q r s B A H locs) (hl : lv_has ls 4 [(0, .ref b), (1, .ref (q 0)), (2, .ref (r 0)), (3, .int (iI i))]) (k : ∀ (B A : St) (H : Heap) (locs : List Loc) (ls : Array Slot), LJ B A → LW dC dI cB cI cJ cZ cQ q r s B A H locs → lv_has ls 4 [(0, .ref b), (1, .ref (q 0)), (2, .ref (r 0)), (3, .int (iI i))] → W p l e room_1 s m #[Value.ref b] below meth c H locs cells slots (lw_Z below #[Value.ref b] s) (F0 m 1273 ls [])) : W p l e room_1 s m #[Value.ref b] below meth c H locs cells slots (lw_Z below #[Value.ref b] s) (F0 m 1037 ls []) := by
  obtain ⟨hx, hb, hr, hml, hown, hts, hX, hbl, hlocks, hgv⟩ := id C0
  obtain ⟨hK, hDK, hDM, hap, hE⟩ := F
  obtain ⟨hPK, hPM, hS⟩ := hW
  obtain ⟨hIK, hIM, hcCI, hcWI, hJ, hTB, hOW, hPS, hTR⟩ := hJ
  have hIK0 := hIK
  have hIM0 := hIM
  have r01 : (0 : Int) ≤ A 0 1 := (hIM 0 1).1
  have hbA : ¬ (fun b : Nat => s.heap.size ≤ b) b := Nat.not_le.mpr hbl
  have hA0 : ∀ b : Nat, s.heap.size ≤ b → (fun b : Nat => s.heap.size ≤ b) b := fun _ h => h
  refine lv_aload_n hx hb (dk_at dkL_law_44 3 rfl) rfl (lv_at hl 1 rfl) ?_
  refine lv_aload_n hx hb (dk_at dkL_law_44 4 rfl) rfl (lv_at hl 0 rfl) ?_
  refine lv_iload_n hx hb (dk_at dkL_law_44 5 rfl) rfl (lv_at hl 3 rfl) ?_
  refine lv_iconst (v := iI 1) hx hb (dk_at dkL_law_44 6 rfl) (by decide +kernel) ?_
  refine x_addv (v := i + 1) hx hb (dk_at dkL_law_44 7 rfl) rfl ?_
  refine x_sld (i := i + 1) hx hb hX hbl hbA hS hL (by omega) (dk_at dkL_law_44 8 rfl) ?_
  refine l_callK (As := [.int (iI (sx xs (i + 1)))]) (rest := []) (Wo := WM cI cJ cZ r A) ⟨hx, hb, hml, hown, hts⟩ hE (kc_X11_order l dC dI cB cI cJ cZ cQ aL aS q B (sx xs (i + 1)) hIK (sx_r xs _)) (cwV 1 hts gl_27_0 rfl rfl rfl (by decide +kernel) ⟨Nat.le_of_ble_eq_true rfl, Nat.le_of_ble_eq_true rfl⟩) hK hDK hA0 hPK hPM (hap B A) hS 0 11 wkK rfl rfl hl.1 (Nat.le_of_ble_eq_true rfl) hcs (dk_at dkL_law_44 9 rfl) (fun z1 B2 H locs hw1 hPK hPM hS => ?_)
  obtain ⟨rfl, hr1, hw1⟩ := hw1
  refine lv_pop hx hb (dk_at dkL_law_44 10 rfl) rfl ?_
  refine lv_aload_n hx hb (dk_at dkL_law_44 11 rfl) rfl (lv_at hl 2 rfl) ?_
  refine lv_aload_n hx hb (dk_at dkL_law_44 12 rfl) rfl (lv_at hl 0 rfl) ?_
  refine lv_iload_n hx hb (dk_at dkL_law_44 13 rfl) rfl (lv_at hl 3 rfl) ?_
  refine lv_iconst (v := iI 1) hx hb (dk_at dkL_law_44 14 rfl) (by decide +kernel) ?_
  refine x_addv (v := i + 1) hx hb (dk_at dkL_law_44 15 rfl) rfl ?_
  refine x_sld (i := i + 1) hx hb hX hbl hbA hS hL (by omega) (dk_at dkL_law_45 0 rfl) ?_
  refine l_callX (As := [.int (iI (sx xs (i + 1)))]) (rest := []) (Wo := WK cB cI cJ cZ cQ q B) ⟨hx, hb, hml, hown, hts⟩ (mc_X12_order l dC dI cB cI cJ cZ cQ r A (sx xs (i + 1)) hIM (sx_r xs _)) (cwV 1 hts gl_27_1 rfl rfl rfl (by decide +kernel) ⟨Nat.le_of_ble_eq_true rfl, Nat.le_of_ble_eq_true rfl⟩) hK hDM hA0 hPM hPK (hap B A).sym hS 0 12 wm0 rfl rfl hl.1 (Nat.le_of_ble_eq_true rfl) hcs (dk_at dkL_law_45 1 rfl) (fun z2 A2 H locs hw2 hPM hPK hS => ?_)
  have hq2 := hw2
  obtain ⟨rfl, hr2, hw2⟩ := hw2
  refine lv_pop hx hb (dk_at dkL_law_45 2 rfl) rfl ?_
  refine lv_goto (tgt := 1273) hx hb (dk_at dkL_law_45 3 rfl) (by decide) ?_
  exact k _ _ _ _ _ ⟨hIK, hIM, hcCI, hcWI, by omega, hTB, hOW, hPS, hTR⟩ ⟨hPK, hPM, hS⟩ hl
set_option maxRecDepth 100000 in
theorem gl_28_0 : GoodIn lw_tbl (wsV RL 133 RX11 yX11_trial ws_kc_X11_trial) := goodVL lt_WY wy_good (t_in_5 _ (List.mem_of_getElem? (i := 129) rfl)) (t_in_5 _ (List.mem_of_getElem? (i := 130) rfl)) (t_in_5 _ (List.mem_of_getElem? (i := 131) rfl)) (t_in_1 _ (List.mem_of_getElem? (i := 1) rfl)) (t_in_5 _ (List.mem_of_getElem? (i := 132) rfl)) (by decide +kernel)
set_option maxRecDepth 100000 in
theorem gl_28_1 : GoodIn lw_tbl (wsV RL 137 RX12 yX12_trial ws_mc_X12_trial) := goodVL lt_WX wx_good (t_in_9 _ (List.mem_of_getElem? (i := 48) rfl)) (t_in_9 _ (List.mem_of_getElem? (i := 49) rfl)) (t_in_9 _ (List.mem_of_getElem? (i := 50) rfl)) (t_in_1 _ (List.mem_of_getElem? (i := 17) rfl)) (t_in_9 _ (List.mem_of_getElem? (i := 51) rfl)) (by decide +kernel)
set_option maxHeartbeats 4000000 in
set_option maxRecDepth 100000 in
theorem law_case_28 {p : Program} {e : Env} {s : State} {m : MethodId} {below : List Frame} {meth : Method} {c : Code} (l : Launch) {b L : Nat} {xs : Nat → Int32} (C0 : lw_At p s m meth c b L xs) (hL : L ≤ 3072) (dC : Nat → ClassId) (dI : Nat → Nat → Nat) (cB cI cJ cZ cQ : ClassId) (aL aS : Nat) (q r : Nat → Nat) (F : LF dC dI cB cI cJ cZ cQ aL aS q r s) {B A : St} {i : Int} (hi : 0 ≤ i ∧ i + 6 ≤ L) (hJ : LJ B A) {H : Heap} {locs : List Loc} {cells slots : Nat} {ls : Array Slot} (hcs : cells ≤ room_1.cells ∧ slots ≤ room_1.slots) (hW : LW dC dI cB cI cJ cZ cQ q r s B A H locs) (hl : lv_has ls 4 [(0, .ref b), (1, .ref (q 0)), (2, .ref (r 0)), (3, .int (iI i))]) (k : ∀ (B A : St) (H : Heap) (locs : List Loc) (ls : Array Slot), LJ B A → LW dC dI cB cI cJ cZ cQ q r s B A H locs → lv_has ls 4 [(0, .ref b), (1, .ref (q 0)), (2, .ref (r 0)), (3, .int (iI i))] → W p l e room_1 s m #[Value.ref b] below meth c H locs cells slots (lw_Z below #[Value.ref b] s) (F0 m 1273 ls [])) : W p l e room_1 s m #[Value.ref b] below meth c H locs cells slots (lw_Z below #[Value.ref b] s) (F0 m 1060 ls []) := by
  obtain ⟨hx, hb, hr, hml, hown, hts, hX, hbl, hlocks, hgv⟩ := id C0
  obtain ⟨hK, hDK, hDM, hap, hE⟩ := F
  obtain ⟨hPK, hPM, hS⟩ := hW
  obtain ⟨hIK, hIM, hcCI, hcWI, hJ, hTB, hOW, hPS, hTR⟩ := hJ
  have hIK0 := hIK
  have hIM0 := hIM
  have r01 : (0 : Int) ≤ A 0 1 := (hIM 0 1).1
  have hbA : ¬ (fun b : Nat => s.heap.size ≤ b) b := Nat.not_le.mpr hbl
  have hA0 : ∀ b : Nat, s.heap.size ≤ b → (fun b : Nat => s.heap.size ≤ b) b := fun _ h => h
  refine lv_aload_n hx hb (dk_at dkL_law_45 4 rfl) rfl (lv_at hl 1 rfl) ?_
  refine lv_aload_n hx hb (dk_at dkL_law_45 5 rfl) rfl (lv_at hl 0 rfl) ?_
  refine lv_iload_n hx hb (dk_at dkL_law_45 6 rfl) rfl (lv_at hl 3 rfl) ?_
  refine lv_iconst (v := iI 1) hx hb (dk_at dkL_law_45 7 rfl) (by decide +kernel) ?_
  refine x_addv (v := i + 1) hx hb (dk_at dkL_law_45 8 rfl) rfl ?_
  refine x_sld (i := i + 1) hx hb hX hbl hbA hS hL (by omega) (dk_at dkL_law_45 9 rfl) ?_
  refine lv_aload_n hx hb (dk_at dkL_law_45 10 rfl) rfl (lv_at hl 0 rfl) ?_
  refine lv_iload_n hx hb (dk_at dkL_law_45 11 rfl) rfl (lv_at hl 3 rfl) ?_
  refine lv_iconst (v := iI 2) hx hb (dk_at dkL_law_45 12 rfl) (by decide +kernel) ?_
  refine x_addv (v := i + 2) hx hb (dk_at dkL_law_45 13 rfl) rfl ?_
  refine x_sld (i := i + 2) hx hb hX hbl hbA hS hL (by omega) (dk_at dkL_law_45 14 rfl) ?_
  refine lv_if_eq (tgt := 1078) hx hb (dk_at dkL_law_45 15 rfl) (by decide) (fun cb0 => ?_) (fun cb0 => ?_)
  · refine lv_iconst (v := iI 0) hx hb (dk_at dkL_law_46 2 rfl) (by decide +kernel) ?_
    refine l_callK (As := [.int (iI (sx xs (i + 1))), .int (iI 0)]) (rest := []) (Wo := WM cI cJ cZ r A) ⟨hx, hb, hml, hown, hts⟩ hE (kc_X11_trial l dC dI cB cI cJ cZ cQ aL aS q B (sx xs (i + 1)) 0 hIK (sx_r xs _) ⟨by decide, by decide⟩) (cwV 2 hts gl_28_0 rfl rfl rfl (by decide +kernel) ⟨Nat.le_of_ble_eq_true rfl, Nat.le_of_ble_eq_true rfl⟩) hK hDK hA0 hPK hPM (hap B A) hS 0 11 wkK rfl rfl hl.1 (Nat.le_of_ble_eq_true rfl) hcs (dk_at dkL_law_46 3 rfl) (fun z1 B2 H locs hw1 hPK hPM hS => ?_)
    obtain ⟨hr1, hIK, hf1, hw1⟩ := hw1
    have e1 : B2 1 1 = B 1 1 := hf1 1 1 rfl rfl
    refine lv_pop hx hb (dk_at dkL_law_46 4 rfl) rfl ?_
    refine lv_aload_n hx hb (dk_at dkL_law_46 5 rfl) rfl (lv_at hl 2 rfl) ?_
    refine lv_aload_n hx hb (dk_at dkL_law_46 6 rfl) rfl (lv_at hl 0 rfl) ?_
    refine lv_iload_n hx hb (dk_at dkL_law_46 7 rfl) rfl (lv_at hl 3 rfl) ?_
    refine lv_iconst (v := iI 1) hx hb (dk_at dkL_law_46 8 rfl) (by decide +kernel) ?_
    refine x_addv (v := i + 1) hx hb (dk_at dkL_law_46 9 rfl) rfl ?_
    refine x_sld (i := i + 1) hx hb hX hbl hbA hS hL (by omega) (dk_at dkL_law_46 10 rfl) ?_
    refine lv_aload_n hx hb (dk_at dkL_law_46 11 rfl) rfl (lv_at hl 0 rfl) ?_
    refine lv_iload_n hx hb (dk_at dkL_law_46 12 rfl) rfl (lv_at hl 3 rfl) ?_
    refine lv_iconst (v := iI 2) hx hb (dk_at dkL_law_46 13 rfl) (by decide +kernel) ?_
    refine x_addv (v := i + 2) hx hb (dk_at dkL_law_46 14 rfl) rfl ?_
    refine x_sld (i := i + 2) hx hb hX hbl hbA hS hL (by omega) (dk_at dkL_law_46 15 rfl) ?_
    refine lv_if_eq (tgt := 1101) hx hb (dk_at dkL_law_47 0 rfl) (by decide) (fun cb1 => ?_) (fun cb1 => ?_)
    · refine lv_iconst (v := iI 0) hx hb (dk_at dkL_law_47 3 rfl) (by decide +kernel) ?_
      refine l_callX (As := [.int (iI (sx xs (i + 1))), .int (iI 0)]) (rest := []) (Wo := WK cB cI cJ cZ cQ q B2) ⟨hx, hb, hml, hown, hts⟩ (mc_X12_trial l dC dI cB cI cJ cZ cQ r A (sx xs (i + 1)) 0 hIM (sx_r xs _) ⟨by decide, by decide⟩) (cwV 2 hts gl_28_1 rfl rfl rfl (by decide +kernel) ⟨Nat.le_of_ble_eq_true rfl, Nat.le_of_ble_eq_true rfl⟩) hK hDM hA0 hPM hPK (hap B2 A).sym hS 0 12 wm0 rfl rfl hl.1 (Nat.le_of_ble_eq_true rfl) hcs (dk_at dkL_law_47 4 rfl) (fun z2 A2 H locs hw2 hPM hPK hS => ?_)
      have hq2 := hw2
      obtain ⟨hr2, hIM, hf2, hw2⟩ := hw2
      have hcCI : CI A2 := CI.fr hcCI hf2 rfl rfl
      have hcWI : WI A2 := WI.fr hcWI hf2 rfl rfl
      have e2 : A2 0 1 = A 0 1 := hf2.2 1 rfl
      refine lv_pop hx hb (dk_at dkL_law_47 5 rfl) rfl ?_
      refine lv_goto (tgt := 1273) hx hb (dk_at dkL_law_47 6 rfl) (by decide) ?_
      exact k _ _ _ _ _ ⟨hIK, hIM, hcCI, hcWI, by omega, hTB.fr (fun k => hf1 2 k rfl rfl) (hf2.1 1 (by decide) rfl) (by omega), (fun k hk => (hf1 4 k rfl rfl).trans (hOW k hk)), PSs.fr hIK0 hPS hf1 rfl rfl hf2 rfl rfl, trial_tr hIK0 hIM0 hPS hTR hr1 hr2⟩ ⟨hPK, hPM, hS⟩ hl
    · exact absurd cb0 cb1
  · refine lv_iconst (v := iI 1) hx hb (dk_at dkL_law_46 0 rfl) (by decide +kernel) ?_
    refine lv_goto (tgt := 1079) hx hb (dk_at dkL_law_46 1 rfl) (by decide) ?_
    refine l_callK (As := [.int (iI (sx xs (i + 1))), .int (iI 1)]) (rest := []) (Wo := WM cI cJ cZ r A) ⟨hx, hb, hml, hown, hts⟩ hE (kc_X11_trial l dC dI cB cI cJ cZ cQ aL aS q B (sx xs (i + 1)) 1 hIK (sx_r xs _) ⟨by decide, by decide⟩) (cwV 2 hts gl_28_0 rfl rfl rfl (by decide +kernel) ⟨Nat.le_of_ble_eq_true rfl, Nat.le_of_ble_eq_true rfl⟩) hK hDK hA0 hPK hPM (hap B A) hS 0 11 wkK rfl rfl hl.1 (Nat.le_of_ble_eq_true rfl) hcs (dk_at dkL_law_46 3 rfl) (fun z1 B2 H locs hw1 hPK hPM hS => ?_)
    obtain ⟨hr1, hIK, hf1, hw1⟩ := hw1
    have e1 : B2 1 1 = B 1 1 := hf1 1 1 rfl rfl
    refine lv_pop hx hb (dk_at dkL_law_46 4 rfl) rfl ?_
    refine lv_aload_n hx hb (dk_at dkL_law_46 5 rfl) rfl (lv_at hl 2 rfl) ?_
    refine lv_aload_n hx hb (dk_at dkL_law_46 6 rfl) rfl (lv_at hl 0 rfl) ?_
    refine lv_iload_n hx hb (dk_at dkL_law_46 7 rfl) rfl (lv_at hl 3 rfl) ?_
    refine lv_iconst (v := iI 1) hx hb (dk_at dkL_law_46 8 rfl) (by decide +kernel) ?_
    refine x_addv (v := i + 1) hx hb (dk_at dkL_law_46 9 rfl) rfl ?_
    refine x_sld (i := i + 1) hx hb hX hbl hbA hS hL (by omega) (dk_at dkL_law_46 10 rfl) ?_
    refine lv_aload_n hx hb (dk_at dkL_law_46 11 rfl) rfl (lv_at hl 0 rfl) ?_
    refine lv_iload_n hx hb (dk_at dkL_law_46 12 rfl) rfl (lv_at hl 3 rfl) ?_
    refine lv_iconst (v := iI 2) hx hb (dk_at dkL_law_46 13 rfl) (by decide +kernel) ?_
    refine x_addv (v := i + 2) hx hb (dk_at dkL_law_46 14 rfl) rfl ?_
    refine x_sld (i := i + 2) hx hb hX hbl hbA hS hL (by omega) (dk_at dkL_law_46 15 rfl) ?_
    refine lv_if_eq (tgt := 1101) hx hb (dk_at dkL_law_47 0 rfl) (by decide) (fun cb1 => ?_) (fun cb1 => ?_)
    · exact absurd cb1 cb0
    · refine lv_iconst (v := iI 1) hx hb (dk_at dkL_law_47 1 rfl) (by decide +kernel) ?_
      refine lv_goto (tgt := 1102) hx hb (dk_at dkL_law_47 2 rfl) (by decide) ?_
      refine l_callX (As := [.int (iI (sx xs (i + 1))), .int (iI 1)]) (rest := []) (Wo := WK cB cI cJ cZ cQ q B2) ⟨hx, hb, hml, hown, hts⟩ (mc_X12_trial l dC dI cB cI cJ cZ cQ r A (sx xs (i + 1)) 1 hIM (sx_r xs _) ⟨by decide, by decide⟩) (cwV 2 hts gl_28_1 rfl rfl rfl (by decide +kernel) ⟨Nat.le_of_ble_eq_true rfl, Nat.le_of_ble_eq_true rfl⟩) hK hDM hA0 hPM hPK (hap B2 A).sym hS 0 12 wm0 rfl rfl hl.1 (Nat.le_of_ble_eq_true rfl) hcs (dk_at dkL_law_47 4 rfl) (fun z2 A2 H locs hw2 hPM hPK hS => ?_)
      have hq2 := hw2
      obtain ⟨hr2, hIM, hf2, hw2⟩ := hw2
      have hcCI : CI A2 := CI.fr hcCI hf2 rfl rfl
      have hcWI : WI A2 := WI.fr hcWI hf2 rfl rfl
      have e2 : A2 0 1 = A 0 1 := hf2.2 1 rfl
      refine lv_pop hx hb (dk_at dkL_law_47 5 rfl) rfl ?_
      refine lv_goto (tgt := 1273) hx hb (dk_at dkL_law_47 6 rfl) (by decide) ?_
      exact k _ _ _ _ _ ⟨hIK, hIM, hcCI, hcWI, by omega, hTB.fr (fun k => hf1 2 k rfl rfl) (hf2.1 1 (by decide) rfl) (by omega), (fun k hk => (hf1 4 k rfl rfl).trans (hOW k hk)), PSs.fr hIK0 hPS hf1 rfl rfl hf2 rfl rfl, trial_tr hIK0 hIM0 hPS hTR hr1 hr2⟩ ⟨hPK, hPM, hS⟩ hl
set_option maxRecDepth 100000 in
theorem gl_29_0 : GoodIn lw_tbl (wsV RL 138 RX11 yX11_fits ws_kc_X11_fits) := goodVL lt_WY wy_good (t_in_5 _ (List.mem_of_getElem? (i := 157) rfl)) (t_in_5 _ (List.mem_of_getElem? (i := 158) rfl)) (t_in_5 _ (List.mem_of_getElem? (i := 159) rfl)) (t_in_1 _ (List.mem_of_getElem? (i := 1) rfl)) (t_in_5 _ (List.mem_of_getElem? (i := 160) rfl)) (by decide +kernel)
set_option maxRecDepth 100000 in
theorem gl_29_1 : GoodIn lw_tbl (wsV RL 141 RX12 yX12_fits ws_mc_X12_fits) := goodVL lt_WX wx_good (t_in_9 _ (List.mem_of_getElem? (i := 64) rfl)) (t_in_9 _ (List.mem_of_getElem? (i := 65) rfl)) (t_in_9 _ (List.mem_of_getElem? (i := 66) rfl)) (t_in_1 _ (List.mem_of_getElem? (i := 17) rfl)) (t_in_9 _ (List.mem_of_getElem? (i := 67) rfl)) (by decide +kernel)
set_option maxHeartbeats 4000000 in
set_option maxRecDepth 100000 in
theorem law_case_29 {p : Program} {e : Env} {s : State} {m : MethodId} {below : List Frame} {meth : Method} {c : Code} (l : Launch) {b L : Nat} {xs : Nat → Int32} (C0 : lw_At p s m meth c b L xs) (hL : L ≤ 3072) (dC : Nat → ClassId) (dI : Nat → Nat → Nat) (cB cI cJ cZ cQ : ClassId) (aL aS : Nat) (q r : Nat → Nat) (F : LF dC dI cB cI cJ cZ cQ aL aS q r s) {B A : St} {i : Int} (hi : 0 ≤ i ∧ i + 6 ≤ L) (hJ : LJ B A) {H : Heap} {locs : List Loc} {cells slots : Nat} {ls : Array Slot} (hcs : cells ≤ room_1.cells ∧ slots ≤ room_1.slots) (hW : LW dC dI cB cI cJ cZ cQ q r s B A H locs) (hl : lv_has ls 4 [(0, .ref b), (1, .ref (q 0)), (2, .ref (r 0)), (3, .int (iI i))]) (k : ∀ (B A : St) (H : Heap) (locs : List Loc) (ls : Array Slot), LJ B A → LW dC dI cB cI cJ cZ cQ q r s B A H locs → lv_has ls 4 [(0, .ref b), (1, .ref (q 0)), (2, .ref (r 0)), (3, .int (iI i))] → W p l e room_1 s m #[Value.ref b] below meth c H locs cells slots (lw_Z below #[Value.ref b] s) (F0 m 1273 ls [])) : W p l e room_1 s m #[Value.ref b] below meth c H locs cells slots (lw_Z below #[Value.ref b] s) (F0 m 1109 ls []) := by
  obtain ⟨hx, hb, hr, hml, hown, hts, hX, hbl, hlocks, hgv⟩ := id C0
  obtain ⟨hK, hDK, hDM, hap, hE⟩ := F
  obtain ⟨hPK, hPM, hS⟩ := hW
  obtain ⟨hIK, hIM, hcCI, hcWI, hJ, hTB, hOW, hPS, hTR⟩ := hJ
  have hIK0 := hIK
  have hIM0 := hIM
  have r01 : (0 : Int) ≤ A 0 1 := (hIM 0 1).1
  have hbA : ¬ (fun b : Nat => s.heap.size ≤ b) b := Nat.not_le.mpr hbl
  have hA0 : ∀ b : Nat, s.heap.size ≤ b → (fun b : Nat => s.heap.size ≤ b) b := fun _ h => h
  refine lv_aload_n hx hb (dk_at dkL_law_47 7 rfl) rfl (lv_at hl 1 rfl) ?_
  refine lv_aload_n hx hb (dk_at dkL_law_47 8 rfl) rfl (lv_at hl 0 rfl) ?_
  refine lv_iload_n hx hb (dk_at dkL_law_47 9 rfl) rfl (lv_at hl 3 rfl) ?_
  refine lv_iconst (v := iI 1) hx hb (dk_at dkL_law_47 10 rfl) (by decide +kernel) ?_
  refine x_addv (v := i + 1) hx hb (dk_at dkL_law_47 11 rfl) rfl ?_
  refine x_sld (i := i + 1) hx hb hX hbl hbA hS hL (by omega) (dk_at dkL_law_47 12 rfl) ?_
  refine l_callK (As := [.int (iI (sx xs (i + 1)))]) (rest := []) (Wo := WM cI cJ cZ r A) ⟨hx, hb, hml, hown, hts⟩ hE (kc_X11_fits l dC dI cB cI cJ cZ cQ aL aS q B (sx xs (i + 1)) hIK (sx_r xs _)) (cwV 1 hts gl_29_0 rfl rfl rfl (by decide +kernel) ⟨Nat.le_of_ble_eq_true rfl, Nat.le_of_ble_eq_true rfl⟩) hK hDK hA0 hPK hPM (hap B A) hS 0 11 wkK rfl rfl hl.1 (Nat.le_of_ble_eq_true rfl) hcs (dk_at dkL_law_47 13 rfl) (fun z1 B2 H locs hw1 hPK hPM hS => ?_)
  obtain ⟨hr1, hIK, hf1, hw1⟩ := hw1
  have e1 : B2 1 1 = B 1 1 := hf1 1 1 rfl rfl
  refine lv_pop hx hb (dk_at dkL_law_47 14 rfl) rfl ?_
  refine lv_aload_n hx hb (dk_at dkL_law_47 15 rfl) rfl (lv_at hl 2 rfl) ?_
  refine lv_aload_n hx hb (dk_at dkL_law_48 0 rfl) rfl (lv_at hl 0 rfl) ?_
  refine lv_iload_n hx hb (dk_at dkL_law_48 1 rfl) rfl (lv_at hl 3 rfl) ?_
  refine lv_iconst (v := iI 1) hx hb (dk_at dkL_law_48 2 rfl) (by decide +kernel) ?_
  refine x_addv (v := i + 1) hx hb (dk_at dkL_law_48 3 rfl) rfl ?_
  refine x_sld (i := i + 1) hx hb hX hbl hbA hS hL (by omega) (dk_at dkL_law_48 4 rfl) ?_
  refine l_callX (As := [.int (iI (sx xs (i + 1)))]) (rest := []) (Wo := WK cB cI cJ cZ cQ q B2) ⟨hx, hb, hml, hown, hts⟩ (mc_X12_fits l dC dI cB cI cJ cZ cQ r A (sx xs (i + 1)) hIM (sx_r xs _)) (cwV 1 hts gl_29_1 rfl rfl rfl (by decide +kernel) ⟨Nat.le_of_ble_eq_true rfl, Nat.le_of_ble_eq_true rfl⟩) hK hDM hA0 hPM hPK (hap B2 A).sym hS 0 12 wm0 rfl rfl hl.1 (Nat.le_of_ble_eq_true rfl) hcs (dk_at dkL_law_48 5 rfl) (fun z2 A2 H locs hw2 hPM hPK hS => ?_)
  have hq2 := hw2
  obtain ⟨hr2, hIM, hf2, hw2⟩ := hw2
  have hcCI : CI A2 := CI.fr hcCI hf2 rfl rfl
  have hcWI : WI A2 := WI.fr hcWI hf2 rfl rfl
  have e2 : A2 0 1 = A 0 1 := hf2.2 1 rfl
  refine lv_pop hx hb (dk_at dkL_law_48 6 rfl) rfl ?_
  refine lv_goto (tgt := 1273) hx hb (dk_at dkL_law_48 7 rfl) (by decide) ?_
  exact k _ _ _ _ _ ⟨hIK, hIM, hcCI, hcWI, by omega, hTB.fr (fun k => hf1 2 k rfl rfl) (hf2.1 1 (by decide) rfl) (by omega), (fun k hk => (hf1 4 k rfl rfl).trans (hOW k hk)), PSs.fr hIK0 hPS hf1 rfl rfl hf2 rfl rfl, ((hf1 22 4 rfl rfl).trans (hTR.trans (hf2.2 75 rfl).symm))⟩ ⟨hPK, hPM, hS⟩ hl
set_option maxRecDepth 100000 in
theorem gl_30_0 : GoodIn lw_tbl (wsV RL 142 RX11 yX11_would ws_kc_X11_would) := goodVL lt_WY wy_good (t_in_5 _ (List.mem_of_getElem? (i := 161) rfl)) (t_in_5 _ (List.mem_of_getElem? (i := 162) rfl)) (t_in_5 _ (List.mem_of_getElem? (i := 163) rfl)) (t_in_1 _ (List.mem_of_getElem? (i := 1) rfl)) (t_in_5 _ (List.mem_of_getElem? (i := 164) rfl)) (by decide +kernel)
set_option maxRecDepth 100000 in
theorem gl_30_1 : GoodIn lw_tbl (wsV RL 145 RX12 yX12_would ws_mc_X12_would) := goodVL lt_WX wx_good (t_in_9 _ (List.mem_of_getElem? (i := 68) rfl)) (t_in_9 _ (List.mem_of_getElem? (i := 69) rfl)) (t_in_9 _ (List.mem_of_getElem? (i := 70) rfl)) (t_in_1 _ (List.mem_of_getElem? (i := 17) rfl)) (t_in_9 _ (List.mem_of_getElem? (i := 71) rfl)) (by decide +kernel)
set_option maxHeartbeats 4000000 in
set_option maxRecDepth 100000 in
theorem law_case_30 {p : Program} {e : Env} {s : State} {m : MethodId} {below : List Frame} {meth : Method} {c : Code} (l : Launch) {b L : Nat} {xs : Nat → Int32} (C0 : lw_At p s m meth c b L xs) (hL : L ≤ 3072) (dC : Nat → ClassId) (dI : Nat → Nat → Nat) (cB cI cJ cZ cQ : ClassId) (aL aS : Nat) (q r : Nat → Nat) (F : LF dC dI cB cI cJ cZ cQ aL aS q r s) {B A : St} {i : Int} (hi : 0 ≤ i ∧ i + 6 ≤ L) (hJ : LJ B A) {H : Heap} {locs : List Loc} {cells slots : Nat} {ls : Array Slot} (hcs : cells ≤ room_1.cells ∧ slots ≤ room_1.slots) (hW : LW dC dI cB cI cJ cZ cQ q r s B A H locs) (hl : lv_has ls 4 [(0, .ref b), (1, .ref (q 0)), (2, .ref (r 0)), (3, .int (iI i))]) (k : ∀ (B A : St) (H : Heap) (locs : List Loc) (ls : Array Slot), LJ B A → LW dC dI cB cI cJ cZ cQ q r s B A H locs → lv_has ls 4 [(0, .ref b), (1, .ref (q 0)), (2, .ref (r 0)), (3, .int (iI i))] → W p l e room_1 s m #[Value.ref b] below meth c H locs cells slots (lw_Z below #[Value.ref b] s) (F0 m 1273 ls [])) : W p l e room_1 s m #[Value.ref b] below meth c H locs cells slots (lw_Z below #[Value.ref b] s) (F0 m 1132 ls []) := by
  obtain ⟨hx, hb, hr, hml, hown, hts, hX, hbl, hlocks, hgv⟩ := id C0
  obtain ⟨hK, hDK, hDM, hap, hE⟩ := F
  obtain ⟨hPK, hPM, hS⟩ := hW
  obtain ⟨hIK, hIM, hcCI, hcWI, hJ, hTB, hOW, hPS, hTR⟩ := hJ
  have hIK0 := hIK
  have hIM0 := hIM
  have r01 : (0 : Int) ≤ A 0 1 := (hIM 0 1).1
  have hbA : ¬ (fun b : Nat => s.heap.size ≤ b) b := Nat.not_le.mpr hbl
  have hA0 : ∀ b : Nat, s.heap.size ≤ b → (fun b : Nat => s.heap.size ≤ b) b := fun _ h => h
  refine lv_aload_n hx hb (dk_at dkL_law_48 8 rfl) rfl (lv_at hl 1 rfl) ?_
  refine lv_aload_n hx hb (dk_at dkL_law_48 9 rfl) rfl (lv_at hl 0 rfl) ?_
  refine lv_iload_n hx hb (dk_at dkL_law_48 10 rfl) rfl (lv_at hl 3 rfl) ?_
  refine lv_iconst (v := iI 1) hx hb (dk_at dkL_law_48 11 rfl) (by decide +kernel) ?_
  refine x_addv (v := i + 1) hx hb (dk_at dkL_law_48 12 rfl) rfl ?_
  refine x_sld (i := i + 1) hx hb hX hbl hbA hS hL (by omega) (dk_at dkL_law_48 13 rfl) ?_
  refine l_callK (As := [.int (iI (sx xs (i + 1)))]) (rest := []) (Wo := WM cI cJ cZ r A) ⟨hx, hb, hml, hown, hts⟩ hE (kc_X11_would l dC dI cB cI cJ cZ cQ aL aS q B (sx xs (i + 1)) hIK (sx_r xs _)) (cwV 1 hts gl_30_0 rfl rfl rfl (by decide +kernel) ⟨Nat.le_of_ble_eq_true rfl, Nat.le_of_ble_eq_true rfl⟩) hK hDK hA0 hPK hPM (hap B A) hS 0 11 wkK rfl rfl hl.1 (Nat.le_of_ble_eq_true rfl) hcs (dk_at dkL_law_48 14 rfl) (fun z1 B2 H locs hw1 hPK hPM hS => ?_)
  obtain ⟨hr1, hIK, hf1, hw1⟩ := hw1
  have e1 : B2 1 1 = B 1 1 := hf1 1 1 rfl rfl
  refine lv_pop hx hb (dk_at dkL_law_48 15 rfl) rfl ?_
  refine lv_aload_n hx hb (dk_at dkL_law_49 0 rfl) rfl (lv_at hl 2 rfl) ?_
  refine lv_aload_n hx hb (dk_at dkL_law_49 1 rfl) rfl (lv_at hl 0 rfl) ?_
  refine lv_iload_n hx hb (dk_at dkL_law_49 2 rfl) rfl (lv_at hl 3 rfl) ?_
  refine lv_iconst (v := iI 1) hx hb (dk_at dkL_law_49 3 rfl) (by decide +kernel) ?_
  refine x_addv (v := i + 1) hx hb (dk_at dkL_law_49 4 rfl) rfl ?_
  refine x_sld (i := i + 1) hx hb hX hbl hbA hS hL (by omega) (dk_at dkL_law_49 5 rfl) ?_
  refine l_callX (As := [.int (iI (sx xs (i + 1)))]) (rest := []) (Wo := WK cB cI cJ cZ cQ q B2) ⟨hx, hb, hml, hown, hts⟩ (mc_X12_would l dC dI cB cI cJ cZ cQ r A (sx xs (i + 1)) hIM (sx_r xs _)) (cwV 1 hts gl_30_1 rfl rfl rfl (by decide +kernel) ⟨Nat.le_of_ble_eq_true rfl, Nat.le_of_ble_eq_true rfl⟩) hK hDM hA0 hPM hPK (hap B2 A).sym hS 0 12 wm0 rfl rfl hl.1 (Nat.le_of_ble_eq_true rfl) hcs (dk_at dkL_law_49 6 rfl) (fun z2 A2 H locs hw2 hPM hPK hS => ?_)
  have hq2 := hw2
  obtain ⟨hr2, hIM, hf2, hw2⟩ := hw2
  have hcCI : CI A2 := CI.fr hcCI hf2 rfl rfl
  have hcWI : WI A2 := WI.fr hcWI hf2 rfl rfl
  have e2 : A2 0 1 = A 0 1 := hf2.2 1 rfl
  refine lv_pop hx hb (dk_at dkL_law_49 7 rfl) rfl ?_
  refine lv_goto (tgt := 1273) hx hb (dk_at dkL_law_49 8 rfl) (by decide) ?_
  exact k _ _ _ _ _ ⟨hIK, hIM, hcCI, hcWI, by omega, hTB.fr (fun k => hf1 2 k rfl rfl) (hf2.1 1 (by decide) rfl) (by omega), (fun k hk => (hf1 4 k rfl rfl).trans (hOW k hk)), PSs.fr hIK0 hPS hf1 rfl rfl hf2 rfl rfl, ((hf1 22 4 rfl rfl).trans (hTR.trans (hf2.2 75 rfl).symm))⟩ ⟨hPK, hPM, hS⟩ hl
set_option maxRecDepth 100000 in
theorem gl_31_0 : GoodIn lw_tbl (wsV RL 146 RX11 yX11_unsay ws_kc_X11_unsay) := goodVL lt_WY wy_good (t_in_5 _ (List.mem_of_getElem? (i := 165) rfl)) (t_in_5 _ (List.mem_of_getElem? (i := 166) rfl)) (t_in_5 _ (List.mem_of_getElem? (i := 167) rfl)) (t_in_1 _ (List.mem_of_getElem? (i := 1) rfl)) (t_in_5 _ (List.mem_of_getElem? (i := 168) rfl)) (by decide +kernel)
set_option maxRecDepth 100000 in
theorem gl_31_1 : GoodIn lw_tbl (wsV RL 149 RX12 yX12_unsay ws_mc_X12_unsay) := goodVL lt_WX wx_good (t_in_9 _ (List.mem_of_getElem? (i := 72) rfl)) (t_in_9 _ (List.mem_of_getElem? (i := 73) rfl)) (t_in_9 _ (List.mem_of_getElem? (i := 74) rfl)) (t_in_1 _ (List.mem_of_getElem? (i := 17) rfl)) (t_in_9 _ (List.mem_of_getElem? (i := 75) rfl)) (by decide +kernel)
set_option maxHeartbeats 4000000 in
set_option maxRecDepth 100000 in
theorem law_case_31 {p : Program} {e : Env} {s : State} {m : MethodId} {below : List Frame} {meth : Method} {c : Code} (l : Launch) {b L : Nat} {xs : Nat → Int32} (C0 : lw_At p s m meth c b L xs) (hL : L ≤ 3072) (dC : Nat → ClassId) (dI : Nat → Nat → Nat) (cB cI cJ cZ cQ : ClassId) (aL aS : Nat) (q r : Nat → Nat) (F : LF dC dI cB cI cJ cZ cQ aL aS q r s) {B A : St} {i : Int} (hi : 0 ≤ i ∧ i + 6 ≤ L) (hJ : LJ B A) {H : Heap} {locs : List Loc} {cells slots : Nat} {ls : Array Slot} (hcs : cells ≤ room_1.cells ∧ slots ≤ room_1.slots) (hW : LW dC dI cB cI cJ cZ cQ q r s B A H locs) (hl : lv_has ls 4 [(0, .ref b), (1, .ref (q 0)), (2, .ref (r 0)), (3, .int (iI i))]) (k : ∀ (B A : St) (H : Heap) (locs : List Loc) (ls : Array Slot), LJ B A → LW dC dI cB cI cJ cZ cQ q r s B A H locs → lv_has ls 4 [(0, .ref b), (1, .ref (q 0)), (2, .ref (r 0)), (3, .int (iI i))] → W p l e room_1 s m #[Value.ref b] below meth c H locs cells slots (lw_Z below #[Value.ref b] s) (F0 m 1273 ls [])) : W p l e room_1 s m #[Value.ref b] below meth c H locs cells slots (lw_Z below #[Value.ref b] s) (F0 m 1155 ls []) := by
  obtain ⟨hx, hb, hr, hml, hown, hts, hX, hbl, hlocks, hgv⟩ := id C0
  obtain ⟨hK, hDK, hDM, hap, hE⟩ := F
  obtain ⟨hPK, hPM, hS⟩ := hW
  obtain ⟨hIK, hIM, hcCI, hcWI, hJ, hTB, hOW, hPS, hTR⟩ := hJ
  have hIK0 := hIK
  have hIM0 := hIM
  have r01 : (0 : Int) ≤ A 0 1 := (hIM 0 1).1
  have hbA : ¬ (fun b : Nat => s.heap.size ≤ b) b := Nat.not_le.mpr hbl
  have hA0 : ∀ b : Nat, s.heap.size ≤ b → (fun b : Nat => s.heap.size ≤ b) b := fun _ h => h
  refine lv_aload_n hx hb (dk_at dkL_law_49 9 rfl) rfl (lv_at hl 1 rfl) ?_
  refine l_callK (As := []) (rest := []) (Wo := WM cI cJ cZ r A) ⟨hx, hb, hml, hown, hts⟩ hE (kc_X11_unsay l dC dI cB cI cJ cZ cQ aL aS q B  hIK) (cwV 0 hts gl_31_0 rfl rfl rfl (by decide +kernel) ⟨Nat.le_of_ble_eq_true rfl, Nat.le_of_ble_eq_true rfl⟩) hK hDK hA0 hPK hPM (hap B A) hS 0 11 wkK rfl rfl hl.1 (Nat.le_of_ble_eq_true rfl) hcs (dk_at dkL_law_49 10 rfl) (fun z1 B2 H locs hw1 hPK hPM hS => ?_)
  obtain ⟨hr1, hIK, hf1, hw1⟩ := hw1
  have e1 : B2 1 1 = B 1 1 := hf1 1 1 rfl rfl
  refine lv_pop hx hb (dk_at dkL_law_49 11 rfl) rfl ?_
  refine lv_aload_n hx hb (dk_at dkL_law_49 12 rfl) rfl (lv_at hl 2 rfl) ?_
  refine l_callX (As := []) (rest := []) (Wo := WK cB cI cJ cZ cQ q B2) ⟨hx, hb, hml, hown, hts⟩ (mc_X12_unsay l dC dI cB cI cJ cZ cQ r A  hIM) (cwV 0 hts gl_31_1 rfl rfl rfl (by decide +kernel) ⟨Nat.le_of_ble_eq_true rfl, Nat.le_of_ble_eq_true rfl⟩) hK hDM hA0 hPM hPK (hap B2 A).sym hS 0 12 wm0 rfl rfl hl.1 (Nat.le_of_ble_eq_true rfl) hcs (dk_at dkL_law_49 13 rfl) (fun z2 A2 H locs hw2 hPM hPK hS => ?_)
  have hq2 := hw2
  obtain ⟨hr2, hIM, hf2, hw2⟩ := hw2
  have hcCI : CI A2 := CI.fr hcCI hf2 rfl rfl
  have hcWI : WI A2 := WI.fr hcWI hf2 rfl rfl
  have e2 : A2 0 1 = A 0 1 := hf2.2 1 rfl
  refine lv_pop hx hb (dk_at dkL_law_49 14 rfl) rfl ?_
  refine lv_goto (tgt := 1273) hx hb (dk_at dkL_law_49 15 rfl) (by decide) ?_
  exact k _ _ _ _ _ ⟨hIK, hIM, hcCI, hcWI, by omega, hTB.fr (fun k => hf1 2 k rfl rfl) (hf2.1 1 (by decide) rfl) (by omega), (fun k hk => (hf1 4 k rfl rfl).trans (hOW k hk)), PSs.fr hIK0 hPS hf1 rfl rfl hf2 rfl rfl, (unsay_eq hTR hr1 hr2).2⟩ ⟨hPK, hPM, hS⟩ hl
set_option maxRecDepth 100000 in
theorem gl_32_0 : GoodIn lw_tbl (wsV RL 150 RX11 yX11_round ws_kc_X11_round) := goodVL lt_WY wy_good (t_in_5 _ (List.mem_of_getElem? (i := 169) rfl)) (t_in_5 _ (List.mem_of_getElem? (i := 170) rfl)) (t_in_5 _ (List.mem_of_getElem? (i := 171) rfl)) (t_in_1 _ (List.mem_of_getElem? (i := 1) rfl)) (t_in_5 _ (List.mem_of_getElem? (i := 172) rfl)) (by decide +kernel)
set_option maxRecDepth 100000 in
theorem gl_32_1 : GoodIn lw_tbl (wsV RL 153 RX12 yX12_round ws_mc_X12_round) := goodVL lt_WX wx_good (t_in_9 _ (List.mem_of_getElem? (i := 76) rfl)) (t_in_9 _ (List.mem_of_getElem? (i := 77) rfl)) (t_in_9 _ (List.mem_of_getElem? (i := 78) rfl)) (t_in_1 _ (List.mem_of_getElem? (i := 17) rfl)) (t_in_9 _ (List.mem_of_getElem? (i := 79) rfl)) (by decide +kernel)
set_option maxHeartbeats 4000000 in
set_option maxRecDepth 100000 in
theorem law_case_32 {p : Program} {e : Env} {s : State} {m : MethodId} {below : List Frame} {meth : Method} {c : Code} (l : Launch) {b L : Nat} {xs : Nat → Int32} (C0 : lw_At p s m meth c b L xs) (hL : L ≤ 3072) (dC : Nat → ClassId) (dI : Nat → Nat → Nat) (cB cI cJ cZ cQ : ClassId) (aL aS : Nat) (q r : Nat → Nat) (F : LF dC dI cB cI cJ cZ cQ aL aS q r s) {B A : St} {i : Int} (hi : 0 ≤ i ∧ i + 6 ≤ L) (hJ : LJ B A) {H : Heap} {locs : List Loc} {cells slots : Nat} {ls : Array Slot} (hcs : cells ≤ room_1.cells ∧ slots ≤ room_1.slots) (hW : LW dC dI cB cI cJ cZ cQ q r s B A H locs) (hl : lv_has ls 4 [(0, .ref b), (1, .ref (q 0)), (2, .ref (r 0)), (3, .int (iI i))]) (k : ∀ (B A : St) (H : Heap) (locs : List Loc) (ls : Array Slot), LJ B A → LW dC dI cB cI cJ cZ cQ q r s B A H locs → lv_has ls 4 [(0, .ref b), (1, .ref (q 0)), (2, .ref (r 0)), (3, .int (iI i))] → W p l e room_1 s m #[Value.ref b] below meth c H locs cells slots (lw_Z below #[Value.ref b] s) (F0 m 1273 ls [])) : W p l e room_1 s m #[Value.ref b] below meth c H locs cells slots (lw_Z below #[Value.ref b] s) (F0 m 1168 ls []) := by
  obtain ⟨hx, hb, hr, hml, hown, hts, hX, hbl, hlocks, hgv⟩ := id C0
  obtain ⟨hK, hDK, hDM, hap, hE⟩ := F
  obtain ⟨hPK, hPM, hS⟩ := hW
  obtain ⟨hIK, hIM, hcCI, hcWI, hJ, hTB, hOW, hPS, hTR⟩ := hJ
  have hIK0 := hIK
  have hIM0 := hIM
  have r01 : (0 : Int) ≤ A 0 1 := (hIM 0 1).1
  have hbA : ¬ (fun b : Nat => s.heap.size ≤ b) b := Nat.not_le.mpr hbl
  have hA0 : ∀ b : Nat, s.heap.size ≤ b → (fun b : Nat => s.heap.size ≤ b) b := fun _ h => h
  refine lv_aload_n hx hb (dk_at dkL_law_50 0 rfl) rfl (lv_at hl 1 rfl) ?_
  refine lv_aload_n hx hb (dk_at dkL_law_50 1 rfl) rfl (lv_at hl 0 rfl) ?_
  refine lv_iload_n hx hb (dk_at dkL_law_50 2 rfl) rfl (lv_at hl 3 rfl) ?_
  refine lv_iconst (v := iI 1) hx hb (dk_at dkL_law_50 3 rfl) (by decide +kernel) ?_
  refine x_addv (v := i + 1) hx hb (dk_at dkL_law_50 4 rfl) rfl ?_
  refine x_sld (i := i + 1) hx hb hX hbl hbA hS hL (by omega) (dk_at dkL_law_50 5 rfl) ?_
  refine lv_aload_n hx hb (dk_at dkL_law_50 6 rfl) rfl (lv_at hl 0 rfl) ?_
  refine lv_iload_n hx hb (dk_at dkL_law_50 7 rfl) rfl (lv_at hl 3 rfl) ?_
  refine lv_iconst (v := iI 2) hx hb (dk_at dkL_law_50 8 rfl) (by decide +kernel) ?_
  refine x_addv (v := i + 2) hx hb (dk_at dkL_law_50 9 rfl) rfl ?_
  refine x_sld (i := i + 2) hx hb hX hbl hbA hS hL (by omega) (dk_at dkL_law_50 10 rfl) ?_
  refine l_callK (As := [.int (iI (sx xs (i + 1))), .int (iI (sx xs (i + 2)))]) (rest := []) (Wo := WM cI cJ cZ r A) ⟨hx, hb, hml, hown, hts⟩ hE (kc_X11_round l dC dI cB cI cJ cZ cQ aL aS q B (sx xs (i + 1)) (sx xs (i + 2)) hIK (sx_r xs _) (sx_r xs _)) (cwV 2 hts gl_32_0 rfl rfl rfl (by decide +kernel) ⟨Nat.le_of_ble_eq_true rfl, Nat.le_of_ble_eq_true rfl⟩) hK hDK hA0 hPK hPM (hap B A) hS 0 11 wkK rfl rfl hl.1 (Nat.le_of_ble_eq_true rfl) hcs (dk_at dkL_law_50 11 rfl) (fun z1 B2 H locs hw1 hPK hPM hS => ?_)
  obtain ⟨hr1, hIK, hf1, hw1⟩ := hw1
  have e1 : B2 1 1 = B 1 1 := hf1 1 1 rfl rfl
  refine lv_pop hx hb (dk_at dkL_law_50 12 rfl) rfl ?_
  refine lv_aload_n hx hb (dk_at dkL_law_50 13 rfl) rfl (lv_at hl 2 rfl) ?_
  refine lv_aload_n hx hb (dk_at dkL_law_50 14 rfl) rfl (lv_at hl 0 rfl) ?_
  refine lv_iload_n hx hb (dk_at dkL_law_50 15 rfl) rfl (lv_at hl 3 rfl) ?_
  refine lv_iconst (v := iI 1) hx hb (dk_at dkL_law_51 0 rfl) (by decide +kernel) ?_
  refine x_addv (v := i + 1) hx hb (dk_at dkL_law_51 1 rfl) rfl ?_
  refine x_sld (i := i + 1) hx hb hX hbl hbA hS hL (by omega) (dk_at dkL_law_51 2 rfl) ?_
  refine lv_aload_n hx hb (dk_at dkL_law_51 3 rfl) rfl (lv_at hl 0 rfl) ?_
  refine lv_iload_n hx hb (dk_at dkL_law_51 4 rfl) rfl (lv_at hl 3 rfl) ?_
  refine lv_iconst (v := iI 2) hx hb (dk_at dkL_law_51 5 rfl) (by decide +kernel) ?_
  refine x_addv (v := i + 2) hx hb (dk_at dkL_law_51 6 rfl) rfl ?_
  refine x_sld (i := i + 2) hx hb hX hbl hbA hS hL (by omega) (dk_at dkL_law_51 7 rfl) ?_
  refine l_callX (As := [.int (iI (sx xs (i + 1))), .int (iI (sx xs (i + 2)))]) (rest := []) (Wo := WK cB cI cJ cZ cQ q B2) ⟨hx, hb, hml, hown, hts⟩ (mc_X12_round l dC dI cB cI cJ cZ cQ r A (sx xs (i + 1)) (sx xs (i + 2)) hIM (sx_r xs _) (sx_r xs _)) (cwV 2 hts gl_32_1 rfl rfl rfl (by decide +kernel) ⟨Nat.le_of_ble_eq_true rfl, Nat.le_of_ble_eq_true rfl⟩) hK hDM hA0 hPM hPK (hap B2 A).sym hS 0 12 wm0 rfl rfl hl.1 (Nat.le_of_ble_eq_true rfl) hcs (dk_at dkL_law_51 8 rfl) (fun z2 A2 H locs hw2 hPM hPK hS => ?_)
  have hq2 := hw2
  obtain ⟨hr2, hIM, hf2, hw2⟩ := hw2
  have hcCI : CI A2 := CI.fr hcCI hf2 rfl rfl
  have hcWI : WI A2 := WI.fr hcWI hf2 rfl rfl
  have e2 : A2 0 1 = A 0 1 := hf2.2 1 rfl
  refine lv_pop hx hb (dk_at dkL_law_51 9 rfl) rfl ?_
  refine lv_goto (tgt := 1273) hx hb (dk_at dkL_law_51 10 rfl) (by decide) ?_
  exact k _ _ _ _ _ ⟨hIK, hIM, hcCI, hcWI, by omega, hTB.fr (fun k => hf1 2 k rfl rfl) (hf2.1 1 (by decide) rfl) (by omega), (fun k hk => (hf1 4 k rfl rfl).trans (hOW k hk)), PSs.fr hIK0 hPS hf1 rfl rfl hf2 rfl rfl, ((hf1 22 4 rfl rfl).trans (hTR.trans (hf2.2 75 rfl).symm))⟩ ⟨hPK, hPM, hS⟩ hl
set_option maxRecDepth 100000 in
theorem gl_33_0 : GoodIn lw_tbl (wsV RL 154 RX11 yX11_image ws_kc_X11_image) := goodVL lt_WY wy_good (t_in_5 _ (List.mem_of_getElem? (i := 202) rfl)) (t_in_5 _ (List.mem_of_getElem? (i := 203) rfl)) (t_in_5 _ (List.mem_of_getElem? (i := 204) rfl)) (t_in_1 _ (List.mem_of_getElem? (i := 1) rfl)) (t_in_5 _ (List.mem_of_getElem? (i := 205) rfl)) (by decide +kernel)
set_option maxRecDepth 100000 in
theorem gl_33_1 : GoodIn lw_tbl (wsV RL 157 RX12 yX12_image ws_mc_X12_image) := goodVL lt_WX wx_good (t_in_9 _ (List.mem_of_getElem? (i := 85) rfl)) (t_in_9 _ (List.mem_of_getElem? (i := 86) rfl)) (t_in_9 _ (List.mem_of_getElem? (i := 87) rfl)) (t_in_1 _ (List.mem_of_getElem? (i := 17) rfl)) (t_in_9 _ (List.mem_of_getElem? (i := 88) rfl)) (by decide +kernel)
set_option maxHeartbeats 4000000 in
set_option maxRecDepth 100000 in
theorem law_case_33 {p : Program} {e : Env} {s : State} {m : MethodId} {below : List Frame} {meth : Method} {c : Code} (l : Launch) {b L : Nat} {xs : Nat → Int32} (C0 : lw_At p s m meth c b L xs) (hL : L ≤ 3072) (dC : Nat → ClassId) (dI : Nat → Nat → Nat) (cB cI cJ cZ cQ : ClassId) (aL aS : Nat) (q r : Nat → Nat) (F : LF dC dI cB cI cJ cZ cQ aL aS q r s) {B A : St} {i : Int} (hi : 0 ≤ i ∧ i + 6 ≤ L) (hJ : LJ B A) {H : Heap} {locs : List Loc} {cells slots : Nat} {ls : Array Slot} (hcs : cells ≤ room_1.cells ∧ slots ≤ room_1.slots) (hW : LW dC dI cB cI cJ cZ cQ q r s B A H locs) (hl : lv_has ls 4 [(0, .ref b), (1, .ref (q 0)), (2, .ref (r 0)), (3, .int (iI i))]) (k : ∀ (B A : St) (H : Heap) (locs : List Loc) (ls : Array Slot), LJ B A → LW dC dI cB cI cJ cZ cQ q r s B A H locs → lv_has ls 4 [(0, .ref b), (1, .ref (q 0)), (2, .ref (r 0)), (3, .int (iI i))] → W p l e room_1 s m #[Value.ref b] below meth c H locs cells slots (lw_Z below #[Value.ref b] s) (F0 m 1273 ls [])) : W p l e room_1 s m #[Value.ref b] below meth c H locs cells slots (lw_Z below #[Value.ref b] s) (F0 m 1201 ls []) := by
  obtain ⟨hx, hb, hr, hml, hown, hts, hX, hbl, hlocks, hgv⟩ := id C0
  obtain ⟨hK, hDK, hDM, hap, hE⟩ := F
  obtain ⟨hPK, hPM, hS⟩ := hW
  obtain ⟨hIK, hIM, hcCI, hcWI, hJ, hTB, hOW, hPS, hTR⟩ := hJ
  have hIK0 := hIK
  have hIM0 := hIM
  have r01 : (0 : Int) ≤ A 0 1 := (hIM 0 1).1
  have hbA : ¬ (fun b : Nat => s.heap.size ≤ b) b := Nat.not_le.mpr hbl
  have hA0 : ∀ b : Nat, s.heap.size ≤ b → (fun b : Nat => s.heap.size ≤ b) b := fun _ h => h
  refine lv_aload_n hx hb (dk_at dkL_law_51 11 rfl) rfl (lv_at hl 1 rfl) ?_
  refine l_callK (As := []) (rest := []) (Wo := WM cI cJ cZ r A) ⟨hx, hb, hml, hown, hts⟩ hE (kc_X11_image l dC dI cB cI cJ cZ cQ aL aS q B  hIK) (cwV 0 hts gl_33_0 rfl rfl rfl (by decide +kernel) ⟨Nat.le_of_ble_eq_true rfl, Nat.le_of_ble_eq_true rfl⟩) hK hDK hA0 hPK hPM (hap B A) hS 0 11 wkK rfl rfl hl.1 (Nat.le_of_ble_eq_true rfl) hcs (dk_at dkL_law_51 12 rfl) (fun z1 B2 H locs hw1 hPK hPM hS => ?_)
  obtain ⟨hr1, hIK, hf1, hw1⟩ := hw1
  have e1 : B2 1 1 = B 1 1 := hf1 1 1 rfl rfl
  refine lv_pop hx hb (dk_at dkL_law_51 13 rfl) rfl ?_
  refine lv_aload_n hx hb (dk_at dkL_law_51 14 rfl) rfl (lv_at hl 2 rfl) ?_
  refine l_callX (As := []) (rest := []) (Wo := WK cB cI cJ cZ cQ q B2) ⟨hx, hb, hml, hown, hts⟩ (mc_X12_image l dC dI cB cI cJ cZ cQ r A  hIM) (cwV 0 hts gl_33_1 rfl rfl rfl (by decide +kernel) ⟨Nat.le_of_ble_eq_true rfl, Nat.le_of_ble_eq_true rfl⟩) hK hDM hA0 hPM hPK (hap B2 A).sym hS 0 12 wm0 rfl rfl hl.1 (Nat.le_of_ble_eq_true rfl) hcs (dk_at dkL_law_51 15 rfl) (fun z2 A2 H locs hw2 hPM hPK hS => ?_)
  have hq2 := hw2
  obtain ⟨hr2, hIM, hf2, hw2⟩ := hw2
  have hcCI : CI A2 := CI.fr hcCI hf2 rfl rfl
  have hcWI : WI A2 := WI.fr hcWI hf2 rfl rfl
  have e2 : A2 0 1 = A 0 1 := hf2.2 1 rfl
  refine lv_pop hx hb (dk_at dkL_law_52 0 rfl) rfl ?_
  refine lv_goto (tgt := 1273) hx hb (dk_at dkL_law_52 1 rfl) (by decide) ?_
  exact k _ _ _ _ _ ⟨hIK, hIM, hcCI, hcWI, by omega, hTB.fr (fun k => hf1 2 k rfl rfl) (hf2.1 1 (by decide) rfl) (by omega), (fun k hk => (hf1 4 k rfl rfl).trans (hOW k hk)), PSs.fr hIK0 hPS hf1 rfl rfl hf2 rfl rfl, ((hf1 22 4 rfl rfl).trans (hTR.trans (hf2.2 75 rfl).symm))⟩ ⟨hPK, hPM, hS⟩ hl
set_option maxRecDepth 100000 in
theorem gl_34_0 : GoodIn lw_tbl (wsV RL 158 RX11 yX11_octet ws_kc_X11_octet) := goodVL lt_WY wy_good (t_in_5 _ (List.mem_of_getElem? (i := 218) rfl)) (t_in_5 _ (List.mem_of_getElem? (i := 219) rfl)) (t_in_5 _ (List.mem_of_getElem? (i := 220) rfl)) (t_in_1 _ (List.mem_of_getElem? (i := 1) rfl)) (t_in_5 _ (List.mem_of_getElem? (i := 221) rfl)) (by decide +kernel)
set_option maxRecDepth 100000 in
theorem gl_34_1 : GoodIn lw_tbl (wsV RL 161 RX12 yX12_octet ws_mc_X12_octet) := goodVL lt_WX wx_good (t_in_9 _ (List.mem_of_getElem? (i := 93) rfl)) (t_in_9 _ (List.mem_of_getElem? (i := 94) rfl)) (t_in_9 _ (List.mem_of_getElem? (i := 95) rfl)) (t_in_1 _ (List.mem_of_getElem? (i := 17) rfl)) (t_in_9 _ (List.mem_of_getElem? (i := 96) rfl)) (by decide +kernel)
set_option maxHeartbeats 4000000 in
set_option maxRecDepth 100000 in
theorem law_case_34 {p : Program} {e : Env} {s : State} {m : MethodId} {below : List Frame} {meth : Method} {c : Code} (l : Launch) {b L : Nat} {xs : Nat → Int32} (C0 : lw_At p s m meth c b L xs) (hL : L ≤ 3072) (dC : Nat → ClassId) (dI : Nat → Nat → Nat) (cB cI cJ cZ cQ : ClassId) (aL aS : Nat) (q r : Nat → Nat) (F : LF dC dI cB cI cJ cZ cQ aL aS q r s) {B A : St} {i : Int} (hi : 0 ≤ i ∧ i + 6 ≤ L) (hJ : LJ B A) {H : Heap} {locs : List Loc} {cells slots : Nat} {ls : Array Slot} (hcs : cells ≤ room_1.cells ∧ slots ≤ room_1.slots) (hW : LW dC dI cB cI cJ cZ cQ q r s B A H locs) (hl : lv_has ls 4 [(0, .ref b), (1, .ref (q 0)), (2, .ref (r 0)), (3, .int (iI i))]) (k : ∀ (B A : St) (H : Heap) (locs : List Loc) (ls : Array Slot), LJ B A → LW dC dI cB cI cJ cZ cQ q r s B A H locs → lv_has ls 4 [(0, .ref b), (1, .ref (q 0)), (2, .ref (r 0)), (3, .int (iI i))] → W p l e room_1 s m #[Value.ref b] below meth c H locs cells slots (lw_Z below #[Value.ref b] s) (F0 m 1273 ls [])) : W p l e room_1 s m #[Value.ref b] below meth c H locs cells slots (lw_Z below #[Value.ref b] s) (F0 m 1214 ls []) := by
  obtain ⟨hx, hb, hr, hml, hown, hts, hX, hbl, hlocks, hgv⟩ := id C0
  obtain ⟨hK, hDK, hDM, hap, hE⟩ := F
  obtain ⟨hPK, hPM, hS⟩ := hW
  obtain ⟨hIK, hIM, hcCI, hcWI, hJ, hTB, hOW, hPS, hTR⟩ := hJ
  have hIK0 := hIK
  have hIM0 := hIM
  have r01 : (0 : Int) ≤ A 0 1 := (hIM 0 1).1
  have hbA : ¬ (fun b : Nat => s.heap.size ≤ b) b := Nat.not_le.mpr hbl
  have hA0 : ∀ b : Nat, s.heap.size ≤ b → (fun b : Nat => s.heap.size ≤ b) b := fun _ h => h
  refine lv_aload_n hx hb (dk_at dkL_law_52 2 rfl) rfl (lv_at hl 1 rfl) ?_
  refine lv_aload_n hx hb (dk_at dkL_law_52 3 rfl) rfl (lv_at hl 0 rfl) ?_
  refine lv_iload_n hx hb (dk_at dkL_law_52 4 rfl) rfl (lv_at hl 3 rfl) ?_
  refine lv_iconst (v := iI 1) hx hb (dk_at dkL_law_52 5 rfl) (by decide +kernel) ?_
  refine x_addv (v := i + 1) hx hb (dk_at dkL_law_52 6 rfl) rfl ?_
  refine x_sld (i := i + 1) hx hb hX hbl hbA hS hL (by omega) (dk_at dkL_law_52 7 rfl) ?_
  refine l_callK (As := [.int (iI (sx xs (i + 1)))]) (rest := []) (Wo := WM cI cJ cZ r A) ⟨hx, hb, hml, hown, hts⟩ hE (kc_X11_octet l dC dI cB cI cJ cZ cQ aL aS q B (sx xs (i + 1)) hIK (sx_r xs _)) (cwV 1 hts gl_34_0 rfl rfl rfl (by decide +kernel) ⟨Nat.le_of_ble_eq_true rfl, Nat.le_of_ble_eq_true rfl⟩) hK hDK hA0 hPK hPM (hap B A) hS 0 11 wkK rfl rfl hl.1 (Nat.le_of_ble_eq_true rfl) hcs (dk_at dkL_law_52 8 rfl) (fun z1 B2 H locs hw1 hPK hPM hS => ?_)
  obtain ⟨rfl, hr1, hw1⟩ := hw1
  refine lv_pop hx hb (dk_at dkL_law_52 9 rfl) rfl ?_
  refine lv_aload_n hx hb (dk_at dkL_law_52 10 rfl) rfl (lv_at hl 2 rfl) ?_
  refine lv_aload_n hx hb (dk_at dkL_law_52 11 rfl) rfl (lv_at hl 0 rfl) ?_
  refine lv_iload_n hx hb (dk_at dkL_law_52 12 rfl) rfl (lv_at hl 3 rfl) ?_
  refine lv_iconst (v := iI 1) hx hb (dk_at dkL_law_52 13 rfl) (by decide +kernel) ?_
  refine x_addv (v := i + 1) hx hb (dk_at dkL_law_52 14 rfl) rfl ?_
  refine x_sld (i := i + 1) hx hb hX hbl hbA hS hL (by omega) (dk_at dkL_law_52 15 rfl) ?_
  refine l_callX (As := [.int (iI (sx xs (i + 1)))]) (rest := []) (Wo := WK cB cI cJ cZ cQ q B) ⟨hx, hb, hml, hown, hts⟩ (mc_X12_octet l dC dI cB cI cJ cZ cQ r A (sx xs (i + 1)) hIM (sx_r xs _)) (cwV 1 hts gl_34_1 rfl rfl rfl (by decide +kernel) ⟨Nat.le_of_ble_eq_true rfl, Nat.le_of_ble_eq_true rfl⟩) hK hDM hA0 hPM hPK (hap B A).sym hS 0 12 wm0 rfl rfl hl.1 (Nat.le_of_ble_eq_true rfl) hcs (dk_at dkL_law_53 0 rfl) (fun z2 A2 H locs hw2 hPM hPK hS => ?_)
  have hq2 := hw2
  obtain ⟨rfl, hr2, hw2⟩ := hw2
  refine lv_pop hx hb (dk_at dkL_law_53 1 rfl) rfl ?_
  refine lv_goto (tgt := 1273) hx hb (dk_at dkL_law_53 2 rfl) (by decide) ?_
  exact k _ _ _ _ _ ⟨hIK, hIM, hcCI, hcWI, by omega, hTB, hOW, hPS, hTR⟩ ⟨hPK, hPM, hS⟩ hl
set_option maxRecDepth 100000 in
theorem gl_35_0 : GoodIn lw_tbl (wsV RL 162 RX11 yX11_on ws_kc_X11_on) := goodVL lt_WY wy_good (t_in_5 _ (List.mem_of_getElem? (i := 222) rfl)) (t_in_5 _ (List.mem_of_getElem? (i := 223) rfl)) (t_in_5 _ (List.mem_of_getElem? (i := 224) rfl)) (t_in_1 _ (List.mem_of_getElem? (i := 1) rfl)) (t_in_5 _ (List.mem_of_getElem? (i := 225) rfl)) (by decide +kernel)
set_option maxRecDepth 100000 in
theorem gl_35_1 : GoodIn lw_tbl (wsV RL 166 RX12 yX12_on ws_mb_X12_on) := goodVL lt_WX wx_good (t_in_9 _ (List.mem_of_getElem? (i := 97) rfl)) (t_in_9 _ (List.mem_of_getElem? (i := 98) rfl)) (t_in_9 _ (List.mem_of_getElem? (i := 99) rfl)) (t_in_1 _ (List.mem_of_getElem? (i := 17) rfl)) (t_in_9 _ (List.mem_of_getElem? (i := 100) rfl)) (by decide +kernel)
set_option maxHeartbeats 4000000 in
set_option maxRecDepth 100000 in
theorem law_case_35 {p : Program} {e : Env} {s : State} {m : MethodId} {below : List Frame} {meth : Method} {c : Code} (l : Launch) {b L : Nat} {xs : Nat → Int32} (C0 : lw_At p s m meth c b L xs) (hL : L ≤ 3072) (dC : Nat → ClassId) (dI : Nat → Nat → Nat) (cB cI cJ cZ cQ : ClassId) (aL aS : Nat) (q r : Nat → Nat) (F : LF dC dI cB cI cJ cZ cQ aL aS q r s) {B A : St} {i : Int} (hi : 0 ≤ i ∧ i + 6 ≤ L) (hJ : LJ B A) {H : Heap} {locs : List Loc} {cells slots : Nat} {ls : Array Slot} (hcs : cells ≤ room_1.cells ∧ slots ≤ room_1.slots) (hW : LW dC dI cB cI cJ cZ cQ q r s B A H locs) (hl : lv_has ls 4 [(0, .ref b), (1, .ref (q 0)), (2, .ref (r 0)), (3, .int (iI i))]) (k : ∀ (B A : St) (H : Heap) (locs : List Loc) (ls : Array Slot), LJ B A → LW dC dI cB cI cJ cZ cQ q r s B A H locs → lv_has ls 4 [(0, .ref b), (1, .ref (q 0)), (2, .ref (r 0)), (3, .int (iI i))] → W p l e room_1 s m #[Value.ref b] below meth c H locs cells slots (lw_Z below #[Value.ref b] s) (F0 m 1273 ls [])) : W p l e room_1 s m #[Value.ref b] below meth c H locs cells slots (lw_Z below #[Value.ref b] s) (F0 m 1237 ls []) := by
  obtain ⟨hx, hb, hr, hml, hown, hts, hX, hbl, hlocks, hgv⟩ := id C0
  obtain ⟨hK, hDK, hDM, hap, hE⟩ := F
  obtain ⟨hPK, hPM, hS⟩ := hW
  obtain ⟨hIK, hIM, hcCI, hcWI, hJ, hTB, hOW, hPS, hTR⟩ := hJ
  have hIK0 := hIK
  have hIM0 := hIM
  have r01 : (0 : Int) ≤ A 0 1 := (hIM 0 1).1
  have hbA : ¬ (fun b : Nat => s.heap.size ≤ b) b := Nat.not_le.mpr hbl
  have hA0 : ∀ b : Nat, s.heap.size ≤ b → (fun b : Nat => s.heap.size ≤ b) b := fun _ h => h
  refine lv_aload_n hx hb (dk_at dkL_law_53 3 rfl) rfl (lv_at hl 1 rfl) ?_
  refine l_callK (As := []) (rest := []) (Wo := WM cI cJ cZ r A) ⟨hx, hb, hml, hown, hts⟩ hE (kc_X11_on l dC dI cB cI cJ cZ cQ aL aS q B  hIK) (cwV 0 hts gl_35_0 rfl rfl rfl (by decide +kernel) ⟨Nat.le_of_ble_eq_true rfl, Nat.le_of_ble_eq_true rfl⟩) hK hDK hA0 hPK hPM (hap B A) hS 0 11 wkK rfl rfl hl.1 (Nat.le_of_ble_eq_true rfl) hcs (dk_at dkL_law_53 4 rfl) (fun z1 B2 H locs hw1 hPK hPM hS => ?_)
  obtain ⟨hr1, hIK, hf1, hw1⟩ := hw1
  refine lv_pop hx hb (dk_at dkL_law_53 5 rfl) rfl ?_
  refine lv_aload_n hx hb (dk_at dkL_law_53 6 rfl) rfl (lv_at hl 2 rfl) ?_
  refine l_callX (As := []) (rest := []) (Wo := WK cB cI cJ cZ cQ q B2) ⟨hx, hb, hml, hown, hts⟩ (mb_X12_on l dC dI cB cI cJ cZ cQ r A  hIM) (cwV 0 hts gl_35_1 rfl rfl rfl (by decide +kernel) ⟨Nat.le_of_ble_eq_true rfl, Nat.le_of_ble_eq_true rfl⟩) hK hDM hA0 hPM hPK (hap B2 A).sym hS 0 12 wm0 rfl rfl hl.1 (Nat.le_of_ble_eq_true rfl) hcs (dk_at dkL_law_53 7 rfl) (fun z2 A2 H locs hw2 hPM hPK hS => ?_)
  have hq2 := hw2
  obtain ⟨hr2, hIM, hf2, hw2⟩ := hw2
  have hcCI : CI A2 := CI.fr hcCI hf2 rfl rfl
  have hcWI : WI A2 := WI.fr hcWI hf2 rfl rfl
  refine lv_pop hx hb (dk_at dkL_law_53 8 rfl) rfl ?_
  refine lv_goto (tgt := 1273) hx hb (dk_at dkL_law_53 9 rfl) (by decide) ?_
  exact k _ _ _ _ _ ⟨hIK, hIM, hcCI, hcWI, by omega, hTB.fr (fun k => hf1 2 k rfl rfl) (hf2.1 1 (by decide) rfl) (by omega), (fun k hk => (hf1 4 k rfl rfl).trans (hOW k hk)), PSs.fr hIK0 hPS hf1 rfl rfl hf2 rfl rfl, ((hf1 22 4 rfl rfl).trans (hTR.trans (hf2.2 75 rfl).symm))⟩ ⟨hPK, hPM, hS⟩ hl
set_option maxRecDepth 100000 in
theorem gl_36_0 : GoodIn lw_tbl (wsV RL 167 RX11 yX11_status ws_kc_X11_status) := goodVL lt_WY wy_good (t_in_6 _ (List.mem_of_getElem? (i := 5) rfl)) (t_in_6 _ (List.mem_of_getElem? (i := 6) rfl)) (t_in_6 _ (List.mem_of_getElem? (i := 7) rfl)) (t_in_1 _ (List.mem_of_getElem? (i := 1) rfl)) (t_in_6 _ (List.mem_of_getElem? (i := 8) rfl)) (by decide +kernel)
set_option maxRecDepth 100000 in
theorem gl_36_1 : GoodIn lw_tbl (wsV RL 170 RX12 yX12_status ws_mc_X12_status) := goodVL lt_WX wx_good (t_in_8 _ (List.mem_of_getElem? (i := 5) rfl)) (t_in_8 _ (List.mem_of_getElem? (i := 6) rfl)) (t_in_8 _ (List.mem_of_getElem? (i := 7) rfl)) (t_in_1 _ (List.mem_of_getElem? (i := 17) rfl)) (t_in_8 _ (List.mem_of_getElem? (i := 8) rfl)) (by decide +kernel)
set_option maxHeartbeats 4000000 in
set_option maxRecDepth 100000 in
theorem law_case_36 {p : Program} {e : Env} {s : State} {m : MethodId} {below : List Frame} {meth : Method} {c : Code} (l : Launch) {b L : Nat} {xs : Nat → Int32} (C0 : lw_At p s m meth c b L xs) (hL : L ≤ 3072) (dC : Nat → ClassId) (dI : Nat → Nat → Nat) (cB cI cJ cZ cQ : ClassId) (aL aS : Nat) (q r : Nat → Nat) (F : LF dC dI cB cI cJ cZ cQ aL aS q r s) {B A : St} {i : Int} (hi : 0 ≤ i ∧ i + 6 ≤ L) (hJ : LJ B A) {H : Heap} {locs : List Loc} {cells slots : Nat} {ls : Array Slot} (hcs : cells ≤ room_1.cells ∧ slots ≤ room_1.slots) (hW : LW dC dI cB cI cJ cZ cQ q r s B A H locs) (hl : lv_has ls 4 [(0, .ref b), (1, .ref (q 0)), (2, .ref (r 0)), (3, .int (iI i))]) (k : ∀ (B A : St) (H : Heap) (locs : List Loc) (ls : Array Slot), LJ B A → LW dC dI cB cI cJ cZ cQ q r s B A H locs → lv_has ls 4 [(0, .ref b), (1, .ref (q 0)), (2, .ref (r 0)), (3, .int (iI i))] → W p l e room_1 s m #[Value.ref b] below meth c H locs cells slots (lw_Z below #[Value.ref b] s) (F0 m 1273 ls [])) : W p l e room_1 s m #[Value.ref b] below meth c H locs cells slots (lw_Z below #[Value.ref b] s) (F0 m 1250 ls []) := by
  obtain ⟨hx, hb, hr, hml, hown, hts, hX, hbl, hlocks, hgv⟩ := id C0
  obtain ⟨hK, hDK, hDM, hap, hE⟩ := F
  obtain ⟨hPK, hPM, hS⟩ := hW
  obtain ⟨hIK, hIM, hcCI, hcWI, hJ, hTB, hOW, hPS, hTR⟩ := hJ
  have hIK0 := hIK
  have hIM0 := hIM
  have r01 : (0 : Int) ≤ A 0 1 := (hIM 0 1).1
  have hbA : ¬ (fun b : Nat => s.heap.size ≤ b) b := Nat.not_le.mpr hbl
  have hA0 : ∀ b : Nat, s.heap.size ≤ b → (fun b : Nat => s.heap.size ≤ b) b := fun _ h => h
  refine lv_aload_n hx hb (dk_at dkL_law_53 10 rfl) rfl (lv_at hl 1 rfl) ?_
  refine lv_aload_n hx hb (dk_at dkL_law_53 11 rfl) rfl (lv_at hl 0 rfl) ?_
  refine lv_iload_n hx hb (dk_at dkL_law_53 12 rfl) rfl (lv_at hl 3 rfl) ?_
  refine lv_iconst (v := iI 1) hx hb (dk_at dkL_law_53 13 rfl) (by decide +kernel) ?_
  refine x_addv (v := i + 1) hx hb (dk_at dkL_law_53 14 rfl) rfl ?_
  refine x_sld (i := i + 1) hx hb hX hbl hbA hS hL (by omega) (dk_at dkL_law_53 15 rfl) ?_
  refine l_callK (As := [.int (iI (sx xs (i + 1)))]) (rest := []) (Wo := WM cI cJ cZ r A) ⟨hx, hb, hml, hown, hts⟩ hE (kc_X11_status l dC dI cB cI cJ cZ cQ aL aS q B (sx xs (i + 1)) hIK (sx_r xs _)) (cwV 1 hts gl_36_0 rfl rfl rfl (by decide +kernel) ⟨Nat.le_of_ble_eq_true rfl, Nat.le_of_ble_eq_true rfl⟩) hK hDK hA0 hPK hPM (hap B A) hS 0 11 wkK rfl rfl hl.1 (Nat.le_of_ble_eq_true rfl) hcs (dk_at dkL_law_54 0 rfl) (fun z1 B2 H locs hw1 hPK hPM hS => ?_)
  obtain ⟨rfl, hr1, hw1⟩ := hw1
  refine lv_pop hx hb (dk_at dkL_law_54 1 rfl) rfl ?_
  refine lv_aload_n hx hb (dk_at dkL_law_54 2 rfl) rfl (lv_at hl 2 rfl) ?_
  refine lv_aload_n hx hb (dk_at dkL_law_54 3 rfl) rfl (lv_at hl 0 rfl) ?_
  refine lv_iload_n hx hb (dk_at dkL_law_54 4 rfl) rfl (lv_at hl 3 rfl) ?_
  refine lv_iconst (v := iI 1) hx hb (dk_at dkL_law_54 5 rfl) (by decide +kernel) ?_
  refine x_addv (v := i + 1) hx hb (dk_at dkL_law_54 6 rfl) rfl ?_
  refine x_sld (i := i + 1) hx hb hX hbl hbA hS hL (by omega) (dk_at dkL_law_54 7 rfl) ?_
  refine l_callX (As := [.int (iI (sx xs (i + 1)))]) (rest := []) (Wo := WK cB cI cJ cZ cQ q B) ⟨hx, hb, hml, hown, hts⟩ (mc_X12_status l dC dI cB cI cJ cZ cQ r A (sx xs (i + 1)) hIM (sx_r xs _)) (cwV 1 hts gl_36_1 rfl rfl rfl (by decide +kernel) ⟨Nat.le_of_ble_eq_true rfl, Nat.le_of_ble_eq_true rfl⟩) hK hDM hA0 hPM hPK (hap B A).sym hS 0 12 wm0 rfl rfl hl.1 (Nat.le_of_ble_eq_true rfl) hcs (dk_at dkL_law_54 8 rfl) (fun z2 A2 H locs hw2 hPM hPK hS => ?_)
  have hq2 := hw2
  obtain ⟨rfl, hr2, hw2⟩ := hw2
  refine lv_pop hx hb (dk_at dkL_law_54 9 rfl) rfl ?_
  refine lv_goto (tgt := 1273) hx hb (dk_at dkL_law_54 10 rfl) (by decide) ?_
  exact k _ _ _ _ _ ⟨hIK, hIM, hcCI, hcWI, by omega, hTB, hOW, hPS, hTR⟩ ⟨hPK, hPM, hS⟩ hl
set_option maxHeartbeats 4000000 in
theorem law_out {p : Program} {e : Env} {s : State} {m : MethodId} {below : List Frame} {meth : Method} {c : Code} (l : Launch) {b L : Nat} {xs : Nat → Int32} (C0 : lw_At p s m meth c b L xs) {H : Heap} {locs : List Loc} {cells slots : Nat} (hc : cells ≤ 600000) (hs : slots ≤ 7302250) {ls : Array Slot} (hS : va_S (fun b : Nat => s.heap.size ≤ b) s.heap H locs) : W p l e room_1 s m #[Value.ref b] below meth c H locs cells slots (lw_Z below #[Value.ref b] s) (F0 m 1279 ls []) := by
  obtain ⟨hx, hb, hr, hml, hown, hts, hX, hbl, hlocks, hgv⟩ := id C0
  refine lv_iconst (v := 1) hx hb (dk_at dkL_law_54 13 rfl) (by decide +kernel) ?_
  refine va_forget (fun a ha => hS.2.2 a ha) ?_
  refine W.widen (k := 600000) (n := 7302250) hc hs ?_
  exact lw_ret hx hb hr hlocks (dk_at dkL_law_54 14 rfl)
theorem ofNat_iI (L : Nat) : Int32.ofNat L = iI (L : Int) := (Int32.ofInt_eq_ofNat (n := L)).symm
set_option maxHeartbeats 8000000 in
set_option maxRecDepth 100000 in
theorem law_loop {p : Program} {e : Env} {s : State} {m : MethodId} {below : List Frame} {meth : Method} {c : Code} (l : Launch) {b L : Nat} {xs : Nat → Int32} (C0 : lw_At p s m meth c b L xs) (hL : L ≤ 3072) (dC : Nat → ClassId) (dI : Nat → Nat → Nat) (cB cI cJ cZ cQ : ClassId) (aL aS : Nat) (q r : Nat → Nat) (F : LF dC dI cB cI cJ cZ cQ aL aS q r s) {cells slots : Nat} (hcs : cells ≤ room_1.cells ∧ slots ≤ room_1.slots) : ∀ (n : Nat) (i : Int) (B A : St) (H : Heap) (locs : List Loc) (ls : Array Slot), ((L : Int) - i).toNat = n → 0 ≤ i ∧ i ≤ L → LJ B A → LW dC dI cB cI cJ cZ cQ q r s B A H locs → lv_has ls 4 [(0, .ref b), (1, .ref (q 0)), (2, .ref (r 0)), (3, .int (iI i))] → W p l e room_1 s m #[Value.ref b] below meth c H locs cells slots (lw_Z below #[Value.ref b] s) (F0 m 18 ls []) := by
  obtain ⟨hx, hb, hr, hml, hown, hts, hX, hbl, hlocks, hgv⟩ := id C0
  have hbA : ¬ (fun b : Nat => s.heap.size ≤ b) b := Nat.not_le.mpr hbl
  intro n
  induction n using Nat.strongRecOn with
  | ind n ih =>
    intro i B A H locs ls hn hi hJ hW hl
    have hS := hW.2.2
    refine lv_iload_n hx hb (dk_at dkL_law_0 10 rfl) rfl (lv_at hl 3 rfl) ?_
    refine lv_aload_n hx hb (dk_at dkL_law_0 11 rfl) rfl (lv_at hl 0 rfl) ?_
    refine va_slen hx hb hX hbl hbA hS (dk_at dkL_law_0 12 rfl) ?_
    refine tp_i (y := iI (L : Int)) (ofNat_iI L) ?_
    refine lv_bipush (v := iI 6) hx hb (dk_at dkL_law_0 13 rfl) (by decide +kernel) ?_
    refine x_subv (v := (L : Int) - 6) hx hb (dk_at dkL_law_0 14 rfl) rfl ?_
    refine lv_icmp_gt (tgt := 1279) hx hb (dk_at dkL_law_0 15 rfl) (by decide) (fun _ => law_out l C0 hcs.1 hcs.2 hS) (fun c0 => ?_)
    have c0 : i + 6 ≤ (L : Int) := by
      have c1 := mt (i_lt (a := (L : Int) - 6) (b := i) ⟨by omega, by omega⟩ ⟨by omega, by omega⟩).mpr c0
      omega
    refine lv_aload_n hx hb (dk_at dkL_law_1 0 rfl) rfl (lv_at hl 0 rfl) ?_
    refine lv_iload_n hx hb (dk_at dkL_law_1 1 rfl) rfl (lv_at hl 3 rfl) ?_
    refine x_sld (i := i) hx hb hX hbl hbA hS hL (by omega) (dk_at dkL_law_1 2 rfl) ?_
    refine lv_bipush (v := 63) hx hb (dk_at dkL_law_1 3 rfl) (by decide +kernel) ?_
    refine lv_iand hx hb (dk_at dkL_law_1 4 rfl) ?_
    obtain ⟨j, hj, ej⟩ := pk_andE (iI (sx xs i)) (m := 63) 6 (by decide +kernel)
    have hj : j < 64 := hj
    refine tp_i (y := nI j) ej ?_
    have K : ∀ (B A : St) (H : Heap) (locs : List Loc) (ls : Array Slot), LJ B A → LW dC dI cB cI cJ cZ cQ q r s B A H locs → lv_has ls 4 [(0, .ref b), (1, .ref (q 0)), (2, .ref (r 0)), (3, .int (iI i))] → W p l e room_1 s m #[Value.ref b] below meth c H locs cells slots (lw_Z below #[Value.ref b] s) (F0 m 1273 ls []) := by
      intro B A H locs ls hJ hW hl
      refine lv_iinc (v := iI (i + 6)) (lv' := [(3, .int (iI (i + 6))), (0, .ref b), (1, .ref (q 0)), (2, .ref (r 0))]) hx hb (dk_at dkL_law_54 11 rfl) hl (k := 3) rfl (iI_add i 6) (by decide) rfl (fun ls hl => ?_)
      refine lv_goto (tgt := 18) hx hb (dk_at dkL_law_54 12 rfl) (by decide) ?_
      exact ih _ (by omega) (i + 6) B A H locs ls rfl (by omega) hJ hW (lv_sub hl [1, 2, 3, 0] rfl)
    by_cases h37 : j < 37
    · rcases (show j = 0 ∨ j = 1 ∨ j = 2 ∨ j = 3 ∨ j = 4 ∨ j = 5 ∨ j = 6 ∨ j = 7 ∨ j = 8 ∨ j = 9 ∨ j = 10 ∨ j = 11 ∨ j = 12 ∨ j = 13 ∨ j = 14 ∨ j = 15 ∨ j = 16 ∨ j = 17 ∨ j = 18 ∨ j = 19 ∨ j = 20 ∨ j = 21 ∨ j = 22 ∨ j = 23 ∨ j = 24 ∨ j = 25 ∨ j = 26 ∨ j = 27 ∨ j = 28 ∨ j = 29 ∨ j = 30 ∨ j = 31 ∨ j = 32 ∨ j = 33 ∨ j = 34 ∨ j = 35 ∨ j = 36 by omega) with rfl | rfl | rfl | rfl | rfl | rfl | rfl | rfl | rfl | rfl | rfl | rfl | rfl | rfl | rfl | rfl | rfl | rfl | rfl | rfl | rfl | rfl | rfl | rfl | rfl | rfl | rfl | rfl | rfl | rfl | rfl | rfl | rfl | rfl | rfl | rfl | rfl
      · refine lv_tableIn (off := 163) (tgt := 196) hx hb (dk_at dkL_law_1 5 rfl) (by decide +kernel) (by decide +kernel) (by decide +kernel) (by decide) ?_
        exact law_case_0 l C0 hL dC dI cB cI cJ cZ cQ aL aS q r F ⟨hi.1, c0⟩ hJ hcs hW hl K
      · refine lv_tableIn (off := 226) (tgt := 259) hx hb (dk_at dkL_law_1 5 rfl) (by decide +kernel) (by decide +kernel) (by decide +kernel) (by decide) ?_
        exact law_case_1 l C0 hL dC dI cB cI cJ cZ cQ aL aS q r F ⟨hi.1, c0⟩ hJ hcs hW hl K
      · refine lv_tableIn (off := 249) (tgt := 282) hx hb (dk_at dkL_law_1 5 rfl) (by decide +kernel) (by decide +kernel) (by decide +kernel) (by decide) ?_
        exact law_case_2 l C0 hL dC dI cB cI cJ cZ cQ aL aS q r F ⟨hi.1, c0⟩ hJ hcs hW hl K
      · refine lv_tableIn (off := 262) (tgt := 295) hx hb (dk_at dkL_law_1 5 rfl) (by decide +kernel) (by decide +kernel) (by decide +kernel) (by decide) ?_
        exact law_case_3 l C0 hL dC dI cB cI cJ cZ cQ aL aS q r F ⟨hi.1, c0⟩ hJ hcs hW hl K
      · refine lv_tableIn (off := 285) (tgt := 318) hx hb (dk_at dkL_law_1 5 rfl) (by decide +kernel) (by decide +kernel) (by decide +kernel) (by decide) ?_
        exact law_case_4 l C0 hL dC dI cB cI cJ cZ cQ aL aS q r F ⟨hi.1, c0⟩ hJ hcs hW hl K
      · refine lv_tableIn (off := 308) (tgt := 341) hx hb (dk_at dkL_law_1 5 rfl) (by decide +kernel) (by decide +kernel) (by decide +kernel) (by decide) ?_
        exact law_case_5 l C0 hL dC dI cB cI cJ cZ cQ aL aS q r F ⟨hi.1, c0⟩ hJ hcs hW hl K
      · refine lv_tableIn (off := 351) (tgt := 384) hx hb (dk_at dkL_law_1 5 rfl) (by decide +kernel) (by decide +kernel) (by decide +kernel) (by decide) ?_
        exact law_case_6 l C0 hL dC dI cB cI cJ cZ cQ aL aS q r F ⟨hi.1, c0⟩ hJ hcs hW hl K
      · refine lv_tableIn (off := 384) (tgt := 417) hx hb (dk_at dkL_law_1 5 rfl) (by decide +kernel) (by decide +kernel) (by decide +kernel) (by decide) ?_
        exact law_case_7 l C0 hL dC dI cB cI cJ cZ cQ aL aS q r F ⟨hi.1, c0⟩ hJ hcs hW hl K
      · refine lv_tableIn (off := 417) (tgt := 450) hx hb (dk_at dkL_law_1 5 rfl) (by decide +kernel) (by decide +kernel) (by decide +kernel) (by decide) ?_
        exact law_case_8 l C0 hL dC dI cB cI cJ cZ cQ aL aS q r F ⟨hi.1, c0⟩ hJ hcs hW hl K
      · refine lv_tableIn (off := 450) (tgt := 483) hx hb (dk_at dkL_law_1 5 rfl) (by decide +kernel) (by decide +kernel) (by decide +kernel) (by decide) ?_
        exact law_case_9 l C0 hL dC dI cB cI cJ cZ cQ aL aS q r F ⟨hi.1, c0⟩ hJ hcs hW hl K
      · refine lv_tableIn (off := 483) (tgt := 516) hx hb (dk_at dkL_law_1 5 rfl) (by decide +kernel) (by decide +kernel) (by decide +kernel) (by decide) ?_
        exact law_case_10 l C0 hL dC dI cB cI cJ cZ cQ aL aS q r F ⟨hi.1, c0⟩ hJ hcs hW hl K
      · refine lv_tableIn (off := 516) (tgt := 549) hx hb (dk_at dkL_law_1 5 rfl) (by decide +kernel) (by decide +kernel) (by decide +kernel) (by decide) ?_
        exact law_case_11 l C0 hL dC dI cB cI cJ cZ cQ aL aS q r F ⟨hi.1, c0⟩ hJ hcs hW hl K
      · refine lv_tableIn (off := 549) (tgt := 582) hx hb (dk_at dkL_law_1 5 rfl) (by decide +kernel) (by decide +kernel) (by decide +kernel) (by decide) ?_
        exact law_case_12 l C0 hL dC dI cB cI cJ cZ cQ aL aS q r F ⟨hi.1, c0⟩ hJ hcs hW hl K
      · refine lv_tableIn (off := 592) (tgt := 625) hx hb (dk_at dkL_law_1 5 rfl) (by decide +kernel) (by decide +kernel) (by decide +kernel) (by decide) ?_
        exact law_case_13 l C0 hL dC dI cB cI cJ cZ cQ aL aS q r F ⟨hi.1, c0⟩ hJ hcs hW hl K
      · refine lv_tableIn (off := 635) (tgt := 668) hx hb (dk_at dkL_law_1 5 rfl) (by decide +kernel) (by decide +kernel) (by decide +kernel) (by decide) ?_
        exact law_case_14 l C0 hL dC dI cB cI cJ cZ cQ aL aS q r F ⟨hi.1, c0⟩ hJ hcs hW hl K
      · refine lv_tableIn (off := 668) (tgt := 701) hx hb (dk_at dkL_law_1 5 rfl) (by decide +kernel) (by decide +kernel) (by decide +kernel) (by decide) ?_
        exact law_case_15 l C0 hL dC dI cB cI cJ cZ cQ aL aS q r F ⟨hi.1, c0⟩ hJ hcs hW hl K
      · refine lv_tableIn (off := 711) (tgt := 744) hx hb (dk_at dkL_law_1 5 rfl) (by decide +kernel) (by decide +kernel) (by decide +kernel) (by decide) ?_
        exact law_case_16 l C0 hL dC dI cB cI cJ cZ cQ aL aS q r F ⟨hi.1, c0⟩ hJ hcs hW hl K
      · refine lv_tableIn (off := 734) (tgt := 767) hx hb (dk_at dkL_law_1 5 rfl) (by decide +kernel) (by decide +kernel) (by decide +kernel) (by decide) ?_
        exact law_case_17 l C0 hL dC dI cB cI cJ cZ cQ aL aS q r F ⟨hi.1, c0⟩ hJ hcs hW hl K
      · refine lv_tableIn (off := 747) (tgt := 780) hx hb (dk_at dkL_law_1 5 rfl) (by decide +kernel) (by decide +kernel) (by decide +kernel) (by decide) ?_
        exact law_case_18 l C0 hL dC dI cB cI cJ cZ cQ aL aS q r F ⟨hi.1, c0⟩ hJ hcs hW hl K
      · refine lv_tableIn (off := 780) (tgt := 813) hx hb (dk_at dkL_law_1 5 rfl) (by decide +kernel) (by decide +kernel) (by decide +kernel) (by decide) ?_
        exact law_case_19 l C0 hL dC dI cB cI cJ cZ cQ aL aS q r F ⟨hi.1, c0⟩ hJ hcs hW hl K
      · refine lv_tableIn (off := 813) (tgt := 846) hx hb (dk_at dkL_law_1 5 rfl) (by decide +kernel) (by decide +kernel) (by decide +kernel) (by decide) ?_
        exact law_case_20 l C0 hL dC dI cB cI cJ cZ cQ aL aS q r F ⟨hi.1, c0⟩ hJ hcs hW hl K
      · refine lv_tableIn (off := 836) (tgt := 869) hx hb (dk_at dkL_law_1 5 rfl) (by decide +kernel) (by decide +kernel) (by decide +kernel) (by decide) ?_
        exact law_case_21 l C0 hL dC dI cB cI cJ cZ cQ aL aS q r F ⟨hi.1, c0⟩ hJ hcs hW hl K
      · refine lv_tableIn (off := 879) (tgt := 912) hx hb (dk_at dkL_law_1 5 rfl) (by decide +kernel) (by decide +kernel) (by decide +kernel) (by decide) ?_
        exact law_case_22 l C0 hL dC dI cB cI cJ cZ cQ aL aS q r F ⟨hi.1, c0⟩ hJ hcs hW hl K
      · refine lv_tableIn (off := 892) (tgt := 925) hx hb (dk_at dkL_law_1 5 rfl) (by decide +kernel) (by decide +kernel) (by decide +kernel) (by decide) ?_
        exact law_case_23 l C0 hL dC dI cB cI cJ cZ cQ aL aS q r F ⟨hi.1, c0⟩ hJ hcs hW hl K
      · refine lv_tableIn (off := 925) (tgt := 958) hx hb (dk_at dkL_law_1 5 rfl) (by decide +kernel) (by decide +kernel) (by decide +kernel) (by decide) ?_
        exact law_case_24 l C0 hL dC dI cB cI cJ cZ cQ aL aS q r F ⟨hi.1, c0⟩ hJ hcs hW hl K
      · refine lv_tableIn (off := 958) (tgt := 991) hx hb (dk_at dkL_law_1 5 rfl) (by decide +kernel) (by decide +kernel) (by decide +kernel) (by decide) ?_
        exact law_case_25 l C0 hL dC dI cB cI cJ cZ cQ aL aS q r F ⟨hi.1, c0⟩ hJ hcs hW hl K
      · refine lv_tableIn (off := 981) (tgt := 1014) hx hb (dk_at dkL_law_1 5 rfl) (by decide +kernel) (by decide +kernel) (by decide +kernel) (by decide) ?_
        exact law_case_26 l C0 hL dC dI cB cI cJ cZ cQ aL aS q r F ⟨hi.1, c0⟩ hJ hcs hW hl K
      · refine lv_tableIn (off := 1004) (tgt := 1037) hx hb (dk_at dkL_law_1 5 rfl) (by decide +kernel) (by decide +kernel) (by decide +kernel) (by decide) ?_
        exact law_case_27 l C0 hL dC dI cB cI cJ cZ cQ aL aS q r F ⟨hi.1, c0⟩ hJ hcs hW hl K
      · refine lv_tableIn (off := 1027) (tgt := 1060) hx hb (dk_at dkL_law_1 5 rfl) (by decide +kernel) (by decide +kernel) (by decide +kernel) (by decide) ?_
        exact law_case_28 l C0 hL dC dI cB cI cJ cZ cQ aL aS q r F ⟨hi.1, c0⟩ hJ hcs hW hl K
      · refine lv_tableIn (off := 1076) (tgt := 1109) hx hb (dk_at dkL_law_1 5 rfl) (by decide +kernel) (by decide +kernel) (by decide +kernel) (by decide) ?_
        exact law_case_29 l C0 hL dC dI cB cI cJ cZ cQ aL aS q r F ⟨hi.1, c0⟩ hJ hcs hW hl K
      · refine lv_tableIn (off := 1099) (tgt := 1132) hx hb (dk_at dkL_law_1 5 rfl) (by decide +kernel) (by decide +kernel) (by decide +kernel) (by decide) ?_
        exact law_case_30 l C0 hL dC dI cB cI cJ cZ cQ aL aS q r F ⟨hi.1, c0⟩ hJ hcs hW hl K
      · refine lv_tableIn (off := 1122) (tgt := 1155) hx hb (dk_at dkL_law_1 5 rfl) (by decide +kernel) (by decide +kernel) (by decide +kernel) (by decide) ?_
        exact law_case_31 l C0 hL dC dI cB cI cJ cZ cQ aL aS q r F ⟨hi.1, c0⟩ hJ hcs hW hl K
      · refine lv_tableIn (off := 1135) (tgt := 1168) hx hb (dk_at dkL_law_1 5 rfl) (by decide +kernel) (by decide +kernel) (by decide +kernel) (by decide) ?_
        exact law_case_32 l C0 hL dC dI cB cI cJ cZ cQ aL aS q r F ⟨hi.1, c0⟩ hJ hcs hW hl K
      · refine lv_tableIn (off := 1168) (tgt := 1201) hx hb (dk_at dkL_law_1 5 rfl) (by decide +kernel) (by decide +kernel) (by decide +kernel) (by decide) ?_
        exact law_case_33 l C0 hL dC dI cB cI cJ cZ cQ aL aS q r F ⟨hi.1, c0⟩ hJ hcs hW hl K
      · refine lv_tableIn (off := 1181) (tgt := 1214) hx hb (dk_at dkL_law_1 5 rfl) (by decide +kernel) (by decide +kernel) (by decide +kernel) (by decide) ?_
        exact law_case_34 l C0 hL dC dI cB cI cJ cZ cQ aL aS q r F ⟨hi.1, c0⟩ hJ hcs hW hl K
      · refine lv_tableIn (off := 1204) (tgt := 1237) hx hb (dk_at dkL_law_1 5 rfl) (by decide +kernel) (by decide +kernel) (by decide +kernel) (by decide) ?_
        exact law_case_35 l C0 hL dC dI cB cI cJ cZ cQ aL aS q r F ⟨hi.1, c0⟩ hJ hcs hW hl K
      · refine lv_tableIn (off := 1217) (tgt := 1250) hx hb (dk_at dkL_law_1 5 rfl) (by decide +kernel) (by decide +kernel) (by decide +kernel) (by decide) ?_
        exact law_case_36 l C0 hL dC dI cB cI cJ cZ cQ aL aS q r F ⟨hi.1, c0⟩ hJ hcs hW hl K
    · refine lv_tableOut (tgt := 1273) hx hb (dk_at dkL_law_1 5 rfl) (Or.inr (by rw [nI_toInt (by omega)]; omega)) (by decide) ?_
      exact K B A H locs ls hJ hW hl
