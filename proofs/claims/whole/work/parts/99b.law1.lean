/-! the law: its table; two worlds side by side -/
def tb_L : TB := [(0, .new 7, 3), (3, .dup, 1), (4, .invokespecial 9, 3), (7, .astore_n 1, 1), (8, .new 10, 3), (11, .dup, 1), (12, .invokespecial 12, 3), (15, .astore_n 2, 1), (16, .iconst 0, 1), (17, .istore_n 3, 1), (18, .iload_n 3, 1), (19, .aload_n 0, 1), (20, .arraylength, 1), (21, .iconst 4, 1), (22, .isub, 1), (23, .if_icmp .gt 1050, 3), (26, .aload_n 0, 1), (27, .iload_n 3, 1), (28, .iaload, 1), (29, .bipush 63, 2), (31, .iand, 1), (32, .tableswitch 1035 0 34 #[156, 199, 232, 265, 298, 321, 344, 387, 410, 443, 476, 499, 522, 575, 598, 621, 644, 668, 692, 725, 758, 792, 815, 828, 841, 864, 877, 900, 913, 926, 939, 952, 975, 998, 1021], 156), (188, .aload_n 1, 1), (189, .aload_n 0, 1), (190, .iload_n 3, 1), (191, .iconst 1, 1), (192, .iadd, 1), (193, .iaload, 1), (194, .aload_n 0, 1), (195, .iload_n 3, 1), (196, .iconst 2, 1), (197, .iadd, 1), (198, .iaload, 1), (199, .aload_n 0, 1), (200, .iload_n 3, 1), (201, .iconst 3, 1), (202, .iadd, 1), (203, .iaload, 1), (204, .invokevirtual 13, 3), (207, .aload_n 2, 1), (208, .aload_n 0, 1), (209, .iload_n 3, 1), (210, .iconst 1, 1), (211, .iadd, 1), (212, .iaload, 1), (213, .aload_n 0, 1), (214, .iload_n 3, 1), (215, .iconst 2, 1), (216, .iadd, 1), (217, .iaload, 1), (218, .aload_n 0, 1), (219, .iload_n 3, 1), (220, .iconst 3, 1), (221, .iadd, 1), (222, .iaload, 1), (223, .invokevirtual 17, 3), (226, .if_icmp .eq 841, 3), (229, .iconst 0, 1), (230, .ireturn, 1), (231, .aload_n 1, 1), (232, .aload_n 0, 1), (233, .iload_n 3, 1), (234, .iconst 1, 1), (235, .iadd, 1), (236, .iaload, 1), (237, .aload_n 0, 1), (238, .iload_n 3, 1), (239, .iconst 2, 1), (240, .iadd, 1), (241, .iaload, 1), (242, .invokevirtual 18, 3), (245, .aload_n 2, 1), (246, .aload_n 0, 1), (247, .iload_n 3, 1), (248, .iconst 1, 1), (249, .iadd, 1), (250, .iaload, 1), (251, .aload_n 0, 1), (252, .iload_n 3, 1), (253, .iconst 2, 1), (254, .iadd, 1), (255, .iaload, 1), (256, .invokevirtual 22, 3), (259, .if_icmp .eq 808, 3), (262, .iconst 0, 1), (263, .ireturn, 1), (264, .aload_n 1, 1), (265, .aload_n 0, 1), (266, .iload_n 3, 1), (267, .iconst 1, 1), (268, .iadd, 1), (269, .iaload, 1), (270, .aload_n 0, 1), (271, .iload_n 3, 1), (272, .iconst 2, 1), (273, .iadd, 1), (274, .iaload, 1), (275, .invokevirtual 23, 3), (278, .aload_n 2, 1), (279, .aload_n 0, 1), (280, .iload_n 3, 1), (281, .iconst 1, 1), (282, .iadd, 1), (283, .iaload, 1), (284, .aload_n 0, 1), (285, .iload_n 3, 1), (286, .iconst 2, 1), (287, .iadd, 1), (288, .iaload, 1), (289, .invokevirtual 26, 3), (292, .if_icmp .eq 775, 3), (295, .iconst 0, 1), (296, .ireturn, 1), (297, .aload_n 1, 1), (298, .aload_n 0, 1), (299, .iload_n 3, 1), (300, .iconst 1, 1), (301, .iadd, 1), (302, .iaload, 1), (303, .aload_n 0, 1), (304, .iload_n 3, 1), (305, .iconst 2, 1), (306, .iadd, 1), (307, .iaload, 1), (308, .invokevirtual 27, 3), (311, .aload_n 2, 1), (312, .aload_n 0, 1), (313, .iload_n 3, 1), (314, .iconst 1, 1), (315, .iadd, 1), (316, .iaload, 1), (317, .aload_n 0, 1), (318, .iload_n 3, 1), (319, .iconst 2, 1), (320, .iadd, 1), (321, .iaload, 1), (322, .invokevirtual 30, 3), (325, .if_icmp .eq 742, 3), (328, .iconst 0, 1), (329, .ireturn, 1), (330, .aload_n 1, 1), (331, .aload_n 0, 1), (332, .iload_n 3, 1), (333, .iconst 1, 1), (334, .iadd, 1), (335, .iaload, 1), (336, .invokevirtual 31, 3), (339, .aload_n 2, 1), (340, .aload_n 0, 1), (341, .iload_n 3, 1), (342, .iconst 1, 1), (343, .iadd, 1), (344, .iaload, 1), (345, .invokevirtual 35, 3), (348, .if_icmp .eq 719, 3), (351, .iconst 0, 1), (352, .ireturn, 1), (353, .aload_n 1, 1), (354, .aload_n 0, 1), (355, .iload_n 3, 1), (356, .iconst 1, 1), (357, .iadd, 1), (358, .iaload, 1), (359, .invokevirtual 36, 3), (362, .aload_n 2, 1), (363, .aload_n 0, 1), (364, .iload_n 3, 1), (365, .iconst 1, 1), (366, .iadd, 1), (367, .iaload, 1), (368, .invokevirtual 39, 3), (371, .if_icmp .eq 696, 3), (374, .iconst 0, 1), (375, .ireturn, 1), (376, .aload_n 1, 1), (377, .aload_n 0, 1), (378, .iload_n 3, 1), (379, .iconst 1, 1), (380, .iadd, 1), (381, .iaload, 1), (382, .aload_n 0, 1), (383, .iload_n 3, 1), (384, .iconst 2, 1), (385, .iadd, 1), (386, .iaload, 1), (387, .aload_n 0, 1), (388, .iload_n 3, 1), (389, .iconst 3, 1), (390, .iadd, 1), (391, .iaload, 1), (392, .invokevirtual 40, 3), (395, .aload_n 2, 1), (396, .aload_n 0, 1), (397, .iload_n 3, 1), (398, .iconst 1, 1), (399, .iadd, 1), (400, .iaload, 1), (401, .aload_n 0, 1), (402, .iload_n 3, 1), (403, .iconst 2, 1), (404, .iadd, 1), (405, .iaload, 1), (406, .aload_n 0, 1), (407, .iload_n 3, 1), (408, .iconst 3, 1), (409, .iadd, 1), (410, .iaload, 1), (411, .invokevirtual 43, 3), (414, .if_icmp .eq 653, 3), (417, .iconst 0, 1), (418, .ireturn, 1), (419, .aload_n 1, 1), (420, .aload_n 0, 1), (421, .iload_n 3, 1), (422, .iconst 1, 1), (423, .iadd, 1), (424, .iaload, 1), (425, .invokevirtual 44, 3), (428, .aload_n 2, 1), (429, .aload_n 0, 1), (430, .iload_n 3, 1), (431, .iconst 1, 1), (432, .iadd, 1), (433, .iaload, 1), (434, .invokevirtual 47, 3), (437, .if_icmp .eq 630, 3), (440, .iconst 0, 1), (441, .ireturn, 1), (442, .aload_n 1, 1), (443, .aload_n 0, 1), (444, .iload_n 3, 1), (445, .iconst 1, 1), (446, .iadd, 1), (447, .iaload, 1), (448, .aload_n 0, 1), (449, .iload_n 3, 1), (450, .iconst 2, 1), (451, .iadd, 1), (452, .iaload, 1), (453, .invokevirtual 48, 3), (456, .aload_n 2, 1), (457, .aload_n 0, 1), (458, .iload_n 3, 1), (459, .iconst 1, 1), (460, .iadd, 1), (461, .iaload, 1), (462, .aload_n 0, 1), (463, .iload_n 3, 1), (464, .iconst 2, 1), (465, .iadd, 1), (466, .iaload, 1), (467, .invokevirtual 51, 3), (470, .if_icmp .eq 597, 3), (473, .iconst 0, 1), (474, .ireturn, 1), (475, .aload_n 1, 1), (476, .aload_n 0, 1), (477, .iload_n 3, 1), (478, .iconst 1, 1), (479, .iadd, 1), (480, .iaload, 1), (481, .aload_n 0, 1), (482, .iload_n 3, 1), (483, .iconst 2, 1), (484, .iadd, 1), (485, .iaload, 1), (486, .invokevirtual 52, 3), (489, .aload_n 2, 1), (490, .aload_n 0, 1), (491, .iload_n 3, 1), (492, .iconst 1, 1), (493, .iadd, 1), (494, .iaload, 1), (495, .aload_n 0, 1), (496, .iload_n 3, 1), (497, .iconst 2, 1), (498, .iadd, 1), (499, .iaload, 1), (500, .invokevirtual 55, 3), (503, .if_icmp .eq 564, 3), (506, .iconst 0, 1), (507, .ireturn, 1), (508, .aload_n 1, 1), (509, .aload_n 0, 1), (510, .iload_n 3, 1), (511, .iconst 1, 1), (512, .iadd, 1), (513, .iaload, 1), (514, .invokevirtual 56, 3), (517, .aload_n 2, 1), (518, .aload_n 0, 1), (519, .iload_n 3, 1), (520, .iconst 1, 1), (521, .iadd, 1), (522, .iaload, 1), (523, .invokevirtual 59, 3), (526, .if_icmp .eq 541, 3), (529, .iconst 0, 1), (530, .ireturn, 1), (531, .aload_n 1, 1), (532, .aload_n 0, 1), (533, .iload_n 3, 1), (534, .iconst 1, 1), (535, .iadd, 1), (536, .iaload, 1), (537, .invokevirtual 60, 3), (540, .aload_n 2, 1), (541, .aload_n 0, 1), (542, .iload_n 3, 1), (543, .iconst 1, 1), (544, .iadd, 1), (545, .iaload, 1), (546, .invokevirtual 63, 3), (549, .if_icmp .eq 518, 3), (552, .iconst 0, 1), (553, .ireturn, 1), (554, .aload_n 1, 1), (555, .aload_n 0, 1), (556, .iload_n 3, 1), (557, .iconst 1, 1), (558, .iadd, 1), (559, .iaload, 1), (560, .i2l, 1), (561, .bipush 32, 2), (563, .lshl, 1), (564, .aload_n 0, 1), (565, .iload_n 3, 1), (566, .iconst 2, 1), (567, .iadd, 1), (568, .iaload, 1), (569, .i2l, 1), (570, .ldc2_w 64, 3), (573, .land, 1), (574, .lor, 1), (575, .invokevirtual 66, 3), (578, .aload_n 2, 1), (579, .aload_n 0, 1), (580, .iload_n 3, 1), (581, .iconst 1, 1), (582, .iadd, 1), (583, .iaload, 1), (584, .i2l, 1), (585, .bipush 32, 2), (587, .lshl, 1), (588, .aload_n 0, 1), (589, .iload_n 3, 1), (590, .iconst 2, 1), (591, .iadd, 1), (592, .iaload, 1), (593, .i2l, 1), (594, .ldc2_w 64, 3), (597, .land, 1), (598, .lor, 1), (599, .invokevirtual 70, 3), (602, .if_icmp .eq 465, 3), (605, .iconst 0, 1), (606, .ireturn, 1), (607, .aload_n 1, 1), (608, .aload_n 0, 1), (609, .iload_n 3, 1), (610, .iconst 1, 1), (611, .iadd, 1), (612, .iaload, 1), (613, .invokevirtual 71, 3), (616, .aload_n 2, 1), (617, .aload_n 0, 1), (618, .iload_n 3, 1), (619, .iconst 1, 1), (620, .iadd, 1), (621, .iaload, 1), (622, .invokevirtual 74, 3), (625, .if_icmp .eq 442, 3), (628, .iconst 0, 1), (629, .ireturn, 1), (630, .aload_n 1, 1), (631, .aload_n 0, 1), (632, .iload_n 3, 1), (633, .iconst 1, 1), (634, .iadd, 1), (635, .iaload, 1), (636, .invokevirtual 75, 3), (639, .aload_n 2, 1), (640, .aload_n 0, 1), (641, .iload_n 3, 1), (642, .iconst 1, 1), (643, .iadd, 1), (644, .iaload, 1), (645, .invokevirtual 78, 3), (648, .if_icmp .eq 419, 3), (651, .iconst 0, 1), (652, .ireturn, 1), (653, .aload_n 1, 1), (654, .aload_n 0, 1), (655, .iload_n 3, 1), (656, .iconst 1, 1), (657, .iadd, 1), (658, .iaload, 1), (659, .invokevirtual 79, 3), (662, .aload_n 2, 1), (663, .aload_n 0, 1), (664, .iload_n 3, 1), (665, .iconst 1, 1), (666, .iadd, 1), (667, .iaload, 1), (668, .invokevirtual 82, 3), (671, .if_icmp .eq 396, 3), (674, .iconst 0, 1), (675, .ireturn, 1), (676, .aload_n 1, 1), (677, .aload_n 0, 1), (678, .iload_n 3, 1), (679, .iconst 1, 1), (680, .iadd, 1), (681, .iaload, 1), (682, .invokevirtual 83, 3), (685, .aload_n 2, 1), (686, .aload_n 0, 1), (687, .iload_n 3, 1), (688, .iconst 1, 1), (689, .iadd, 1), (690, .iaload, 1), (691, .invokevirtual 87, 3), (694, .lcmp, 1), (695, .ifCond .eq 372, 3), (698, .iconst 0, 1), (699, .ireturn, 1), (700, .aload_n 1, 1), (701, .aload_n 0, 1), (702, .iload_n 3, 1), (703, .iconst 1, 1), (704, .iadd, 1), (705, .iaload, 1), (706, .invokevirtual 88, 3), (709, .aload_n 2, 1), (710, .aload_n 0, 1), (711, .iload_n 3, 1), (712, .iconst 1, 1), (713, .iadd, 1), (714, .iaload, 1), (715, .invokevirtual 91, 3), (718, .lcmp, 1), (719, .ifCond .eq 348, 3), (722, .iconst 0, 1), (723, .ireturn, 1), (724, .aload_n 1, 1), (725, .aload_n 0, 1), (726, .iload_n 3, 1), (727, .iconst 1, 1), (728, .iadd, 1), (729, .iaload, 1), (730, .aload_n 0, 1), (731, .iload_n 3, 1), (732, .iconst 2, 1), (733, .iadd, 1), (734, .iaload, 1), (735, .invokevirtual 92, 3), (738, .aload_n 2, 1), (739, .aload_n 0, 1), (740, .iload_n 3, 1), (741, .iconst 1, 1), (742, .iadd, 1), (743, .iaload, 1), (744, .aload_n 0, 1), (745, .iload_n 3, 1), (746, .iconst 2, 1), (747, .iadd, 1), (748, .iaload, 1), (749, .invokevirtual 95, 3), (752, .if_icmp .eq 315, 3), (755, .iconst 0, 1), (756, .ireturn, 1), (757, .aload_n 1, 1), (758, .aload_n 0, 1), (759, .iload_n 3, 1), (760, .iconst 1, 1), (761, .iadd, 1), (762, .iaload, 1), (763, .aload_n 0, 1), (764, .iload_n 3, 1), (765, .iconst 2, 1), (766, .iadd, 1), (767, .iaload, 1), (768, .invokevirtual 96, 3), (771, .aload_n 2, 1), (772, .aload_n 0, 1), (773, .iload_n 3, 1), (774, .iconst 1, 1), (775, .iadd, 1), (776, .iaload, 1), (777, .aload_n 0, 1), (778, .iload_n 3, 1), (779, .iconst 2, 1), (780, .iadd, 1), (781, .iaload, 1), (782, .invokevirtual 99, 3), (785, .if_icmp .eq 282, 3), (788, .iconst 0, 1), (789, .ireturn, 1), (790, .aload_n 1, 1), (791, .aload_n 0, 1), (792, .iload_n 3, 1), (793, .iconst 1, 1), (794, .iadd, 1), (795, .iaload, 1), (796, .aload_n 0, 1), (797, .iload_n 3, 1), (798, .iconst 2, 1), (799, .iadd, 1), (800, .iaload, 1), (801, .invokevirtual 100, 3), (804, .aload_n 2, 1), (805, .aload_n 0, 1), (806, .iload_n 3, 1), (807, .iconst 1, 1), (808, .iadd, 1), (809, .iaload, 1), (810, .aload_n 0, 1), (811, .iload_n 3, 1), (812, .iconst 2, 1), (813, .iadd, 1), (814, .iaload, 1), (815, .invokevirtual 104, 3), (818, .lcmp, 1), (819, .ifCond .eq 248, 3), (822, .iconst 0, 1), (823, .ireturn, 1), (824, .aload_n 1, 1), (825, .aload_n 0, 1), (826, .iload_n 3, 1), (827, .iconst 1, 1), (828, .iadd, 1), (829, .iaload, 1), (830, .invokevirtual 105, 3), (833, .aload_n 2, 1), (834, .aload_n 0, 1), (835, .iload_n 3, 1), (836, .iconst 1, 1), (837, .iadd, 1), (838, .iaload, 1), (839, .invokevirtual 108, 3), (842, .if_icmp .eq 225, 3), (845, .iconst 0, 1), (846, .ireturn, 1), (847, .aload_n 1, 1), (848, .invokevirtual 109, 3), (851, .aload_n 2, 1), (852, .invokevirtual 113, 3), (855, .if_icmp .eq 212, 3), (858, .iconst 0, 1), (859, .ireturn, 1), (860, .aload_n 1, 1), (861, .invokevirtual 114, 3), (864, .aload_n 2, 1), (865, .invokevirtual 117, 3), (868, .if_icmp .eq 199, 3), (871, .iconst 0, 1), (872, .ireturn, 1), (873, .aload_n 1, 1), (874, .aload_n 0, 1), (875, .iload_n 3, 1), (876, .iconst 1, 1), (877, .iadd, 1), (878, .iaload, 1), (879, .invokevirtual 118, 3), (882, .aload_n 2, 1), (883, .aload_n 0, 1), (884, .iload_n 3, 1), (885, .iconst 1, 1), (886, .iadd, 1), (887, .iaload, 1), (888, .invokevirtual 121, 3), (891, .if_icmp .eq 176, 3), (894, .iconst 0, 1), (895, .ireturn, 1), (896, .aload_n 1, 1), (897, .invokevirtual 122, 3), (900, .aload_n 2, 1), (901, .invokevirtual 125, 3), (904, .if_icmp .eq 163, 3), (907, .iconst 0, 1), (908, .ireturn, 1), (909, .aload_n 1, 1), (910, .aload_n 0, 1), (911, .iload_n 3, 1), (912, .iconst 1, 1), (913, .iadd, 1), (914, .iaload, 1), (915, .invokevirtual 126, 3), (918, .aload_n 2, 1), (919, .aload_n 0, 1), (920, .iload_n 3, 1), (921, .iconst 1, 1), (922, .iadd, 1), (923, .iaload, 1), (924, .invokevirtual 129, 3), (927, .if_icmp .eq 140, 3), (930, .iconst 0, 1), (931, .ireturn, 1), (932, .aload_n 1, 1), (933, .invokevirtual 130, 3), (936, .aload_n 2, 1), (937, .invokevirtual 133, 3), (940, .if_icmp .eq 127, 3), (943, .iconst 0, 1), (944, .ireturn, 1), (945, .aload_n 1, 1), (946, .invokevirtual 134, 3), (949, .aload_n 2, 1), (950, .invokevirtual 137, 3), (953, .if_icmp .eq 114, 3), (956, .iconst 0, 1), (957, .ireturn, 1), (958, .aload_n 1, 1), (959, .invokevirtual 138, 3), (962, .aload_n 2, 1), (963, .invokevirtual 141, 3), (966, .if_icmp .eq 101, 3), (969, .iconst 0, 1), (970, .ireturn, 1), (971, .aload_n 1, 1), (972, .invokevirtual 142, 3), (975, .aload_n 2, 1), (976, .invokevirtual 145, 3), (979, .if_icmp .eq 88, 3), (982, .iconst 0, 1), (983, .ireturn, 1), (984, .aload_n 1, 1), (985, .aload_n 0, 1), (986, .iload_n 3, 1), (987, .iconst 1, 1), (988, .iadd, 1), (989, .iaload, 1), (990, .invokevirtual 146, 3), (993, .aload_n 2, 1), (994, .aload_n 0, 1), (995, .iload_n 3, 1), (996, .iconst 1, 1), (997, .iadd, 1), (998, .iaload, 1), (999, .invokevirtual 149, 3), (1002, .if_icmp .eq 65, 3), (1005, .iconst 0, 1), (1006, .ireturn, 1), (1007, .aload_n 1, 1), (1008, .aload_n 0, 1), (1009, .iload_n 3, 1), (1010, .iconst 1, 1), (1011, .iadd, 1), (1012, .iaload, 1), (1013, .invokevirtual 150, 3), (1016, .aload_n 2, 1), (1017, .aload_n 0, 1), (1018, .iload_n 3, 1), (1019, .iconst 1, 1), (1020, .iadd, 1), (1021, .iaload, 1), (1022, .invokevirtual 153, 3), (1025, .if_icmp .eq 42, 3), (1028, .iconst 0, 1), (1029, .ireturn, 1), (1030, .aload_n 1, 1), (1031, .aload_n 0, 1), (1032, .iload_n 3, 1), (1033, .iconst 1, 1), (1034, .iadd, 1), (1035, .iaload, 1), (1036, .invokevirtual 154, 3), (1039, .aload_n 2, 1), (1040, .aload_n 0, 1), (1041, .iload_n 3, 1), (1042, .iconst 1, 1), (1043, .iadd, 1), (1044, .iaload, 1), (1045, .invokevirtual 157, 3), (1048, .if_icmp .eq 19, 3), (1051, .iconst 0, 1), (1052, .ireturn, 1), (1053, .aload_n 1, 1), (1054, .invokevirtual 158, 3), (1057, .aload_n 2, 1), (1058, .invokevirtual 162, 3), (1061, .lcmp, 1), (1062, .ifCond .eq 5, 3), (1065, .iconst 0, 1), (1066, .ireturn, 1), (1067, .iinc 3 4, 3), (1070, .goto (-1052), 3), (1073, .iconst 1, 1), (1074, .ireturn, 1)]
set_option maxRecDepth 20000 in
theorem tk_L : tbOk cL_law tb_L := tbOk_of (by decide +kernel)
abbrev M_L : MI := (yL_law, cL_law, 4, ret, room_1, tb_L)
/-- a world: where its cells stand, what they hold -/
abbrev HS : Type := PS × FI × FJ × FI × FJ
def plH (cy : CY) (a : HS) : va_W := pool cy a.1 a.2.1 a.2.2.1 a.2.2.2.1 a.2.2.2.2
/-- both worlds are there, and apart -/
def Ph2 (a b : HS) (D : va_G) (cy : CY) (A0 : Nat → Prop) (H : Heap) : Prop := (va_P D vwCl (plH cy a) H ∧ va_D A0 (plH cy a)) ∧ (va_P D vwCl (plH cy b) H ∧ va_D A0 (plH cy b)) ∧ ∀ (i j : Nat) (x y : Nat × va_E), (plH cy a)[i]? = some x → (plH cy b)[j]? = some y → x.1 ≠ y.1
def SimG (X : MX) (a b : HS) (pc : Nat) (lv : List (Nat × Value)) (st : List Value) (k n : Nat) : Prop :=
  match X with
  | (p, l, e, R, s, m, args, below, meth, c, Q, D, cy, A0, nL) => ∀ (H : Heap) (locs : List Loc) (ls : Array Slot), Ph2 a b D cy A0 H → va_S A0 s.heap H locs → lv_has ls nL lv → W p l e R s m args below meth c H locs k n Q (F0 m pc ls st)
/-- the script -/
def Scr (X : MX) (b L : Nat) (xs : Nat → Int32) : Prop :=
  match X with
  | (_, _, _, _, s, _, _, _, _, _, _, _, _, A0, _) => va_X b L xs s s.heap ∧ b < s.heap.size ∧ ¬ A0 b
theorem Ph2_sw {a b : HS} {D : va_G} {cy : CY} {A0 : Nat → Prop} {H : Heap} (h : Ph2 a b D cy A0 H) : Ph2 b a D cy A0 H := ⟨h.2.1, h.1, fun i j x y hx hy e => h.2.2 j i y x hy hx e.symm⟩
/-- behind a call in the one world: the other is as it was -/
theorem Ph2_af {a a' b : HS} {D : va_G} {cy : CY} {A0 : Nat → Prop} {H H1 : Heap} (h : Ph2 a b D cy A0 H) (hP : va_P D vwCl (plH cy a') H1) (hD : va_D (va_A (plH cy a) H.size) (plH cy a')) (hA1 : ∀ q, va_A (plH cy a) H.size q → A0 q) (hk : ∀ q : Nat, q < H.size → ¬ va_A (plH cy a) H.size q → H1[q]? = H[q]?) : Ph2 a' b D cy A0 H1 := by
  obtain ⟨⟨p1, d1⟩, ⟨p2, d2⟩, di⟩ := h
  have nA : ∀ (j : Nat) (y : Nat × va_E), (plH cy b)[j]? = some y → ¬ va_A (plH cy a) H.size y.1 := by
    intro j y hy q
    rcases q with ⟨k, e, hx⟩ | q
    · exact di k j _ y hx hy rfl
    · have := (p2 j y hy).lt
      omega
  refine ⟨⟨hP, hD.weaken (fun _ q _ z => hA1 q.1 z)⟩, ⟨p2.kept (fun k q hq => hk q.1 (p2 k q hq).lt (nA k q hq)), d2⟩, fun i j x y hx hy e => ?_⟩
  have := hD.2 i x hx
  rw [e] at this
  exact nA j y hy this
theorem W_af2 {p : Program} {l : Launch} {e : Env} {R : Room} {s : State} {m : MethodId} {args : Array Value} {below : List Frame} {meth : Method} {c : Code} {H : Heap} {locs : List Loc} {k n mc ms : Nat} {Q : State → Prop} {D : va_G} {cy : CY} {A0 A1 : Nat → Prop} {post : PO} {pc : Nat} {ls : Array Slot} {st0 rest : List Value} {a : Array Value} (hr : va_Run p l e R s m args below meth c H locs k n mc ms (F0 m pc ls st0) rest (QcP D cy A1 post a) A1) (hS : va_S A0 s.heap H locs) (hA1 : ∀ q, A1 q → A0 q)
    (kk : ∀ (v : Option Value) (Y : PS) (I : FI) (J : FJ) (A : FI) (B : FJ) (H1 : Heap) (locs1 : List Loc), post v Y I J A B → va_P D vwCl (pool cy Y I J A B) H1 → va_D A1 (pool cy Y I J A B) → (∀ q : Nat, q < H.size → ¬ A1 q → H1[q]? = H[q]?) → va_S A0 s.heap H1 locs1 → W p l e R s m args below meth c H1 locs1 (k + mc) (n + ms) Q (F0 m (pc + 3) ls (v.toList ++ rest))) : W p l e R s m args below meth c H locs k n Q (F0 m pc ls st0) := by
  intro T hT X
  obtain ⟨v, st₀, t, T', L, h0, X', hL, e1, e2, ⟨⟨v', Y, I, J, A, B, hv, hp, hP, hD⟩, hz, hk⟩, st⟩ := hr T hT X
  cases hv
  rw [h0] at hz hk
  obtain ⟨t2, a1, b1⟩ := kk v Y I J A B T'.heap (locs ++ L) hp (by rw [e1]; exact hP) hD (fun q h1 h2 => by rw [e1]; exact hk q h1 h2)
    ⟨Nat.le_trans hS.1 (by rw [e1]; exact hz), fun q h1 h2 => by rw [e1, hk q (Nat.lt_of_lt_of_le h1 hS.1) (fun z => h2 (hA1 q z))]; exact hS.2.1 q h1 h2, fun q hq => by
      rcases List.mem_append.mp hq with h | h
      · exact hS.2.2 q h
      · exact hA1 _ (hL q h)⟩ T' rfl X'
  exact ⟨t2, st t2 a1, b1⟩
theorem pool_na {cy : CY} {Y : PS} {I I' : FI} {J J' : FJ} {A A' : FI} {B B' : FJ} {i q c k : Nat} {e : va_E} {x : Nat × va_E} (h : (pool cy (newY Y i q c) I' J' A' B')[k]? = some x) : ∃ (k' : Nat) (x' : Nat × va_E), (pool cy Y I J A B ++ [(q, e)])[k']? = some x' ∧ x'.1 = x.1 := by
  obtain ⟨j, hj, rfl⟩ := pool_mem h
  by_cases e0 : j = i
  · subst e0
    refine ⟨_, (q, e), ?_, ?_⟩
    · rw [List.getElem?_append_right (Nat.le_refl _), Nat.sub_self]
      rfl
    · show q = va_up Y.1 j q j
      rw [va_up_self]
  · have hlt := lst_in (List.mem_of_getElem? hj)
    have hK : Y.2.1 j < 15 := by
      have := hlt.1
      rw [show (newY Y i q c).2.1 j = Y.2.1 j from va_up_ne _ _ e0] at this
      exact this
    obtain ⟨k', hk'⟩ := lst_at hK hlt.2
    have hg := pool_get (cy := cy) (Y := Y) (I := I) (J := J) (A := A) (B := B) hk'
    have hl := (List.getElem?_eq_some_iff.mp hg).1
    refine ⟨k', _, by rw [List.getElem?_append_left hl]; exact hg, ?_⟩
    show Y.1 j = va_up Y.1 i q j
    rw [va_up_ne _ _ e0]
section GR
variable {X : MX} {M M2 : MI} {a b : HS} {pc : Nat} {lv : List (Nat × Value)} {st : List Value} {kc n : Nat}
theorem G_sw (kk : SimG X b a pc lv st kc n) : SimG X a b pc lv st kc n := by
  obtain ⟨p, l, e, R, s, m, args, below, meth, cod, Q, D, cy, A0, nL⟩ := X
  intro H locs ls hF hS hl
  exact kk H locs ls (Ph2_sw hF) hS hl
theorem G_wd {k' n' : Nat} (h1 : kc ≤ k') (h2 : n ≤ n') (kk : SimG X a b pc lv st k' n') : SimG X a b pc lv st kc n := by
  obtain ⟨p, l, e, R, s, m, args, below, meth, cod, Q, D, cy, A0, nL⟩ := X
  intro H locs ls hF hS hl
  exact W.widen h1 h2 (kk H locs ls hF hS hl)
theorem G_n (g : Good X M) (k : Nat) {pc' : Nat} {lv' : List (Nat × Value)} {st' : List Value} (h : stpN M.2.2.1 M.2.2.2.2.2 k pc lv st = some (pc', lv', st')) (kk : SimG X a b pc' lv' st' kc n) : SimG X a b pc lv st kc n := by
  obtain ⟨p, l, e, R, s, m, args, below, meth, c, Q, D, cy, A0, nL⟩ := X
  obtain ⟨hx, hb, hown, hts, hns, hK, hml, hnl, hA, hok, hR⟩ := g
  intro H locs ls hF hS hl
  induction k generalizing pc lv st ls with
  | zero =>
    unfold stpN at h
    cases h
    exact kk H locs ls hF hS hl
  | succ k ih =>
    unfold stpN at h
    split at h
    · rename_i i j hf
      split at h
      · rename_i a b d hs
        rw [← hnl] at hs
        exact stp_ok hx hb (fnd_dec hok hf) hs hl (fun ls' hl' => ih h ls' hl')
      · cases h
    · cases h
theorem G_ic_eq (g : Good X M) {x y : Int32} {off : Int} {tgt : Nat} (hd : fnd M.2.2.2.2.2 pc = some (.if_icmp .eq off, 3)) (ht : (pc : Int) + off = (tgt : Int)) (he : x = y) (kt : SimG X a b tgt lv st kc n) : SimG X a b pc lv (.int y :: .int x :: st) kc n := by
  obtain ⟨p, l, e, R, s, m, args, below, meth, cod, Q, D, cy, A0, nL⟩ := X
  obtain ⟨hx, hb, hown, hts, hns, hK, hml, hnl, hA, hok, hR⟩ := g
  intro H locs ls hF hS hl
  exact lv_icmp_eq hx hb (fnd_dec hok hd) ht (fun h => kt H locs ls hF hS hl) (fun h => absurd he h)
theorem G_if_eq (g : Good X M) {x : Int32} {off : Int} {tgt : Nat} (hd : fnd M.2.2.2.2.2 pc = some (.ifCond .eq off, 3)) (ht : (pc : Int) + off = (tgt : Int)) (he : x = 0) (kt : SimG X a b tgt lv st kc n) : SimG X a b pc lv (.int x :: st) kc n := by
  obtain ⟨p, l, e, R, s, m, args, below, meth, cod, Q, D, cy, A0, nL⟩ := X
  obtain ⟨hx, hb, hown, hts, hns, hK, hml, hnl, hA, hok, hR⟩ := g
  intro H locs ls hF hS hl
  exact lv_if_eq hx hb (fnd_dec hok hd) ht (fun h => kt H locs ls hF hS hl) (fun h => absurd he h)
theorem G_ic_gt (g : Good X M) {x y : Int32} {off : Int} {tgt : Nat} (hd : fnd M.2.2.2.2.2 pc = some (.if_icmp .gt off, 3)) (ht : (pc : Int) + off = (tgt : Int)) (kt : y < x → SimG X a b tgt lv st kc n) (kf : ¬ y < x → SimG X a b (pc + 3) lv st kc n) : SimG X a b pc lv (.int y :: .int x :: st) kc n := by
  obtain ⟨p, l, e, R, s, m, args, below, meth, cod, Q, D, cy, A0, nL⟩ := X
  obtain ⟨hx, hb, hown, hts, hns, hK, hml, hnl, hA, hok, hR⟩ := g
  intro H locs ls hF hS hl
  exact lv_icmp_gt hx hb (fnd_dec hok hd) ht (fun h => kt h H locs ls hF hS hl) (fun h => kf h H locs ls hF hS hl)
theorem G_ldc2 (g : Good X M) {idx : Nat} {v : Int64} (hw : Cond.constantLong M.1.cls idx v ∈ lw_all) (hd : fnd M.2.2.2.2.2 pc = some (.ldc2_w idx, 3)) (kk : SimG X a b (pc + 3) lv (.long v :: st) kc n) : SimG X a b pc lv st kc n := by
  obtain ⟨p, l, e, R, s, m, args, below, meth, cod, Q, D, cy, A0, nL⟩ := X
  obtain ⟨hx, hb, hown, hts, hns, hK, hml, hnl, hA, hok, hR⟩ := g
  intro H locs ls hF hS hl
  exact lv_ldc2 hx hb hown (hts _ hw) (fnd_dec hok hd) (kk H locs ls hF hS hl)
theorem G_swIn (g : Good X M) {dflt lo hi : Int} {offs : Array Int} {len : Nat} {x : Int32} {off : Int} {tgt : Nat} (hd : fnd M.2.2.2.2.2 pc = some (.tableswitch dflt lo hi offs, len)) (h1 : ¬ x.toInt < lo) (h2 : ¬ hi < x.toInt) (ho : offs[(x.toInt - lo).toNat]? = some off) (ht : (pc : Int) + off = (tgt : Int)) (kk : SimG X a b tgt lv st kc n) : SimG X a b pc lv (.int x :: st) kc n := by
  obtain ⟨p, l, e, R, s, m, args, below, meth, cod, Q, D, cy, A0, nL⟩ := X
  obtain ⟨hx, hb, hown, hts, hns, hK, hml, hnl, hA, hok, hR⟩ := g
  intro H locs ls hF hS hl
  exact lv_tableIn hx hb (fnd_dec hok hd) h1 h2 ho ht (kk H locs ls hF hS hl)
theorem G_swOut (g : Good X M) {dflt lo hi : Int} {offs : Array Int} {len : Nat} {x : Int32} {tgt : Nat} (hd : fnd M.2.2.2.2.2 pc = some (.tableswitch dflt lo hi offs, len)) (h : x.toInt < lo ∨ hi < x.toInt) (ht : (pc : Int) + dflt = (tgt : Int)) (kk : SimG X a b tgt lv st kc n) : SimG X a b pc lv (.int x :: st) kc n := by
  obtain ⟨p, l, e, R, s, m, args, below, meth, cod, Q, D, cy, A0, nL⟩ := X
  obtain ⟨hx, hb, hown, hts, hns, hK, hml, hnl, hA, hok, hR⟩ := g
  intro H locs ls hF hS hl
  exact lv_tableOut hx hb (fnd_dec hok hd) h ht (kk H locs ls hF hS hl)
theorem G_sld (g : Good X M) {sb L : Nat} {xs : Nat → Int32} (hX : Scr X sb L xs) {i : Int32} (hin : vp_in i L) (hd : fnd M.2.2.2.2.2 pc = some (.iaload, 1)) (kk : SimG X a b (pc + 1) lv (.int (xs i.toNatClampNeg) :: st) kc n) : SimG X a b pc lv (.int i :: .ref sb :: st) kc n := by
  obtain ⟨p, l, e, R, s, m, args, below, meth, cod, Q, D, cy, A0, nL⟩ := X
  obtain ⟨hx, hb, hown, hts, hns, hK, hml, hnl, hA, hok, hR⟩ := g
  intro H locs ls hF hS hl
  exact va_sld hx hb hX.1 hX.2.1 hX.2.2 hS hin (fnd_dec hok hd) (kk H locs ls hF hS hl)
theorem G_slen (g : Good X M) {sb L : Nat} {xs : Nat → Int32} (hX : Scr X sb L xs) (hd : fnd M.2.2.2.2.2 pc = some (.arraylength, 1)) (kk : SimG X a b (pc + 1) lv (.int (Int32.ofNat L) :: st) kc n) : SimG X a b pc lv (.ref sb :: st) kc n := by
  obtain ⟨p, l, e, R, s, m, args, below, meth, cod, Q, D, cy, A0, nL⟩ := X
  obtain ⟨hx, hb, hown, hts, hns, hK, hml, hnl, hA, hok, hR⟩ := g
  intro H locs ls hF hS hl
  exact va_slen hx hb hX.1 hX.2.1 hX.2.2 hS (fnd_dec hok hd) (kk H locs ls hF hS hl)
theorem G_callV (g : Good X M) {i c np idx : Nat} {As : List Value} {post : PO} (hsp : Spec M2 (.ref (a.1.1 i) :: As) a.1 a.2.1 a.2.2.1 a.2.2.2.1 a.2.2.2.2 post) (mw : MWv M2 c np) (lk : LKp M.1.cls idx M2.1) (hroom : fits_room M M2) (hi : i < 600) (hc : c < 10) (hKi : a.1.2.1 i = c) (hn : As.length = np) (hst : (st.map fun v => v.category).sum ≤ 8) (hf : kc + M2.2.2.2.2.1.cells ≤ M.2.2.2.2.1.cells ∧ n + M2.2.2.2.2.1.slots ≤ M.2.2.2.2.1.slots) (hd : fnd M.2.2.2.2.2 pc = some (.invokevirtual idx, 3))
    (kk : ∀ (v : Option Value) (Y' : PS) (I' : FI) (J' : FJ) (A' : FI) (B' : FJ), post v Y' I' J' A' B' → SimG X (Y', I', J', A', B') b (pc + 3) lv (v.toList ++ st) (kc + M2.2.2.2.2.1.cells) (n + M2.2.2.2.2.1.slots)) : SimG X a b pc lv (As.reverse ++ .ref (a.1.1 i) :: st) kc n := by
  obtain ⟨p, l, e, R, s, m, args, below, meth, cod, Q, D, cy, A0, nL⟩ := X
  obtain ⟨hx, hb, hown, hts, hns, hK, hml, hnl, hA, hok, hR⟩ := g
  intro H locs ls hF hS hl
  have hP : va_P D vwCl (pool cy a.1 a.2.1 a.2.2.1 a.2.2.2.1 a.2.2.2.2) H := hF.1.1
  have hD : va_D A0 (pool cy a.1 a.2.1 a.2.2.1 a.2.2.2.1 a.2.2.2.2) := hF.1.2
  obtain ⟨hmp, hins, hsel, T, N, hcl⟩ := mw
  obtain ⟨q, hq⟩ := lst_at (K := a.1.2.1) (i := i) (by omega) hi
  have hg := pool_get (cy := cy) (Y := a.1) (I := a.2.1) (J := a.2.2.1) (A := a.2.2.2.1) (B := a.2.2.2.2) hq
  rw [cel_o hKi hc] at hg
  have hrv := va_recv hK hP hcl hg
  have hpre : PreV s H M2.1.cls (a.1.1 i) (va_Pc (.ref (a.1.1 i) :: As) (PreP D cy a.1 a.2.1 a.2.2.1 a.2.2.2.1 a.2.2.2.2 H.size)) As := ⟨pre_blind, hrv, fun U hU hW => ⟨rfl, by rw [hU], by rw [hU]; exact hP, hD.weaken (fun _ _ _ _ => trivial), va_K.moved hW.alike hK, nst_warm hW hns⟩⟩
  subst hR
  have hG := all_good hmp
  have hnl' : ls.size = nL := hl.1
  have hA1 := va_A_in hD hS hA
  rcases lk with lk | ⟨host, lk⟩
  · refine W_af2 (va_runV (As := As) (rest := st) ⟨hx, hb, hml, hown, hts⟩ (hsp l D cy H.size) (C := M2.1.cls) (n := np) ⟨callB_of np hts hG rfl rfl rfl (hts _ hmp.2.1) (hts _ lk) hmp.2.2 hroom, hts _ hins, hts _ hsel⟩ hpre rfl hn (hnl'.trans hnl) rfl (lv_room hst) (fnd_dec hok hd) hf) hS hA1 (fun v Y' I' J' A' B' H1 locs1 hpo hP1 hD1 hk1 hS1 => kk v Y' I' J' A' B' hpo H1 locs1 ls (Ph2_af (a' := (Y', I', J', A', B')) hF hP1 hD1 hA1 hk1) hS1 hl)
  · refine W_af2 (va_runVN (As := As) (rest := st) ⟨hx, hb, hml, hown, hts⟩ (hsp l D cy H.size) (C := M2.1.cls) (host := host) (n := np) ⟨va_cnB np hts hG rfl rfl rfl (hns _ lk) (hts _ hmp.2.1) hmp.2.2 hroom, hts _ hins, hts _ hsel⟩ hpre rfl hn (hnl'.trans hnl) rfl (lv_room hst) (fnd_dec hok hd) hf) hS hA1 (fun v Y' I' J' A' B' H1 locs1 hpo hP1 hD1 hk1 hS1 => kk v Y' I' J' A' B' hpo H1 locs1 ls (Ph2_af (a' := (Y', I', J', A', B')) hF hP1 hD1 hA1 hk1) hS1 hl)
theorem G_callI (g : Good X M) {bq np idx : Nat} {As : List Value} {post : PO} (hsp : Spec M2 (.ref bq :: As) a.1 a.2.1 a.2.2.1 a.2.2.2.1 a.2.2.2.2 post) (mw : MWp M2 np) (mi : Cond.instanceMethod M2.1 ∈ lw_all) (hnm : M2.1.name = "<init>") (hret : M2.2.2.2.1 = none) (lk : LKp M.1.cls idx M2.1) (hroom : fits_room M M2) (hn : As.length = np) (hst : (st.map fun v => v.category).sum ≤ 8) (hf : kc + M2.2.2.2.2.1.cells ≤ M.2.2.2.2.1.cells ∧ n + M2.2.2.2.2.1.slots ≤ M.2.2.2.2.1.slots) (hd : fnd M.2.2.2.2.2 pc = some (.invokespecial idx, 3))
    (kk : ∀ (v : Option Value) (Y' : PS) (I' : FI) (J' : FJ) (A' : FI) (B' : FJ), post v Y' I' J' A' B' → SimG X (Y', I', J', A', B') b (pc + 3) lv (v.toList ++ st) (kc + M2.2.2.2.2.1.cells) (n + M2.2.2.2.2.1.slots)) : SimG X a b pc lv (As.reverse ++ .ref bq :: st) kc n := by
  obtain ⟨p, l, e, R, s, m, args, below, meth, cod, Q, D, cy, A0, nL⟩ := X
  obtain ⟨hx, hb, hown, hts, hns, hK, hml, hnl, hA, hok, hR⟩ := g
  intro H locs ls hF hS hl
  have hP : va_P D vwCl (pool cy a.1 a.2.1 a.2.2.1 a.2.2.2.1 a.2.2.2.2) H := hF.1.1
  have hD : va_D A0 (pool cy a.1 a.2.1 a.2.2.1 a.2.2.2.1 a.2.2.2.2) := hF.1.2
  have hpre : PreS s H (va_Pc (.ref bq :: As) (PreP D cy a.1 a.2.1 a.2.2.1 a.2.2.2.1 a.2.2.2.2 H.size)) (.ref bq :: As) := ⟨pre_blind, fun U hU hW => ⟨rfl, by rw [hU], by rw [hU]; exact hP, hD.weaken (fun _ _ _ _ => trivial), va_K.moved hW.alike hK, nst_warm hW hns⟩⟩
  subst hR
  have hG := all_good mw
  rw [hret] at hG
  have hnl' : ls.size = nL := hl.1
  have hsp2 := hsp l D cy H.size
  rw [hret] at hsp2
  have hA1 := va_A_in hD hS hA
  rcases lk with lk | ⟨host, lk⟩
  · refine W_af2 (va_runI (As := As) (rest := st) ⟨hx, hb, hml, hown, hts⟩ hsp2 (n := np) ⟨callB_of np hts hG rfl rfl rfl (hts _ mw.2.1) (hts _ lk) mw.2.2 hroom, hnm, hts _ mi⟩ hpre rfl hn (hnl'.trans hnl) rfl (lv_room hst) (fnd_dec hok hd) hf) hS hA1 (fun v Y' I' J' A' B' H1 locs1 hpo hP1 hD1 hk1 hS1 => kk v Y' I' J' A' B' hpo H1 locs1 ls (Ph2_af (a' := (Y', I', J', A', B')) hF hP1 hD1 hA1 hk1) hS1 hl)
  · refine W_af2 (va_runIN (As := As) (rest := st) ⟨hx, hb, hml, hown, hts⟩ hsp2 (host := host) (n := np) ⟨va_cnB np hts hG rfl rfl rfl (hns _ lk) (hts _ mw.2.1) mw.2.2 hroom, hnm, hts _ mi⟩ hpre rfl hn (hnl'.trans hnl) rfl (lv_room hst) (fnd_dec hok hd) hf) hS hA1 (fun v Y' I' J' A' B' H1 locs1 hpo hP1 hD1 hk1 hS1 => kk v Y' I' J' A' B' hpo H1 locs1 ls (Ph2_af (a' := (Y', I', J', A', B')) hF hP1 hD1 hA1 hk1) hS1 hl)
theorem G_newO (g : Good X M) {i c idx : Nat} (hf : frY a.1 i) (hc : c < 10) (nw : NWp M.1.cls idx c) (h1 : kc + 1 ≤ M.2.2.2.2.1.cells) (h2 : n + (fkd c).length ≤ M.2.2.2.2.1.slots) (hd : fnd M.2.2.2.2.2 pc = some (.new idx, 3)) (kk : ∀ q, SimG X (newY a.1 i q c, va_up a.2.1 i (fun _ => 0), va_up a.2.2.1 i (fun _ => 0), a.2.2.2.1, a.2.2.2.2) b (pc + 3) lv (.ref q :: st) (kc + 1) (n + (fkd c).length)) : SimG X a b pc lv st kc n := by
  obtain ⟨p, l, e, R, s, m, args, below, meth, cod, Q, D, cy, A0, nL⟩ := X
  obtain ⟨hx, hb, hown, hts, hns, hK, hml, hnl, hA, hok, hR⟩ := g
  intro H locs ls hF hS hl
  obtain ⟨C, T, N, ty, hcl, hws, hty, w1, w2, w3, rfl, hdf⟩ := nw
  subst hR
  obtain ⟨⟨p1, d1⟩, ⟨p2, d2⟩, di⟩ := hF
  refine va_new hx hb hts hws ty hty hown (hts _ w1) (hts _ w2) (hts _ w3) hK (p2.app p1) (d2.app d1 (fun i j x y hx hy e => di j i y x hy hx e.symm)) hS hA hcl hdf h1 h2 (fnd_dec hok hd) (fun q H1 hP1 hD1 hS1 => ?_)
  rw [List.append_assoc] at hP1 hD1
  have l2 : ∀ (k : Nat) (x : Nat × va_E), (plH cy b)[k]? = some x → (plH cy b ++ (plH cy a ++ [(q, .inr (c, dfl c))]))[k]? = some x := fun k x h => by rw [List.getElem?_append_left (List.getElem?_eq_some_iff.mp h).1]; exact h
  have l1 : ∀ (k : Nat) (x : Nat × va_E), (plH cy a ++ [(q, .inr (c, dfl c))])[k]? = some x → (plH cy b ++ (plH cy a ++ [(q, .inr (c, dfl c))]))[(plH cy b).length + k]? = some x := fun k x h => by rw [List.getElem?_append_right (Nat.le_add_right _ _), Nat.add_sub_cancel_left]; exact h
  have hP2 : va_P D vwCl (plH cy a ++ [(q, .inr (c, dfl c))]) H1 := fun k x h => hP1 _ x (l1 k x h)
  have hD2 : va_D A0 (plH cy a ++ [(q, .inr (c, dfl c))]) := ⟨fun i j x y hx hy e => by have := hD1.1 _ _ x y (l1 i x hx) (l1 j y hy) e; omega, fun k x h => hD1.2 _ x (l1 k x h)⟩
  obtain ⟨q1, q2⟩ := pool_new (Y := a.1) (i := i) (c := c) (I' := va_up a.2.1 i (fun _ => 0)) (J' := va_up a.2.2.1 i (fun _ => 0)) (A' := a.2.2.2.1) (B' := a.2.2.2.2) (fun j hj hKj => cel_new hf hj hKj (va_up_ne _ _ hj) (va_up_ne _ _ hj) rfl rfl) (by
    rw [cel_o (show (newY a.1 i q c).2.1 i = c from va_up_self _ _ _) hc]
    exact congrArg (fun z => Sum.inr (c, z)) (dfl_eq (va_up_self _ _ _) (va_up_self _ _ _) (va_up_self _ _ _))) hP2 hD2
  refine kk q H1 locs ls ⟨⟨q1, q2⟩, ⟨fun k x h => hP1 _ x (l2 k x h), d2⟩, fun i' j' x y hx' hy' e => ?_⟩ hS1 hl
  obtain ⟨k2, x2, h2', e2⟩ := pool_na (I := a.2.1) (J := a.2.2.1) (A := a.2.2.2.1) (B := a.2.2.2.2) (e := .inr (c, dfl c)) hx'
  have h3 := hD1.1 _ _ x2 y (l1 k2 x2 h2') (l2 j' y hy') (e2.trans e)
  have h4 := (List.getElem?_eq_some_iff.mp hy').1
  omega
end GR

